import java.lang.reflect.Constructor;
import java.lang.reflect.Member;
import java.lang.reflect.Method;
import java.lang.reflect.Modifier;
import java.util.Arrays;
import java.util.Set;
import java.util.TreeSet;
import java.util.stream.Collectors;

/** The public face is the document's, with its exceptions in their order, and nothing else. */
public final class LacehallFace {
    private static final String FACE = """
        int letter(char) throws IllegalArgumentException, IllegalStateException
        int stitch() throws UnsupportedOperationException, IllegalStateException
        int crossings(int) throws IndexOutOfBoundsException
        int goesTo(int, int) throws IndexOutOfBoundsException, IllegalArgumentException
        boolean areAlike(int, int) throws IndexOutOfBoundsException
        int hang(int) throws IndexOutOfBoundsException, UnsupportedOperationException, IllegalStateException
        int end(int) throws IndexOutOfBoundsException, UnsupportedOperationException
        int threadIn(int, boolean) throws IndexOutOfBoundsException
        int setColour(int, int) throws IndexOutOfBoundsException, IllegalArgumentException
        int wind(int, int) throws IndexOutOfBoundsException, IllegalArgumentException
        int used(int) throws IndexOutOfBoundsException
        int worn(int) throws IndexOutOfBoundsException
        int endOf(int, boolean) throws IndexOutOfBoundsException, NoSuchElementException
        int over(int, int) throws IndexOutOfBoundsException, IllegalArgumentException
        int pin(int, int, int) throws IndexOutOfBoundsException, IllegalArgumentException, \
        UnsupportedOperationException, IllegalStateException
        boolean canWork(int) throws IndexOutOfBoundsException
        int work(int) throws IndexOutOfBoundsException, UnsupportedOperationException
        boolean isWorked(int) throws IndexOutOfBoundsException
        int undo(int) throws IndexOutOfBoundsException, UnsupportedOperationException
        int sew(int, int) throws IndexOutOfBoundsException, UnsupportedOperationException
        long orders()
        int orderAt(int) throws IndexOutOfBoundsException
        int colourAt(int, int) throws IndexOutOfBoundsException, IllegalArgumentException, \
        UnsupportedOperationException
        int closesBehind(int, int, int) throws IllegalArgumentException, IndexOutOfBoundsException
        int minutes(int) throws IllegalArgumentException
        long allCrossings()
        float workedShare() throws ArithmeticException
        double meanUsed() throws ArithmeticException
        boolean isSound()
        """;

    public static void main(String[] arguments) {
        Set<String> due = new TreeSet<>(Arrays.asList(FACE.split("\n")));
        Set<String> got = new TreeSet<>();
        for (Method method : Lacehall.class.getDeclaredMethods()) {
            if (isOpen(method)) {
                got.add(told(method));
            }
        }
        Check.is("the methods of the face", got, due);
        Check.is("the fields of the face",
                Arrays.stream(Lacehall.class.getDeclaredFields()).filter(LacehallFace::isOpen).count(), 0L);
        Constructor<?>[] constructors = Lacehall.class.getDeclaredConstructors();
        Check.is("the number of constructors", constructors.length, 1);
        Check.is("the constructor", constructors[0].toString(), "public Lacehall()");
        Check.is("the class", Modifier.toString(Lacehall.class.getModifiers()), "public final");
        Check.is("at most 12 classes", Lacehall.class.getDeclaredClasses().length + 1 <= 12, true);
        for (Class<?> inside : Lacehall.class.getDeclaredClasses()) {
            int modifiers = inside.getModifiers();
            Check.is(inside + " is static and not open",
                    Modifier.isStatic(modifiers) && !Modifier.isPublic(modifiers)
                    && !Modifier.isProtected(modifiers), true);
        }
        Check.finish("LacehallFace");
    }

    private static boolean isOpen(Member member) {
        return !Modifier.isPrivate(member.getModifiers()) && !member.isSynthetic();
    }

    private static String names(Class<?>[] classes) {
        return Arrays.stream(classes).map(Class::getSimpleName).collect(Collectors.joining(", "));
    }

    private static String told(Method method) {
        String thrown = names(method.getExceptionTypes());
        return method.getReturnType() + " " + method.getName() + "(" + names(method.getParameterTypes()) + ")"
                + (thrown.isEmpty() ? "" : " throws " + thrown);
    }
}
