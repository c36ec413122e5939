import java.lang.reflect.Constructor;
import java.lang.reflect.Field;
import java.lang.reflect.Method;
import java.lang.reflect.Modifier;
import java.util.HashSet;
import java.util.Set;
import java.util.TreeSet;

/** The public face: the class has every call of the document and shows nothing else. */
public final class FaceTest {
    private static final String[] CALLS = {
        "int type(char) throws IllegalArgumentException, IllegalStateException",
        "int wipe()",
        "int paper(int,int,int,int,int) throws IndexOutOfBoundsException, IllegalArgumentException, UnsupportedOperationException, IllegalStateException",
        "int drop(int) throws IndexOutOfBoundsException, UnsupportedOperationException",
        "boolean bad(int,boolean) throws IndexOutOfBoundsException",
        "int words(int) throws IndexOutOfBoundsException",
        "int family(int) throws IndexOutOfBoundsException",
        "int head(int) throws IndexOutOfBoundsException",
        "int hold(int,int,int) throws IllegalArgumentException",
        "boolean areAlike(int,int) throws IndexOutOfBoundsException",
        "int first(int) throws IndexOutOfBoundsException",
        "int custodians(int) throws IndexOutOfBoundsException",
        "boolean areNear(int,int,int) throws IndexOutOfBoundsException, IllegalArgumentException",
        "int groups(int) throws IllegalArgumentException",
        "int answer(int,int) throws IndexOutOfBoundsException, IllegalArgumentException, UnsupportedOperationException",
        "boolean includes(int,int) throws IndexOutOfBoundsException",
        "int lost(int) throws IndexOutOfBoundsException",
        "int term(char,int) throws IllegalArgumentException, UnsupportedOperationException, IllegalStateException",
        "int joined(char,int,int) throws IndexOutOfBoundsException, IllegalArgumentException, IllegalStateException",
        "int revise(int,int) throws IndexOutOfBoundsException, IllegalArgumentException, UnsupportedOperationException",
        "int hits(int,boolean) throws IndexOutOfBoundsException",
        "boolean isHit(int,int) throws IndexOutOfBoundsException",
        "int bar(int,int) throws IllegalArgumentException, UnsupportedOperationException, IllegalStateException",
        "boolean tag(int,int,boolean) throws IndexOutOfBoundsException, IllegalArgumentException, UnsupportedOperationException",
        "int tags(int) throws IndexOutOfBoundsException",
        "int spread(int,char) throws IllegalArgumentException",
        "char person(int,char) throws IllegalArgumentException",
        "char rule(int,char) throws IndexOutOfBoundsException, IllegalArgumentException",
        "boolean isPrivileged(int) throws IndexOutOfBoundsException",
        "boolean isKept(int) throws IndexOutOfBoundsException",
        "int give(int) throws IllegalArgumentException",
        "int number(int) throws IndexOutOfBoundsException, NoSuchElementException",
        "boolean isSlip(int) throws IndexOutOfBoundsException, NoSuchElementException",
        "boolean replace(int) throws IndexOutOfBoundsException, UnsupportedOperationException",
        "int claw(int) throws IndexOutOfBoundsException, UnsupportedOperationException",
        "int black(int) throws IndexOutOfBoundsException, UnsupportedOperationException",
        "char shown(int,int) throws IndexOutOfBoundsException, NoSuchElementException",
        "int viewer(int,int) throws IllegalArgumentException, IllegalStateException",
        "int level(int,int) throws IndexOutOfBoundsException, IllegalArgumentException",
        "int day(int) throws IllegalArgumentException",
        "boolean sees(int,int) throws IndexOutOfBoundsException",
        "int teach(int,boolean) throws IndexOutOfBoundsException, UnsupportedOperationException",
        "int score(int) throws IndexOutOfBoundsException",
        "int next() throws NoSuchElementException",
        "int sample(int,int,int,int) throws IndexOutOfBoundsException, IllegalArgumentException, NoSuchElementException",
        "long checksum()",
        "float givenShare() throws NoSuchElementException",
        "double meanWords() throws NoSuchElementException",
        "boolean isSound()"};

    private static final Kit kit = new Kit();

    public static void main(String[] args) {
        Class<?> face = Discoverhall.class;
        kit.due("public and final", true, () -> {
            int is = face.getModifiers();
            return Modifier.isPublic(is) && Modifier.isFinal(is);
        });
        kit.due("the calls", new TreeSet<>(Set.of(CALLS)), () -> publicCalls(face));
        kit.due("one constructor, without arguments", "[0]", () -> constructors(face));
        for (Method method : face.getDeclaredMethods()) {
            int is = method.getModifiers();
            kit.due(method.getName() + " is public or private", true,
                () -> Modifier.isPublic(is) != Modifier.isPrivate(is));
        }
        for (Field field : face.getDeclaredFields()) {
            kit.due(field.getName() + " is private", true, () -> Modifier.isPrivate(field.getModifiers()));
            dueFinal(field);
        }
        classesInside(face);
        privateNames(face);
        kit.finish();
    }

    private static Set<String> publicCalls(Class<?> face) {
        Set<String> calls = new TreeSet<>();
        for (Method method : face.getDeclaredMethods()) {
            if (Modifier.isPublic(method.getModifiers())) {
                calls.add(textOf(method));
            }
        }
        return calls;
    }

    private static String textOf(Method method) {
        StringBuilder text = new StringBuilder(method.getReturnType() + " " + method.getName() + "(");
        for (Class<?> type : method.getParameterTypes()) {
            text.append(text.charAt(text.length() - 1) == '(' ? "" : ",").append(type);
        }
        text.append(")");
        for (Class<?> type : method.getExceptionTypes()) {
            text.append(text.charAt(text.length() - 1) == ')' ? " throws " : ", ").append(type.getSimpleName());
        }
        return text.toString();
    }

    private static String constructors(Class<?> face) {
        Set<Integer> counts = new TreeSet<>();
        for (Constructor<?> constructor : face.getDeclaredConstructors()) {
            counts.add(Modifier.isPublic(constructor.getModifiers()) ? constructor.getParameterCount() : -1);
        }
        return counts.toString();
    }

    /** LANGUAGE.md, rules 1 and 5: no class inside is shown, and no static state changes. */
    private static void classesInside(Class<?> face) {
        for (Class<?> inside : face.getDeclaredClasses()) {
            int is = inside.getModifiers();
            kit.due(inside.getName() + " is not shown", false,
                () -> Modifier.isPublic(is) || Modifier.isProtected(is));
            for (Field field : inside.getDeclaredFields()) {
                dueFinal(field);
            }
        }
    }

    private static void dueFinal(Field field) {
        int is = field.getModifiers();
        kit.due(field.getName() + " is final if it is static", true,
            () -> !Modifier.isStatic(is) || Modifier.isFinal(is));
    }

    /** LANGUAGE.md, rule 1: no private method bears the name of a public one. */
    private static void privateNames(Class<?> face) {
        Set<String> names = new HashSet<>();
        for (Method method : face.getDeclaredMethods()) {
            if (Modifier.isPublic(method.getModifiers())) {
                names.add(method.getName());
            }
        }
        for (Method method : face.getDeclaredMethods()) {
            kit.due(method.getName() + " is not the name of a public one too", false,
                () -> Modifier.isPrivate(method.getModifiers()) && names.contains(method.getName()));
        }
    }
}
