import java.lang.reflect.Array;
import java.lang.reflect.Field;

/**
 * Promise 50, where it answers false. No run of calls makes numbers of pages alike or as many as were not given, so
 * this test alone reaches for fields inside the class: it sets a page's number, or how many were given.
 */
public final class SoundTest {
    private static final Kit kit = new Kit();

    public static void main(String[] args) throws ReflectiveOperationException {
        Discoverhall x = Kit.hallWith("a", "b", "c", "d");
        for (int paper = 0; paper < 3; paper++) {
            x.tag(paper, 0, true);
        }
        x.give(0);
        kit.due("50: three pages", true, () -> x.isSound());
        dueFalseByNumber(x, 1, 1);
        dueFalseByNumber(x, 2, 1);
        dueFalseByNumber(x, 2, 2);
        dueFalseByNumber(x, 0, 3);
        dueFalseByNumber(x, 2, 0);
        dueFalseByNumber(x, 3, 4);
        dueFalseByCount(x, 2);
        dueFalseByCount(x, 4);
        kit.finish();
    }

    private static void dueFalseByNumber(Discoverhall x, int paper, int wrong) throws ReflectiveOperationException {
        Object row = Array.get(inside(inside(x, "shelf"), "rows"), paper);
        int right = (int) inside(row, "number");
        set(row, "number", wrong);
        kit.due("50: paper " + paper + " has number " + wrong, false, () -> x.isSound());
        set(row, "number", right);
        kit.due("50: paper " + paper + " has its own number again", true, () -> x.isSound());
    }

    private static void dueFalseByCount(Discoverhall x, int wrong) throws ReflectiveOperationException {
        Object pages = inside(x, "pages");
        set(pages, "given", wrong);
        kit.due("50: " + wrong + " were given", false, () -> x.isSound());
        set(pages, "given", 3);
        kit.due("50: 3 were given", true, () -> x.isSound());
    }

    private static Object inside(Object owner, String name) throws ReflectiveOperationException {
        return open(owner, name).get(owner);
    }

    private static void set(Object owner, String name, int value) throws ReflectiveOperationException {
        open(owner, name).setInt(owner, value);
    }

    private static Field open(Object owner, String name) throws NoSuchFieldException {
        Field field = owner.getClass().getDeclaredField(name);
        field.setAccessible(true);
        return field;
    }
}
