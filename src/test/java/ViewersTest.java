/** Promises 39 to 42: viewers. */
public final class ViewersTest {
    private static final Kit kit = new Kit();

    public static void main(String[] args) {
        adding();
        levelsAndDays();
        seeing();
        kit.finish();
    }

    private static void adding() {
        Discoverhall x = new Discoverhall();
        int[][] wrong = {{-1, 0}, {3, 0}, {0, -1}, {0, 10000}, {Integer.MAX_VALUE, 0}};
        for (int[] w : wrong) {
            kit.due("39: viewer " + w[0] + " " + w[1], Kit.ARGUMENT, () -> x.viewer(w[0], w[1]));
        }
        kit.due("39: first", 0, () -> x.viewer(0, 0));
        kit.due("39: second", 1, () -> x.viewer(2, 9999));
        kit.due("39: third", 2, () -> x.viewer(1, 5));
        kit.due("39: fourth", 3, () -> x.viewer(1, 5));
        kit.due("39: full", Kit.STATE, () -> x.viewer(1, 5));
        kit.due("39: full, out of range", Kit.ARGUMENT, () -> x.viewer(3, 5));
    }

    private static void levelsAndDays() {
        Discoverhall x = Kit.hallWith("a", "gone");
        x.drop(1);
        kit.due("40: at first", 0, () -> x.level(0, 2));
        kit.due("40: before", 2, () -> x.level(0, 0));
        for (int level : new int[] {-1, 3, Integer.MIN_VALUE}) {
            kit.due("40: level " + level, Kit.ARGUMENT, () -> x.level(0, level));
        }
        kit.due("40: nothing changed", 0, () -> x.level(0, 1));
        kit.dueIfMissing("40: level", p -> x.level(p, 3), -1, 1, 2);
        kit.due("41: at first", 0, () -> x.day(9999));
        kit.due("41: before", 9999, () -> x.day(3));
        for (int day : new int[] {-1, 10000, Integer.MAX_VALUE}) {
            kit.due("41: day " + day, Kit.ARGUMENT, () -> x.day(day));
        }
        kit.due("41: back", 3, () -> x.day(0));
    }

    private static void seeing() {
        Discoverhall x = Kit.hallWith("a", "b", "c", "d", "gone");
        x.drop(4);
        x.viewer(1, 3);
        x.viewer(0, 4);
        x.tag(0, 0, true);
        x.tag(1, 0, true);
        x.tag(2, 0, true);
        x.rule(1, 'p');
        kit.due("42: not given", false, () -> x.sees(0, 0));
        x.give(0);
        kit.due("42: given", true, () -> x.sees(0, 0));
        kit.due("42: a slip", false, () -> x.sees(0, 1));
        kit.due("42: without a number", false, () -> x.sees(0, 3));
        x.level(0, 1);
        kit.due("42: the viewer's level", true, () -> x.sees(0, 0));
        kit.due("42: a greater level", false, () -> x.sees(1, 0));
        x.level(0, 2);
        kit.due("42: greater than both", false, () -> x.sees(0, 0));
        x.level(0, 0);
        x.day(3);
        kit.due("42: the last day", true, () -> x.sees(0, 0));
        x.day(4);
        kit.due("42: a day later", false, () -> x.sees(0, 0));
        kit.due("42: another viewer", true, () -> x.sees(1, 0));
        x.day(3);
        x.claw(2);
        kit.due("42: locked", false, () -> x.sees(0, 2));
        x.bad(0, true);
        kit.due("42: bad, but no slip", true, () -> x.sees(0, 0));
        kit.dueIfMissing("42: sees", p -> x.sees(0, p), -1, 4, 5, Integer.MIN_VALUE);
        kit.dueIfMissing("42: sees", v -> x.sees(v, 0), -1, 2, 4, Integer.MAX_VALUE);
    }
}
