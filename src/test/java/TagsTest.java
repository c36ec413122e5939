/** Promises 24 to 27: tags. */
public final class TagsTest {
    private static final Kit kit = new Kit();

    public static void main(String[] args) {
        barring();
        tagging();
        spreadingByFamilies();
        spreadingByAlike();
        kit.finish();
    }

    private static void barring() {
        Discoverhall x = new Discoverhall();
        kit.due("24: first pair", 1, () -> x.bar(0, 5));
        kit.due("24: already", Kit.UNSUPPORTED, () -> x.bar(0, 5));
        kit.due("24: already, the other way", Kit.UNSUPPORTED, () -> x.bar(5, 0));
        int[][] wrong = {{-1, 0}, {6, 0}, {0, -1}, {0, 6}, {3, 3}, {6, 6}, {32, 0}, {Integer.MIN_VALUE, 0}};
        for (int[] w : wrong) {
            kit.due("24: bar " + w[0] + " " + w[1], Kit.ARGUMENT, () -> x.bar(w[0], w[1]));
        }
        for (int i = 1; i < 6; i++) {
            int other = i == 5 ? 2 : i;
            int tag = i == 5 ? 1 : 0;
            int pairs = i + 1;
            kit.due("24: pair " + pairs, pairs, () -> x.bar(tag, other));
        }
        for (int other = 1; other < 6; other++) {
            int tag = other;
            kit.due("24: all pairs stay, 0 and " + tag, Kit.UNSUPPORTED, () -> x.bar(tag, 0));
        }
        kit.due("24: full, already", Kit.UNSUPPORTED, () -> x.bar(2, 1));
        kit.due("24: full, the same", Kit.ARGUMENT, () -> x.bar(4, 4));
        kit.due("24: full", Kit.STATE, () -> x.bar(3, 4));
    }

    private static void tagging() {
        Discoverhall x = Kit.hallWith("a", "b", "gone");
        x.drop(2);
        kit.due("26: none", 0, () -> x.tags(0));
        kit.due("25: gets one", false, () -> x.tag(0, 5, true));
        kit.due("25: had it", true, () -> x.tag(0, 5, true));
        kit.due("25: another one", false, () -> x.tag(0, 0, true));
        kit.due("26: two", 33, () -> x.tags(0));
        kit.due("26: another paper", 0, () -> x.tags(1));
        x.bar(5, 0);
        kit.due("26: keeps both", 33, () -> x.tags(0));
        kit.due("25: has it already", true, () -> x.tag(0, 0, true));
        x.bar(1, 5);
        kit.due("25: barred", Kit.UNSUPPORTED, () -> x.tag(0, 1, true));
        kit.due("25: taking a barred one", false, () -> x.tag(0, 1, false));
        kit.due("25: takes it", true, () -> x.tag(0, 5, false));
        kit.due("25: barred no more", false, () -> x.tag(0, 1, true));
        kit.due("25: barred by the one that stayed", Kit.UNSUPPORTED, () -> x.tag(0, 5, true));
        kit.due("26: after all", 3, () -> x.tags(0));
        for (int tag : new int[] {-1, 6, 32, Integer.MIN_VALUE}) {
            kit.due("25: tag " + tag, Kit.ARGUMENT, () -> x.tag(0, tag, true));
            kit.due("25: tag " + tag, Kit.ARGUMENT, () -> x.tag(0, tag, false));
        }
        kit.dueIfMissing("25: tag", p -> x.tag(p, 6, true), -1, 2, 3);
        kit.dueIfMissing("26: tags", p -> x.tags(p), -1, 2, 3);
    }

    private static void spreadingByFamilies() {
        Discoverhall x = Kit.hallWith("a", "a");
        Kit.addPart(x, "b", 0);
        Kit.addPart(x, "c", 2);
        Kit.addPart(x, "d", 0);
        Kit.addPart(x, "e", 1);
        x.tag(3, 2, true);
        x.tag(4, 1, true);
        x.bar(1, 2);
        kit.due("27: by families", 201, () -> x.spread(2, 'f'));
        kit.due("26: the head", 4, () -> x.tags(0));
        kit.due("26: left out", 2, () -> x.tags(4));
        kit.due("26: another family", 0, () -> x.tags(1));
        kit.due("27: again", 1, () -> x.spread(2, 'f'));
        kit.due("27: nobody has it", 0, () -> x.spread(5, 'f'));
        kit.due("27: the barred one", 3, () -> x.spread(1, 'f'));
        for (char way : new char[] {'F', 'n', ' ', 0}) {
            kit.due("27: way " + (int) way, Kit.ARGUMENT, () -> x.spread(2, way));
        }
        for (int tag : new int[] {-1, 6, Integer.MAX_VALUE}) {
            kit.due("27: tag " + tag, Kit.ARGUMENT, () -> x.spread(tag, 'f'));
        }
    }

    private static void spreadingByAlike() {
        Discoverhall x = Kit.hallWith("a b", "a", "a b", "a  b", "", "", "a b");
        x.tag(2, 0, true);
        x.tag(3, 3, true);
        x.tag(4, 0, true);
        x.bar(0, 3);
        x.bad(6, true);
        kit.due("27: by alike", 101, () -> x.spread(0, 'a'));
        kit.due("26: alike", 1, () -> x.tags(0));
        kit.due("26: not alike", 0, () -> x.tags(1));
        kit.due("26: without words", 0, () -> x.tags(5));
        kit.due("26: bad", 0, () -> x.tags(6));
        Discoverhall both = Kit.hallWith("a", "a");
        both.tag(0, 0, true);
        both.tag(0, 1, true);
        both.bar(0, 1);
        kit.due("27: one that has both has it already", 100, () -> both.spread(0, 'a'));
    }
}
