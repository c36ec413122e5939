/** Promises 1 to 10: a new object, and papers. */
public final class PapersTest {
    private static final Kit kit = new Kit();

    public static void main(String[] args) {
        newObject();
        typing();
        addingPapers();
        paperExceptionsInOrder();
        dropping();
        badPapers();
        countingWords();
        families();
        holds();
        kit.finish();
    }

    private static void newObject() {
        Discoverhall x = new Discoverhall();
        kit.due("1: wipe", 0, () -> x.wipe());
        kit.due("1: words", Kit.INDEX, () -> x.words(0));
        kit.due("1: hits", Kit.INDEX, () -> x.hits(0, false));
        Discoverhall withOne = Kit.hallWith("a");
        kit.due("1: sees", Kit.INDEX, () -> withOne.sees(0, 0));
        kit.due("1: groups", 0, () -> x.groups(1));
        kit.due("1: day", 0, () -> x.day(0));
        kit.due("1: give", 0, () -> x.give(0));
        kit.due("1: spread", 0, () -> x.spread(0, 'f'));
        kit.due("1: hold", 0, () -> x.hold(0, 0, 9999));
        kit.due("1: checksum", 7L, () -> x.checksum());
        kit.due("1: isSound", true, () -> x.isSound());
    }

    private static void typing() {
        Discoverhall x = new Discoverhall();
        kit.due("2: a", 1, () -> x.type('a'));
        kit.due("2: z", 2, () -> x.type('z'));
        kit.due("2: blank", 3, () -> x.type(' '));
        for (char sign : new char[] {'A', 'Z', '0', '`', '{', '\t', '\n', 0, '-', (char) 233, (char) 65535}) {
            kit.due("2: sign " + (int) sign, Kit.ARGUMENT, () -> x.type(sign));
        }
        kit.due("3: wipe", 3, () -> x.wipe());
        kit.due("3: wipe again", 0, () -> x.wipe());
        kit.due("2: a after wiping", 1, () -> x.type('a'));
        Kit.typed(x, "b".repeat(58));
        kit.due("2: the 60th", 60, () -> x.type('c'));
        kit.due("2: the 61st", Kit.STATE, () -> x.type('c'));
        kit.due("2: the 61st, not a sign", Kit.ARGUMENT, () -> x.type('C'));
        kit.due("3: wipe all", 60, () -> x.wipe());
    }

    private static void addingPapers() {
        Discoverhall x = new Discoverhall();
        Kit.typed(x, "one two");
        kit.due("4: edges", 0, () -> x.paper(5, 9999, 9, 1023, -1));
        kit.due("4: takes the text", 2, () -> x.words(0));
        kit.due("4: wipes", 0, () -> x.wipe());
        kit.due("4: without text", 1, () -> x.paper(0, 0, 0, 0, -1));
        kit.due("4: no words", 0, () -> x.words(1));
        for (int i = 2; i < 40; i++) {
            int number = i;
            kit.due("4: number", number, () -> x.paper(0, 0, 0, 0, -1));
        }
        kit.due("4: the 41st", Kit.STATE, () -> x.paper(0, 0, 0, 0, -1));
        kit.due("4: a drop", 39, () -> x.drop(7));
        kit.due("4: the 41st, also if one was dropped", Kit.STATE, () -> x.paper(0, 0, 0, 0, -1));
        Kit.typed(x, "kept");
        kit.due("4: refused", Kit.STATE, () -> x.paper(0, 0, 0, 0, -1));
        kit.due("4: a refused one does not wipe", 4, () -> x.wipe());
    }

    private static void paperExceptionsInOrder() {
        Discoverhall x = Kit.hallWith("a", "gone");
        x.drop(1);
        for (int whole : new int[] {-2, 1, 2, 40, Integer.MAX_VALUE, Integer.MIN_VALUE}) {
            kit.due("4: part of " + whole, Kit.INDEX, () -> x.paper(-1, 0, 0, 0, whole));
        }
        int[][] wrong = {{-1, 0, 0, 0}, {6, 0, 0, 0}, {0, -1, 0, 0}, {0, 10000, 0, 0}, {0, 0, -1, 0}, {0, 0, 10, 0},
            {0, 0, 0, -1}, {0, 0, 0, 1024}};
        for (int[] w : wrong) {
            kit.due("4: out of range", Kit.ARGUMENT, () -> x.paper(w[0], w[1], w[2], w[3], 0));
        }
        kit.due("4: second of a chain", 2, () -> x.paper(0, 0, 0, 0, 0));
        kit.due("4: third of a chain", 3, () -> x.paper(0, 0, 0, 0, 2));
        kit.due("4: fourth of a chain", 4, () -> x.paper(0, 0, 0, 0, 3));
        kit.due("4: fifth of a chain", Kit.UNSUPPORTED, () -> x.paper(0, 0, 0, 0, 4));
        kit.due("4: fifth, out of range", Kit.ARGUMENT, () -> x.paper(6, 0, 0, 0, 4));
        kit.due("4: another fourth", 5, () -> x.paper(0, 0, 0, 0, 3));
        for (int i = 6; i < 40; i++) {
            x.paper(0, 0, 0, 0, -1);
        }
        kit.due("4: full, fifth", Kit.UNSUPPORTED, () -> x.paper(0, 0, 0, 0, 4));
        kit.due("4: full, out of range", Kit.ARGUMENT, () -> x.paper(0, 0, 0, 1024, 0));
        kit.due("4: full, missing", Kit.INDEX, () -> x.paper(0, 0, 0, 0, 40));
        kit.due("4: full", Kit.STATE, () -> x.paper(0, 0, 0, 0, 3));
    }

    private static void dropping() {
        Discoverhall x = Kit.hallWith("a", "b", "c");
        Kit.addPart(x, "d", 0);
        x.answer(2, 1);
        kit.due("5: has a part", Kit.UNSUPPORTED, () -> x.drop(0));
        kit.due("5: is answered", Kit.UNSUPPORTED, () -> x.drop(1));
        kit.due("5: answers", 3, () -> x.drop(2));
        kit.due("5: answered no more", 2, () -> x.drop(1));
        kit.due("5: a part", 1, () -> x.drop(3));
        kit.due("5: has no part any more", 0, () -> x.drop(0));
        kit.dueIfMissing("5: drop", p -> x.drop(p), 0, 1, 4, -1, 40, Integer.MAX_VALUE, Integer.MIN_VALUE);
        kit.due("5: numbers are not used again", 4, () -> Kit.add(x, "e"));
        x.tag(4, 0, true);
        x.give(0);
        kit.due("5: given", Kit.UNSUPPORTED, () -> x.drop(4));
    }

    private static void badPapers() {
        Discoverhall x = Kit.hallWith("a b", "a b", "gone");
        x.drop(2);
        kit.due("6: was good", false, () -> x.bad(0, true));
        kit.due("6: was bad", true, () -> x.bad(0, true));
        kit.due("6: words", 0, () -> x.words(0));
        kit.due("6: alike", false, () -> x.areAlike(0, 1));
        kit.due("6: alike to itself", true, () -> x.areAlike(0, 0));
        kit.due("6: good again", true, () -> x.bad(0, false));
        kit.due("6: stays good", false, () -> x.bad(0, false));
        kit.due("6: words again", 2, () -> x.words(0));
        kit.due("6: alike again", true, () -> x.areAlike(0, 1));
        kit.dueIfMissing("6: bad", p -> x.bad(p, true), -1, 2, 3, 40, Integer.MIN_VALUE);
    }

    private static void countingWords() {
        Discoverhall x = Kit.hallWith("", "   ", " a", "a ", "a  b", "abc def abc", "a ".repeat(30), "z".repeat(60));
        int[] counts = {0, 0, 1, 1, 2, 3, 30, 1};
        for (int i = 0; i < counts.length; i++) {
            int paper = i;
            kit.due("7: words of " + paper, counts[paper], () -> x.words(paper));
        }
        kit.dueIfMissing("7: words", p -> x.words(p), -1, 8, 39, 40, Integer.MAX_VALUE);
    }

    private static void families() {
        Discoverhall x = Kit.hallWith("a", "b");
        Kit.addPart(x, "c", 0);
        Kit.addPart(x, "d", 2);
        Kit.addPart(x, "e", 3);
        Kit.addPart(x, "f", 0);
        for (int paper : new int[] {0, 2, 3, 4, 5}) {
            kit.due("8: family of " + paper, 5, () -> x.family(paper));
            kit.due("9: head of " + paper, 0, () -> x.head(paper));
        }
        kit.due("8: alone", 1, () -> x.family(1));
        kit.due("9: alone", 1, () -> x.head(1));
        x.drop(4);
        kit.due("8: one less", 4, () -> x.family(5));
        kit.dueIfMissing("8: family", p -> x.family(p), -1, 4, 6);
        kit.dueIfMissing("9: head", p -> x.head(p), -1, 4, 6);
    }

    private static void holds() {
        Discoverhall x = new Discoverhall();
        x.paper(0, 0, 0, 0, -1);
        x.paper(0, 5, 0, 0, -1);
        x.paper(0, 9999, 0, 0, -1);
        x.paper(5, 5, 0, 0, -1);
        kit.due("10: none of those days", 0, () -> x.hold(0, 1, 4));
        kit.due("10: one day", 1, () -> x.hold(0, 5, 5));
        kit.due("10: all days", 3, () -> x.hold(0, 0, 9999));
        kit.due("10: another custodian too", 4, () -> x.hold(5, 5, 6));
        kit.due("10: in place of other days", 2, () -> x.hold(0, 0, 4));
        kit.due("5: held", Kit.UNSUPPORTED, () -> x.drop(0));
        kit.due("5: held no more", 3, () -> x.drop(1));
        kit.due("10: ended", 1, () -> x.hold(0, -1, -1));
        kit.due("10: ended again", 1, () -> x.hold(0, -1, -1));
        kit.due("5: not held", 2, () -> x.drop(0));
        int[][] wrong = {{-1, 0, 0}, {6, 0, 0}, {-1, -1, -1}, {0, -1, 0}, {0, 0, -1}, {0, 5, 4}, {0, 0, 10000},
            {0, 10000, 10000}, {0, -2, -2}, {0, -1, -2}, {0, 9999, 0}, {Integer.MIN_VALUE, 0, 0}};
        for (int[] w : wrong) {
            kit.due("10: hold " + w[0] + " " + w[1] + " " + w[2], Kit.ARGUMENT, () -> x.hold(w[0], w[1], w[2]));
        }
        kit.due("10: changed by none of these", 2, () -> x.hold(0, 9999, 9999));
    }
}
