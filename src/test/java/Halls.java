/** Halls in which much has happened, for telling what a refused call leaves as it was. */
final class Halls {
    /** In both halls: a paper that was dropped, and one that is still to be added where there is room. */
    static final int DROPPED = 5;
    static final int NEXT = 12;
    /** In the full hall: one past the last paper. */
    static final int PAST = 40;

    private Halls() {
    }

    /** Has room for more of everything, and one word typed. */
    static Discoverhall busy() {
        Discoverhall x = new Discoverhall();
        addBusyPapers(x);
        x.drop(DROPPED);
        x.answer(1, 0);
        x.answer(4, 1);
        x.answer(8, 4);
        addBusyTerms(x);
        x.bar(0, 1);
        x.bar(3, 2);
        x.tag(0, 0, true);
        x.tag(9, 0, true);
        x.tag(10, 0, true);
        x.tag(11, 2, true);
        giveBusyPages(x);
        x.viewer(1, 5);
        x.viewer(2, 9999);
        x.level(1, 1);
        x.level(11, 2);
        x.day(5);
        x.teach(1, true);
        x.teach(4, false);
        x.bad(6, true);
        x.hold(4, 9, 9);
        x.hold(1, 5, 6);
        return Kit.typed(x, " q");
    }

    private static void addBusyPapers(Discoverhall x) {
        Kit.typed(x, "a b").paper(0, 0, 1, 1 << 2, -1);
        Kit.typed(x, "c a b").paper(1, 5, 2, 0, 0);
        Kit.typed(x, "a  b").paper(2, 9999, 3, 0, 1);
        Kit.typed(x, "").paper(3, 5, 0, 0, 2);
        Kit.typed(x, "d a b").paper(0, 5, 4, 0, -1);
        Kit.typed(x, "gone").paper(0, 0, 0, 0, -1);
        Kit.typed(x, "a b c").paper(1, 6, 5, 0, -1);
        Kit.typed(x, "x y").paper(4, 9, 6, 0, -1);
        Kit.typed(x, "d").paper(5, 3, 7, 0, 7);
        Kit.typed(x, "k l").paper(0, 1, 8, 0, -1);
        Kit.typed(x, "m a").paper(0, 2, 9, 0, -1);
        Kit.typed(x, "n").paper(0, 4, 0, 0, -1);
    }

    private static void addBusyTerms(Discoverhall x) {
        Kit.typed(x, "a").term('w', 0);
        Kit.typed(x, "c").term('p', 0);
        Kit.typed(x, "a b").term('n', 1);
        x.joined('a', 0, 2);
        x.joined('o', 0, 1);
        x.joined('t', 0, 0);
    }

    /** Of the pages that are given, 0, 2 and 9 are slips, 10 is locked, and 1 shows a word blacked out. */
    private static void giveBusyPages(Discoverhall x) {
        x.rule(2, 'p');
        x.rule(9, 'p');
        x.give(0);
        x.rule(11, 'n');
        x.person(2, 'l');
        x.person(7, 'o');
        x.claw(10);
        Kit.typed(x, "a").black(1);
    }

    /** Has no room: 40 papers were added, there are 8 terms, 6 pairs and 4 viewers, and 60 signs with one word. */
    static Discoverhall full() {
        Discoverhall x = Kit.hallWith("a b");
        Kit.addPart(x, "a", 0);
        Kit.addPart(x, "", 1);
        Kit.addPart(x, "c", 2);
        for (int paper = 4; paper < PAST; paper++) {
            Kit.add(x, paper == 4 ? "a b" : "");
        }
        x.drop(DROPPED);
        x.answer(1, 0);
        x.tag(0, 0, true);
        x.give(0);
        x.viewer(0, 9999);
        x.viewer(1, 9999);
        x.viewer(2, 0);
        x.viewer(2, 9999);
        for (int other = 1; other < 6; other++) {
            x.bar(0, other);
        }
        x.bar(1, 2);
        addAllTerms(x);
        return Kit.typed(x, "a" + " ".repeat(59));
    }

    private static void addAllTerms(Discoverhall x) {
        Kit.typed(x, "a").term('w', 0);
        Kit.typed(x, "a b").term('n', 9);
        for (int term = 2; term < 8; term++) {
            x.joined('t', term - 1, 0);
        }
    }

    /** The same hall with other signs typed. */
    static Discoverhall retyped(Discoverhall x, String text) {
        x.wipe();
        return Kit.typed(x, text);
    }
}
