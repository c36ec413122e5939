/** Promises 11 to 18: alike ones, near ones, threads. */
public final class TiesTest {
    private static final Kit kit = new Kit();

    public static void main(String[] args) {
        alike();
        firstsAndCustodians();
        near();
        groups();
        answers();
        includes();
        lost();
        kit.finish();
    }

    private static void alike() {
        Discoverhall x = Kit.hallWith("a b", "  a   b ", "b a", "ab", "", " ", "a b a", "a b");
        kit.due("11: blanks do not matter", true, () -> x.areAlike(0, 1));
        kit.due("11: both ways", true, () -> x.areAlike(1, 0));
        kit.due("11: another order", false, () -> x.areAlike(0, 2));
        kit.due("11: one word", false, () -> x.areAlike(0, 3));
        kit.due("11: a word more", false, () -> x.areAlike(0, 6));
        kit.due("11: a word less", false, () -> x.areAlike(6, 0));
        kit.due("11: without words", false, () -> x.areAlike(4, 5));
        kit.due("11: without words, itself", true, () -> x.areAlike(5, 5));
        kit.due("11: itself", true, () -> x.areAlike(2, 2));
        Discoverhall full = Kit.hallWith("a ".repeat(29) + "bc", "a ".repeat(29) + "cb", "a ".repeat(29) + "bc");
        kit.due("11: the last of 30 words", false, () -> full.areAlike(0, 1));
        kit.due("11: all of 30 words", true, () -> full.areAlike(0, 2));
        x.drop(7);
        kit.dueIfMissing("11: areAlike", p -> x.areAlike(0, p), -1, 7, 8, 40);
        kit.dueIfMissing("11: areAlike", p -> x.areAlike(p, 0), -1, 7, 8, 40);
    }

    private static void firstsAndCustodians() {
        Discoverhall x = new Discoverhall();
        Kit.typed(x, "a b").paper(3, 0, 0, 0, -1);
        Kit.typed(x, "a b").paper(1, 0, 0, 0, -1);
        Kit.typed(x, "a").paper(2, 0, 0, 0, -1);
        Kit.typed(x, "a b").paper(5, 0, 0, 0, -1);
        Kit.typed(x, "").paper(4, 0, 0, 0, -1);
        Kit.typed(x, "").paper(0, 0, 0, 0, -1);
        kit.due("12: first of three", 0, () -> x.first(3));
        kit.due("12: itself first", 0, () -> x.first(0));
        kit.due("12: alone", 2, () -> x.first(2));
        kit.due("12: without words", 5, () -> x.first(5));
        kit.due("13: of three", 42, () -> x.custodians(1));
        kit.due("13: alone", 4, () -> x.custodians(2));
        kit.due("13: without words", 1, () -> x.custodians(5));
        x.bad(0, true);
        kit.due("12: the first is bad", 1, () -> x.first(3));
        kit.due("13: one is bad", 34, () -> x.custodians(3));
        kit.due("13: bad", 8, () -> x.custodians(0));
        x.bad(0, false);
        x.drop(0);
        kit.due("12: the first is dropped", 1, () -> x.first(3));
        kit.due("13: one is dropped", 34, () -> x.custodians(3));
        kit.dueIfMissing("12: first", p -> x.first(p), -1, 0, 6, 40);
        kit.dueIfMissing("13: custodians", p -> x.custodians(p), -1, 0, 6, 40);
    }

    private static void near() {
        Discoverhall x = Kit.hallWith("a b c", "a b d", "a", "", "a b a b a", "b a b", "a b c d", "b a", "gone");
        x.drop(8);
        kit.due("14: 1 of 3 by 33", true, () -> x.areNear(0, 1, 33));
        kit.due("14: 1 of 3 by 34", false, () -> x.areNear(0, 1, 34));
        kit.due("14: 1 of 3 by 1", true, () -> x.areNear(1, 0, 1));
        kit.due("14: one word", false, () -> x.areNear(2, 2, 1));
        kit.due("14: no words", false, () -> x.areNear(3, 3, 1));
        kit.due("14: one has none", false, () -> x.areNear(0, 2, 1));
        kit.due("14: itself", true, () -> x.areNear(0, 0, 100));
        kit.due("14: each once", true, () -> x.areNear(4, 5, 100));
        kit.due("14: each once, the other way", true, () -> x.areNear(5, 4, 100));
        kit.due("14: 2 of 3 by 66", true, () -> x.areNear(0, 6, 66));
        kit.due("14: 2 of 3 by 67", false, () -> x.areNear(0, 6, 67));
        kit.due("14: order in a shingle", false, () -> x.areNear(0, 7, 1));
        for (int hundredths : new int[] {0, 101, -1, Integer.MAX_VALUE, Integer.MIN_VALUE}) {
            kit.due("14: by " + hundredths, Kit.ARGUMENT, () -> x.areNear(0, 1, hundredths));
            kit.due("15: by " + hundredths, Kit.ARGUMENT, () -> x.groups(hundredths));
        }
        kit.dueIfMissing("14: areNear", p -> x.areNear(0, p, 0), -1, 8, 9);
        kit.dueIfMissing("14: areNear", p -> x.areNear(p, 0, 0), -1, 8, 9);
        x.bad(1, true);
        kit.due("14: bad", false, () -> x.areNear(0, 1, 1));
    }

    private static void groups() {
        Discoverhall x = Kit.hallWith("a b c", "x y", "c d e", "b c d", "", "q");
        kit.due("15: hang together by one between", 4, () -> x.groups(33));
        kit.due("15: none near", 6, () -> x.groups(34));
        x.bad(3, true);
        kit.due("15: the one between is bad", 6, () -> x.groups(33));
        x.bad(3, false);
        x.drop(3);
        kit.due("15: the one between is dropped", 5, () -> x.groups(33));
        Discoverhall ring = Kit.hallWith("a b", "a b", "c d", "a b", "b a b");
        kit.due("15: each is near to each", 2, () -> ring.groups(50));
        kit.due("15: two groups become one", 1, () -> Kit.add(ring, "a b c d") - 5 + ring.groups(33));
    }

    private static void answers() {
        Discoverhall x = Kit.hallWith("a", "b", "c", "d", "gone");
        x.drop(4);
        kit.due("16: a thread of two", 2, () -> x.answer(1, 0));
        kit.due("16: another thread", 2, () -> x.answer(3, 2));
        kit.due("16: once", Kit.UNSUPPORTED, () -> x.answer(1, 0));
        kit.due("16: both joined", 4, () -> x.answer(2, 0));
        kit.due("16: itself", Kit.ARGUMENT, () -> x.answer(0, 0));
        kit.due("16: a later one", Kit.ARGUMENT, () -> x.answer(0, 1));
        kit.due("16: a later one, though it answers one", Kit.ARGUMENT, () -> x.answer(1, 2));
        kit.dueIfMissing("16: answer", p -> x.answer(p, 0), -1, 4, 5);
        kit.dueIfMissing("16: answer", p -> x.answer(0, p), -1, 4, 5);
        kit.due("16: a new one", 5, () -> x.answer(Kit.add(x, "e"), 3));
        x.drop(5);
        kit.due("16: after a drop", 5, () -> x.answer(Kit.add(x, "f"), 1));
    }

    private static void includes() {
        Discoverhall x = Kit.hallWith("a b", "c a b", "d c a b", "d c a b", "e", "", "f", "a b b", "x a b", "gone");
        x.drop(9);
        x.answer(1, 0);
        x.answer(2, 1);
        x.answer(3, 2);
        x.answer(4, 3);
        x.answer(5, 4);
        x.answer(6, 5);
        x.answer(7, 0);
        kit.due("17: the one that it answers", true, () -> x.includes(1, 0));
        kit.due("17: what that one includes", true, () -> x.includes(2, 0));
        kit.due("17: no word ahead", false, () -> x.includes(3, 2));
        kit.due("17: not through one that is not included", false, () -> x.includes(3, 0));
        kit.due("17: other words", false, () -> x.includes(4, 3));
        kit.due("17: no words of its own", false, () -> x.includes(5, 4));
        kit.due("17: one without words", true, () -> x.includes(6, 5));
        kit.due("17: not at the end", false, () -> x.includes(7, 0));
        kit.due("17: not answered", false, () -> x.includes(8, 0));
        kit.due("17: itself", false, () -> x.includes(1, 1));
        kit.due("17: the other way", false, () -> x.includes(0, 1));
        x.bad(1, true);
        kit.due("17: a bad one is included", true, () -> x.includes(2, 1));
        kit.due("17: a bad one includes none", false, () -> x.includes(1, 0));
        kit.due("17: not through a bad one", false, () -> x.includes(2, 0));
        kit.dueIfMissing("17: includes", p -> x.includes(p, 0), -1, 9, 10);
        kit.dueIfMissing("17: includes", p -> x.includes(0, p), -1, 9, 10);
    }

    private static void lost() {
        Discoverhall x = Kit.hallWith("a", "b", "c a", "d", "e d", "f", "gone");
        x.drop(6);
        kit.due("18: alone", 0, () -> x.lost(0));
        x.answer(1, 0);
        kit.due("18: the last one is not lost", 1, () -> x.lost(1));
        x.answer(2, 0);
        kit.due("18: one that another includes", 0, () -> x.lost(0));
        x.answer(3, 2);
        x.answer(4, 3);
        kit.due("18: in the middle", 1, () -> x.lost(1));
        kit.due("18: another thread", 0, () -> x.lost(5));
        x.answer(5, 4);
        kit.due("18: two in the middle", 2, () -> x.lost(5));
        x.bad(2, true);
        kit.due("18: the one that included is bad", 2, () -> x.lost(0));
        kit.dueIfMissing("18: lost", p -> x.lost(p), -1, 6, 7);
    }
}
