/** Promises 2 to 18: what each call refuses, the first listed of several, and nothing changed behind it. */
public final class RefusedPapersTest {
    private static final Kit kit = new Kit();
    private static final Refusals due = new Refusals(kit);

    public static void main(String[] args) {
        type();
        paperMissing();
        paperOutOfRange();
        paperChain();
        paperFull();
        drop();
        onePaper();
        hold();
        twoPapers();
        near();
        answer();
        kit.finish();
    }

    private static void type() {
        due.noneOf("2: type", "`{AZ09!@[_-\t\n\0\u001f\u00e9\uffff", (x, sign) -> x.type(sign));
        due.refusedByFull("2: the 61st sign", Kit.STATE, x -> x.type('a'));
        due.refusedByFull("2: the 61st, a blank", Kit.STATE, x -> x.type(' '));
        due.refusedByFull("2: the 61st, not a sign", Kit.ARGUMENT, x -> x.type('A'));
    }

    private static void paperMissing() {
        for (int whole : new int[] {-2, Halls.DROPPED, Halls.NEXT, 40, Integer.MAX_VALUE, Integer.MIN_VALUE}) {
            due.refusedByBusy("4: part of " + whole, Kit.INDEX, x -> x.paper(0, 0, 0, 0, whole));
            due.refusedByBusy("4: out of range, part of " + whole, Kit.INDEX, x -> x.paper(6, 0, 0, 0, whole));
        }
        for (int whole : new int[] {-2, Halls.DROPPED, Halls.PAST}) {
            due.refusedByFull("4: full, part of " + whole, Kit.INDEX, x -> x.paper(0, 0, 0, 0, whole));
            due.refusedByFull("4: full, out of range, part of " + whole, Kit.INDEX, x -> x.paper(0, -1, 0, 0, whole));
        }
    }

    private static void paperOutOfRange() {
        due.outside("4: custodian", 0, 5, (x, n) -> x.paper(n, 0, 0, 0, -1));
        due.outside("4: day", 0, 9999, (x, n) -> x.paper(0, n, 0, 0, -1));
        due.outside("4: author", 0, 9, (x, n) -> x.paper(0, 0, n, 0, -1));
        due.outside("4: readers", 0, 1023, (x, n) -> x.paper(0, 0, 0, n, -1));
        due.outside("4: custodian of a part", 0, 5, (x, n) -> x.paper(n, 0, 0, 0, 0));
        due.outside("4: day of a fifth of a chain", 0, 9999, (x, n) -> x.paper(0, n, 0, 0, 3));
        due.refusedByFull("4: full, day", Kit.ARGUMENT, x -> x.paper(0, 10000, 0, 0, -1));
        due.refusedByFull("4: full, author of a fifth of a chain", Kit.ARGUMENT, x -> x.paper(0, 0, 10, 0, 3));
    }

    private static void paperChain() {
        due.refusedByBusy("4: fifth of a chain", Kit.UNSUPPORTED, x -> x.paper(0, 0, 0, 0, 3));
        due.refused("4: fifth, behind another fourth", Kit.UNSUPPORTED, () -> withAnotherFourth(Halls.busy()),
            x -> x.paper(0, 0, 0, 0, Halls.NEXT));
        due.refusedByFull("4: full, fifth of a chain", Kit.UNSUPPORTED, x -> x.paper(0, 0, 0, 0, 3));
    }

    private static Discoverhall withAnotherFourth(Discoverhall x) {
        x.paper(0, 0, 0, 0, 2);
        return Kit.typed(x, "e");
    }

    private static void paperFull() {
        due.refusedByFull("4: the 41st", Kit.STATE, x -> x.paper(0, 0, 0, 0, -1));
        due.refusedByFull("4: the 41st, a part", Kit.STATE, x -> x.paper(5, 9999, 9, 1023, 39));
        due.refusedByFull("4: the 41st, fourth of a chain", Kit.STATE, x -> x.paper(0, 0, 0, 0, 2));
    }

    private static void drop() {
        due.missingPaper("5: drop", (x, p) -> x.drop(p));
        due.refusedByBusy("5: held alone", Kit.UNSUPPORTED, x -> x.drop(6));
        due.refusedByBusy("5: held, with a part", Kit.UNSUPPORTED, x -> x.drop(7));
        due.refusedByBusy("5: given alone", Kit.UNSUPPORTED, x -> x.drop(9));
        due.refusedByBusy("5: given and locked", Kit.UNSUPPORTED, x -> x.drop(10));
        due.refusedByBusy("5: answered alone", Kit.UNSUPPORTED, x -> x.drop(4));
        due.refused("5: with a part alone", Kit.UNSUPPORTED, () -> ended(Halls.busy(), 4), x -> x.drop(7));
        due.refused("5: given, with a part, answered", Kit.UNSUPPORTED, Halls::busy, x -> x.drop(0));
    }

    private static Discoverhall ended(Discoverhall x, int custodian) {
        x.hold(custodian, -1, -1);
        return x;
    }

    private static void onePaper() {
        due.missingPaper("6: bad", (x, p) -> x.bad(p, true));
        due.missingPaper("6: bad, told good", (x, p) -> x.bad(p, false));
        due.missingPaper("7: words", (x, p) -> x.words(p));
        due.missingPaper("8: family", (x, p) -> x.family(p));
        due.missingPaper("9: head", (x, p) -> x.head(p));
        due.missingPaper("12: first", (x, p) -> x.first(p));
        due.missingPaper("13: custodians", (x, p) -> x.custodians(p));
        due.missingPaper("18: lost", (x, p) -> x.lost(p));
    }

    private static void hold() {
        due.outside("10: custodian", 0, 5, (x, n) -> x.hold(n, 0, 9999));
        due.outside("10: custodian, ending", 0, 5, (x, n) -> x.hold(n, -1, -1));
        due.outside("10: from", 0, 9999, (x, n) -> x.hold(1, n, 9999));
        due.outside("10: to", 0, 9999, (x, n) -> x.hold(1, 0, n));
        int[][] days = {{-1, 0}, {-1, 9999}, {0, -1}, {9999, -1}, {-2, -2}, {-2, -1}, {-1, -2}, {6, 5}, {9999, 9998},
            {1, 0}, {10000, 10000}, {Integer.MIN_VALUE, Integer.MAX_VALUE}};
        for (int[] d : days) {
            due.refusedByBusy("10: days " + d[0] + " " + d[1], Kit.ARGUMENT, x -> x.hold(1, d[0], d[1]));
        }
    }

    private static void twoPapers() {
        due.missingPaper("11: areAlike, the one", (x, p) -> x.areAlike(p, 0));
        due.missingPaper("11: areAlike, the other", (x, p) -> x.areAlike(0, p));
        due.missingPaper("11: areAlike, both the same", (x, p) -> x.areAlike(p, p));
        due.missingPaper("17: includes, the one", (x, p) -> x.includes(p, 0));
        due.missingPaper("17: includes, the other", (x, p) -> x.includes(1, p));
        due.missingPaper("17: includes, both the same", (x, p) -> x.includes(p, p));
    }

    private static void near() {
        due.missingPaper("14: areNear, the one", (x, p) -> x.areNear(p, 0, 50));
        due.missingPaper("14: areNear, the other", (x, p) -> x.areNear(0, p, 50));
        due.missingPaper("14: areNear, the one, out of range", (x, p) -> x.areNear(p, 0, 0));
        due.missingPaper("14: areNear, the other, out of range", (x, p) -> x.areNear(0, p, 101));
        due.outside("14: hundredths", 1, 100, (x, n) -> x.areNear(0, 2, n));
        due.outside("14: hundredths of those without shingles", 1, 100, (x, n) -> x.areNear(3, 3, n));
        due.outside("15: hundredths", 1, 100, (x, n) -> x.groups(n));
    }

    private static void answer() {
        due.missingPaper("16: answer, the one", (x, p) -> x.answer(p, 0));
        due.missingPaper("16: answer, the other", (x, p) -> x.answer(11, p));
        due.missingPaper("16: answer, the one, the other not earlier", (x, p) -> x.answer(p, 11));
        due.missingPaper("16: answer, the other, it answers one already", (x, p) -> x.answer(1, p));
        due.missingPaper("16: answer, the first one another", (x, p) -> x.answer(0, p));
        due.refusedByBusy("16: itself", Kit.ARGUMENT, x -> x.answer(11, 11));
        due.refusedByBusy("16: the next one", Kit.ARGUMENT, x -> x.answer(6, 7));
        due.refusedByBusy("16: a later one", Kit.ARGUMENT, x -> x.answer(0, 11));
        due.refusedByBusy("16: itself, it answers one already", Kit.ARGUMENT, x -> x.answer(4, 4));
        due.refusedByBusy("16: a later one, it answers one already", Kit.ARGUMENT, x -> x.answer(1, 2));
        due.refusedByBusy("16: the same again", Kit.UNSUPPORTED, x -> x.answer(1, 0));
        due.refusedByBusy("16: another one", Kit.UNSUPPORTED, x -> x.answer(4, 3));
        due.refusedByFull("16: full, the same again", Kit.UNSUPPORTED, x -> x.answer(1, 0));
    }
}
