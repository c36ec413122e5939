/** Promises 19 to 27: what each call refuses, the first listed of several, and nothing changed behind it. */
public final class RefusedTermsTest {
    private static final Kit kit = new Kit();
    private static final Refusals due = new Refusals(kit);

    public static void main(String[] args) {
        termKind();
        termApart();
        termWords();
        termFull();
        joined();
        reviseOutOfRange();
        reviseWords();
        hits();
        bar();
        barFull();
        tag();
        spread();
        kit.finish();
    }

    private static Probes.Make typed(String text) {
        return () -> Halls.retyped(Halls.busy(), text);
    }

    private static Probes.Make fullTyped(String text) {
        return () -> Halls.retyped(Halls.full(), text);
    }

    private static void termKind() {
        due.noneOf("19: kind", "aotWPN xmoqv\0\uffff", (x, sign) -> x.term(sign, 1));
        due.refused("19: kind, no word", Kit.ARGUMENT, typed(""), x -> x.term('a', 1));
        due.refused("19: kind, three words", Kit.ARGUMENT, typed("a b c"), x -> x.term('t', 1));
        due.refusedByFull("19: full, kind", Kit.ARGUMENT, x -> x.term('o', 1));
        due.refused("19: full, kind, no word", Kit.ARGUMENT, fullTyped(""), x -> x.term(' ', 1));
    }

    private static void termApart() {
        for (int apart : new int[] {0, 10, -1, -9, Integer.MAX_VALUE, Integer.MIN_VALUE}) {
            due.refused("19: apart " + apart, Kit.ARGUMENT, typed("a b"), x -> x.term('n', apart));
            due.refusedByBusy("19: one word, apart " + apart, Kit.ARGUMENT, x -> x.term('n', apart));
        }
        due.refused("19: full, apart 0", Kit.ARGUMENT, fullTyped("a b"), x -> x.term('n', 0));
        due.refused("19: full, one word, apart 10", Kit.ARGUMENT, fullTyped("a"), x -> x.term('n', 10));
    }

    private static void termWords() {
        for (char kind : new char[] {'w', 'p'}) {
            for (String text : new String[] {"", "   ", "a b", "a a", "a b c"}) {
                due.refused("19: " + kind + " of '" + text + "'", Kit.UNSUPPORTED, typed(text), x -> x.term(kind, 1));
            }
        }
        for (String text : new String[] {"", "   ", "a", " ab ", "a b c", "a a a"}) {
            due.refused("19: n of '" + text + "'", Kit.UNSUPPORTED, typed(text), x -> x.term('n', 1));
            due.refused("19: n of '" + text + "', 9 apart", Kit.UNSUPPORTED, typed(text), x -> x.term('n', 9));
        }
        due.refused("19: full, w of no word", Kit.UNSUPPORTED, fullTyped(""), x -> x.term('w', 0));
        due.refused("19: full, p of two words", Kit.UNSUPPORTED, fullTyped("a b"), x -> x.term('p', 0));
        due.refusedByFull("19: full, n of one word", Kit.UNSUPPORTED, x -> x.term('n', 5));
    }

    private static void termFull() {
        due.refusedByFull("19: the ninth, w", Kit.STATE, x -> x.term('w', 0));
        due.refusedByFull("19: the ninth, p", Kit.STATE, x -> x.term('p', -1));
        due.refused("19: the ninth, n", Kit.STATE, fullTyped("a b"), x -> x.term('n', 1));
    }

    private static void joined() {
        for (char kind : new char[] {'a', 'o'}) {
            due.missingTerm("20: the one, " + kind, (x, t) -> x.joined(kind, t, 0));
            due.missingTerm("20: the other, " + kind, (x, t) -> x.joined(kind, 0, t));
        }
        due.missingTerm("20: the one, t", (x, t) -> x.joined('t', t, 0));
        due.missingTerm("20: the one, and no kind", (x, t) -> x.joined('w', t, 0));
        due.missingTerm("20: the other, and no kind", (x, t) -> x.joined('?', 0, t));
        due.noneOf("20: kind", "wpnAOT bsu\0\uffff", (x, sign) -> x.joined(sign, 0, 1));
        due.refusedByFull("20: full, kind", Kit.ARGUMENT, x -> x.joined('n', 0, 1));
        for (char kind : new char[] {'a', 'o', 't'}) {
            due.refusedByFull("20: the ninth, " + kind, Kit.STATE, x -> x.joined(kind, 0, 7));
        }
        due.refusedByFull("20: the ninth, t with none other", Kit.STATE, x -> x.joined('t', 0, 8));
    }

    private static void reviseOutOfRange() {
        due.missingTerm("21: revise", (x, t) -> x.revise(t, 1));
        due.missingTerm("21: revise, out of range", (x, t) -> x.revise(t, 0));
        due.refused("21: revise, no term, no word", Kit.INDEX, typed(""), x -> x.revise(6, 1));
        for (int apart : new int[] {0, 10, -1, Integer.MAX_VALUE, Integer.MIN_VALUE}) {
            due.refused("21: apart " + apart, Kit.ARGUMENT, typed("a b"), x -> x.revise(2, apart));
            due.refusedByBusy("21: one word, apart " + apart, Kit.ARGUMENT, x -> x.revise(2, apart));
        }
    }

    private static void reviseWords() {
        for (int joined : new int[] {3, 4, 5}) {
            due.refusedByBusy("21: of another kind " + joined, Kit.UNSUPPORTED, x -> x.revise(joined, 1));
            due.refusedByBusy("21: of another kind, apart 0 " + joined, Kit.UNSUPPORTED, x -> x.revise(joined, 0));
            due.refused("21: of another kind, two words " + joined, Kit.UNSUPPORTED, typed("a b"),
                x -> x.revise(joined, 1));
        }
        for (String text : new String[] {"", "  ", "a b", "a b c"}) {
            due.refused("21: w by '" + text + "'", Kit.UNSUPPORTED, typed(text), x -> x.revise(0, 1));
            due.refused("21: p by '" + text + "'", Kit.UNSUPPORTED, typed(text), x -> x.revise(1, 0));
        }
        for (String text : new String[] {"", "  ", "a", "a b c"}) {
            due.refused("21: n by '" + text + "'", Kit.UNSUPPORTED, typed(text), x -> x.revise(2, 1));
        }
    }

    private static void hits() {
        due.missingTerm("22: hits", (x, t) -> x.hits(t, false));
        due.missingTerm("22: hits with families", (x, t) -> x.hits(t, true));
        due.missingTerm("23: isHit", (x, t) -> x.isHit(t, 0));
        due.missingTerm("23: isHit, no paper", (x, t) -> x.isHit(t, -1));
        due.missingPaper("23: isHit", (x, p) -> x.isHit(0, p));
    }

    private static void bar() {
        due.outside("24: tag", 0, 5, (x, n) -> x.bar(n, 4));
        due.outside("24: other", 0, 5, (x, n) -> x.bar(4, n));
        due.outside("24: both the same", 0, 5, (x, n) -> x.bar(n, n));
        for (int tag = 0; tag < 6; tag++) {
            int same = tag;
            due.refusedByBusy("24: with itself " + tag, Kit.ARGUMENT, x -> x.bar(same, same));
        }
        due.refusedByBusy("24: again", Kit.UNSUPPORTED, x -> x.bar(0, 1));
        due.refusedByBusy("24: again, the other way", Kit.UNSUPPORTED, x -> x.bar(1, 0));
        due.refusedByBusy("24: again, told the greater first", Kit.UNSUPPORTED, x -> x.bar(2, 3));
    }

    private static void barFull() {
        due.refusedByFull("24: the seventh", Kit.STATE, x -> x.bar(3, 4));
        due.refusedByFull("24: the seventh, the other way", Kit.STATE, x -> x.bar(5, 1));
        due.refusedByFull("24: full, again", Kit.UNSUPPORTED, x -> x.bar(5, 0));
        due.refusedByFull("24: full, the same", Kit.ARGUMENT, x -> x.bar(3, 3));
        due.refusedByFull("24: full, no such tag", Kit.ARGUMENT, x -> x.bar(6, 0));
    }

    private static void tag() {
        due.missingPaper("25: tag", (x, p) -> x.tag(p, 0, true));
        due.missingPaper("25: tag, taken", (x, p) -> x.tag(p, 0, false));
        due.missingPaper("25: tag, no such tag", (x, p) -> x.tag(p, 6, true));
        due.outside("25: given", 0, 5, (x, n) -> x.tag(0, n, true));
        due.outside("25: taken", 0, 5, (x, n) -> x.tag(0, n, false));
        due.refusedByBusy("25: barred", Kit.UNSUPPORTED, x -> x.tag(0, 1, true));
        due.refusedByBusy("25: barred, told the other way", Kit.UNSUPPORTED, x -> x.tag(11, 3, true));
        due.refusedByFull("25: full, barred", Kit.UNSUPPORTED, x -> x.tag(0, 5, true));
        due.missingPaper("26: tags", (x, p) -> x.tags(p));
    }

    private static void spread() {
        due.outside("27: tag, by families", 0, 5, (x, n) -> x.spread(n, 'f'));
        due.outside("27: tag, by alike ones", 0, 5, (x, n) -> x.spread(n, 'a'));
        due.outside("27: tag, and no such way", 0, 5, (x, n) -> x.spread(n, 'x'));
        due.noneOf("27: way", "FAbegl -\0\uffff", (x, sign) -> x.spread(0, sign));
    }
}
