/** Promises 19 to 23: terms. */
public final class TermsTest {
    private static final Kit kit = new Kit();

    public static void main(String[] args) {
        kinds();
        pairs();
        termExceptionsInOrder();
        joinedTerms();
        joinedByNotAlone();
        revising();
        families();
        kit.finish();
    }

    private static Discoverhall termed(Discoverhall x, String words, char kind, int apart) {
        Kit.typed(x, words).term(kind, apart);
        return x;
    }

    private static void kinds() {
        Discoverhall x = Kit.hallWith("cat", "the cat", "cats", "ca t", "", "scat");
        Kit.typed(x, " cat ");
        kit.due("19: a word", 0, () -> x.term('w', -5));
        kit.due("19: wipes", 0, () -> x.wipe());
        Kit.typed(x, "cat");
        kit.due("19: a beginning", 1, () -> x.term('p', 100));
        kit.due("22: with the word", 2, () -> x.hits(0, false));
        kit.due("22: with the beginning", 3, () -> x.hits(1, false));
        boolean[] byWord = {true, true, false, false, false, false};
        boolean[] byBeginning = {true, true, true, false, false, false};
        for (int i = 0; i < byWord.length; i++) {
            int paper = i;
            kit.due("23: word in " + paper, byWord[paper], () -> x.isHit(0, paper));
            kit.due("23: beginning in " + paper, byBeginning[paper], () -> x.isHit(1, paper));
        }
        x.bad(0, true);
        kit.due("22: one is bad", 1, () -> x.hits(0, false));
        kit.due("23: bad", false, () -> x.isHit(1, 0));
        x.drop(1);
        kit.due("22: one is dropped", 0, () -> x.hits(0, false));
        kit.due("22: a later paper", 1, () -> Kit.add(x, "cat") - 6 + x.hits(0, false));
        kit.dueIfMissing("23: isHit", p -> x.isHit(0, p), -1, 1, 7, 40);
        kit.dueIfMissing("23: isHit", t -> x.isHit(t, 0), -1, 2, 8, Integer.MAX_VALUE);
        kit.dueIfMissing("22: hits", t -> x.hits(t, true), -1, 2, 8, Integer.MIN_VALUE);
    }

    private static void pairs() {
        Discoverhall x = Kit.hallWith("a b", "b a", "a x b", "a x x x x x x x x b", "a", "a a", "a x x x x x x x x x b",
            "b x x a x a x b");
        termed(x, "a b", 'n', 1);
        termed(x, "b a", 'n', 2);
        termed(x, "a b", 'n', 9);
        termed(x, "a a", 'n', 1);
        boolean[][] want = {
            {true, true, false, false, false, false, false, false},
            {true, true, true, false, false, false, false, true},
            {true, true, true, true, false, false, false, true},
            {false, false, false, false, false, true, false, false}};
        for (int t = 0; t < want.length; t++) {
            for (int p = 0; p < want[t].length; p++) {
                int term = t;
                int paper = p;
                kit.due("19: pair " + term + " in " + paper, want[term][paper], () -> x.isHit(term, paper));
            }
        }
    }

    private static void termExceptionsInOrder() {
        Discoverhall x = Kit.hallWith("a");
        for (char kind : new char[] {'a', 'o', 't', 'W', ' ', 0}) {
            kit.due("19: kind " + (int) kind, Kit.ARGUMENT, () -> x.term(kind, 1));
        }
        for (int apart : new int[] {0, 10, -1, Integer.MAX_VALUE}) {
            kit.due("19: apart " + apart, Kit.ARGUMENT, () -> x.term('n', apart));
        }
        kit.due("19: no word", Kit.UNSUPPORTED, () -> x.term('w', 1));
        kit.due("19: no word by n", Kit.UNSUPPORTED, () -> x.term('n', 1));
        Kit.typed(x, "a");
        kit.due("19: one word by n", Kit.UNSUPPORTED, () -> x.term('n', 1));
        Kit.typed(x, " b");
        kit.due("19: two words by w", Kit.UNSUPPORTED, () -> x.term('w', 1));
        kit.due("19: two words by p", Kit.UNSUPPORTED, () -> x.term('p', 1));
        kit.due("19: out of range, though typed well", Kit.ARGUMENT, () -> x.term('n', 0));
        kit.due("19: nothing was wiped", 0, () -> x.term('n', 9));
        Kit.typed(x, "a b c");
        kit.due("19: three words", Kit.UNSUPPORTED, () -> x.term('n', 1));
        x.wipe();
        for (int i = 1; i < 8; i++) {
            termed(x, "a", 'w', 0);
        }
        kit.due("19: full, no word", Kit.UNSUPPORTED, () -> x.term('w', 0));
        kit.due("19: full, no kind", Kit.ARGUMENT, () -> x.term('x', 0));
        Kit.typed(x, "a");
        kit.due("19: full", Kit.STATE, () -> x.term('w', 0));
        kit.due("19: nothing was wiped by that", 1, () -> x.wipe());
    }

    private static void joinedTerms() {
        Discoverhall x = Kit.hallWith("a b", "a", "b", "c");
        termed(x, "a", 'w', 0);
        termed(x, "b", 'w', 0);
        kit.due("20: both", 2, () -> x.joined('a', 0, 1));
        kit.due("20: either", 3, () -> x.joined('o', 0, 1));
        kit.due("20: not", 4, () -> x.joined('t', 0, 1));
        kit.due("20: made of joined ones", 5, () -> x.joined('a', 4, 3));
        kit.due("20: the same twice", 6, () -> x.joined('o', 2, 2));
        int[] hits = {2, 2, 1, 3, 2, 1, 1};
        for (int i = 0; i < hits.length; i++) {
            int term = i;
            kit.due("22: hits of " + term, hits[term], () -> x.hits(term, false));
        }
        kit.due("23: not one with a", true, () -> x.isHit(5, 2));
        x.bad(0, true);
        kit.due("20: not, with a bad one", 3, () -> x.hits(4, false));
        kit.due("20: no such term and kind", Kit.INDEX, () -> x.joined('x', 7, 0));
        kit.dueIfMissing("20: joined", t -> x.joined('a', t, 0), -1, 7, 8);
        kit.dueIfMissing("20: joined", t -> x.joined('a', 0, t), -1, 7, 8);
        kit.dueIfMissing("20: joined by o", t -> x.joined('o', 0, t), -1, 7, 8);
        kit.dueIfMissing("20: joined by no kind", t -> x.joined('x', 0, t), -1, 7, 8);
        kit.dueIfMissing("20: joined by t", t -> x.joined('t', t, 0), -1, 7, 8);
        for (char kind : new char[] {'w', 'p', 'n', 'A', 0}) {
            kit.due("20: kind " + (int) kind, Kit.ARGUMENT, () -> x.joined(kind, 0, 0));
        }
        Kit.typed(x, "q");
        kit.due("20: the eighth", 7, () -> x.joined('t', 6, 0));
        kit.due("20: does not wipe", 1, () -> x.wipe());
        kit.due("20: full, no kind", Kit.ARGUMENT, () -> x.joined('w', 0, 0));
        kit.due("20: full, no term", Kit.INDEX, () -> x.joined('t', 8, 0));
        kit.due("20: full", Kit.STATE, () -> x.joined('t', 0, 0));
        kit.due("20: full, and another that is not there", Kit.STATE, () -> x.joined('t', 0, 8));
    }

    /** By 't' the other term has no meaning: none that is there, its own number, one that comes later. */
    private static void joinedByNotAlone() {
        Discoverhall x = Kit.hallWith("a b", "a", "b", "c");
        Kit.addPart(x, "d", 3);
        termed(x, "a", 'w', 0);
        int[] others = {-1, 2, 4, 8, Integer.MAX_VALUE, Integer.MIN_VALUE};
        for (int i = 0; i < others.length; i++) {
            int added = i + 1;
            int other = others[i];
            kit.due("20: not, with the other " + other, added, () -> x.joined('t', 0, other));
        }
        termed(x, "b", 'w', 0);
        for (int i = 1; i <= others.length; i++) {
            int term = i;
            kit.due("22: hits of not " + term, 3, () -> x.hits(term, false));
            kit.due("23: not one with a " + term, true, () -> x.isHit(term, 2));
            kit.due("23: one with a " + term, false, () -> x.isHit(term, 0));
            kit.due("21: of another kind " + term, Kit.UNSUPPORTED, () -> x.revise(term, 1));
        }
        kit.due("22: with families", 3, () -> x.hits(1, true));
        kit.due("50: with others that are not there", true, () -> x.isSound());
        Kit.typed(x, "d");
        kit.due("21: the one is revised", 2, () -> x.revise(0, 0));
        kit.due("22: not follows", 4, () -> x.hits(4, false));
        kit.due("22: not follows, with families", 5, () -> x.hits(4, true));
        kit.due("46: a sample by it", 4, () -> x.sample(0, 5, 4, 7));
        kit.due("50: revised", true, () -> x.isSound());
    }

    private static void revising() {
        Discoverhall x = Kit.hallWith("a b", "a", "c", "a x b");
        termed(x, "a", 'w', 0);
        termed(x, "a b", 'n', 1);
        x.joined('t', 0, 0);
        Kit.typed(x, "c");
        kit.due("21: no such term", Kit.INDEX, () -> x.revise(3, 0));
        kit.due("21: no such term", Kit.INDEX, () -> x.revise(-1, 0));
        kit.due("21: out of range", Kit.ARGUMENT, () -> x.revise(1, 10));
        kit.due("21: out of range", Kit.ARGUMENT, () -> x.revise(1, 0));
        kit.due("21: of another kind", Kit.UNSUPPORTED, () -> x.revise(2, 0));
        kit.due("21: one word by n", Kit.UNSUPPORTED, () -> x.revise(1, 9));
        kit.due("21: the second version", 2, () -> x.revise(0, 77));
        kit.due("21: wipes", 0, () -> x.wipe());
        kit.due("22: revised", 1, () -> x.hits(0, false));
        kit.due("22: the joined one follows", 3, () -> x.hits(2, false));
        kit.due("21: no word", Kit.UNSUPPORTED, () -> x.revise(0, 0));
        Kit.typed(x, "b a");
        kit.due("21: two words by w", Kit.UNSUPPORTED, () -> x.revise(0, 0));
        kit.due("21: farther apart", 2, () -> x.revise(1, 2));
        kit.due("22: farther apart", 2, () -> x.hits(1, false));
        Kit.typed(x, "a");
        kit.due("21: the third version", 3, () -> x.revise(0, 0));
        kit.due("22: as at first", 3, () -> x.hits(0, false));
    }

    private static void families() {
        Discoverhall x = Kit.hallWith("a", "b");
        Kit.addPart(x, "c", 0);
        Kit.addPart(x, "d", 2);
        Kit.addPart(x, "d", 1);
        termed(x, "c", 'w', 0);
        termed(x, "d", 'w', 0);
        termed(x, "q", 'w', 0);
        kit.due("22: without families", 1, () -> x.hits(0, false));
        kit.due("22: with families", 3, () -> x.hits(0, true));
        kit.due("22: two families", 5, () -> x.hits(1, true));
        kit.due("22: no family", 0, () -> x.hits(2, true));
        kit.due("23: without families", false, () -> x.isHit(0, 0));
        x.drop(3);
        kit.due("22: one dropped", 2, () -> x.hits(1, true));
        kit.due("22: one dropped, the other term", 2, () -> x.hits(0, true));
        x.bad(2, true);
        kit.due("22: the one that had it is bad", 0, () -> x.hits(0, true));
    }
}
