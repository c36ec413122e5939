/** Promises 43 to 46: the ranker and samples. */
public final class RankerTest {
    private static final Kit kit = new Kit();

    public static void main(String[] args) {
        teaching();
        countsStay();
        nextOnes();
        samples();
        sampleExceptionsInOrder();
        kit.finish();
    }

    private static void teaching() {
        Discoverhall x = Kit.hallWith("a b a", "a c", "b a a", "", "gone");
        x.drop(4);
        kit.due("44: nothing taught", 0, () -> x.score(0));
        kit.due("43: each word once", 4, () -> x.teach(0, true));
        kit.due("43: once", Kit.UNSUPPORTED, () -> x.teach(0, false));
        kit.due("44: one word", 2, () -> x.score(1));
        kit.due("43: not fitting", 0, () -> x.teach(1, false));
        kit.due("44: twice less once", 3, () -> x.score(2));
        kit.due("43: fitting", 7, () -> x.teach(2, true));
        kit.due("44: of the not fitting one", 2, () -> x.score(1));
        kit.due("43: without words", 0, () -> x.teach(3, true));
        kit.due("43: without words, once", Kit.UNSUPPORTED, () -> x.teach(3, true));
        kit.dueIfMissing("43: teach", p -> x.teach(p, true), -1, 4, 5);
        kit.dueIfMissing("44: score", p -> x.score(p), -1, 4, 5);
        kit.due("44: below nothing", -2, () -> {
            Kit.add(x, "q r");
            return x.teach(5, false);
        });
        x.bad(2, true);
        kit.due("44: bad", 0, () -> x.score(2));
        kit.due("44: it was taught before it was bad", 7, () -> x.score(0));
        Kit.add(x, "z");
        x.bad(6, true);
        kit.due("43: bad", Kit.UNSUPPORTED, () -> x.teach(6, true));
        x.bad(6, false);
        kit.due("43: good", 2, () -> x.teach(6, true));
    }

    private static void countsStay() {
        Discoverhall x = Kit.hallWith("a b", "b c");
        x.teach(0, true);
        x.drop(0);
        kit.due("44: of a dropped one", 2, () -> x.score(1));
        kit.due("45: not the dropped one", 1, () -> x.next());
    }

    private static void nextOnes() {
        Discoverhall x = new Discoverhall();
        kit.due("45: no papers", Kit.NO_ELEMENT, () -> x.next());
        for (String text : new String[] {"a", "b", "b c", "c b", "d"}) {
            Kit.add(x, text);
        }
        kit.due("45: the lowest of several", 0, () -> x.next());
        x.teach(1, true);
        kit.due("45: the greatest", 2, () -> x.next());
        x.bad(2, true);
        kit.due("45: not a bad one", 3, () -> x.next());
        x.teach(3, false);
        kit.due("45: nothing is greater than less", 0, () -> x.next());
        x.teach(0, false);
        x.teach(4, false);
        kit.due("45: all others are bad", Kit.NO_ELEMENT, () -> x.next());
        x.bad(2, false);
        kit.due("45: the last one", 2, () -> x.next());
        Discoverhall low = Kit.hallWith("a", "a b");
        low.teach(0, false);
        kit.due("45: below nothing", 1, () -> low.next());
    }

    /** Of 0, 1, 2 and 3, 48271 modulo 4 takes 3, then 182605794 modulo 3 takes 0. */
    private static void samples() {
        Discoverhall x = Kit.hallWith("a", "b", "c", "d", "e");
        for (String word : new String[] {"a", "b", "c", "d", "e"}) {
            Kit.typed(x, word).term('w', 0);
        }
        x.tag(4, 3, true);
        int[] takenByOne = {0, 0, 0, 1, 0};
        int[] takenByTwo = {1, 0, 0, 1, 0};
        int[] takenByFour = {1, 1, 1, 1, 0};
        for (int i = 0; i < 5; i++) {
            int term = i;
            kit.due("46: one, term " + term, takenByOne[term], () -> x.sample(3, 1, term, 1));
            kit.due("46: two, term " + term, takenByTwo[term], () -> x.sample(3, 2, term, 1));
            kit.due("46: four, term " + term, takenByFour[term], () -> x.sample(3, 4, term, 1));
        }
        kit.due("46: five are not there", Kit.NO_ELEMENT, () -> x.sample(3, 5, 0, 1));
        kit.due("46: those without another tag", 1, () -> x.sample(2, 5, 4, 1));
        kit.due("46: the greatest seed takes 0", 1, () -> x.sample(3, 1, 0, 2147483646));
        x.drop(0);
        kit.due("46: not a dropped one", Kit.NO_ELEMENT, () -> x.sample(3, 4, 0, 1));
        x.bad(1, true);
        kit.due("46: a bad one too", 0, () -> x.sample(3, 3, 1, 1));
    }

    private static void sampleExceptionsInOrder() {
        Discoverhall x = Kit.hallWith("a");
        kit.dueIfMissing("46: sample", t -> x.sample(-1, 0, t, 0), -1, 0, 8);
        Kit.typed(x, "a").term('w', 0);
        int[][] wrong = {{-1, 1, 1}, {6, 1, 1}, {0, 0, 1}, {0, 21, 1}, {0, 1, 0}, {0, 1, 2147483647}, {0, 1, -1},
            {0, 20, 0}, {Integer.MIN_VALUE, 1, 1}};
        for (int[] w : wrong) {
            kit.due("46: sample " + w[0] + " " + w[1] + " " + w[2], Kit.ARGUMENT,
                () -> x.sample(w[0], w[1], 0, w[2]));
        }
        kit.due("46: not so many", Kit.NO_ELEMENT, () -> x.sample(0, 20, 0, 1));
        for (int paper = 1; paper < 20; paper++) {
            Kit.add(x, "a");
        }
        kit.due("46: so many", 20, () -> x.sample(0, 20, 0, 1));
    }
}
