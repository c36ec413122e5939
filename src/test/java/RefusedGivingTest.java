/** Promises 28 to 50: what each call refuses, the first listed of several, and nothing changed behind it. */
public final class RefusedGivingTest {
    private static final Kit kit = new Kit();
    private static final Refusals due = new Refusals(kit);

    public static void main(String[] args) {
        person();
        rule();
        privilege();
        give();
        pagesNotGiven();
        replaceAndClaw();
        black();
        shown();
        viewer();
        levelAndDay();
        sees();
        teach();
        next();
        sampleOutOfRange();
        sampleInOrder();
        sums();
        kit.finish();
    }

    private static void person() {
        due.outside("28: person", 0, 9, (x, n) -> x.person(n, 'l'));
        due.outside("28: person, and no such kind", 0, 9, (x, n) -> x.person(n, 'x'));
        due.noneOf("28: kind", "LOkmnp ,.\0\uffff", (x, sign) -> x.person(2, sign));
    }

    private static void rule() {
        due.missingPaper("29: rule", (x, p) -> x.rule(p, 'p'));
        due.missingPaper("29: rule, and no such ruling", (x, p) -> x.rule(p, 'l'));
        due.noneOf("29: ruling", "PNoqml ,.\0\uffff", (x, sign) -> x.rule(9, sign));
    }

    private static void privilege() {
        due.missingPaper("30: isPrivileged", (x, p) -> x.isPrivileged(p));
        due.missingPaper("31: isKept", (x, p) -> x.isKept(p));
    }

    private static void give() {
        due.outside("32: tag", 0, 5, (x, n) -> x.give(n));
        due.refusedByFull("32: full, tag", Kit.ARGUMENT, x -> x.give(6));
    }

    private static void pagesNotGiven() {
        due.missingPaper("33: number", (x, p) -> x.number(p));
        due.missingPaper("34: isSlip", (x, p) -> x.isSlip(p));
        for (int paper : new int[] {4, 6, 7, 8, 11}) {
            due.refusedByBusy("33: not given " + paper, Kit.NO_ELEMENT, x -> x.number(paper));
            due.refusedByBusy("34: not given " + paper, Kit.NO_ELEMENT, x -> x.isSlip(paper));
        }
    }

    private static void replaceAndClaw() {
        due.missingPaper("35: replace", (x, p) -> x.replace(p));
        due.missingPaper("36: claw", (x, p) -> x.claw(p));
        for (int paper : new int[] {4, 6, 11}) {
            due.refusedByBusy("35: not given " + paper, Kit.UNSUPPORTED, x -> x.replace(paper));
            due.refusedByBusy("36: not given " + paper, Kit.UNSUPPORTED, x -> x.claw(paper));
        }
        due.refusedByBusy("35: locked", Kit.UNSUPPORTED, x -> x.replace(10));
        due.refusedByBusy("36: locked", Kit.UNSUPPORTED, x -> x.claw(10));
        due.refused("35: locked, kept back by now", Kit.UNSUPPORTED, () -> ruled(10), x -> x.replace(10));
        due.refused("36: locked by one alike", Kit.UNSUPPORTED, RefusedGivingTest::clawedByAlike, x -> x.claw(2));
        due.refused("35: locked by one alike", Kit.UNSUPPORTED, RefusedGivingTest::clawedByAlike, x -> x.replace(2));
        due.refusedByFull("36: full, not given", Kit.UNSUPPORTED, x -> x.claw(4));
    }

    private static Discoverhall ruled(int paper) {
        Discoverhall x = Halls.busy();
        x.rule(paper, 'p');
        return x;
    }

    private static Discoverhall clawedByAlike() {
        Discoverhall x = Halls.busy();
        x.claw(0);
        return x;
    }

    private static void black() {
        due.missingPaper("37: black", (x, p) -> x.black(p));
        due.refused("37: no paper, no word", Kit.INDEX, () -> Halls.retyped(Halls.busy(), ""), x -> x.black(-1));
        due.refused("37: dropped, two words", Kit.INDEX, () -> Halls.retyped(Halls.busy(), "a b"),
            x -> x.black(Halls.DROPPED));
        for (String text : new String[] {"", "  ", "b a", "c c", "b c a"}) {
            due.refused("37: black by '" + text + "'", Kit.UNSUPPORTED, () -> Halls.retyped(Halls.busy(), text),
                x -> x.black(1));
        }
    }

    private static void shown() {
        due.missingPaper("38: shown", (x, p) -> x.shown(p, 0));
        due.missingPaper("38: shown, no such place", (x, p) -> x.shown(p, 60));
        int[] places = {-1, 5, 59, 60, Integer.MAX_VALUE, Integer.MIN_VALUE};
        for (int place : places) {
            due.refusedByBusy("38: place " + place, Kit.NO_ELEMENT, x -> x.shown(1, place));
            due.refusedByBusy("38: place of a slip " + place, Kit.NO_ELEMENT, x -> x.shown(2, place));
            due.refusedByBusy("38: place of one not given " + place, Kit.NO_ELEMENT, x -> x.shown(11, place));
            due.refusedByBusy("38: place of a locked one " + place, Kit.NO_ELEMENT, x -> x.shown(10, place));
        }
        for (int place : new int[] {0, 1, 2}) {
            due.refusedByBusy("38: locked, place " + place, Kit.NO_ELEMENT, x -> x.shown(10, place));
            due.refusedByBusy("38: without text, place " + place, Kit.NO_ELEMENT, x -> x.shown(3, place));
            due.refusedByBusy("38: not given, place " + place, Kit.NO_ELEMENT, x -> x.shown(4, place));
        }
    }

    private static void viewer() {
        due.outside("39: level", 0, 2, (x, n) -> x.viewer(n, 0));
        due.outside("39: day", 0, 9999, (x, n) -> x.viewer(0, n));
        due.refusedByFull("39: the fifth", Kit.STATE, x -> x.viewer(0, 0));
        due.refusedByFull("39: the fifth, greatest", Kit.STATE, x -> x.viewer(2, 9999));
        due.refusedByFull("39: full, level", Kit.ARGUMENT, x -> x.viewer(3, 0));
        due.refusedByFull("39: full, day", Kit.ARGUMENT, x -> x.viewer(0, 10000));
    }

    private static void levelAndDay() {
        due.missingPaper("40: level", (x, p) -> x.level(p, 1));
        due.missingPaper("40: level out of range", (x, p) -> x.level(p, 3));
        due.outside("40: level", 0, 2, (x, n) -> x.level(1, n));
        due.outside("41: day", 0, 9999, (x, n) -> x.day(n));
    }

    private static void sees() {
        due.missingPaper("42: paper", (x, p) -> x.sees(0, p));
        for (int viewer : new int[] {-1, 2, 3, 4, Integer.MAX_VALUE, Integer.MIN_VALUE}) {
            due.refusedByBusy("42: viewer " + viewer, Kit.INDEX, x -> x.sees(viewer, 1));
            due.refusedByBusy("42: viewer, no paper " + viewer, Kit.INDEX, x -> x.sees(viewer, -1));
        }
        due.refusedByFull("42: full, viewer 4", Kit.INDEX, x -> x.sees(4, 0));
    }

    private static void teach() {
        due.missingPaper("43: teach", (x, p) -> x.teach(p, true));
        due.missingPaper("43: teach, not fitting", (x, p) -> x.teach(p, false));
        due.missingPaper("44: score", (x, p) -> x.score(p));
        due.refusedByBusy("43: taught, the same", Kit.UNSUPPORTED, x -> x.teach(1, true));
        due.refusedByBusy("43: taught, the other", Kit.UNSUPPORTED, x -> x.teach(1, false));
        due.refusedByBusy("43: taught as not fitting", Kit.UNSUPPORTED, x -> x.teach(4, true));
        due.refusedByBusy("43: bad", Kit.UNSUPPORTED, x -> x.teach(6, true));
        due.refusedByBusy("43: bad, not fitting", Kit.UNSUPPORTED, x -> x.teach(6, false));
        due.refused("43: taught and bad", Kit.UNSUPPORTED, () -> turnedBad(1), x -> x.teach(1, true));
    }

    private static Discoverhall turnedBad(int paper) {
        Discoverhall x = Halls.busy();
        x.bad(paper, true);
        return x;
    }

    private static void next() {
        due.refused("45: no papers", Kit.NO_ELEMENT, Discoverhall::new, x -> x.next());
        due.refused("45: all dropped", Kit.NO_ELEMENT, RefusedGivingTest::allDropped, x -> x.next());
        due.refused("45: all taught or bad", Kit.NO_ELEMENT, RefusedGivingTest::allTaughtOrBad, x -> x.next());
    }

    private static Discoverhall allDropped() {
        Discoverhall x = Kit.hallWith("a b", "c");
        x.drop(0);
        x.drop(1);
        return x;
    }

    private static Discoverhall allTaughtOrBad() {
        Discoverhall x = Kit.hallWith("a b", "c", "d");
        x.teach(0, true);
        x.teach(1, false);
        x.bad(2, true);
        return x;
    }

    private static void sampleOutOfRange() {
        due.missingTerm("46: term", (x, t) -> x.sample(5, 1, t, 1));
        due.outside("46: tag", 0, 5, (x, n) -> x.sample(n, 1, 0, 1));
        due.outside("46: many", 1, 20, (x, n) -> x.sample(5, n, 0, 1));
        for (int seed : new int[] {0, -1, Integer.MAX_VALUE, Integer.MIN_VALUE}) {
            due.refusedByBusy("46: seed " + seed, Kit.ARGUMENT, x -> x.sample(5, 1, 0, seed));
        }
    }

    private static void sampleInOrder() {
        due.missingTerm("46: term, and no such tag", (x, t) -> x.sample(6, 1, t, 1));
        due.missingTerm("46: term, and many", (x, t) -> x.sample(0, 21, t, 1));
        due.missingTerm("46: term, and seed", (x, t) -> x.sample(0, 1, t, 0));
        due.missingTerm("46: term, and not so many", (x, t) -> x.sample(0, 20, t, 1));
        due.refusedByBusy("46: not one more than there are", Kit.NO_ELEMENT, x -> x.sample(5, 12, 0, 1));
        due.refusedByBusy("46: not one more without a tag", Kit.NO_ELEMENT, x -> x.sample(0, 9, 0, 1));
        due.refusedByBusy("46: not so many, tag", Kit.ARGUMENT, x -> x.sample(6, 20, 0, 1));
        due.refusedByBusy("46: not so many, and more than 20", Kit.ARGUMENT, x -> x.sample(0, 21, 0, 1));
        due.refusedByBusy("46: not so many, seed", Kit.ARGUMENT, x -> x.sample(0, 20, 0, 0));
    }

    private static void sums() {
        due.refused("48: no papers", Kit.NO_ELEMENT, Discoverhall::new, x -> x.givenShare());
        due.refused("49: no papers", Kit.NO_ELEMENT, Discoverhall::new, x -> x.meanWords());
        due.refused("48: all dropped", Kit.NO_ELEMENT, RefusedGivingTest::allDropped, x -> x.givenShare());
        due.refused("49: all dropped", Kit.NO_ELEMENT, RefusedGivingTest::allDropped, x -> x.meanWords());
    }
}
