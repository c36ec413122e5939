import java.util.ArrayList;
import java.util.List;
import java.util.Objects;

/** All that a hall answers, asked of halls that are made anew, so that none is used for more than 512 calls. */
final class Probes {
    private static final int ASKED_PER_HALL = 300;
    private static final int PLACES = 9;
    private static final int[] PAPERS = {0, 1, 2, 3, 4, 5, 6, 7, 8, 9, 10, 11, 12, 13, 38, 39};
    private static final List<Probe> LOOKS = looks();
    private static final List<Probe> TOUCHES = touches();

    interface Make {
        Discoverhall hall();
    }

    interface Ask {
        Object on(Discoverhall x);
    }

    private static final class Probe {
        final String name;
        final Ask ask;

        Probe(String name, Ask ask) {
            this.name = name;
            this.ask = ask;
        }
    }

    private Probes() {
    }

    /** What is answered in another way if a call was made ahead: empty if nothing. */
    static String differenceBy(Make make, Ask call) {
        for (int from = 0; from < LOOKS.size(); from += ASKED_PER_HALL) {
            int end = Math.min(from + ASKED_PER_HALL, LOOKS.size());
            String difference = difference(LOOKS.subList(from, end), make, call);
            if (!difference.isEmpty()) {
                return difference;
            }
        }
        return difference(TOUCHES, make, call);
    }

    private static String difference(List<Probe> probes, Make make, Ask call) {
        Discoverhall without = make.hall();
        Discoverhall with = make.hall();
        Kit.answerOf(() -> call.on(with));
        for (Probe probe : probes) {
            Object due = Kit.answerOf(() -> probe.ask.on(without));
            Object got = Kit.answerOf(() -> probe.ask.on(with));
            if (!Objects.equals(due, got)) {
                return probe.name + " answers " + got + ", due is " + due;
            }
        }
        return "";
    }

    /** The calls that only look. */
    private static List<Probe> looks() {
        List<Probe> looks = new ArrayList<>();
        looks.add(new Probe("next", x -> x.next()));
        looks.add(new Probe("checksum", x -> x.checksum()));
        looks.add(new Probe("givenShare", x -> x.givenShare()));
        looks.add(new Probe("meanWords", x -> x.meanWords()));
        looks.add(new Probe("isSound", x -> x.isSound()));
        for (int hundredths : new int[] {1, 33, 50, 100}) {
            looks.add(new Probe("groups " + hundredths, x -> x.groups(hundredths)));
        }
        for (int paper : PAPERS) {
            addLooksAt(looks, paper);
        }
        for (int term = 0; term < 8; term++) {
            addLooksAtTerm(looks, term);
        }
        for (int viewer = 0; viewer < 4; viewer++) {
            addLooksOf(looks, viewer);
        }
        return looks;
    }

    private static void addLooksAt(List<Probe> looks, int paper) {
        looks.add(new Probe("words " + paper, x -> x.words(paper)));
        looks.add(new Probe("family " + paper, x -> x.family(paper)));
        looks.add(new Probe("head " + paper, x -> x.head(paper)));
        looks.add(new Probe("first " + paper, x -> x.first(paper)));
        looks.add(new Probe("custodians " + paper, x -> x.custodians(paper)));
        looks.add(new Probe("lost " + paper, x -> x.lost(paper)));
        looks.add(new Probe("tags " + paper, x -> x.tags(paper)));
        looks.add(new Probe("isPrivileged " + paper, x -> x.isPrivileged(paper)));
        looks.add(new Probe("isKept " + paper, x -> x.isKept(paper)));
        looks.add(new Probe("number " + paper, x -> x.number(paper)));
        looks.add(new Probe("isSlip " + paper, x -> x.isSlip(paper)));
        looks.add(new Probe("score " + paper, x -> x.score(paper)));
        addSigns(looks, paper);
        for (int other : PAPERS) {
            String both = " " + paper + " " + other;
            looks.add(new Probe("areAlike" + both, x -> x.areAlike(paper, other)));
            looks.add(new Probe("areNear" + both, x -> x.areNear(paper, other, 50)));
            looks.add(new Probe("includes" + both, x -> x.includes(paper, other)));
        }
    }

    private static void addSigns(List<Probe> probes, int paper) {
        for (int at = 0; at < PLACES; at++) {
            int place = at;
            probes.add(new Probe("shown " + paper + " " + place, x -> x.shown(paper, place)));
        }
    }

    private static void addLooksAtTerm(List<Probe> looks, int term) {
        looks.add(new Probe("hits " + term, x -> x.hits(term, false)));
        looks.add(new Probe("hits with families " + term, x -> x.hits(term, true)));
        looks.add(new Probe("sample " + term, x -> x.sample(0, 3, term, 7)));
        for (int paper : PAPERS) {
            looks.add(new Probe("isHit " + term + " " + paper, x -> x.isHit(term, paper)));
        }
    }

    private static void addLooksOf(List<Probe> looks, int viewer) {
        for (int paper : PAPERS) {
            looks.add(new Probe("sees " + viewer + " " + paper, x -> x.sees(viewer, paper)));
        }
    }

    /** Calls that change something, and tell by that what only looking would not. */
    private static List<Probe> touches() {
        List<Probe> touches = new ArrayList<>();
        touches.add(new Probe("type", x -> x.type('q')));
        touches.add(new Probe("paper", x -> x.paper(1, 6, 0, 0, -1)));
        touches.add(new Probe("wipe", x -> x.wipe()));
        for (int at = 0; at < 6; at++) {
            int custodian = at;
            touches.add(new Probe("hold " + custodian, x -> x.hold(custodian, -1, -1)));
        }
        for (int at = 0; at < 10; at++) {
            int person = at;
            touches.add(new Probe("person " + person, x -> x.person(person, '-')));
        }
        touches.add(new Probe("day", x -> x.day(0)));
        touches.add(new Probe("viewer", x -> x.viewer(0, 0)));
        addBars(touches);
        addTerms(touches);
        for (int paper : PAPERS) {
            touches.add(new Probe("rule " + paper, x -> x.rule(paper, '-')));
            touches.add(new Probe("level " + paper, x -> x.level(paper, 0)));
            touches.add(new Probe("answer " + paper, x -> x.answer(paper, 0)));
            touches.add(new Probe("teach " + paper, x -> x.teach(paper, true)));
            touches.add(new Probe("bad " + paper, x -> x.bad(paper, false)));
            touches.add(new Probe("tag " + paper, x -> x.tag(paper, 5, true)));
        }
        touches.add(new Probe("give", x -> x.give(5)));
        for (int paper : new int[] {1, 4, 6, 12, 38}) {
            touches.add(new Probe("number " + paper + " at last", x -> x.number(paper)));
            addSigns(touches, paper);
        }
        touches.add(new Probe("drop", x -> x.drop(11)));
        return touches;
    }

    private static void addBars(List<Probe> touches) {
        for (int at = 0; at < 6; at++) {
            for (int beside = 0; beside < at; beside++) {
                int tag = at;
                int other = beside;
                touches.add(new Probe("bar " + tag + " " + other, x -> x.bar(tag, other)));
            }
        }
    }

    private static void addTerms(List<Probe> touches) {
        touches.add(new Probe("joined", x -> x.joined('o', 0, 1)));
        touches.add(new Probe("revise 0", x -> Kit.typed(x, "d").revise(0, 0)));
        touches.add(new Probe("revise 1", x -> Kit.typed(x, "d").revise(1, 0)));
        touches.add(new Probe("wipe behind", x -> x.wipe()));
        touches.add(new Probe("revise 2", x -> Kit.typed(x, "d a").revise(2, 2)));
        touches.add(new Probe("wipe at last", x -> x.wipe()));
        touches.add(new Probe("hits of the joined one", x -> x.hits(6, true)));
    }
}
