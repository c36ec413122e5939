/**
 * What is for good, and what ends: numbers, slips until they are replaced, locked pages, blacked out words, taught
 * counts, and what a drop takes back. Each sentence stands ahead of its test.
 */
public final class ForGoodTest {
    private static final Kit kit = new Kit();

    public static void main(String[] args) {
        numbers();
        numbersBehindEachOther();
        familiesByFirstPapers();
        slipsUntilReplaced();
        pagesUntilReplaced();
        lockedPages();
        lockedAlikeByThen();
        blackedOut();
        blackedOutByThen();
        blackedOutThoughBad();
        blackedOutOnSlips();
        taughtOnce();
        taughtCountsStay();
        nextOfSeveral();
        droppedPapers();
        droppedOnesOfAll();
        barsKeepBoth();
        leftOutOfSpreads();
        whoHadItAhead();
        versions();
        joinedFollow();
        toldPeople();
        rulings();
        holdsInPlace();
        kit.finish();
    }

    private static Discoverhall given(String... texts) {
        Discoverhall x = Kit.hallWith(texts);
        for (int paper = 0; paper < texts.length; paper++) {
            x.tag(paper, 0, true);
        }
        x.give(0);
        return x;
    }

    private static String shownText(Discoverhall x, int paper) {
        StringBuilder shown = new StringBuilder();
        Object sign = Kit.answerOf(() -> x.shown(paper, 0));
        while (sign instanceof Character) {
            shown.append(sign);
            sign = Kit.answerOf(() -> x.shown(paper, shown.length()));
        }
        return shown.toString();
    }

    /** "each given page has one number for ever" */
    private static void numbers() {
        Discoverhall x = given("a", "b", "a");
        kit.due("33: the second", 2, () -> x.number(1));
        x.tag(1, 0, false);
        kit.due("33: though its tag is taken", 2, () -> x.number(1));
        x.bad(1, true);
        kit.due("33: though it is bad", 2, () -> x.number(1));
        x.replace(1);
        kit.due("33: though it is a slip", 2, () -> x.number(1));
        x.bad(1, false);
        x.replace(1);
        kit.due("33: though it is replaced", 2, () -> x.number(1));
        x.tag(1, 3, true);
        kit.due("32: not another one", 0, () -> x.give(3));
        kit.due("33: though another tag is given", 2, () -> x.number(1));
        x.claw(1);
        kit.due("33: though it is locked", 2, () -> x.number(1));
        kit.due("32: not another one, though it is locked", 0, () -> x.give(3));
        kit.due("33: still", 2, () -> x.number(1));
        kit.due("5: cannot be dropped", Kit.UNSUPPORTED, () -> x.drop(1));
        kit.due("48: still given", 1.0f, () -> x.givenShare());
    }

    /** "one behind the other over all that was ever given: each of its papers that has none yet" */
    private static void numbersBehindEachOther() {
        Discoverhall x = Kit.hallWith("a", "b");
        Kit.addPart(x, "c", 0);
        x.tag(1, 0, true);
        kit.due("32: one", 1, () -> x.give(0));
        x.tag(2, 1, true);
        kit.due("32: two", 2, () -> x.give(1));
        Kit.addPart(x, "d", 1);
        Kit.addPart(x, "e", 0);
        kit.due("32: a new part", 1, () -> x.give(0));
        kit.due("32: another new part", 1, () -> x.give(1));
        int[] due = {2, 1, 3, 4, 5};
        for (int i = 0; i < due.length; i++) {
            int paper = i;
            kit.due("33: number of " + paper, due[paper], () -> x.number(paper));
        }
    }

    /** "goes through families by their first papers, in each by numbers" */
    private static void familiesByFirstPapers() {
        Discoverhall x = Kit.hallWith("a", "b", "c");
        Kit.addPart(x, "d", 2);
        Kit.addPart(x, "e", 0);
        Kit.addPart(x, "f", 1);
        Kit.addPart(x, "g", 4);
        x.tag(3, 0, true);
        x.tag(6, 0, true);
        kit.due("32: two families of three", 5, () -> x.give(0));
        Object[] due = {1, Kit.NO_ELEMENT, 4, 5, 2, Kit.NO_ELEMENT, 3};
        for (int i = 0; i < due.length; i++) {
            int paper = i;
            kit.due("33: number of " + paper, due[paper], () -> x.number(paper));
        }
    }

    /** "a slip stays one, also if a ruling changes, until the paper is replaced" */
    private static void slipsUntilReplaced() {
        Discoverhall x = Kit.hallWith("a", "a", "b", "c");
        x.rule(0, 'p');
        x.person(0, 'o');
        x.bad(3, true);
        Kit.addPart(x, "d", 3);
        for (int paper : new int[] {0, 1, 2, 4}) {
            x.tag(paper, 0, true);
        }
        x.give(0);
        boolean[] slips = {true, true, false, true, false};
        for (int i = 0; i < slips.length; i++) {
            int paper = i;
            kit.due("34: slip " + paper, slips[paper], () -> x.isSlip(paper));
        }
        x.rule(0, 'n');
        x.bad(3, false);
        for (int i = 0; i < slips.length; i++) {
            int paper = i;
            kit.due("34: still as given " + paper, slips[paper], () -> x.isSlip(paper));
        }
        kit.due("32: giving changes none", 0, () -> x.give(0));
        kit.due("34: still a slip", true, () -> x.isSlip(1));
        for (int paper : new int[] {0, 1, 3}) {
            kit.due("35: replaced " + paper, false, () -> x.replace(paper));
            kit.due("34: no slip any more " + paper, false, () -> x.isSlip(paper));
        }
        kit.due("38: what it is by now", 'c', () -> x.shown(3, 0));
    }

    /** "then it shows what it is by now" */
    private static void pagesUntilReplaced() {
        Discoverhall x = given("a", "a", "b");
        x.viewer(0, 0);
        x.rule(0, 'p');
        x.bad(2, true);
        kit.due("34: no slip yet", false, () -> x.isSlip(0));
        kit.due("38: shown yet", 'a', () -> x.shown(1, 0));
        kit.due("42: seen yet", true, () -> x.sees(0, 1));
        kit.due("35: alike to a privileged one", true, () -> x.replace(1));
        kit.due("34: the other one was not replaced", false, () -> x.isSlip(0));
        kit.due("42: seen no more", false, () -> x.sees(0, 1));
        kit.due("38: a slip", '!', () -> x.shown(1, 0));
        kit.due("35: bad", true, () -> x.replace(2));
        kit.due("35: again", true, () -> x.replace(2));
        x.rule(0, '-');
        x.bad(2, false);
        kit.due("38: a slip, though good", '!', () -> x.shown(2, 0));
        kit.due("35: good", false, () -> x.replace(2));
        kit.due("35: kept back no more", false, () -> x.replace(1));
        kit.due("42: seen again", true, () -> x.sees(0, 1));
        kit.due("38: shown again", 'a', () -> x.shown(1, 0));
    }

    /** "a locked one shows nothing any more" */
    private static void lockedPages() {
        Discoverhall x = given("a", "b");
        x.viewer(2, 9999);
        kit.due("36: one", 1, () -> x.claw(0));
        x.rule(0, 'n');
        x.bad(0, true);
        x.bad(0, false);
        x.tag(0, 1, true);
        x.give(1);
        kit.due("35: not replaced", Kit.UNSUPPORTED, () -> x.replace(0));
        kit.due("36: not locked twice", Kit.UNSUPPORTED, () -> x.claw(0));
        kit.due("38: shows nothing", Kit.NO_ELEMENT, () -> x.shown(0, 0));
        kit.due("42: not seen", false, () -> x.sees(0, 0));
        kit.due("34: was no slip", false, () -> x.isSlip(0));
        kit.due("38: another one", 'b', () -> x.shown(1, 0));
        kit.due("50: sound", true, () -> x.isSound());
    }

    /** "locked, with all given ones that are alike to it", "how many pages are locked by that" */
    private static void lockedAlikeByThen() {
        Discoverhall x = given("a b", "a b", "a  b", "b a", "a b");
        Kit.add(x, "a b");
        x.rule(2, 'p');
        x.replace(2);
        x.rule(2, '-');
        x.bad(4, true);
        kit.due("36: a slip too, no bad one, none that is not given", 3, () -> x.claw(1));
        kit.due("38: a locked slip", Kit.NO_ELEMENT, () -> x.shown(2, 0));
        kit.due("34: a slip all the same", true, () -> x.isSlip(2));
        kit.due("38: not alike", 'b', () -> x.shown(3, 0));
        kit.due("36: bad, alike to none", 1, () -> x.claw(4));
        x.bad(4, false);
        kit.due("36: stays locked", Kit.UNSUPPORTED, () -> x.claw(4));
        x.tag(5, 0, true);
        x.give(0);
        kit.due("36: those that are locked do not count", 1, () -> x.claw(5));
    }

    /** "each word that is like the typed one shows '#' for each letter, for good"; "it counts as a word all the same" */
    private static void blackedOut() {
        Discoverhall x = given(" cat  cats at cat ", "cat");
        kit.due("37: one of them", 1, () -> Kit.typed(x, "cat").black(0));
        kit.due("38: each one", " ###  cats at ### ", () -> shownText(x, 0));
        kit.due("38: not in one that is not alike", "cat", () -> shownText(x, 1));
        kit.due("37: again", 1, () -> Kit.typed(x, "cat").black(0));
        kit.due("37: another word", 1, () -> Kit.typed(x, " at ").black(0));
        kit.due("38: both", " ###  cats ## ### ", () -> shownText(x, 0));
        kit.due("37: none has it", 0, () -> Kit.typed(x, "ca").black(0));
        kit.due("38: as ahead", " ###  cats ## ### ", () -> shownText(x, 0));
        kit.due("35: replaced", false, () -> x.replace(0));
        kit.due("38: for good", " ###  cats ## ### ", () -> shownText(x, 0));
        kit.due("7: all words count", 4, () -> x.words(0));
        kit.due("11: alike", true, () -> x.areAlike(Kit.add(x, "cat cats at cat"), 0));
        Kit.typed(x, "cat").term('w', 0);
        kit.due("23: is hit", true, () -> x.isHit(0, 0));
        kit.due("43: is taught", 6, () -> x.teach(0, true));
        kit.due("14: has shingles", true, () -> x.areNear(0, 2, 100));
    }

    /** "in a paper, and all that are alike to it by then" */
    private static void blackedOutByThen() {
        Discoverhall x = Kit.hallWith("a b", "a  b", "a b", "b a");
        x.bad(2, true);
        kit.due("37: both", 2, () -> Kit.typed(x, "a").black(1));
        x.bad(2, false);
        Kit.add(x, "a b");
        for (int paper = 0; paper < 5; paper++) {
            x.tag(paper, 0, true);
        }
        x.give(0);
        String[] due = {"# b", "#  b", "a b", "b a", "a b"};
        for (int i = 0; i < due.length; i++) {
            int paper = i;
            kit.due("38: alike by then " + paper, due[paper], () -> shownText(x, paper));
        }
        kit.due("37: all have the word", 4, () -> Kit.typed(x, "a").black(0));
        kit.due("38: alike by now", "# b", () -> shownText(x, 2));
        kit.due("38: a later one by now", "# b", () -> shownText(x, 4));
    }

    /** "for good, also if a bad paper is good later" */
    private static void blackedOutThoughBad() {
        Discoverhall x = given("a b", "a b");
        Kit.typed(x, "a").black(0);
        x.bad(0, true);
        kit.due("37: no word in a bad one", 0, () -> Kit.typed(x, "b").black(0));
        kit.due("3: wiped all the same", 0, () -> x.wipe());
        x.bad(0, false);
        kit.due("38: good later", "# #", () -> shownText(x, 0));
        kit.due("38: the other one", "# b", () -> shownText(x, 1));
        x.bad(1, true);
        x.bad(1, false);
        kit.due("38: the other one, good later", "# b", () -> shownText(x, 1));
    }

    /** "'!' for each place of a slip" */
    private static void blackedOutOnSlips() {
        Discoverhall x = given("a b");
        x.rule(0, 'p');
        x.replace(0);
        kit.due("37: a slip has the word", 1, () -> Kit.typed(x, "a").black(0));
        kit.due("38: each place, blanks too", "!!!", () -> shownText(x, 0));
        x.rule(0, '-');
        x.replace(0);
        kit.due("38: no slip any more", "# b", () -> shownText(x, 0));
    }

    /** "It is taught papers, each once, as fitting or not: of each word of it, once" */
    private static void taughtOnce() {
        Discoverhall x = Kit.hallWith("a a b", "a c", "a");
        kit.due("43: each word once", 4, () -> x.teach(0, true));
        kit.due("43: not once more", Kit.UNSUPPORTED, () -> x.teach(0, true));
        kit.due("43: not as another", Kit.UNSUPPORTED, () -> x.teach(0, false));
        kit.due("43: twice less once, and once less", 0, () -> x.teach(1, false));
        kit.due("44: of both", 1, () -> x.score(2));
        kit.due("44: each unlike word", 3, () -> x.score(0));
        x.bad(0, true);
        x.bad(0, false);
        kit.due("43: not though it was bad", Kit.UNSUPPORTED, () -> x.teach(0, true));
    }

    /** "taught counts stay" */
    private static void taughtCountsStay() {
        Discoverhall x = Kit.hallWith("a b", "a c", "a b c");
        x.teach(0, true);
        x.teach(1, false);
        kit.due("44: of both", 2, () -> x.score(2));
        x.bad(0, true);
        kit.due("44: one is bad", 2, () -> x.score(2));
        kit.due("5: it is dropped", 2, () -> x.drop(0));
        kit.due("44: one is dropped", 2, () -> x.score(2));
        kit.due("5: both are dropped", 1, () -> x.drop(1));
        kit.due("44: both are dropped", 2, () -> x.score(2));
        kit.due("45: the last one", 2, () -> x.next());
        kit.due("43: the last one", 8, () -> x.teach(2, true));
    }

    /** "the greatest score of those not taught, and not bad, of several the lowest" */
    private static void nextOfSeveral() {
        Discoverhall x = Kit.hallWith("c", "a b", "a", "a", "b b", "d", "e");
        kit.due("45: all have none", 0, () -> x.next());
        x.teach(2, true);
        kit.due("45: the lowest of two", 1, () -> x.next());
        x.bad(1, true);
        kit.due("45: a bad one is left out", 3, () -> x.next());
        x.drop(3);
        kit.due("45: a dropped one is left out", 0, () -> x.next());
        x.teach(4, true);
        x.bad(1, false);
        kit.due("45: two words", 1, () -> x.next());
        x.teach(1, false);
        x.teach(0, false);
        x.teach(5, false);
        kit.due("45: the last one", 6, () -> x.next());
        x.bad(6, true);
        kit.due("45: none", Kit.NO_ELEMENT, () -> x.next());
        kit.due("45: one more", 7, () -> {
            Kit.add(x, "c");
            return x.next();
        });
    }

    /** "A dropped paper is as if it was never there, but its number is not used again" */
    private static void droppedPapers() {
        Discoverhall x = Kit.hallWith("a b", "a b", "c a b");
        Kit.addPart(x, "a b", 2);
        Kit.typed(x, "a").term('w', 0);
        x.rule(0, 'p');
        x.answer(2, 1);
        kit.due("31: by the first one", true, () -> x.isKept(1));
        kit.due("5: three are left", 3, () -> x.drop(0));
        kit.due("12: the first by now", 1, () -> x.first(3));
        kit.due("31: kept back no more", false, () -> x.isKept(1));
        kit.due("15: groups", 1, () -> x.groups(50));
        kit.due("22: hits", 3, () -> x.hits(0, false));
        kit.due("46: not so many", Kit.NO_ELEMENT, () -> x.sample(0, 4, 0, 1));
        kit.due("5: two are left", 2, () -> x.drop(3));
        kit.due("8: its family", 1, () -> x.family(2));
        kit.due("5: a part no more", 1, () -> x.drop(2));
        kit.due("18: its thread", 0, () -> x.lost(1));
        kit.due("5: answered no more", 0, () -> x.drop(1));
        kit.due("47: none", 7L, () -> x.checksum());
        kit.due("4: a new number", 4, () -> Kit.add(x, "a"));
        kit.due("5: none twice", Kit.INDEX, () -> x.drop(0));
    }

    /** "There is no such paper if it was dropped." and "as if it was never there" */
    private static void droppedOnesOfAll() {
        Discoverhall x = new Discoverhall();
        x.paper(0, 5, 0, 0, -1);
        x.paper(0, 5, 0, 0, -1);
        x.tag(0, 0, true);
        x.drop(0);
        kit.due("10: not held", 1, () -> x.hold(0, 5, 5));
        kit.due("27: has no tag to spread", 0, () -> x.spread(0, 'f'));
        kit.due("32: is not given", 0, () -> x.give(0));
        kit.due("13: no custodian", 1, () -> x.custodians(1));
        kit.due("45: not the next", 1, () -> x.next());
        kit.due("49: not of the mean", 0.0, () -> x.meanWords());
        x.hold(0, -1, -1);
        x.drop(1);
        kit.due("45: none", Kit.NO_ELEMENT, () -> x.next());
    }

    /** "papers that have both keep them", "A paper cannot get a tag that is barred by one that it has." */
    private static void barsKeepBoth() {
        Discoverhall x = Kit.hallWith("a", "b");
        x.tag(0, 1, true);
        x.tag(0, 4, true);
        x.bar(4, 1);
        kit.due("26: both", 18, () -> x.tags(0));
        kit.due("25: takes one", true, () -> x.tag(0, 1, false));
        kit.due("25: does not get it back", Kit.UNSUPPORTED, () -> x.tag(0, 1, true));
        kit.due("25: takes the other", true, () -> x.tag(0, 4, false));
        kit.due("25: gets the one", false, () -> x.tag(0, 1, true));
        kit.due("25: not the other", Kit.UNSUPPORTED, () -> x.tag(0, 4, true));
        kit.due("25: one that is not barred", false, () -> x.tag(0, 0, true));
        kit.due("25: another paper", false, () -> x.tag(1, 4, true));
        kit.due("26: all of it", 3, () -> x.tags(0));
    }

    /** "those that have a barring one are left out, and counted" */
    private static void leftOutOfSpreads() {
        Discoverhall x = Kit.hallWith("a", "a", "a", "a", "b");
        x.tag(1, 2, true);
        x.tag(2, 3, true);
        x.tag(4, 3, true);
        x.bar(3, 2);
        kit.due("27: two get it, one is left out", 201, () -> x.spread(2, 'a'));
        int[] tags = {4, 4, 8, 4, 8};
        for (int i = 0; i < tags.length; i++) {
            int paper = i;
            kit.due("26: tags of " + paper, tags[paper], () -> x.tags(paper));
        }
        kit.due("27: all others are left out", 3, () -> x.spread(3, 'a'));
    }

    /** "by numbers, by who had it ahead": who gets the tag does not spread it further */
    private static void whoHadItAhead() {
        Discoverhall x = Kit.hallWith("a", "b", "a");
        Kit.addPart(x, "b", 0);
        Kit.addPart(x, "c", 1);
        x.tag(2, 0, true);
        kit.due("27: to the one alike", 100, () -> x.spread(0, 'a'));
        kit.due("27: to the family of that", 100, () -> x.spread(0, 'f'));
        kit.due("27: to the one alike to that", 100, () -> x.spread(0, 'a'));
        kit.due("26: not yet", 0, () -> x.tags(4));
        kit.due("27: to its family", 100, () -> x.spread(0, 'f'));
        kit.due("26: all", 1, () -> x.tags(4));
    }

    /** "a version more, 1 at first" */
    private static void versions() {
        Discoverhall x = new Discoverhall();
        Kit.typed(x, "a").term('w', 0);
        Kit.typed(x, "a").term('p', 0);
        Kit.typed(x, "a b").term('n', 1);
        for (int version = 2; version < 20; version++) {
            int due = version;
            kit.due("21: w", due, () -> Kit.typed(x, "a").revise(0, 0));
            kit.due("21: refused", Kit.UNSUPPORTED, () -> x.revise(0, 0));
        }
        kit.due("21: p by itself", 2, () -> Kit.typed(x, "a").revise(1, 0));
        kit.due("21: n by itself", 2, () -> Kit.typed(x, "a b").revise(2, 1));
        kit.due("3: wiped", 0, () -> x.wipe());
    }

    /** "those that are made of it follow" */
    private static void joinedFollow() {
        Discoverhall x = Kit.hallWith("a", "b", "a b");
        Kit.typed(x, "a").term('w', 0);
        Kit.typed(x, "b").term('w', 0);
        x.joined('a', 0, 1);
        x.joined('o', 0, 1);
        x.joined('t', 2, 0);
        x.joined('a', 4, 3);
        int[] before = {2, 2, 1, 3, 2, 2};
        int[] after = {0, 2, 0, 2, 3, 2};
        for (int i = 0; i < before.length; i++) {
            int term = i;
            kit.due("22: ahead, term " + term, before[term], () -> x.hits(term, false));
        }
        Kit.typed(x, "c").revise(0, 0);
        for (int i = 0; i < after.length; i++) {
            int term = i;
            kit.due("22: behind, term " + term, after[term], () -> x.hits(term, false));
        }
        kit.due("50: follow", true, () -> x.isSound());
    }

    /** "who is told the one is not the other any more" */
    private static void toldPeople() {
        Discoverhall x = Kit.hallWith("a");
        char[] kinds = {'l', 'o', 'l', '-', 'o', '-', '-', 'l', 'l', 'o', 'o'};
        char before = '-';
        for (char kind : kinds) {
            char due = before;
            kit.due("28: what they were", due, () -> x.person(0, kind));
            kit.due("30: by " + kind, kind == 'l', () -> x.isPrivileged(0));
            before = kind;
        }
    }

    /** "a ruling can tell a paper privileged or not, whatever this says" */
    private static void rulings() {
        for (char kind : new char[] {'l', 'o', '-'}) {
            Discoverhall x = Kit.hallWith("a");
            x.person(0, kind);
            kit.due("29: none", '-', () -> x.rule(0, 'p'));
            kit.due("30: ruled, by " + kind, true, () -> x.isPrivileged(0));
            kit.due("29: it was", 'p', () -> x.rule(0, 'n'));
            kit.due("30: ruled not, by " + kind, false, () -> x.isPrivileged(0));
            kit.due("31: ruled not, by " + kind, false, () -> x.isKept(0));
            kit.due("29: it was not", 'n', () -> x.rule(0, '-'));
            kit.due("30: not ruled, by " + kind, kind == 'l', () -> x.isPrivileged(0));
        }
    }

    /** "in place of other days", "of all custodians" */
    private static void holdsInPlace() {
        Discoverhall x = new Discoverhall();
        for (int custodian = 0; custodian < 6; custodian++) {
            x.paper(custodian, 1, 0, 0, -1);
            x.paper(custodian, 2, 0, 0, -1);
        }
        for (int i = 0; i < 6; i++) {
            int custodian = i;
            kit.due("10: one day of " + custodian, custodian + 1, () -> x.hold(custodian, 1, 1));
        }
        kit.due("10: both days", 7, () -> x.hold(3, 1, 2));
        kit.due("10: the other day", 6, () -> x.hold(3, 2, 2));
        kit.due("5: held by now", Kit.UNSUPPORTED, () -> x.drop(7));
        kit.due("5: held no more", 11, () -> x.drop(6));
        for (int i = 0; i < 6; i++) {
            int custodian = i;
            kit.due("10: ended of " + custodian, 5 - custodian, () -> x.hold(custodian, -1, -1));
        }
        kit.due("5: not held", 10, () -> x.drop(7));
    }
}
