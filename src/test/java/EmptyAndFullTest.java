import java.math.BigInteger;
import java.util.ArrayList;
import java.util.List;

/**
 * The empty and the full: a hall without anything, papers without words, bad ones, a family and a thread of one, halls
 * in which nothing has room, and sums that wrap around. Each sentence stands ahead of its test.
 */
public final class EmptyAndFullTest {
    private static final Kit kit = new Kit();
    private static final String THIRTY = "a b c d e f g h i j k l m n o p q r s t u v w x y z a b c d";

    public static void main(String[] args) {
        newHall();
        nothingTyped();
        withoutWords();
        withoutWordsInTerms();
        includingWithoutWords();
        badOne();
        badPage();
        familyOfOne();
        threadOfOne();
        firstOfAll();
        shingles();
        groups();
        fullFamily();
        fullThread();
        longestThread();
        fullOfAlike();
        fullPages();
        fullSpread();
        sameTermTwice();
        longWords();
        allPeople();
        checksumWrapsAround();
        sampleDoesNotWrap();
        scores();
        sharesAndMeans();
        kit.finish();
    }

    /** "Creates a hall without papers, terms and viewers." */
    private static void newHall() {
        Discoverhall x = new Discoverhall();
        kit.due("3: nothing typed", 0, () -> x.wipe());
        kit.due("10: none held", 0, () -> x.hold(0, 0, 9999));
        kit.due("15: no groups", 0, () -> x.groups(1));
        kit.due("27: nobody has it", 0, () -> x.spread(0, 'a'));
        kit.due("32: nothing to give", 0, () -> x.give(0));
        kit.due("41: day 0", 0, () -> x.day(0));
        kit.due("47: 7 at first", 7L, () -> x.checksum());
        kit.due("45: no next", Kit.NO_ELEMENT, () -> x.next());
        kit.due("48: no share", Kit.NO_ELEMENT, () -> x.givenShare());
        kit.due("49: no mean", Kit.NO_ELEMENT, () -> x.meanWords());
        kit.due("50: sound", true, () -> x.isSound());
        for (int person = 0; person < 10; person++) {
            int who = person;
            kit.due("28: neither", '-', () -> x.person(who, '-'));
        }
        kit.due("24: no pairs", 1, () -> x.bar(0, 1));
        kit.due("39: no viewers", 0, () -> x.viewer(0, 0));
        kit.due("19: no terms", 0, () -> Kit.typed(x, "a").term('w', 0));
        kit.due("22: no hits", 0, () -> x.hits(0, false));
        kit.due("22: no hits with families", 0, () -> x.hits(0, true));
        kit.due("4: no papers", 0, () -> x.paper(0, 0, 0, 0, -1));
    }

    /** "if not one word is typed, or two by 'n'", "the longest rows of letters" */
    private static void nothingTyped() {
        for (String text : new String[] {"", " ", "    "}) {
            Discoverhall x = Kit.hallWith("a");
            Kit.typed(x, "a").term('w', 0);
            Kit.typed(x, text);
            kit.due("19: w of nothing", Kit.UNSUPPORTED, () -> x.term('w', 1));
            kit.due("19: p of nothing", Kit.UNSUPPORTED, () -> x.term('p', 1));
            kit.due("19: n of nothing", Kit.UNSUPPORTED, () -> x.term('n', 1));
            kit.due("21: by nothing", Kit.UNSUPPORTED, () -> x.revise(0, 1));
            kit.due("37: by nothing", Kit.UNSUPPORTED, () -> x.black(0));
            kit.due("4: a paper takes nothing", 1, () -> x.paper(0, 0, 0, 0, -1));
            kit.due("7: of nothing", 0, () -> x.words(1));
        }
        int[] counts = {1, 1, 2, 2, 30};
        String[] texts = {"a", "  abc  ", "a b", " ab   cd ", THIRTY};
        for (int i = 0; i < texts.length; i++) {
            String text = texts[i];
            Discoverhall x = Kit.hallWith("q", text);
            kit.due("7: of '" + text + "'", counts[i], () -> x.words(1));
        }
    }

    /** "without words never, but each with itself" */
    private static void withoutWords() {
        Discoverhall x = new Discoverhall();
        Kit.typed(x, "").paper(0, 0, 0, 0, -1);
        Kit.typed(x, "   ").paper(1, 0, 0, 0, -1);
        Kit.typed(x, "   ").paper(2, 0, 0, 0, -1);
        for (int i = 0; i < 3; i++) {
            int paper = i;
            int other = (i + 1) % 3;
            kit.due("7: no words", 0, () -> x.words(paper));
            kit.due("11: with itself", true, () -> x.areAlike(paper, paper));
            kit.due("11: with another", false, () -> x.areAlike(paper, other));
            kit.due("12: itself", paper, () -> x.first(paper));
            kit.due("13: its own", 1 << paper, () -> x.custodians(paper));
            kit.due("14: not near to itself", false, () -> x.areNear(paper, paper, 1));
            kit.due("44: no score", 0, () -> x.score(paper));
        }
        x.rule(1, 'p');
        kit.due("31: by itself", true, () -> x.isKept(1));
        kit.due("31: not by another", false, () -> x.isKept(2));
        x.tag(1, 0, true);
        kit.due("27: to no other", 0, () -> x.spread(0, 'a'));
        kit.due("32: one page", 1, () -> x.give(0));
        kit.due("38: a slip of blanks", '!', () -> x.shown(1, 2));
        kit.due("38: behind them", Kit.NO_ELEMENT, () -> x.shown(1, 3));
        kit.due("37: no word in it", 0, () -> Kit.typed(x, "a").black(1));
        x.rule(1, 'n');
        x.replace(1);
        kit.due("38: a blank", ' ', () -> x.shown(1, 0));
        x.tag(0, 1, true);
        kit.due("32: one page more", 1, () -> x.give(1));
        kit.due("38: no place", Kit.NO_ELEMENT, () -> x.shown(0, 0));
        kit.due("36: one page", 1, () -> x.claw(1));
        kit.due("43: no word to be taught", 0, () -> x.teach(2, true));
        kit.due("49: no words", 0.0, () -> x.meanWords());
    }

    /** "those not of one": also those without words */
    private static void withoutWordsInTerms() {
        Discoverhall x = Kit.hallWith("", "a");
        Kit.typed(x, "a").term('w', 0);
        Kit.typed(x, "a").term('p', 0);
        Kit.typed(x, "a a").term('n', 9);
        x.joined('a', 0, 1);
        x.joined('o', 0, 2);
        x.joined('t', 0, 0);
        boolean[] without = {false, false, false, false, false, true};
        boolean[] with = {true, true, false, true, true, false};
        for (int i = 0; i < 6; i++) {
            int term = i;
            kit.due("23: without words, term " + term, without[term], () -> x.isHit(term, 0));
            kit.due("23: one word, term " + term, with[term], () -> x.isHit(term, 1));
        }
    }

    /** "one word at least of its own being ahead, all words of one without words being there" */
    private static void includingWithoutWords() {
        String[][] pairs = {{"", "a", "true"}, {"", "", "false"}, {"", "  ", "false"}, {"  ", "a b", "true"},
            {"a", "a", "false"}, {"a", "b a", "true"}, {"a", "a b", "false"}, {"a b", "b", "false"},
            {"a b", "c b", "false"}, {"a b", "a a b", "true"}, {"a b", "a a", "false"}, {"a b", "a b c", "false"},
            {"a b", "ca b", "false"}, {"a b", "c xa b", "false"}};
        for (String[] pair : pairs) {
            Discoverhall x = Kit.hallWith(pair[0], pair[1]);
            kit.due("17: ahead of an answer", false, () -> x.includes(1, 0));
            x.answer(1, 0);
            boolean due = pair[2].equals("true");
            kit.due("17: '" + pair[1] + "' answers '" + pair[0] + "'", due, () -> x.includes(1, 0));
            kit.due("17: the other way", false, () -> x.includes(0, 1));
            kit.due("18: '" + pair[1] + "' answers '" + pair[0] + "'", due ? 0 : 1, () -> x.lost(0));
        }
    }

    /** "they have no text, though they take it; it is read as empty as long as they are" */
    private static void badOne() {
        Discoverhall x = Kit.hallWith("a b", "a b", "c a b");
        Kit.typed(x, "a").term('w', 0);
        x.answer(2, 1);
        x.bad(1, true);
        kit.due("7: empty", 0, () -> x.words(1));
        kit.due("11: as without words", false, () -> x.areAlike(0, 1));
        kit.due("11: with itself", true, () -> x.areAlike(1, 1));
        kit.due("12: itself", 1, () -> x.first(1));
        kit.due("14: no shingles", false, () -> x.areNear(1, 1, 1));
        kit.due("15: its own group", 2, () -> x.groups(50));
        kit.due("17: all words of it are there", true, () -> x.includes(2, 1));
        kit.due("23: no hit", false, () -> x.isHit(0, 1));
        kit.due("44: no score", 0, () -> x.score(1));
        kit.due("43: not to be taught", Kit.UNSUPPORTED, () -> x.teach(1, true));
        kit.due("49: no words of it", 5.0 / 3.0, () -> x.meanWords());
        kit.due("6: it was", true, () -> x.bad(1, false));
        kit.due("7: its text again", 2, () -> x.words(1));
        kit.due("11: alike again", true, () -> x.areAlike(0, 1));
        kit.due("12: the first again", 0, () -> x.first(1));
        kit.due("14: near again", true, () -> x.areNear(0, 1, 100));
        kit.due("15: one group again", 1, () -> x.groups(50));
        kit.due("23: a hit again", true, () -> x.isHit(0, 1));
    }

    /** "a bad one has no place", "those that are kept back, or bad, as slips" */
    private static void badPage() {
        Discoverhall x = Kit.hallWith("a", "b");
        Kit.addPart(x, "c", 1);
        x.tag(0, 0, true);
        x.tag(1, 0, true);
        x.bad(0, true);
        x.bad(2, true);
        kit.due("32: a family with a good one alone", 2, () -> x.give(0));
        kit.due("33: bad alone", Kit.NO_ELEMENT, () -> x.number(0));
        kit.due("34: a good one", false, () -> x.isSlip(1));
        kit.due("34: a bad one", true, () -> x.isSlip(2));
        kit.due("38: no place in a bad slip", Kit.NO_ELEMENT, () -> x.shown(2, 0));
        x.bad(1, true);
        kit.due("38: no place in a bad page", Kit.NO_ELEMENT, () -> x.shown(1, 0));
        x.bad(1, false);
        kit.due("38: good again", 'b', () -> x.shown(1, 0));
        x.tag(2, 3, true);
        Kit.addPart(x, "d", 1);
        kit.due("32: the one that has the tag is bad, others of its family are good", 0, () -> x.give(3));
        kit.due("33: not given by that", Kit.NO_ELEMENT, () -> x.number(3));
        x.bad(2, false);
        kit.due("32: it is good now", 1, () -> x.give(3));
        x.bad(0, false);
        kit.due("32: good now", 1, () -> x.give(0));
        kit.due("34: no slip", false, () -> x.isSlip(0));
    }

    /** "A family is a paper that is part of none, with all that are parts of it" */
    private static void familyOfOne() {
        Discoverhall x = Kit.hallWith("a", "a", "b");
        kit.due("8: one", 1, () -> x.family(1));
        kit.due("9: itself", 1, () -> x.head(1));
        x.tag(1, 0, true);
        kit.due("27: to no other", 0, () -> x.spread(0, 'f'));
        Kit.typed(x, "b").term('w', 0);
        kit.due("22: with families", 1, () -> x.hits(0, true));
        kit.due("32: one page", 1, () -> x.give(0));
        kit.due("8: two", 2, () -> {
            Kit.addPart(x, "b", 0);
            return x.family(0);
        });
        kit.due("22: with the family of two", 3, () -> x.hits(0, true));
        x.drop(3);
        kit.due("8: one again", 1, () -> x.family(0));
        kit.due("22: as ahead", 1, () -> x.hits(0, true));
    }

    /** "threads: all that hang together by answers", "but those that no paper of it answers" */
    private static void threadOfOne() {
        Discoverhall x = Kit.hallWith("a", "b", "c");
        kit.due("18: of one", 0, () -> x.lost(0));
        kit.due("16: of two", 2, () -> x.answer(1, 0));
        kit.due("18: of two", 1, () -> x.lost(0));
        kit.due("18: of two, the other", 1, () -> x.lost(1));
        kit.due("18: another of one", 0, () -> x.lost(2));
        kit.due("16: of three", 3, () -> x.answer(2, 0));
        kit.due("18: two ends", 1, () -> x.lost(2));
        x.drop(1);
        kit.due("18: one end", 1, () -> x.lost(0));
        x.drop(2);
        kit.due("18: of one again", 0, () -> x.lost(0));
        kit.due("5: answered no more", 0, () -> x.drop(0));
    }

    /** "The first of those alike is that with the lowest number." */
    private static void firstOfAll() {
        Discoverhall x = new Discoverhall();
        for (int i = 0; i < 40; i++) {
            Kit.typed(x, "a").paper(i % 6, 39 - i, 0, 0, -1);
        }
        kit.due("12: of the last", 0, () -> x.first(39));
        kit.due("13: all of them", 63, () -> x.custodians(39));
        for (int i = 0; i < 39; i++) {
            int paper = i;
            x.drop(paper);
            kit.due("12: the lowest that is left", paper + 1, () -> x.first(39));
        }
        kit.due("13: of one", 1 << 39 % 6, () -> x.custodians(39));
    }

    /** "all its rows of 2 words behind each other, each once", "if both have shingles" */
    private static void shingles() {
        Discoverhall x = Kit.hallWith("", "a", "a b", "a a", "a a a a a a", "a b a b a b", THIRTY, THIRTY + " ");
        boolean[] has = {false, false, true, true, true, true, true, true};
        for (int i = 0; i < has.length; i++) {
            int paper = i;
            kit.due("14: itself " + paper, has[paper], () -> x.areNear(paper, paper, 100));
            kit.due("14: none " + paper, false, () -> x.areNear(0, paper, 1));
            kit.due("14: one word " + paper, false, () -> x.areNear(paper, 1, 1));
        }
        kit.due("14: each once", true, () -> x.areNear(3, 4, 100));
        kit.due("14: 1 of 2", true, () -> x.areNear(2, 5, 50));
        kit.due("14: not 51 hundredths", false, () -> x.areNear(2, 5, 51));
        kit.due("14: 30 words", true, () -> x.areNear(6, 7, 100));
        // 29 rows in 30 words, of which the last three stand ahead too: 26 unlike ones.
        kit.due("14: 1 of 26", true, () -> x.areNear(2, 6, 3));
        kit.due("14: not 4 hundredths", false, () -> x.areNear(2, 6, 4));
    }

    /** "one that is near to no other is a group" */
    private static void groups() {
        Discoverhall x = new Discoverhall();
        for (int i = 0; i < 40; i++) {
            int papers = i + 1;
            Kit.add(x, i % 2 == 0 ? "" : "a");
            kit.due("15: each is one", papers, () -> x.groups(1));
        }
        Discoverhall same = new Discoverhall();
        Discoverhall pairs = new Discoverhall();
        for (int i = 0; i < 40; i++) {
            Kit.add(same, "a b");
            int letter = i / 2 % 20;
            Kit.add(pairs, "x " + (char) ('a' + letter));
            int papers = i / 2 + 1;
            kit.due("15: all are one", 1, () -> same.groups(100));
            kit.due("15: two by two", papers, () -> pairs.groups(100));
        }
        Discoverhall row = new Discoverhall();
        for (int i = 0; i < 24; i++) {
            Kit.add(row, (char) ('a' + i) + " " + (char) ('b' + i) + " " + (char) ('c' + i));
        }
        kit.due("15: a row hangs together", 1, () -> row.groups(33));
        kit.due("15: none hang together", 24, () -> row.groups(34));
        row.drop(12);
        kit.due("15: a row with a gap", 2, () -> row.groups(33));
        Discoverhall late = Kit.hallWith("a b", "x y", "c d", "a b", "c d", "x y", "a b", "a b c d", "c d");
        kit.due("15: two of three hang together by a later one", 2, () -> late.groups(33));
        late.drop(7);
        kit.due("15: three without it", 3, () -> late.groups(33));
    }

    /** "with all that are parts of it, of these, and so on" */
    private static void fullFamily() {
        Discoverhall x = Kit.hallWith("a");
        for (int i = 1; i < 40; i++) {
            int whole = i < 4 ? i - 1 : 2 - i % 3;
            Kit.addPart(x, i == 39 ? "b" : "", whole);
        }
        for (int i = 0; i < 40; i++) {
            int paper = i;
            kit.due("8: all of them", 40, () -> x.family(paper));
            kit.due("9: the head", 0, () -> x.head(paper));
        }
        Kit.typed(x, "b").term('w', 0);
        kit.due("22: one alone", 1, () -> x.hits(0, false));
        kit.due("22: all of its family", 40, () -> x.hits(0, true));
        Kit.typed(x, "a").term('w', 0);
        x.joined('o', 0, 1);
        x.joined('t', 0, 0);
        kit.due("22: two of its family, each paper once", 40, () -> x.hits(2, true));
        kit.due("22: all but one of its family, each paper once", 40, () -> x.hits(3, true));
        x.tag(39, 0, true);
        kit.due("32: all of its family", 40, () -> x.give(0));
        for (int i = 0; i < 40; i++) {
            int paper = i;
            kit.due("33: by numbers", paper + 1, () -> x.number(paper));
        }
    }

    /** "What is lost of a thread are papers of it that no other one of it includes" */
    private static void fullThread() {
        Discoverhall star = Kit.hallWith("a");
        Discoverhall row = Kit.hallWith("a");
        for (int i = 1; i < 40; i++) {
            int paper = i;
            Kit.add(star, "b");
            Kit.add(row, "b");
            kit.due("16: to the first", paper + 1, () -> star.answer(paper, 0));
            kit.due("18: the first alone", 1, () -> star.lost(paper));
            kit.due("16: to the one ahead", paper + 1, () -> row.answer(paper, paper - 1));
            kit.due("18: all but the last", paper, () -> row.lost(0));
        }
    }

    /** "and so what that one includes" */
    private static void longestThread() {
        Discoverhall x = Kit.hallWith("");
        for (int words = 1; words <= 16; words++) {
            int paper = words;
            Kit.add(x, THIRTY.substring(60 - 2 * words));
            x.answer(paper, paper - 1);
            kit.due("7: a word more", paper, () -> x.words(paper));
            kit.due("17: the one ahead", true, () -> x.includes(paper, paper - 1));
            kit.due("17: all ahead", true, () -> x.includes(paper, 0));
            kit.due("17: not itself", false, () -> x.includes(paper, paper));
            kit.due("18: nothing", 0, () -> x.lost(paper));
        }
        x.bad(8, true);
        kit.due("17: past a bad one", false, () -> x.includes(16, 7));
        kit.due("17: up to a bad one", true, () -> x.includes(16, 8));
        kit.due("17: ahead of a bad one", true, () -> x.includes(7, 0));
        kit.due("18: the one ahead of a bad one", 1, () -> x.lost(0));
    }

    /** "with all given ones that are alike to it", "a paper, and all that are alike to it by then" */
    private static void fullOfAlike() {
        Discoverhall x = new Discoverhall();
        for (int i = 0; i < 40; i++) {
            Kit.add(x, "a b");
            x.tag(i, 0, i % 2 == 0);
        }
        x.rule(39, 'p');
        kit.due("31: by the last one", true, () -> x.isKept(0));
        kit.due("32: those with the tag", 20, () -> x.give(0));
        kit.due("37: all of them", 40, () -> Kit.typed(x, "b").black(7));
        kit.due("36: all given ones", 20, () -> x.claw(38));
        kit.due("27: all others", 2000, () -> x.spread(0, 'a'));
        kit.due("32: all others", 20, () -> x.give(0));
        kit.due("36: all others", 20, () -> x.claw(1));
        kit.due("36: none is left", Kit.UNSUPPORTED, () -> x.claw(0));
    }

    /** "from 1 on, one behind the other over all that was ever given" */
    private static void fullPages() {
        Discoverhall x = new Discoverhall();
        for (int i = 0; i < 40; i++) {
            Kit.add(x, "");
        }
        for (int i = 39; i >= 0; i--) {
            int paper = i;
            x.tag(paper, 5, true);
            kit.due("32: one more", 1, () -> x.give(5));
            kit.due("33: one behind the other", 40 - paper, () -> x.number(paper));
        }
        kit.due("32: none is left", 0, () -> x.give(5));
        kit.due("48: all of them", 1.0f, () -> x.givenShare());
    }

    /** "100 times how many get it, plus how many are left out" */
    private static void fullSpread() {
        for (char way : new char[] {'f', 'a'}) {
            Discoverhall x = Kit.hallWith("a");
            for (int i = 1; i < 40; i++) {
                Kit.addPart(x, "a", 0);
            }
            x.tag(20, 3, true);
            for (int i = 21; i < 40; i++) {
                x.tag(i, 4, true);
            }
            x.bar(4, 3);
            kit.due("27: the others, by " + way, 2019, () -> x.spread(3, way));
            kit.due("27: none more, by " + way, 19, () -> x.spread(3, way));
            kit.due("27: all left out, by " + way, 21, () -> x.spread(4, way));
            kit.due("27: all, by " + way, 3900, () -> {
                x.tag(39, 0, true);
                return x.spread(0, way);
            });
        }
    }

    /** "another one, or the same" */
    private static void sameTermTwice() {
        Discoverhall x = Kit.hallWith("a", "b", "");
        Kit.typed(x, "a").term('w', 0);
        kit.due("20: both the same", 1, () -> x.joined('a', 0, 0));
        kit.due("20: either the same", 2, () -> x.joined('o', 0, 0));
        kit.due("20: not", 3, () -> x.joined('t', 0, 0));
        kit.due("20: a term and its opposite", 4, () -> x.joined('a', 0, 3));
        kit.due("20: a term or its opposite", 5, () -> x.joined('o', 3, 0));
        int[] hits = {1, 1, 1, 2, 0, 3};
        for (int i = 0; i < hits.length; i++) {
            int term = i;
            kit.due("22: hits of " + term, hits[term], () -> x.hits(term, false));
        }
    }

    /** "a word that begins with the typed one" */
    private static void longWords() {
        String letters = "ab".repeat(30);
        Discoverhall x = Kit.hallWith(letters, letters.substring(1), letters.substring(0, 59), "ab ab", "x ab", "xab");
        Kit.typed(x, letters).term('p', 0);
        Kit.typed(x, letters.substring(0, 59)).term('p', 0);
        Kit.typed(x, "ab").term('p', 0);
        Kit.typed(x, letters).term('w', 0);
        Kit.typed(x, "ab").term('w', 0);
        Kit.typed(x, letters.substring(0, 59)).term('w', 0);
        boolean[][] due = {{true, false, false, false, false, false}, {true, false, true, false, false, false},
            {true, false, true, true, true, false}, {true, false, false, false, false, false},
            {false, false, false, true, true, false}, {false, false, true, false, false, false}};
        for (int i = 0; i < due.length; i++) {
            for (int j = 0; j < due[i].length; j++) {
                int term = i;
                int paper = j;
                kit.due("23: term " + term + ", paper " + paper, due[term][paper], () -> x.isHit(term, paper));
            }
        }
    }

    /** "if its author or a reader is a lawyer, and none of these is an outsider" */
    private static void allPeople() {
        Discoverhall x = new Discoverhall();
        x.paper(0, 0, 0, 1023, -1);
        x.paper(0, 0, 3, 0, -1);
        kit.due("30: nobody is a lawyer", false, () -> x.isPrivileged(0));
        for (int i = 0; i < 10; i++) {
            int person = i;
            x.person(person, 'l');
            kit.due("30: one is a lawyer", true, () -> x.isPrivileged(0));
            x.person(person, 'o');
            kit.due("30: one is an outsider", false, () -> x.isPrivileged(0));
            x.person((person + 1) % 10, 'l');
            kit.due("30: a lawyer and an outsider", false, () -> x.isPrivileged(0));
            x.person(person, '-');
            x.person((person + 1) % 10, '-');
        }
        for (int i = 0; i < 10; i++) {
            x.person(i, 'l');
        }
        kit.due("30: all are lawyers", true, () -> x.isPrivileged(0));
        kit.due("30: no reader, the author is one", true, () -> x.isPrivileged(1));
        x.person(3, '-');
        kit.due("30: no reader, the author is none", false, () -> x.isPrivileged(1));
    }

    /** "7 at first, then for each 31 times itself plus its words, .. plus its tags, .. plus its number" */
    private static void checksumWrapsAround() {
        Discoverhall x = new Discoverhall();
        BigInteger sum = BigInteger.valueOf(7);
        for (int i = 0; i < 40; i++) {
            Kit.add(x, "a ".repeat(i % 4));
            x.tag(i, i % 6, true);
            x.tag(i, 5, true);
        }
        x.give(5);
        boolean wasNegative = false;
        boolean wasPositive = false;
        for (int i = 0; i < 40; i++) {
            sum = plus(plus(plus(sum, i % 4), 1 << i % 6 | 32), i + 1);
            wasNegative |= sum.longValue() < 0;
            wasPositive |= sum.longValue() > 0 && sum.bitLength() > 63;
        }
        long due = sum.longValue();
        kit.due("47: wraps around", due, () -> x.checksum());
        boolean hasBoth = wasNegative && wasPositive;
        kit.due("47: to both sides", true, () -> hasBoth);
    }

    private static BigInteger plus(BigInteger sum, int value) {
        return sum.multiply(BigInteger.valueOf(31)).add(BigInteger.valueOf(value));
    }

    /** "z becomes z times 48271 modulo 2147483647": no product wraps around */
    private static void sampleDoesNotWrap() {
        Discoverhall x = new Discoverhall();
        List<Integer> without = new ArrayList<>();
        for (int i = 0; i < 40; i++) {
            Kit.add(x, i % 3 == 0 ? "a" : "b");
            without.add(i);
        }
        Kit.typed(x, "a").term('w', 0);
        dueSamples(x, "all", without);
        for (int paper : new int[] {0, 3, 17, 39}) {
            x.tag(paper, 4, true);
            without.remove(Integer.valueOf(paper));
        }
        dueSamples(x, "those without a tag", without);
        for (int paper : new int[] {1, 3, 9, 20, 38}) {
            x.drop(paper);
            without.remove(Integer.valueOf(paper));
        }
        dueSamples(x, "those that are there", without);
    }

    private static void dueSamples(Discoverhall x, String what, List<Integer> without) {
        for (int seed : new int[] {1, 44488, 44489, 65536, 1000000007, 2147483646, 2147483645, 1073741824}) {
            for (int many : new int[] {1, 2, 7, 20}) {
                kit.due("46: " + what + ", seed " + seed + ", many " + many, sampled(without, many, seed),
                    () -> x.sample(4, many, 0, seed));
            }
        }
    }

    private static int sampled(List<Integer> without, int many, int seed) {
        List<Integer> left = new ArrayList<>(without);
        BigInteger z = BigInteger.valueOf(seed);
        int having = 0;
        for (int i = 0; i < many; i++) {
            z = z.multiply(BigInteger.valueOf(48271)).mod(BigInteger.valueOf(2147483647));
            int place = z.mod(BigInteger.valueOf(left.size())).intValue();
            having += left.remove(place) % 3 == 0 ? 1 : 0;
        }
        return having;
    }

    /** "the sum, over its unlike words, of 2 times the former less the latter" */
    private static void scores() {
        Discoverhall x = new Discoverhall();
        for (int i = 0; i < 20; i++) {
            Kit.add(x, "a");
            Kit.add(x, "b b b");
        }
        for (int i = 0; i < 20; i++) {
            int paper = 2 * i;
            kit.due("43: twice for each", 2 * (i + 1), () -> x.teach(paper, true));
            kit.due("43: once less for each", -(i + 1), () -> x.teach(paper + 1, false));
        }
        kit.due("44: the greatest", 40, () -> x.score(0));
        kit.due("44: the least", -20, () -> x.score(1));
        kit.due("45: none is left", Kit.NO_ELEMENT, () -> x.next());
        Discoverhall all = Kit.hallWith(THIRTY, THIRTY, "z z z");
        kit.due("43: 26 unlike words", 52, () -> all.teach(0, true));
        kit.due("44: of one unlike word", 2, () -> all.score(2));
        kit.due("45: the lowest of those not taught", 1, () -> all.next());
    }

    /** "Their number divided by that of all that are there, both converted to float", "both converted to double" */
    private static void sharesAndMeans() {
        for (int papers = 1; papers <= 40; papers++) {
            int there = papers;
            for (int some : new int[] {0, 1, there / 2, there}) {
                Discoverhall x = new Discoverhall();
                for (int i = 0; i < there; i++) {
                    Kit.add(x, i < some ? "a b" : "a");
                    x.tag(i, 0, i < some);
                }
                int given = Math.min(some, there);
                kit.due("32: " + given + " of " + there, given, () -> x.give(0));
                kit.due("48: " + given + " of " + there, (float) given / (float) there, () -> x.givenShare());
                kit.due("49: " + given + " of " + there, (double) (there + given) / (double) there,
                    () -> x.meanWords());
            }
        }
        Discoverhall longest = Kit.hallWith(THIRTY, THIRTY);
        kit.due("49: 30 words", 30.0, () -> longest.meanWords());
    }
}
