/**
 * The most and the least of things: for each sentence of the document that names one, the last value that is allowed
 * and the first that is not, on both sides. Each sentence stands ahead of its test.
 */
public final class BoundsTest {
    private static final Kit kit = new Kit();

    public static void main(String[] args) {
        signs();
        longestText();
        mostPapers();
        paperNumbers();
        longestChain();
        holdDays();
        hundredths();
        nearExactly();
        earlierOnes();
        mostTerms();
        apartNumbers();
        apartExactly();
        tagNumbers();
        mostPairs();
        personNumbers();
        places();
        mostViewers();
        levels();
        dayThatToo();
        sampleNumbers();
        notSoMany();
        seeds();
        kit.finish();
    }

    /** "small letters and blanks" */
    private static void signs() {
        for (int code = 0; code < 65536; code += code < 300 ? 1 : 251) {
            char sign = (char) code;
            boolean isAllowed = sign == ' ' || sign >= 'a' && sign <= 'z';
            kit.due("2: sign " + code, isAllowed ? 1 : Kit.ARGUMENT, () -> new Discoverhall().type(sign));
        }
    }

    /** "at most 60" */
    private static void longestText() {
        for (char sign : new char[] {'a', ' '}) {
            Discoverhall x = new Discoverhall();
            for (int i = 1; i <= 60; i++) {
                int typed = i;
                kit.due("2: sign number " + typed, typed, () -> x.type(sign));
            }
            kit.due("2: the 61st", Kit.STATE, () -> x.type(sign));
            kit.due("3: all that were typed", 60, () -> x.wipe());
            kit.due("3: nothing is left", 0, () -> x.wipe());
            kit.due("2: room again", 1, () -> x.type(sign));
        }
        Discoverhall taken = Kit.typed(new Discoverhall(), "z".repeat(60));
        kit.due("4: takes 60", 0, () -> taken.paper(0, 0, 0, 0, -1));
        kit.due("2: room behind a paper", 1, () -> taken.type('z'));
        taken.tag(0, 0, true);
        taken.give(0);
        kit.due("38: the 60th sign", 'z', () -> taken.shown(0, 59));
        kit.due("38: no 61st sign", Kit.NO_ELEMENT, () -> taken.shown(0, 60));
    }

    /** "At most 40 papers are numbered from 0", "its number is not used again" */
    private static void mostPapers() {
        Discoverhall x = new Discoverhall();
        for (int i = 0; i < 40; i++) {
            int number = i;
            kit.due("4: numbered from 0", number, () -> x.paper(0, 0, 0, 0, -1));
        }
        kit.due("4: the 41st", Kit.STATE, () -> x.paper(0, 0, 0, 0, -1));
        kit.due("7: the last", 0, () -> x.words(39));
        kit.due("7: one past the last", Kit.INDEX, () -> x.words(40));
        for (int i = 39; i >= 0; i--) {
            int paper = i;
            kit.due("5: how many are there then", paper, () -> x.drop(paper));
        }
        kit.due("4: all 40 were added, though none is there", Kit.STATE, () -> x.paper(0, 0, 0, 0, -1));
    }

    /** "a custodian, 0 to 5, a day, 0 to 9999, an author, 0 to 9, readers, as bits of 0 to 9" */
    private static void paperNumbers() {
        int[][] most = {{0, 5}, {0, 9999}, {0, 9}, {0, 1023}};
        for (int i = 0; i < most.length; i++) {
            for (int step = -1; step <= 1; step++) {
                for (int end : most[i]) {
                    int value = end + step;
                    int[] a = {1, 1, 1, 1};
                    a[i] = value;
                    boolean isAllowed = value >= most[i][0] && value <= most[i][1];
                    kit.due("4: number " + i + " as " + value, isAllowed ? 0 : Kit.ARGUMENT,
                        () -> new Discoverhall().paper(a[0], a[1], a[2], a[3], -1));
                }
            }
        }
        Discoverhall x = Kit.hallWith("a", "b");
        kit.due("4: part of none", 2, () -> x.paper(0, 0, 0, 0, -1));
        kit.due("4: part of less than none", Kit.INDEX, () -> x.paper(0, 0, 0, 0, -2));
        kit.due("4: part of the first", 3, () -> x.paper(0, 0, 0, 0, 0));
        kit.due("4: part of itself", Kit.INDEX, () -> x.paper(0, 0, 0, 0, 4));
        kit.due("4: part of the one just ahead", 4, () -> x.paper(0, 0, 0, 0, 3));
    }

    /** "a chain of parts has at most 4 papers", "if the chain would have 5 papers" */
    private static void longestChain() {
        Discoverhall x = new Discoverhall();
        for (int i = 0; i < 4; i++) {
            int number = i;
            kit.due("4: of a chain", number, () -> x.paper(0, 0, 0, 0, number - 1));
        }
        kit.due("4: the fifth of a chain", Kit.UNSUPPORTED, () -> x.paper(0, 0, 0, 0, 3));
        for (int whole = 0; whole < 3; whole++) {
            int part = whole;
            kit.due("4: a chain beside", part + 4, () -> x.paper(0, 0, 0, 0, part));
        }
        kit.due("4: the fifth beside", Kit.UNSUPPORTED, () -> x.paper(0, 0, 0, 0, 6));
        kit.due("5: the fourth is dropped", 6, () -> x.drop(3));
        kit.due("4: a fourth in its place", 7, () -> x.paper(0, 0, 0, 0, 2));
        kit.due("8: all of them", 7, () -> x.family(7));
        kit.due("9: four deep", 0, () -> x.head(7));
    }

    /** "held for days from one to another", "the last day, not less", "-1 for both ends the hold" */
    private static void holdDays() {
        Discoverhall x = new Discoverhall();
        for (int day : new int[] {0, 1, 4, 5, 6, 9998, 9999}) {
            x.paper(5, day, 0, 0, -1);
        }
        x.paper(0, 5, 0, 0, -1);
        int[][] held = {{0, 0, 1}, {9999, 9999, 1}, {0, 9999, 7}, {1, 9998, 5}, {5, 5, 1}, {4, 6, 3}, {2, 3, 0},
            {2, 4, 1}, {6, 9997, 1}, {7, 9997, 0}};
        for (int[] h : held) {
            kit.due("10: from " + h[0] + " to " + h[1], h[2], () -> x.hold(5, h[0], h[1]));
        }
        kit.due("10: not less", Kit.ARGUMENT, () -> x.hold(5, 5, 4));
        kit.due("10: one end alone", Kit.ARGUMENT, () -> x.hold(5, -1, 0));
        kit.due("10: the other end alone", Kit.ARGUMENT, () -> x.hold(5, 0, -1));
        kit.due("10: below both", Kit.ARGUMENT, () -> x.hold(5, -2, -2));
        kit.due("10: past the last day", Kit.ARGUMENT, () -> x.hold(5, 9999, 10000));
        kit.due("10: the first custodian", 1, () -> x.hold(0, 0, 9999));
        kit.due("10: both custodians", 2, () -> x.hold(5, 5, 5));
        kit.due("5: the held day", Kit.UNSUPPORTED, () -> x.drop(3));
        kit.due("5: the day ahead", 7, () -> x.drop(2));
        kit.due("5: the day behind", 6, () -> x.drop(4));
        kit.due("10: ended", 1, () -> x.hold(5, -1, -1));
        kit.due("5: held no more", 5, () -> x.drop(3));
    }

    /** "near by hundredths, 1 to 100" */
    private static void hundredths() {
        Discoverhall x = Kit.hallWith("a b", "a b");
        for (int by : new int[] {1, 2, 99, 100}) {
            kit.due("14: by " + by, true, () -> x.areNear(0, 1, by));
            kit.due("15: by " + by, 1, () -> x.groups(by));
        }
        for (int by : new int[] {0, 101, -1, -100}) {
            kit.due("14: by " + by, Kit.ARGUMENT, () -> x.areNear(0, 1, by));
            kit.due("15: by " + by, Kit.ARGUMENT, () -> x.groups(by));
        }
    }

    /** "100 times how many both have is at least so many times how many at least one of them has" */
    private static void nearExactly() {
        // 30 words, of which each two behind each other stand there once.
        String all = "a b c d e f g h i j k l m n o p q r s t u v w x y z a c e g";
        for (int any = 1; any <= 29; any++) {
            for (int both = 1; both <= any; both++) {
                String names = "14: " + both + " of " + any + " by ";
                // The one has the first shingles of those that the other has.
                Discoverhall x = Kit.hallWith(all.substring(0, 2 * both + 1), all.substring(0, 2 * any + 1));
                int by = 100 * both / any;
                kit.due(names + by, true, () -> x.areNear(0, 1, by));
                kit.due(names + "one more", by == 100 ? Kit.ARGUMENT : false, () -> x.areNear(1, 0, by + 1));
                kit.due(names + by + ", groups", 1, () -> x.groups(by));
                kit.due(names + "one more, groups", by == 100 ? Kit.ARGUMENT : 2, () -> x.groups(by + 1));
            }
        }
        Discoverhall none = Kit.hallWith("a b", "c d");
        kit.due("14: none of 2", false, () -> none.areNear(0, 1, 1));
    }

    /** "A paper can be told to answer an earlier one, once" */
    private static void earlierOnes() {
        Discoverhall x = new Discoverhall();
        for (int i = 0; i < 40; i++) {
            // Earlier is by numbers, not by days.
            x.paper(0, 9999 - i, 0, 0, -1);
        }
        kit.due("16: itself", Kit.ARGUMENT, () -> x.answer(5, 5));
        kit.due("16: the one behind", Kit.ARGUMENT, () -> x.answer(5, 6));
        kit.due("16: the last", Kit.ARGUMENT, () -> x.answer(0, 39));
        for (int i = 1; i < 40; i++) {
            int paper = i;
            kit.due("16: the one ahead", paper + 1, () -> x.answer(paper, paper - 1));
        }
        kit.due("16: twice", Kit.UNSUPPORTED, () -> x.answer(39, 0));
    }

    /** "At most 8 terms are numbered from 0" */
    private static void mostTerms() {
        Discoverhall x = Kit.hallWith("a");
        for (int i = 0; i < 7; i++) {
            int number = i;
            kit.due("19: numbered from 0", number, () -> Kit.typed(x, "a").term('w', 0));
        }
        kit.due("20: the eighth", 7, () -> x.joined('a', 6, 0));
        kit.due("20: the ninth, joined", Kit.STATE, () -> x.joined('a', 7, 0));
        kit.due("19: the ninth, typed", Kit.STATE, () -> Kit.typed(x, "a").term('w', 0));
        kit.due("22: the last", 1, () -> x.hits(7, false));
        kit.due("22: one past the last", Kit.INDEX, () -> x.hits(8, false));
        kit.due("22: one ahead of the first", Kit.INDEX, () -> x.hits(-1, false));
        kit.due("21: a full hall's term", 2, () -> x.revise(0, 0));
    }

    /** "apart, 1 to 9", "of no meaning otherwise" */
    private static void apartNumbers() {
        for (int apart : new int[] {0, 1, 9, 10, -1, Integer.MAX_VALUE, Integer.MIN_VALUE}) {
            boolean isAllowed = apart >= 1 && apart <= 9;
            kit.due("19: n, apart " + apart, isAllowed ? 0 : Kit.ARGUMENT,
                () -> Kit.typed(new Discoverhall(), "a b").term('n', apart));
            kit.due("19: w, apart " + apart, 0, () -> Kit.typed(new Discoverhall(), "a").term('w', apart));
            kit.due("19: p, apart " + apart, 0, () -> Kit.typed(new Discoverhall(), "a").term('p', apart));
            for (char kind : new char[] {'w', 'p', 'n'}) {
                String words = kind == 'n' ? "a b" : "a";
                Discoverhall x = new Discoverhall();
                Kit.typed(x, words).term(kind, 5);
                Kit.typed(x, words);
                kit.due("21: " + kind + ", apart " + apart, isAllowed || kind != 'n' ? 2 : Kit.ARGUMENT,
                    () -> x.revise(0, apart));
            }
        }
    }

    /** "at two unlike places no more than so many apart", "in either order" */
    private static void apartExactly() {
        dueApart("");
        dueApart("y z ");
        Discoverhall same = Kit.hallWith("a", "a a", "a x a", "b a b");
        Kit.typed(same, "a a").term('n', 1);
        boolean[] due = {false, true, false, false};
        for (int i = 0; i < due.length; i++) {
            int paper = i;
            kit.due("23: two unlike places in " + paper, due[paper], () -> same.isHit(0, paper));
        }
    }

    private static void dueApart(String ahead) {
        Discoverhall x = new Discoverhall();
        for (int between = 0; between < 10; between++) {
            Kit.add(x, ahead + "a " + "x ".repeat(between) + "b");
            Kit.add(x, ahead + "b " + "x ".repeat(between) + "a");
        }
        Kit.typed(x, "a b").term('n', 1);
        for (int apart = 1; apart <= 9; apart++) {
            int by = apart;
            String name = by + " apart, behind '" + ahead + "'";
            Kit.typed(x, "a b").revise(0, apart);
            kit.due("22: how many by " + name, 2 * by, () -> x.hits(0, false));
            for (int order = 0; order < 2; order++) {
                int within = 2 * (apart - 1) + order;
                kit.due("23: " + name, true, () -> x.isHit(0, within));
                kit.due("23: one more than " + name, false, () -> x.isHit(0, within + 2));
            }
        }
    }

    /** "There are the tags 0 to 5" */
    private static void tagNumbers() {
        for (int tag = -1; tag <= 6; tag++) {
            int told = tag;
            boolean isThere = tag >= 0 && tag <= 5;
            Discoverhall x = Kit.hallWith("a", "a");
            Kit.typed(x, "a").term('w', 0);
            kit.due("25: tag " + told, isThere ? false : Kit.ARGUMENT, () -> x.tag(0, told, true));
            kit.due("26: tag " + told, isThere ? 1 << told : 0, () -> x.tags(0));
            kit.due("46: tag " + told, isThere ? 1 : Kit.ARGUMENT, () -> x.sample(told, 1, 0, 1));
            kit.due("27: tag " + told, isThere ? 100 : Kit.ARGUMENT, () -> x.spread(told, 'a'));
            kit.due("27: tag " + told + " again", isThere ? 0 : Kit.ARGUMENT, () -> x.spread(told, 'f'));
            kit.due("32: tag " + told, isThere ? 2 : Kit.ARGUMENT, () -> x.give(told));
            kit.due("25: tag " + told + " taken", isThere ? true : Kit.ARGUMENT, () -> x.tag(0, told, false));
            int other = told == 2 ? 3 : 2;
            kit.due("24: tag " + told, isThere ? 1 : Kit.ARGUMENT, () -> x.bar(told, other));
            kit.due("24: other " + told, isThere ? Kit.UNSUPPORTED : Kit.ARGUMENT, () -> x.bar(other, told));
        }
    }

    /** "at most 6 pairs of them bar each other" */
    private static void mostPairs() {
        int[][] pairs = {{0, 1}, {2, 1}, {2, 3}, {4, 3}, {4, 5}, {5, 0}};
        Discoverhall x = new Discoverhall();
        for (int i = 0; i < pairs.length; i++) {
            int[] pair = pairs[i];
            int due = i + 1;
            kit.due("24: pair " + due, due, () -> x.bar(pair[0], pair[1]));
        }
        for (int tag = 0; tag < 6; tag++) {
            for (int other = 0; other < 6; other++) {
                int one = tag;
                int two = other;
                boolean isPair = Math.abs(one - two) == 1 || Math.abs(one - two) == 5;
                String due = one == two ? Kit.ARGUMENT : isPair ? Kit.UNSUPPORTED : Kit.STATE;
                kit.due("24: full, " + one + " " + two, due, () -> x.bar(one, two));
            }
        }
    }

    /** "the people 0 to 9" */
    private static void personNumbers() {
        for (int person = -1; person <= 10; person++) {
            int told = person;
            boolean isThere = person >= 0 && person <= 9;
            Discoverhall x = new Discoverhall();
            kit.due("28: person " + told, isThere ? '-' : Kit.ARGUMENT, () -> x.person(told, 'l'));
            for (int author = 0; author <= 9; author++) {
                int by = author;
                x.paper(0, 0, by, 0, -1);
                kit.due("30: author " + by + " by " + told, by == told, () -> x.isPrivileged(by));
            }
            for (int reader = 0; reader <= 9; reader++) {
                int by = reader;
                x.paper(0, 0, told == 0 ? 1 : 0, 1 << by, -1);
                kit.due("30: reader " + by + " by " + told, by == told, () -> x.isPrivileged(10 + by));
            }
        }
    }

    /** "from 0", "there is no such place in its text" */
    private static void places() {
        Discoverhall x = Kit.hallWith(" a b ");
        x.tag(0, 0, true);
        x.give(0);
        char[] signs = {' ', 'a', ' ', 'b', ' '};
        for (int i = 0; i < signs.length; i++) {
            int place = i;
            kit.due("38: place " + place, signs[place], () -> x.shown(0, place));
        }
        kit.due("38: ahead of the first", Kit.NO_ELEMENT, () -> x.shown(0, -1));
        kit.due("38: behind the last", Kit.NO_ELEMENT, () -> x.shown(0, 5));
        x.rule(0, 'p');
        x.replace(0);
        kit.due("38: the last of a slip", '!', () -> x.shown(0, 4));
        kit.due("38: behind the last of a slip", Kit.NO_ELEMENT, () -> x.shown(0, 5));
        kit.due("38: ahead of the first of a slip", Kit.NO_ELEMENT, () -> x.shown(0, -1));
    }

    /** "At most 4 are numbered from 0, each with a level, 0 to 2, and a day" */
    private static void mostViewers() {
        for (int value : new int[] {-1, 0, 2, 3}) {
            kit.due("39: level " + value, value == 0 || value == 2 ? 0 : Kit.ARGUMENT,
                () -> new Discoverhall().viewer(value, 0));
        }
        for (int value : new int[] {-1, 0, 9999, 10000}) {
            kit.due("39: day " + value, value == 0 || value == 9999 ? 0 : Kit.ARGUMENT,
                () -> new Discoverhall().viewer(0, value));
        }
        Discoverhall x = Kit.hallWith("a");
        x.tag(0, 0, true);
        x.give(0);
        for (int i = 0; i < 4; i++) {
            int number = i;
            kit.due("42: not there yet", Kit.INDEX, () -> x.sees(number, 0));
            kit.due("39: numbered from 0", number, () -> x.viewer(0, 0));
            kit.due("42: there", true, () -> x.sees(number, 0));
        }
        kit.due("39: the fifth", Kit.STATE, () -> x.viewer(0, 0));
        kit.due("42: no fifth", Kit.INDEX, () -> x.sees(4, 0));
        kit.due("42: ahead of the first", Kit.INDEX, () -> x.sees(-1, 0));
    }

    /** "a paper has a level, 0 at first", "has no greater level than the viewer" */
    private static void levels() {
        Discoverhall x = Kit.hallWith("a");
        x.tag(0, 0, true);
        x.give(0);
        for (int level = 0; level <= 2; level++) {
            x.viewer(level, 9999);
        }
        int before = 0;
        for (int level = 0; level <= 2; level++) {
            int told = level;
            int due = before;
            kit.due("40: the one before", due, () -> x.level(0, told));
            before = level;
            for (int viewer = 0; viewer <= 2; viewer++) {
                int who = viewer;
                kit.due("42: level " + told + " by " + who, told <= who, () -> x.sees(who, 0));
            }
        }
        kit.due("40: below", Kit.ARGUMENT, () -> x.level(0, -1));
        kit.due("40: above", Kit.ARGUMENT, () -> x.level(0, 3));
        kit.due("40: still the last", 2, () -> x.level(0, 0));
    }

    /** "a day until which, that too, all is to be seen", "by the day, 0 at first" */
    private static void dayThatToo() {
        Discoverhall x = Kit.hallWith("a");
        x.tag(0, 0, true);
        x.give(0);
        int[] untils = {0, 1, 9998, 9999};
        for (int until : untils) {
            x.viewer(0, until);
        }
        int before = 0;
        for (int day : new int[] {0, 1, 2, 9998, 9999, 0}) {
            int due = before;
            kit.due("41: the day before", due, () -> x.day(day));
            before = day;
            for (int i = 0; i < untils.length; i++) {
                int viewer = i;
                kit.due("42: day " + day + " until " + untils[viewer], day <= untils[viewer],
                    () -> x.sees(viewer, 0));
            }
        }
        kit.due("41: below", Kit.ARGUMENT, () -> x.day(-1));
        kit.due("41: above", Kit.ARGUMENT, () -> x.day(10000));
        kit.due("41: still the first", 0, () -> x.day(9999));
    }

    /** "how many, 1 to 20" */
    private static void sampleNumbers() {
        Discoverhall x = new Discoverhall();
        for (int i = 0; i < 40; i++) {
            Kit.add(x, "a");
        }
        Kit.typed(x, "a").term('w', 0);
        for (int many : new int[] {1, 2, 19, 20}) {
            kit.due("46: many " + many, many, () -> x.sample(0, many, 0, 1));
        }
        for (int many : new int[] {0, -1, 21, 40}) {
            kit.due("46: many " + many, Kit.ARGUMENT, () -> x.sample(0, many, 0, 1));
        }
    }

    /** "if there are not so many" */
    private static void notSoMany() {
        Discoverhall x = new Discoverhall();
        Kit.typed(x, "a").term('w', 0);
        kit.due("46: of none", Kit.NO_ELEMENT, () -> x.sample(5, 1, 0, 1));
        for (int i = 1; i <= 20; i++) {
            int there = i;
            Kit.add(x, "a");
            kit.due("46: all of " + there, there, () -> x.sample(5, there, 0, 1));
            kit.due("46: one more than " + there, there == 20 ? Kit.ARGUMENT : Kit.NO_ELEMENT,
                () -> x.sample(5, there + 1, 0, 1));
        }
        x.tag(7, 5, true);
        kit.due("46: one has the tag", Kit.NO_ELEMENT, () -> x.sample(5, 20, 0, 1));
        kit.due("46: all without it", 19, () -> x.sample(5, 19, 0, 1));
        x.drop(8);
        kit.due("46: one is dropped", Kit.NO_ELEMENT, () -> x.sample(5, 19, 0, 1));
        kit.due("46: all others", 18, () -> x.sample(5, 18, 0, 1));
    }

    /** "z, 1 to 2147483646" */
    private static void seeds() {
        Discoverhall x = Kit.hallWith("a");
        Kit.typed(x, "a").term('w', 0);
        for (int seed : new int[] {1, 2, 2147483645, 2147483646}) {
            kit.due("46: seed " + seed, 1, () -> x.sample(0, 1, 0, seed));
        }
        for (int seed : new int[] {0, -1, 2147483647, -2147483648}) {
            kit.due("46: seed " + seed, Kit.ARGUMENT, () -> x.sample(0, 1, 0, seed));
        }
    }
}
