import java.util.Arrays;
import java.util.Objects;
import java.util.Random;

/**
 * Promises 1 to 50 in long runs: the class and the model answer the same calls. A second hall leaves out every call
 * that threw, and must answer all others as the first one does, since a call that throws changes nothing.
 */
public final class RandomRunsTest {
    private static final int RUNS = 500;
    // An object is used for so many calls; what later ones answer is free.
    private static final int CALLS = 512;
    private static final String[] WORDS = {"a", "b", "ab", "c", "abc", "d"};
    // What each call takes: paper, tag, term, a term or often none, day, boolean, custodian, person, number to 9, level, hundredths,
    // place, viewer, many, seed, end of a hold; a sign by its choices in brackets.
    private static final String[] ARGUMENTS = {
        "", "", "[abc ?A]", "", "cdxrq", "p", "pb", "p", "p", "p", "cde", "pp", "p", "p", "pph", "h", "pp", "pp", "p",
        "[wpn?]n", "[aot?]mk", "mn", "mb", "mp", "tt", "ptb", "p", "t[fa?]", "x[lo-?]", "p[pn-?]", "p", "p", "t", "p",
        "p", "p", "p", "p", "pn", "ld", "pl", "d", "vp", "pb", "p", "", "tymz", "", "", "", ""};

    private final Random random;
    private final int run;
    private final int mostPapers;
    private final Discoverhall hall = new Discoverhall();
    private final Discoverhall spared = new Discoverhall();
    private final Model model = new Model();
    private int calls;
    private int papers;
    private int terms;
    private String lastText = "";
    private boolean isRight = true;

    private RandomRunsTest(int run) {
        this.run = run;
        random = new Random(run);
        mostPapers = run % 3 == 0 ? 45 : 6 + run % 12;
    }

    public static void main(String[] args) {
        int wrong = 0;
        for (int run = 0; run < RUNS && wrong < 5; run++) {
            wrong += new RandomRunsTest(run).agrees() ? 0 : 1;
        }
        System.out.println(wrong == 0 ? "all answers are as due" : wrong + " runs went wrong");
        if (wrong != 0) {
            System.exit(1);
        }
    }

    private boolean agrees() {
        while (calls < CALLS && isRight) {
            int roll = random.nextInt(10);
            if (roll < 3 && papers < mostPapers) {
                addPaper();
            } else if (roll == 3) {
                call(new int[] {25, 25, 32, 38}[random.nextInt(4)]);
            } else if (roll == 4) {
                typeWords();
                call(new int[] {19, 21, 37}[random.nextInt(3)]);
            } else {
                call(3 + random.nextInt(48));
            }
        }
        return isRight;
    }

    /** Adds a paper that often repeats the last one, or answers it with a word ahead. */
    private void addPaper() {
        int roll = random.nextInt(5);
        String text = roll == 0 ? lastText : roll == 1 ? word() + " " + lastText : phrase();
        call(3);
        type(text);
        lastText = text.length() < 50 ? text : "";
        call(4);
        if (roll < 3) {
            call(16, papers - 1, papers - 2);
        }
    }

    private void typeWords() {
        call(3);
        type(random.nextInt(3) == 0 ? word() + "  " + word() : word());
    }

    private String word() {
        return WORDS[random.nextInt(WORDS.length)];
    }

    private String phrase() {
        StringBuilder phrase = new StringBuilder();
        int words = random.nextInt(6);
        for (int i = 0; i < words; i++) {
            phrase.append(word()).append(random.nextInt(9) == 0 ? "  " : " ");
        }
        return phrase.toString();
    }

    private void type(String signs) {
        for (char sign : signs.toCharArray()) {
            call(2, sign);
        }
    }

    private void call(int kind) {
        String takes = ARGUMENTS[kind];
        int[] a = new int[5];
        int count = 0;
        for (int i = 0; i < takes.length(); i++) {
            if (takes.charAt(i) == '[') {
                int end = takes.indexOf(']', i);
                String signs = takes.substring(i + 1, end).repeat(9).replaceFirst("[?]", "!").replaceAll("[?]", "");
                a[count++] = signs.charAt(random.nextInt(signs.length()));
                i = end;
            } else {
                a[count++] = random.nextInt(60) == 0 ? wild() : number(takes.charAt(i));
            }
        }
        call(kind, a);
    }

    private int wild() {
        int[] wild = {-1, -2, 6, 8, 10, 40, 101, 1024, 10000, Integer.MAX_VALUE, Integer.MIN_VALUE};
        return wild[random.nextInt(wild.length)];
    }

    private int number(char takes) {
        switch (takes) {
            case 'p': return random.nextInt(Math.max(papers, 1));
            case 'q': return random.nextInt(2) == 0 ? -1 : random.nextInt(Math.max(papers, 1));
            case 't': return random.nextInt(random.nextBoolean() ? 2 : 6);
            case 'm': return random.nextInt(Math.max(terms, 1));
            case 'k': return random.nextInt(4) == 0 ? wild() : random.nextInt(terms + 2);
            case 'b': return random.nextInt(3) - 1;
            case 'c': return random.nextInt(6);
            case 'd': return random.nextInt(6);
            case 'e': return random.nextInt(2) == 0 ? 9999 : random.nextInt(8);
            case 'r': return random.nextInt(2) == 0 ? 0 : 1 << random.nextInt(10);
            case 'h': return 1 + random.nextInt(100);
            case 'v': return random.nextInt(3);
            case 'l': return random.nextInt(3);
            case 'y': return 1 + random.nextInt(5);
            case 'z': return 1 + random.nextInt(Integer.MAX_VALUE - 1);
            default: return random.nextInt(10);
        }
    }

    private void call(int kind, int... a) {
        if (!isRight || calls == CALLS) {
            return;
        }
        calls++;
        Object want = Kit.answerOf(() -> onModel(model, kind, a));
        Object got = Kit.answerOf(() -> onHall(hall, kind, a));
        Object again = want instanceof String ? want : Kit.answerOf(() -> onHall(spared, kind, a));
        if (kind == 4 && want instanceof Integer) {
            papers = (Integer) want + 1;
        }
        if ((kind == 19 || kind == 20) && want instanceof Integer) {
            terms = (Integer) want + 1;
        }
        isRight = Objects.equals(got, want) && Objects.equals(again, want);
        if (!isRight) {
            System.out.println("run " + run + ", call of promise " + kind + " with " + Arrays.toString(a) + " answered "
                + got + ", without the calls that threw " + again + ", due is " + want);
        }
    }

    private static Object onHall(Discoverhall x, int kind, int[] a) {
        switch (kind) {
            case 2: return x.type((char) a[0]);
            case 3: return x.wipe();
            case 4: return x.paper(a[0], a[1], a[2], a[3], a[4]);
            case 5: return x.drop(a[0]);
            case 6: return x.bad(a[0], a[1] > 0);
            case 7: return x.words(a[0]);
            case 8: return x.family(a[0]);
            case 9: return x.head(a[0]);
            case 10: return x.hold(a[0], a[1] == 5 ? -1 : a[1], a[1] == 5 ? -1 : a[2]);
            case 11: return x.areAlike(a[0], a[1]);
            case 12: return x.first(a[0]);
            case 13: return x.custodians(a[0]);
            case 14: return x.areNear(a[0], a[1], a[2]);
            case 15: return x.groups(a[0]);
            case 16: return x.answer(a[0], a[1]);
            case 17: return x.includes(a[0], a[1]);
            case 18: return x.lost(a[0]);
            case 19: return x.term((char) a[0], a[1]);
            case 20: return x.joined((char) a[0], a[1], a[2]);
            case 21: return x.revise(a[0], a[1]);
            case 22: return x.hits(a[0], a[1] > 0);
            case 23: return x.isHit(a[0], a[1]);
            case 24: return x.bar(a[0], a[1]);
            case 25: return x.tag(a[0], a[1], a[2] >= 0);
            default: return onHallLater(x, kind, a);
        }
    }

    private static Object onHallLater(Discoverhall x, int kind, int[] a) {
        switch (kind) {
            case 26: return x.tags(a[0]);
            case 27: return x.spread(a[0], (char) a[1]);
            case 28: return x.person(a[0], (char) a[1]);
            case 29: return x.rule(a[0], (char) a[1]);
            case 30: return x.isPrivileged(a[0]);
            case 31: return x.isKept(a[0]);
            case 32: return x.give(a[0]);
            case 33: return x.number(a[0]);
            case 34: return x.isSlip(a[0]);
            case 35: return x.replace(a[0]);
            case 36: return x.claw(a[0]);
            case 37: return x.black(a[0]);
            case 38: return x.shown(a[0], a[1]);
            case 39: return x.viewer(a[0], a[1]);
            case 40: return x.level(a[0], a[1]);
            case 41: return x.day(a[0]);
            case 42: return x.sees(a[0], a[1]);
            case 43: return x.teach(a[0], a[1] > 0);
            case 44: return x.score(a[0]);
            case 45: return x.next();
            case 46: return x.sample(a[0], a[1], a[2], a[3]);
            case 47: return x.checksum();
            case 48: return x.givenShare();
            case 49: return x.meanWords();
            default: return x.isSound();
        }
    }

    private static Object onModel(Model x, int kind, int[] a) {
        switch (kind) {
            case 2: return x.type((char) a[0]);
            case 3: return x.wipe();
            case 4: return x.paper(a[0], a[1], a[2], a[3], a[4]);
            case 5: return x.drop(a[0]);
            case 6: return x.bad(a[0], a[1] > 0);
            case 7: return x.words(a[0]);
            case 8: return x.family(a[0]);
            case 9: return x.head(a[0]);
            case 10: return x.hold(a[0], a[1] == 5 ? -1 : a[1], a[1] == 5 ? -1 : a[2]);
            case 11: return x.areAlike(a[0], a[1]);
            case 12: return x.first(a[0]);
            case 13: return x.custodians(a[0]);
            case 14: return x.areNear(a[0], a[1], a[2]);
            case 15: return x.groups(a[0]);
            case 16: return x.answer(a[0], a[1]);
            case 17: return x.includes(a[0], a[1]);
            case 18: return x.lost(a[0]);
            case 19: return x.term((char) a[0], a[1]);
            case 20: return x.joined((char) a[0], a[1], a[2]);
            case 21: return x.revise(a[0], a[1]);
            case 22: return x.hits(a[0], a[1] > 0);
            case 23: return x.isHit(a[0], a[1]);
            case 24: return x.bar(a[0], a[1]);
            case 25: return x.tag(a[0], a[1], a[2] >= 0);
            default: return onModelLater(x, kind, a);
        }
    }

    private static Object onModelLater(Model x, int kind, int[] a) {
        switch (kind) {
            case 26: return x.tags(a[0]);
            case 27: return x.spread(a[0], (char) a[1]);
            case 28: return x.person(a[0], (char) a[1]);
            case 29: return x.rule(a[0], (char) a[1]);
            case 30: return x.isPrivileged(a[0]);
            case 31: return x.isKept(a[0]);
            case 32: return x.give(a[0]);
            case 33: return x.number(a[0]);
            case 34: return x.isSlip(a[0]);
            case 35: return x.replace(a[0]);
            case 36: return x.claw(a[0]);
            case 37: return x.black(a[0]);
            case 38: return x.shown(a[0], a[1]);
            case 39: return x.viewer(a[0], a[1]);
            case 40: return x.level(a[0], a[1]);
            case 41: return x.day(a[0]);
            case 42: return x.sees(a[0], a[1]);
            case 43: return x.teach(a[0], a[1] > 0);
            case 44: return x.score(a[0]);
            case 45: return x.next();
            case 46: return x.sample(a[0], a[1], a[2], a[3]);
            case 47: return x.checksum();
            case 48: return x.givenShare();
            case 49: return x.meanWords();
            default: return x.isSound();
        }
    }
}
