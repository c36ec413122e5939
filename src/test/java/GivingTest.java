/** Promises 28 to 38: privilege and giving. */
public final class GivingTest {
    private static final Kit kit = new Kit();

    public static void main(String[] args) {
        people();
        rulings();
        keepingBack();
        numbering();
        badOnes();
        replacing();
        clawing();
        blackingOut();
        blackingOutBadOnes();
        showing();
        missing();
        kit.finish();
    }

    private static void people() {
        Discoverhall x = new Discoverhall();
        x.paper(0, 0, 1, 1 << 2 | 1 << 9, -1);
        x.paper(0, 0, 0, 0, -1);
        kit.due("30: nobody", false, () -> x.isPrivileged(0));
        kit.due("28: was neither", '-', () -> x.person(1, 'l'));
        kit.due("30: the author", true, () -> x.isPrivileged(0));
        kit.due("30: another paper", false, () -> x.isPrivileged(1));
        kit.due("28: an outsider", '-', () -> x.person(9, 'o'));
        kit.due("30: an outsider reads", false, () -> x.isPrivileged(0));
        kit.due("28: is not the other any more", 'o', () -> x.person(9, 'l'));
        kit.due("30: a reader too", true, () -> x.isPrivileged(0));
        kit.due("28: the author is neither", 'l', () -> x.person(1, '-'));
        kit.due("30: a reader alone", true, () -> x.isPrivileged(0));
        kit.due("28: the author is an outsider", '-', () -> x.person(1, 'o'));
        kit.due("30: an outsider wrote", false, () -> x.isPrivileged(0));
        kit.due("28: again", 'o', () -> x.person(1, 'o'));
        for (char kind : new char[] {'L', 'x', ' ', 0}) {
            kit.due("28: kind " + (int) kind, Kit.ARGUMENT, () -> x.person(0, kind));
        }
        for (int person : new int[] {-1, 10, Integer.MAX_VALUE, Integer.MIN_VALUE}) {
            kit.due("28: person " + person, Kit.ARGUMENT, () -> x.person(person, 'l'));
        }
        kit.due("28: nothing changed", '-', () -> x.person(0, 'l'));
        kit.due("30: author 0", true, () -> x.isPrivileged(1));
    }

    private static void rulings() {
        Discoverhall x = Kit.hallWith("a");
        kit.due("29: none", '-', () -> x.rule(0, 'p'));
        kit.due("30: by ruling", true, () -> x.isPrivileged(0));
        x.person(0, 'o');
        kit.due("30: whatever an outsider says", true, () -> x.isPrivileged(0));
        kit.due("29: privileged before", 'p', () -> x.rule(0, 'n'));
        x.person(0, 'l');
        kit.due("30: not by ruling", false, () -> x.isPrivileged(0));
        kit.due("29: not before", 'n', () -> x.rule(0, '-'));
        kit.due("30: by the lawyer", true, () -> x.isPrivileged(0));
        for (char ruling : new char[] {'P', 'l', ' ', 0}) {
            kit.due("29: ruling " + (int) ruling, Kit.ARGUMENT, () -> x.rule(0, ruling));
        }
        kit.due("29: nothing changed", '-', () -> x.rule(0, '-'));
    }

    private static void keepingBack() {
        Discoverhall x = Kit.hallWith("a b", "a  b", "a", "a b");
        x.rule(1, 'p');
        kit.due("31: itself", true, () -> x.isKept(1));
        kit.due("31: alike", true, () -> x.isKept(0));
        kit.due("30: alike", false, () -> x.isPrivileged(0));
        kit.due("31: not alike", false, () -> x.isKept(2));
        x.rule(0, 'n');
        kit.due("31: alike, though ruled not", true, () -> x.isKept(0));
        x.bad(1, true);
        kit.due("31: the alike one is bad", false, () -> x.isKept(0));
        kit.due("31: a bad one itself", true, () -> x.isKept(1));
        x.bad(1, false);
        x.drop(1);
        kit.due("31: the alike one is dropped", false, () -> x.isKept(3));
    }

    private static void numbering() {
        Discoverhall x = Kit.hallWith("a", "b", "c");
        Kit.addPart(x, "d", 0);
        Kit.addPart(x, "e", 1);
        Kit.addPart(x, "f", 3);
        x.tag(5, 2, true);
        x.tag(1, 2, true);
        x.rule(3, 'p');
        kit.due("33: not given", Kit.NO_ELEMENT, () -> x.number(0));
        kit.due("34: not given", Kit.NO_ELEMENT, () -> x.isSlip(0));
        for (int tag : new int[] {-1, 6, Integer.MIN_VALUE}) {
            kit.due("32: tag " + tag, Kit.ARGUMENT, () -> x.give(tag));
        }
        kit.due("32: a tag that nobody has", 0, () -> x.give(0));
        kit.due("32: two families", 5, () -> x.give(2));
        int[] numbers = {1, 4, 0, 2, 5, 3};
        for (int i = 0; i < numbers.length; i++) {
            int paper = i;
            Object want = numbers[paper] == 0 ? Kit.NO_ELEMENT : numbers[paper];
            kit.due("33: number of " + paper, want, () -> x.number(paper));
            Object slip = numbers[paper] == 0 ? Kit.NO_ELEMENT : paper == 3;
            kit.due("34: slip of " + paper, slip, () -> x.isSlip(paper));
        }
        kit.due("32: again", 0, () -> x.give(2));
        Kit.addPart(x, "g", 0);
        x.tag(2, 0, true);
        kit.due("32: another tag", 1, () -> x.give(0));
        kit.due("33: behind all that was given", 6, () -> x.number(2));
        kit.due("32: one that has none yet", 1, () -> x.give(2));
        kit.due("33: the new part", 7, () -> x.number(6));
        kit.due("33: for ever", 1, () -> x.number(0));
        x.rule(3, '-');
        kit.due("34: stays a slip", true, () -> x.isSlip(3));
        x.rule(0, 'p');
        kit.due("34: stays none", false, () -> x.isSlip(0));
    }

    private static void badOnes() {
        Discoverhall x = Kit.hallWith("a", "b", "a");
        Kit.addPart(x, "c", 1);
        x.tag(0, 0, true);
        x.tag(1, 0, true);
        x.bad(0, true);
        x.bad(3, true);
        kit.due("32: a bad one does not ask", 2, () -> x.give(0));
        kit.due("33: bad alone", Kit.NO_ELEMENT, () -> x.number(0));
        kit.due("34: bad", true, () -> x.isSlip(3));
        kit.due("34: not bad", false, () -> x.isSlip(1));
        kit.due("38: a bad slip", Kit.NO_ELEMENT, () -> x.shown(3, 0));
        x.bad(3, false);
        kit.due("34: still a slip", true, () -> x.isSlip(3));
        kit.due("38: a good slip", '!', () -> x.shown(3, 0));
        kit.due("35: good", false, () -> x.replace(3));
        kit.due("38: shows its text", 'c', () -> x.shown(3, 0));
        x.bad(1, true);
        kit.due("34: bad later", false, () -> x.isSlip(1));
        kit.due("38: bad later", Kit.NO_ELEMENT, () -> x.shown(1, 0));
        kit.due("35: bad", true, () -> x.replace(1));
    }

    private static void replacing() {
        Discoverhall x = Kit.hallWith("a", "a", "b");
        x.tag(0, 0, true);
        x.tag(1, 0, true);
        x.rule(1, 'p');
        x.give(0);
        kit.due("34: kept back", true, () -> x.isSlip(0));
        x.rule(1, 'n');
        kit.due("34: until it is replaced", true, () -> x.isSlip(0));
        kit.due("35: a slip no more", false, () -> x.replace(0));
        kit.due("34: a slip no more", false, () -> x.isSlip(0));
        kit.due("34: the other one was not replaced", true, () -> x.isSlip(1));
        kit.due("33: the same number", 1, () -> x.number(0));
        x.rule(0, 'p');
        kit.due("35: becomes one", true, () -> x.replace(0));
        kit.due("38: shows nothing of it", '!', () -> x.shown(0, 0));
        kit.due("35: not given", Kit.UNSUPPORTED, () -> x.replace(2));
        x.claw(0);
        kit.due("35: locked", Kit.UNSUPPORTED, () -> x.replace(0));
        kit.due("35: locked by being alike", Kit.UNSUPPORTED, () -> x.replace(1));
    }

    private static void clawing() {
        Discoverhall x = Kit.hallWith("a b", "a  b", "a", "a b", "a b");
        x.viewer(2, 9999);
        x.tag(0, 0, true);
        x.tag(1, 0, true);
        x.tag(2, 0, true);
        x.tag(4, 0, true);
        kit.due("36: not given", Kit.UNSUPPORTED, () -> x.claw(0));
        x.give(0);
        x.bad(4, true);
        kit.due("42: before", true, () -> x.sees(0, 1));
        kit.due("36: alike and given", 2, () -> x.claw(1));
        kit.due("36: locked", Kit.UNSUPPORTED, () -> x.claw(1));
        kit.due("36: locked by being alike", Kit.UNSUPPORTED, () -> x.claw(0));
        kit.due("36: not given, though alike", Kit.UNSUPPORTED, () -> x.claw(3));
        kit.due("38: locked", Kit.NO_ELEMENT, () -> x.shown(0, 0));
        kit.due("42: locked", false, () -> x.sees(0, 0));
        kit.due("38: not alike", 'a', () -> x.shown(2, 0));
        kit.due("33: the number stays", 2, () -> x.number(1));
        kit.due("34: no slip", false, () -> x.isSlip(1));
        x.bad(4, false);
        kit.due("38: was bad when it was clawed back", 'a', () -> x.shown(4, 0));
        kit.due("36: those not locked yet", 1, () -> x.claw(4));
        x.tag(3, 1, true);
        kit.due("32: one alike to a locked one", 1, () -> x.give(1));
        kit.due("38: given after it was locked", 'a', () -> x.shown(3, 0));
    }

    private static void blackingOut() {
        Discoverhall x = Kit.hallWith("cat the cats cat", "cat  the cats cat", "cat", "cat the cats cat");
        for (int paper = 0; paper < 4; paper++) {
            x.tag(paper, 0, true);
        }
        x.give(0);
        kit.due("37: no word", Kit.UNSUPPORTED, () -> x.black(0));
        Kit.typed(x, "cat the");
        kit.due("37: two words", Kit.UNSUPPORTED, () -> x.black(0));
        kit.due("37: nothing was wiped", 7, () -> x.wipe());
        x.bad(3, true);
        Kit.typed(x, " cat");
        kit.due("37: both have it", 2, () -> x.black(0));
        kit.due("37: wipes", 0, () -> x.wipe());
        kit.due("38: of the first", "### the cats ###", () -> shownText(x, 0));
        kit.due("38: of the alike one", "###  the cats ###", () -> shownText(x, 1));
        kit.due("38: of one not alike", "cat", () -> shownText(x, 2));
        x.bad(3, false);
        kit.due("38: of one that was bad and not alike by then", "cat the cats cat", () -> shownText(x, 3));
        kit.due("7: it counts as a word", 4, () -> x.words(0));
        kit.due("11: still alike", true, () -> x.areAlike(0, 3));
        Kit.typed(x, "cat").term('w', 0);
        kit.due("22: still found", 4, () -> x.hits(0, false));
        Kit.typed(x, "cats");
        kit.due("37: another word", 3, () -> x.black(3));
        kit.due("38: both words", "### the #### ###", () -> shownText(x, 0));
        kit.due("38: one word", "cat the #### cat", () -> shownText(x, 3));
        Kit.typed(x, "dog");
        kit.due("37: none has it", 0, () -> x.black(0));
        Kit.typed(x, "cat");
        kit.due("37: have it, though it was blacked out", 3, () -> x.black(1));
    }

    private static String shownText(Discoverhall x, int paper) {
        StringBuilder shown = new StringBuilder();
        Object sign = Kit.answerOf(() -> x.shown(paper, 0));
        while (sign instanceof Character) {
            shown.append(sign);
            sign = Kit.answerOf(() -> x.shown(paper, shown.length()));
        }
        return shown.toString();
    }

    private static void blackingOutBadOnes() {
        Discoverhall x = Kit.hallWith("a b", "a b");
        x.tag(0, 0, true);
        x.tag(1, 0, true);
        x.give(0);
        x.bad(0, true);
        Kit.typed(x, "b");
        kit.due("37: a bad one has no word", 0, () -> x.black(0));
        kit.due("37: wipes all the same", 0, () -> x.wipe());
        x.bad(0, false);
        kit.due("38: also if a bad paper is good later", "a #", () -> shownText(x, 0));
        kit.due("38: the other one was not alike", "a b", () -> shownText(x, 1));
        x.bad(0, true);
        x.bad(0, false);
        kit.due("38: for good", "a #", () -> shownText(x, 0));
    }

    private static void showing() {
        Discoverhall x = Kit.hallWith(" ab c ", "d");
        Kit.typed(x, "ef g").paper(0, 0, 0, 0, 0);
        kit.due("38: not given", Kit.NO_ELEMENT, () -> x.shown(0, 0));
        x.rule(2, 'p');
        x.tag(0, 0, true);
        x.give(0);
        kit.due("38: its text", " ab c ", () -> shownText(x, 0));
        kit.due("38: a slip", "!!!!", () -> shownText(x, 2));
        for (int place : new int[] {-1, 6, 60, Integer.MAX_VALUE, Integer.MIN_VALUE}) {
            kit.due("38: place " + place, Kit.NO_ELEMENT, () -> x.shown(0, place));
        }
        kit.due("38: a slip's place", Kit.NO_ELEMENT, () -> x.shown(2, 4));
        x.rule(0, 'p');
        kit.due("38: not replaced yet", 'a', () -> x.shown(0, 1));
        Kit.typed(x, "g").black(2);
        kit.due("38: a slip with a word blacked out", "!!!!", () -> shownText(x, 2));
        x.rule(2, '-');
        x.rule(0, '-');
        x.replace(2);
        kit.due("38: replaced", "ef #", () -> shownText(x, 2));
    }

    private static void missing() {
        Discoverhall x = Kit.hallWith("a", "gone");
        x.drop(1);
        int[] missing = {-1, 1, 2, 40, Integer.MAX_VALUE, Integer.MIN_VALUE};
        kit.dueIfMissing("29: rule", p -> x.rule(p, 'x'), missing);
        kit.dueIfMissing("30: isPrivileged", p -> x.isPrivileged(p), missing);
        kit.dueIfMissing("31: isKept", p -> x.isKept(p), missing);
        kit.dueIfMissing("33: number", p -> x.number(p), missing);
        kit.dueIfMissing("34: isSlip", p -> x.isSlip(p), missing);
        kit.dueIfMissing("35: replace", p -> x.replace(p), missing);
        kit.dueIfMissing("36: claw", p -> x.claw(p), missing);
        kit.dueIfMissing("37: black", p -> x.black(p), missing);
        kit.dueIfMissing("38: shown", p -> x.shown(p, -1), missing);
    }
}
