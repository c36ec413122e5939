/** The run of calls that the document gives as its example. */
public final class ExampleTest {
    public static void main(String[] args) {
        Kit kit = new Kit();
        Discoverhall x = new Discoverhall();
        String first = "the cat";
        for (int i = 0; i < first.length(); i++) {
            char sign = first.charAt(i);
            kit.due("type", i + 1, () -> x.type(sign));
        }
        kit.due("paper(0, 5, 1, 2, -1)", 0, () -> x.paper(0, 5, 1, 2, -1));
        Kit.typed(x, "a the cat");
        kit.due("paper(1, 6, 2, 2, 0)", 1, () -> x.paper(1, 6, 2, 2, 0));
        kit.due("wipe()", 0, () -> x.wipe());
        kit.due("bad(1, false)", false, () -> x.bad(1, false));
        kit.due("words(1)", 3, () -> x.words(1));
        kit.due("family(0)", 2, () -> x.family(0));
        kit.due("head(1)", 0, () -> x.head(1));
        kit.due("hold(1, 6, 6)", 1, () -> x.hold(1, 6, 6));
        kit.due("drop(1)", Kit.UNSUPPORTED, () -> x.drop(1));
        kit.due("areAlike(0, 1)", false, () -> x.areAlike(0, 1));
        kit.due("first(1)", 1, () -> x.first(1));
        kit.due("custodians(1)", 2, () -> x.custodians(1));
        kit.due("areNear(0, 1, 50)", true, () -> x.areNear(0, 1, 50));
        kit.due("groups(50)", 1, () -> x.groups(50));
        kit.due("answer(1, 0)", 2, () -> x.answer(1, 0));
        kit.due("includes(1, 0)", true, () -> x.includes(1, 0));
        kit.due("lost(0)", 0, () -> x.lost(0));
        Kit.typed(x, "ca");
        kit.due("term('p', 0)", 0, () -> x.term('p', 0));
        Kit.typed(x, "cat");
        kit.due("revise(0, 0)", 2, () -> x.revise(0, 0));
        kit.due("joined('t', 0, 0)", 1, () -> x.joined('t', 0, 0));
        kit.due("hits(0, true)", 2, () -> x.hits(0, true));
        kit.due("isHit(1, 0)", false, () -> x.isHit(1, 0));
        kit.due("bar(0, 1)", 1, () -> x.bar(0, 1));
        kit.due("tag(0, 0, true)", false, () -> x.tag(0, 0, true));
        kit.due("tags(0)", 1, () -> x.tags(0));
        kit.due("spread(0, 'f')", 100, () -> x.spread(0, 'f'));
        kit.due("person(2, 'l')", '-', () -> x.person(2, 'l'));
        kit.due("rule(0, '-')", '-', () -> x.rule(0, '-'));
        kit.due("isPrivileged(1)", true, () -> x.isPrivileged(1));
        kit.due("isKept(0)", false, () -> x.isKept(0));
        kit.due("give(0)", 2, () -> x.give(0));
        kit.due("number(1)", 2, () -> x.number(1));
        kit.due("isSlip(0)", false, () -> x.isSlip(0));
        kit.due("replace(1)", true, () -> x.replace(1));
        Kit.typed(x, "cat");
        kit.due("black(0)", 1, () -> x.black(0));
        kit.due("shown(1, 4)", '!', () -> x.shown(1, 4));
        kit.due("viewer(0, 3)", 0, () -> x.viewer(0, 3));
        kit.due("level(0, 1)", 0, () -> x.level(0, 1));
        kit.due("day(2)", 0, () -> x.day(2));
        kit.due("sees(0, 0)", false, () -> x.sees(0, 0));
        kit.due("claw(0)", 1, () -> x.claw(0));
        kit.due("teach(1, true)", 6, () -> x.teach(1, true));
        kit.due("score(0)", 4, () -> x.score(0));
        kit.due("next()", 0, () -> x.next());
        kit.due("sample(1, 1, 0, 7)", 1, () -> x.sample(1, 1, 0, 7));
        kit.due("checksum()", 6270740297L, () -> x.checksum());
        kit.due("givenShare()", 1.0f, () -> x.givenShare());
        kit.due("meanWords()", 2.5, () -> x.meanWords());
        kit.due("isSound()", true, () -> x.isSound());
        kit.finish();
    }
}
