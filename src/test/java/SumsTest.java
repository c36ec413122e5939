/** Promises 47 to 50: sums. */
public final class SumsTest {
    private static final Kit kit = new Kit();

    public static void main(String[] args) {
        checksums();
        shares();
        means();
        soundness();
        kit.finish();
    }

    private static void checksums() {
        Discoverhall x = new Discoverhall();
        kit.due("47: no papers", 7L, () -> x.checksum());
        Kit.add(x, "a b");
        kit.due("47: words", ((7L * 31 + 2) * 31) * 31, () -> x.checksum());
        x.tag(0, 5, true);
        kit.due("47: tags", ((7L * 31 + 2) * 31 + 32) * 31, () -> x.checksum());
        x.give(5);
        long one = ((7L * 31 + 2) * 31 + 32) * 31 + 1;
        kit.due("47: number", one, () -> x.checksum());
        Kit.add(x, "gone");
        Kit.add(x, "c");
        x.drop(1);
        kit.due("47: those that are there", ((one * 31 + 1) * 31) * 31, () -> x.checksum());
        x.bad(2, true);
        kit.due("47: bad", one * 31 * 31 * 31, () -> x.checksum());
        for (int i = 0; i < 10; i++) {
            Kit.add(x, "d");
        }
        long around = one * 31 * 31 * 31;
        for (int i = 0; i < 10; i++) {
            around = (around * 31 + 1) * 31 * 31;
        }
        long due = around;
        kit.due("47: past the greatest number", due, () -> x.checksum());
    }

    private static void shares() {
        Discoverhall x = new Discoverhall();
        kit.due("48: no papers", Kit.NO_ELEMENT, () -> x.givenShare());
        for (String text : new String[] {"a", "b", "c", "d"}) {
            Kit.add(x, text);
        }
        kit.due("48: none given", 0.0f, () -> x.givenShare());
        x.tag(1, 0, true);
        x.give(0);
        kit.due("48: one of four", 0.25f, () -> x.givenShare());
        x.drop(0);
        kit.due("48: one of three", 1.0f / 3.0f, () -> x.givenShare());
        x.claw(1);
        kit.due("48: a locked one was given", 1.0f / 3.0f, () -> x.givenShare());
        Discoverhall empty = Kit.hallWith("a");
        empty.drop(0);
        kit.due("48: all dropped", Kit.NO_ELEMENT, () -> empty.givenShare());
    }

    private static void means() {
        Discoverhall x = new Discoverhall();
        kit.due("49: no papers", Kit.NO_ELEMENT, () -> x.meanWords());
        Kit.add(x, "a b");
        Kit.add(x, "");
        Kit.add(x, "c d");
        kit.due("49: four by three", 4.0 / 3.0, () -> x.meanWords());
        x.bad(0, true);
        kit.due("49: bad", 2.0 / 3.0, () -> x.meanWords());
        x.drop(0);
        kit.due("49: dropped", 1.0, () -> x.meanWords());
        x.drop(1);
        x.drop(2);
        kit.due("49: all dropped", Kit.NO_ELEMENT, () -> x.meanWords());
    }

    private static void soundness() {
        Discoverhall x = Kit.hallWith("a b", "a b", "c", "d");
        Kit.typed(x, "a").term('w', 0);
        Kit.typed(x, "c").term('p', 0);
        x.joined('a', 0, 1);
        x.joined('o', 0, 1);
        x.joined('t', 3, 0);
        x.viewer(2, 9999);
        x.tag(0, 0, true);
        x.tag(2, 0, true);
        kit.due("50: before giving", true, () -> x.isSound());
        x.rule(1, 'p');
        x.give(0);
        kit.due("50: with a slip", true, () -> x.isSound());
        x.claw(2);
        kit.due("50: with a locked one", true, () -> x.isSound());
        x.bad(0, true);
        x.drop(3);
        kit.due("50: with a bad and a dropped one", true, () -> x.isSound());
    }
}
