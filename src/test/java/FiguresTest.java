import java.math.BigInteger;

/** Promises 53 to 60: letters and figures. */
public final class FiguresTest {
    private static final Class<IllegalStateException> ISE = IllegalStateException.class;
    private static final Class<IndexOutOfBoundsException> IOOBE = IndexOutOfBoundsException.class;
    private static final Class<java.util.NoSuchElementException> NSEE = java.util.NoSuchElementException.class;

    public static void main(String[] args) {
        promise53();
        promise54();
        promise55();
        promise56();
        promise57();
        promise57Order();
        promise57Wraps();
        promise58();
        promise59();
        promise60();
        Check.end("FiguresTest");
    }

    private static void promise53() {
        Equaltexts x = Check.office(2, 0);
        for (int i = 0; i < 20; i++) {
            Check.due("letter", i + 1, x.letter(i % 2));
        }
        Check.fails(x, "20 wait", ISE, () -> x.letter(0));
        Check.fails(x, "no tongue ahead of full", IOOBE, () -> x.letter(2));
        Check.fails(x, "tongue -1", IOOBE, () -> x.letter(-1));
        x.translator(3, 1);
        x.answer(0);
        Check.due("room again", 20, x.letter(0));
    }

    private static void promise54() {
        Equaltexts x = Check.office(3, 0);
        x.translator(0b011, 1);
        x.translator(0b110, 1);
        x.translator(0, 1);
        Check.fails(x, "none came", NSEE, () -> x.answer(0));
        x.letter(2);
        x.pass(1);
        x.letter(0);
        x.pass(2);
        x.letter(1);
        x.pass(4);
        Check.fails(x, "knows no tongue", NSEE, () -> x.answer(2));
        Check.due("the first that this one knows", 6, x.answer(0));
        Check.due("the first of all", 7, x.answer(1));
        x.letter(1);
        Check.due("the one that came first", 4, x.answer(1));
        Check.due("of this day", 0, x.answer(0));
        x.letter(2);
        Check.fails(x, "none waits for this one", NSEE, () -> x.answer(0));
        Check.fails(x, "no translator", IOOBE, () -> x.answer(3));
        Check.fails(x, "translator -1", IOOBE, () -> x.answer(-1));
        Check.due("one waits still", 2, x.letter(0));
        Equaltexts late = Check.office(1, 0);
        late.translator(1, 1);
        late.letter(0);
        while (late.day() < 9999) {
            late.pass(Math.min(365, 9999 - late.day()));
        }
        Check.due("overdue by far", 1, late.overdue());
        Check.due("all the days that there are", 9999, late.answer(0));
        Check.due("none waits any more", 0, late.overdue());
    }

    private static void promise55() {
        Equaltexts x = Check.office(1, 0);
        x.translator(1, 1);
        x.letter(0);
        x.pass(1);
        x.letter(0);
        x.letter(0);
        x.pass(14);
        Check.due("15 days are not more", 0, x.overdue());
        x.pass(1);
        Check.due("16 are", 1, x.overdue());
        x.pass(1);
        Check.due("all three", 3, x.overdue());
        x.letter(0);
        x.answer(0);
        Check.due("of those that wait still", 2, x.overdue());
    }

    private static void promise56() {
        Equaltexts x = new Equaltexts();
        Check.due("the first day", 0, x.day());
        x.pass(7);
        x.pass(30);
        Check.due("the day", 37, x.day());
    }

    private static long sum(long before, int day, String text) {
        long sum = 31 * before + day;
        for (String token : text.split(" ")) {
            if (!token.isEmpty()) {
                sum = 31 * sum + token.charAt(0) + 7 * Integer.parseInt(token.substring(1));
            }
        }
        return sum;
    }

    private static void promise57() {
        Equaltexts x = Check.office(1, 1);
        Check.draft(x, "n9999 w99 t5 m1 r11 x0");
        Check.due("no versions", 0L, x.checksum());
        x.freeze(0);
        Check.due("one of the day 0", sum(0, 0, "n9999 w99 t5 m1 r11 x0"), x.checksum());
        Equaltexts y = Check.office(1, 0);
        y.pass(5);
        Check.frozen(y, "");
        Check.due("without tokens", 5L, y.checksum());
        Check.frozen(y, "w1");
        Check.due("by hand", (31L * 5 + 5) * 31 + 'w' + 7, y.checksum());
    }

    private static void promise57Order() {
        Equaltexts x = Check.office(3, 0);
        Check.draft(x, "n1", "n1 w2", "n2 w3");
        Check.addUnit(x, 0, "w4", "w5", "w6");
        Check.frozen(x, "w7", "w8", "w9");
        x.pass(2);
        x.freeze(0);
        long sum = 0;
        for (String text : new String[] {"w7", "w8", "w9"}) {
            sum = sum(sum, 0, text);
        }
        for (String text : new String[] {"n1", "n1 w2", "n2 w3", "w4", "w5", "w6"}) {
            sum = sum(sum, 2, text);
        }
        Check.due("as they came, by units, then tongues", sum, x.checksum());
        x.pass(1);
        Check.type(x, "n1 w10");
        x.corrigendum(0, 0, 2);
        sum = sum(sum, 3, "n1 w10");
        Check.due("a corrigendum", sum, x.checksum());
        int amendment = Check.move(x, 0, 1, 1, "w11");
        Check.supply(x, amendment, 2, "w12");
        Check.supply(x, amendment, 0, "w13");
        Check.due("not yet adopted", sum, x.checksum());
        x.vote(amendment, 1, 0);
        sum = sum(sum(sum(sum, 3, "w13"), 3, "w11"), 3, "w12");
        Check.due("an amendment, by tongues", sum, x.checksum());
        x.tongue();
        Check.translate(x, 0, 1, 3, "w14");
        Check.translate(x, 0, 0, 3, "n1 w15");
        Check.due("not yet published", sum, x.checksum());
        x.publish(0, 3);
        Check.due("a special edition, by units", sum(sum(sum, 3, "n1 w15"), 3, "w14"), x.checksum());
    }

    /** The sum without an end to its numbers, of which the checksum keeps the last 64 bits. */
    private static BigInteger exact(BigInteger before, int day, String text) {
        BigInteger by = BigInteger.valueOf(31);
        BigInteger sum = before.multiply(by).add(BigInteger.valueOf(day));
        for (String token : text.split(" ")) {
            int value = Integer.parseInt(token.substring(1));
            sum = sum.multiply(by).add(BigInteger.valueOf(token.charAt(0) + 7L * value));
        }
        return sum;
    }

    private static void promise57Wraps() {
        Equaltexts x = Check.office(1, 0);
        x.pass(365);
        BigInteger sum = exact(BigInteger.ZERO, 365, "n9999");
        Check.frozen(x, "n9999");
        int within = 1;
        boolean isNegative = false;
        for (int i = 0; i < 12; i++) {
            String text = i == 11 ? "n9999 n9999 n9999 n9999 n9999 n9999 n9999 n9999 n9999 n9999" : "n9999";
            Check.move(x, 0, 0, 0, text);
            x.vote(i, 1, 0);
            sum = exact(sum, 365, text);
            Check.due("the sum of " + (i + 2) + " versions", sum.longValue(), x.checksum());
            within += sum.bitLength() < 64 ? 1 : 0;
            isNegative |= x.checksum() < 0;
        }
        Check.due("so many were within a long", 5, within);
        Check.due("some that wrapped around were below 0", true, isNegative);
    }

    private static void promise58() {
        Equaltexts x = Check.office(1, 0);
        Check.fails(x, "there are none", ArithmeticException.class, x::frozenShare);
        Check.draft(x, "w1");
        Check.due("none is frozen", 0f, x.frozenShare());
        x.freeze(0);
        Check.due("all are", 1f, x.frozenShare());
        x.act(0, 0);
        Check.due("half", 0.5f, x.frozenShare());
        x.act(0, 0);
        Check.due("a third, as a float", 1f / 3f, x.frozenShare());
        Check.frozen(x, "w1");
        Check.frozen(x, "w1");
        Check.due("three of five", 3f / 5f, x.frozenShare());
    }

    private static void promise59() {
        Equaltexts x = Check.office(3, 0);
        Check.fails(x, "there are none", NSEE, x::meanTokens);
        Check.draft(x, "w1 w2", "", "w1 w2");
        Check.fails(x, "drafts are none", NSEE, x::meanTokens);
        x.freeze(0);
        Check.due("4 of 3", 4.0 / 3.0, x.meanTokens());
        int amendment = Check.move(x, 0, 0, 0, "w1 w2 w3");
        Check.supply(x, amendment, 1, "w1 w2 w3");
        Check.supply(x, amendment, 2, "w1 w2 w3");
        x.vote(amendment, 1, 0);
        Check.due("of all versions, 13 of 6", 13.0 / 6.0, x.meanTokens());
        Check.frozen(x, "", "", "");
        Check.due("13 of 9", 13.0 / 9.0, x.meanTokens());
        Equaltexts none = Check.office(1, 0);
        Check.frozen(none, "");
        Check.due("none at all", 0.0, none.meanTokens());
        Equaltexts most = Check.office(1, 0);
        Check.frozen(most, "w1 w2 w3 w4 w5 w6 w7 w8 w9 x");
        Check.due("the most", 10.0, most.meanTokens());
    }

    private static void promise60() {
        Equaltexts x = Check.office(3, 1);
        Check.draft(x, "n1", "n2");
        Check.due("with drafts", true, x.isSound());
        Check.frozen(x, "n1 t0", "n1 t0", "n2 t0");
        Check.due("with a divergence, that is told", true, x.isSound());
        Check.frozen(x, "n1", "n2", "n3");
        Check.due("without a kernel, that is told", true, x.isSound());
        x.judge(1, 0, 'c', 0);
        x.judge(1, 0, 'p', 0);
        x.mean(0, 1, 0);
        Check.due("with judgments of other days", true, x.isSound());
        x.tongue();
        Check.translate(x, 1, 0, 3, "m1");
        Check.due("with a tongue behind", true, x.isSound());
    }
}
