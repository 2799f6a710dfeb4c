/** Promises 1 to 9: a new object, tongues, concepts and the buffer. */
public final class ConceptsTest {
    private static final Class<IllegalStateException> ISE = IllegalStateException.class;
    private static final Class<IllegalArgumentException> IAE = IllegalArgumentException.class;
    private static final Class<IndexOutOfBoundsException> IOOBE = IndexOutOfBoundsException.class;

    public static void main(String[] args) {
        promise1();
        promise2();
        promise3();
        promise4();
        promise5();
        promise6();
        promise7();
        promise7Ranges();
        promise8();
        promise9();
        Check.end("ConceptsTest");
    }

    private static void promise1() {
        Equaltexts x = new Equaltexts();
        Check.due("day", 0, x.day());
        Check.due("wipe", 0, x.wipe());
        Check.due("checksum", 0L, x.checksum());
        Check.due("overdue", 0, x.overdue());
        Check.due("conflicts", 0, x.conflicts());
        Check.due("isSound", true, x.isSound());
        Check.fails(x, "no tongue", IOOBE, () -> x.backlog(0));
        Check.fails(x, "no act", IOOBE, () -> x.stale(0));
        Check.fails(x, "no concept", IAE, () -> x.type('t', 0));
    }

    private static void promise2() {
        Equaltexts x = new Equaltexts();
        for (int i = 0; i < 5; i++) {
            Check.due("tongue", i, x.tongue());
        }
        Check.fails(x, "a sixth tongue", ISE, x::tongue);
        Check.due("the fifth is there", 0, x.backlog(4));
        Check.fails(x, "the sixth is not", IOOBE, () -> x.backlog(5));
    }

    private static void promise3() {
        Equaltexts x = Check.office(2, 0);
        for (int i = 0; i < 16; i++) {
            Check.due("concept", i, x.concept());
        }
        Check.fails(x, "a seventeenth concept", ISE, x::concept);
        for (int form = 0; form < 6; form++) {
            Check.due("no form is allowed", false, x.allow(15, 1, form, false));
        }
        Check.due("all situations", 4095, x.mean(15, 1, 4095));
        x.allow(15, 1, 5, true);
        Check.due("the last form of the last one", true, x.allow(15, 1, 5, true));
        x.alias(15, 1, 5, 4);
        Check.due("counts as another one", 4, x.alias(15, 1, 5, 5));
        x.mean(15, 1, 2);
        Check.due("means something else", 2, x.mean(15, 1, 4095));
        int late = x.tongue();
        Check.due("all situations, in a tongue that joined later", 4095, x.mean(0, late, 1));
        Check.due("no form there", false, x.allow(0, late, 0, true));
    }

    private static void promise4() {
        Equaltexts x = Check.office(2, 2);
        Check.due("allow first", false, x.allow(1, 1, 5, true));
        Check.due("allow again", true, x.allow(1, 1, 5, true));
        Check.due("another concept", false, x.allow(0, 1, 5, false));
        Check.due("another tongue", false, x.allow(1, 0, 5, false));
        Check.due("another form", false, x.allow(1, 1, 4, false));
        Check.due("forbid", true, x.allow(1, 1, 5, false));
        Check.due("forbidden", false, x.allow(1, 1, 5, false));
        x.alias(1, 1, 3, 2);
        x.allow(1, 1, 2, true);
        Check.due("what a form counts as is not asked", false, x.allow(1, 1, 3, true));
        x.allow(0, 0, 0, true);
        Check.due("the lowest of all", true, x.allow(0, 0, 0, true));
        Check.fails(x, "concept -1", IOOBE, () -> x.allow(-1, 0, 0, true));
        Check.fails(x, "concept 2", IOOBE, () -> x.allow(2, 0, 0, true));
        Check.fails(x, "tongue -1", IOOBE, () -> x.allow(0, -1, 0, true));
        Check.fails(x, "tongue 2", IOOBE, () -> x.allow(0, 2, 6, true));
        Check.fails(x, "form -1", IAE, () -> x.allow(0, 0, -1, true));
        Check.fails(x, "form 6", IAE, () -> x.allow(0, 0, 6, true));
    }

    private static void promise5() {
        Equaltexts x = Check.office(2, 2);
        Check.due("counts as itself", 3, x.alias(1, 1, 3, 2));
        Check.due("counts as 2", 2, x.alias(1, 1, 3, 5));
        Check.due("in another tongue as itself", 3, x.alias(1, 0, 3, 3));
        Check.due("another concept as itself", 3, x.alias(0, 1, 3, 3));
        Check.due("counts as 5", 5, x.alias(1, 1, 3, 3));
        Check.due("that is ended", 3, x.alias(1, 1, 3, 3));
        Check.due("the lowest as the highest", 0, x.alias(0, 0, 0, 5));
        Check.due("the highest as the lowest", 5, x.alias(0, 0, 5, 0));
        Check.due("the lowest counted as the highest", 5, x.alias(0, 0, 0, 0));
        Check.due("the highest counted as the lowest", 0, x.alias(0, 0, 5, 5));
        Check.fails(x, "concept 2", IOOBE, () -> x.alias(2, 0, 0, 0));
        Check.fails(x, "concept -1", IOOBE, () -> x.alias(-1, 0, 0, 0));
        Check.fails(x, "tongue 2", IOOBE, () -> x.alias(0, 2, 9, 0));
        Check.fails(x, "tongue -1", IOOBE, () -> x.alias(0, -1, 0, 0));
        Check.fails(x, "form 6", IAE, () -> x.alias(0, 0, 6, 0));
        Check.fails(x, "form -1", IAE, () -> x.alias(0, 0, -1, 0));
        Check.fails(x, "other 6", IAE, () -> x.alias(0, 0, 0, 6));
        Check.fails(x, "other -1", IAE, () -> x.alias(0, 0, 0, -1));
    }

    private static void promise6() {
        Equaltexts x = Check.office(2, 2);
        Check.due("all at first", 4095, x.mean(1, 1, 0));
        Check.due("none before", 0, x.mean(1, 1, 4095));
        Check.due("another tongue", 4095, x.mean(1, 0, 7));
        Check.due("another concept", 4095, x.mean(0, 1, 7));
        Check.due("the one before", 7, x.mean(0, 1, 8));
        Check.fails(x, "concept 2", IOOBE, () -> x.mean(2, 0, 0));
        Check.fails(x, "concept -1", IOOBE, () -> x.mean(-1, 0, 0));
        Check.fails(x, "tongue 2", IOOBE, () -> x.mean(0, 2, -1));
        Check.fails(x, "tongue -1", IOOBE, () -> x.mean(0, -1, 0));
        Check.fails(x, "situations -1", IAE, () -> x.mean(0, 0, -1));
        Check.fails(x, "situations 4096", IAE, () -> x.mean(0, 0, 4096));
    }

    private static void promise7() {
        Equaltexts x = Check.office(1, 2);
        String[] typed = {"w0", "w99", "t0", "t15", "n0", "n9999", "r0", "r11", "m0", "m1"};
        for (int i = 0; i < typed.length; i++) {
            int value = Integer.parseInt(typed[i].substring(1));
            Check.due("type " + typed[i], i + 1, x.type(typed[i].charAt(0), value));
        }
        Check.fails(x, "an eleventh token", ISE, () -> x.type('w', 1));
        Check.fails(x, "an eleventh token out of range", IAE, () -> x.type('w', 100));
        int act = x.act(0, 0);
        x.unit(act, -1, -1);
        x.write(act, 0, 0);
        x.freeze(act);
        Check.due("as they were typed", "w0 w99 t0 t15 n0 n9999 r0 r11 m0 m1", Check.textOn(x, act, 0, 0, 0));
    }

    private static void promise7Ranges() {
        Equaltexts x = Check.office(1, 2);
        int[][] wrong = {
            {'w', -1}, {'w', 100}, {'t', -1}, {'t', 6}, {'t', 9}, {'t', 16}, {'t', 20}, {'n', -1}, {'n', 10000},
            {'r', -1}, {'r', 12}, {'m', -1}, {'m', 2}, {'q', 0}, {'W', 0}, {0, 0}, {'\uffff', 0}, {'-', 0},
            {'t', Integer.MAX_VALUE}, {'t', Integer.MIN_VALUE}, {'n', Integer.MAX_VALUE}
        };
        for (int[] token : wrong) {
            Check.fails(x, "type " + token[0] + " " + token[1], IAE, () -> x.type((char) token[0], token[1]));
        }
        x.type('x', Integer.MIN_VALUE);
        x.type('x', 77);
        int act = x.act(0, 0);
        x.unit(act, -1, -1);
        x.write(act, 0, 0);
        x.freeze(act);
        Check.due("negations are of the value 0", "x0 x0", Check.textOn(x, act, 0, 0, 0));
        x.concept();
        Check.due("a concept that came later", 1, x.type('t', 20));
    }

    private static void promise8() {
        Equaltexts x = Check.office(1, 1);
        Check.due("nothing to wipe", 0, x.wipe());
        Check.type(x, "w1 w2 n3");
        Check.due("wipe", 3, x.wipe());
        Check.due("it is empty", 0, x.wipe());
        Check.due("type anew", 1, x.type('w', 1));
    }

    private static void promise9() {
        Equaltexts x = new Equaltexts();
        Check.due("pass 1", 1, x.pass(1));
        Check.due("pass 365", 366, x.pass(365));
        Check.fails(x, "pass 0", IAE, () -> x.pass(0));
        Check.fails(x, "pass -1", IAE, () -> x.pass(-1));
        Check.fails(x, "pass 366", IAE, () -> x.pass(366));
        while (x.day() <= 9999 - 365) {
            x.pass(365);
        }
        int left = 9999 - x.day();
        Check.fails(x, "beyond the last day", ISE, () -> x.pass(left + 1));
        Check.fails(x, "out of range counts first", IAE, () -> x.pass(Integer.MAX_VALUE));
        Check.due("to the last day", 9999, x.pass(left));
        Check.fails(x, "beyond 9999", ISE, () -> x.pass(1));
    }
}
