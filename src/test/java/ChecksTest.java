/** Promises 22 to 28: checks of texts, divergences and corrigenda. */
public final class ChecksTest {
    private static final Class<IllegalStateException> ISE = IllegalStateException.class;
    private static final Class<IndexOutOfBoundsException> IOOBE = IndexOutOfBoundsException.class;
    private static final Class<UnsupportedOperationException> UOE = UnsupportedOperationException.class;
    private static final Class<java.util.NoSuchElementException> NSEE = java.util.NoSuchElementException.class;

    public static void main(String[] args) {
        promise22();
        promise22Faults();
        promise23();
        promise24();
        promise25();
        promise26();
        promise26Kernels();
        promise26Faults();
        promise27();
        promise28();
        promise28Faults();
        promise28Versions();
        Check.end("ChecksTest");
    }

    private static void difference(char want, String one, String other) {
        Equaltexts x = Check.office(2, 3);
        int act = Check.draft(x, one, other);
        Check.due("difference of " + one + " and " + other, want, x.difference(act, 0, 0, 1));
        Check.due("difference of " + other + " and " + one, want, x.difference(act, 0, 1, 0));
        Check.due("difference to itself", '-', x.difference(act, 0, 1, 1));
        x.freeze(act);
        Check.due("difference in force of " + one + " and " + other, want, x.difference(act, 0, 0, 1));
    }

    private static void promise22() {
        difference('-', "", "");
        difference('-', "", "w1 w2");
        difference('-', "n1 w1 n2", "w7 n2 n1");
        difference('n', "n1 n1", "n1");
        difference('n', "n1 n1 n2", "n1 n2 n2");
        difference('n', "n1 r1 t1 m0 x", "n2 r2 t11 m1");
        difference('-', "r1 r0 r1", "r1 r1 r0");
        difference('r', "n1 r1 r1", "r1 n1");
        difference('r', "r1 t1 m0 x", "r2 t11 m1");
        difference('-', "t1 t13 t20", "t25 t0 t10");
        difference('t', "t1 t1 t10", "t10 t10 t1");
        difference('t', "t1 m0 x", "t11 m1");
        difference('-', "m0 t1 m1", "m0 m1 t2");
        difference('m', "m0 m1", "m1 m0");
        difference('m', "m0 x", "m0 m0");
        difference('x', "x x", "x");
        difference('x', "t1 x", "t1 x x");
        difference('-', "x t1 t11", "x w1 t2 t12");
        difference('s', "x t1 t11", "x t11 t1");
        difference('s', "x t1", "t1 x");
        difference('s', "x t1 x t11", "t1 x x t11");
        difference('-', "x x t1", "x w1 x t3");
        difference('-', "t1 x x t1", "x t1 x t1");
        difference('s', "x t1 x", "x x t1");
    }

    private static void promise22Faults() {
        Equaltexts x = Check.office(3, 0);
        int act = Check.draft(x, "n1", "n2");
        Check.fails(x, "the other has no text", NSEE, () -> x.difference(act, 0, 0, 2));
        Check.fails(x, "the one has no text", NSEE, () -> x.difference(act, 0, 2, 0));
        Check.fails(x, "none has", NSEE, () -> x.difference(act, 0, 2, 2));
        Check.fails(x, "no act", IOOBE, () -> x.difference(1, 0, 0, 1));
        Check.fails(x, "no unit", IOOBE, () -> x.difference(act, 1, 0, 1));
        Check.fails(x, "unit -1", IOOBE, () -> x.difference(act, -1, 0, 1));
        Check.fails(x, "no tongue for one", IOOBE, () -> x.difference(act, 0, 3, 2));
        Check.fails(x, "no tongue for other", IOOBE, () -> x.difference(act, 0, 2, -1));
        Check.write(x, act, 0, 1, "n1");
        Check.write(x, act, 0, 2, "n1");
        x.freeze(act);
        x.tongue();
        Check.translate(x, act, 0, 3, "n1");
        Check.fails(x, "translated, not published", NSEE, () -> x.difference(act, 0, 0, 3));
        x.publish(act, 3);
        Check.due("published", '-', x.difference(act, 0, 0, 3));
    }

    private static void promise23() {
        Equaltexts x = Check.office(2, 2);
        int act = Check.draft(x, "t1 t1 n1 t12 w1", "t1");
        Check.addUnit(x, act, "t2");
        Check.due("none is allowed", 4, x.forbidden(act, 0));
        x.allow(0, 0, 1, true);
        Check.due("one form, twice", 2, x.forbidden(act, 0));
        Check.due("in another tongue", 1, x.forbidden(act, 1));
        x.alias(0, 0, 2, 1);
        Check.due("it counts as one that is allowed", 1, x.forbidden(act, 0));
        x.alias(0, 0, 1, 3);
        Check.due("once, without going on", 3, x.forbidden(act, 0));
        x.alias(0, 0, 1, 1);
        x.allow(0, 0, 2, true);
        x.alias(0, 0, 2, 5);
        Check.due("allowed itself, it counts as one that is not", 2, x.forbidden(act, 0));
        x.alias(0, 0, 2, 2);
        Check.due("the form itself ends that", 1, x.forbidden(act, 0));
        x.allow(0, 0, 1, false);
        Check.due("no more allowed", 3, x.forbidden(act, 0));
        x.tongue();
        Check.due("without texts", 0, x.forbidden(act, 2));
        Check.fails(x, "no act", IOOBE, () -> x.forbidden(1, 0));
        Check.fails(x, "act -1", IOOBE, () -> x.forbidden(-1, 0));
        Check.fails(x, "no tongue", IOOBE, () -> x.forbidden(act, 3));
        Check.fails(x, "tongue -1", IOOBE, () -> x.forbidden(act, -1));
        Equaltexts y = Check.office(1, 1);
        Check.frozen(y, "t0");
        y.tongue();
        Check.translate(y, 0, 0, 1, "t0");
        Check.due("in force", 1, y.forbidden(0, 0));
        Check.due("translated, not published", 0, y.forbidden(0, 1));
        y.publish(0, 1);
        Check.due("published", 1, y.forbidden(0, 1));
    }

    private static void promise24() {
        Equaltexts x = Check.office(2, 5);
        int act = x.act(0, 0);
        Check.due("nothing is used", 0, x.undefined(act));
        x.unit(act, -1, 0);
        x.unit(act, 0, 4);
        Check.write(x, act, 0, 0, "t1 t10 t11 t20");
        Check.due("of 0, 1 and 2, two", 2, x.undefined(act));
        Check.write(x, act, 1, 1, "t20 t30 t40");
        Check.due("in any tongue", 3, x.undefined(act));
        x.unit(act, 0, 1);
        Check.due("defined by a later unit", 2, x.undefined(act));
        int other = x.act(0, 0);
        x.unit(other, -1, 2);
        Check.due("another act defines nothing of it", 2, x.undefined(act));
        Check.fails(x, "no act", IOOBE, () -> x.undefined(2));
        Check.fails(x, "act -1", IOOBE, () -> x.undefined(-1));
        Check.write(x, other, 0, 1, "t0");
        Check.due("the concept 0 is not defined in it", 1, x.undefined(other));
        Equaltexts y = Check.office(1, 1);
        Check.frozen(y, "w1");
        y.tongue();
        Check.translate(y, 0, 0, 1, "t0");
        Check.due("translated, not published", 0, y.undefined(0));
    }

    private static void promise25() {
        Equaltexts x = Check.office(2, 0);
        int act = Check.draft(x, "r0 r1 r1 r2 w3", "r0 r0");
        Check.due("no unit 1, no unit 2", 3, x.dangling(act, 0));
        Check.due("to itself", 0, x.dangling(act, 1));
        Check.addUnit(x, act, "", "w1");
        Check.due("without tokens", 3, x.dangling(act, 0));
        Check.addUnit(x, act);
        Check.write(x, act, 2, 1, "r1 r2");
        Check.due("not there in this tongue", 3, x.dangling(act, 0));
        Check.due("there in the other one", 0, x.dangling(act, 1));
        Check.write(x, act, 1, 0, "w1");
        Check.due("with tokens", 1, x.dangling(act, 0));
        Check.write(x, act, 0, 1, "r11");
        Check.due("far off", 1, x.dangling(act, 1));
        x.tongue();
        Check.due("without texts", 0, x.dangling(act, 2));
        Check.fails(x, "no act", IOOBE, () -> x.dangling(1, 0));
        Check.fails(x, "act -1", IOOBE, () -> x.dangling(-1, 0));
        Check.fails(x, "no tongue", IOOBE, () -> x.dangling(act, 3));
        Check.fails(x, "tongue -1", IOOBE, () -> x.dangling(act, -1));
    }

    /** What the text of the tongue 2 is beside two texts of one kernel. */
    private static void classified(char want, String kernel, String text) {
        Equaltexts x = Check.office(3, 2);
        int act = Check.frozen(x, kernel, kernel, text);
        Check.due("divergence of " + text, want, x.divergence(act, 0, 2));
        Check.due("divergence of " + kernel, '-', x.divergence(act, 0, 0));
        Check.due("diverging", want == '-' ? 0 : 1, x.diverging(act));
    }

    private static void promise26() {
        classified('-', "n1 t1", "t2 w1 n1");
        classified('m', "n1 t1 m0 x", "n2 t1 m0 x");
        classified('m', "n1", "");
        classified('m', "r1 x t1", "x r2 t3");
        classified('m', "n1 r1", "n2 r2");
        classified('d', "n1 t1", "n2 t11");
        classified('d', "n1 m0", "n2 m1");
        classified('d', "r1 x", "r2");
        classified('d', "n1 x t1", "n2 t1 x");
        classified('d', "t1", "t11");
        classified('d', "m1", "m0");
        classified('d', "x", "x x");
        classified('d', "x t1", "t1 x");
    }

    private static void promise26Kernels() {
        Equaltexts x = Check.office(4, 0);
        int act = Check.draft(x, "n1", "n1", "n2", "n2");
        Check.addUnit(x, act, "n1", "n2", "n3", "n3");
        Check.addUnit(x, act, "n1", "n2", "n2", "n2");
        x.freeze(act);
        Check.due("half of them is no kernel", 's', x.divergence(act, 0, 0));
        Check.due("of no tongue", 's', x.divergence(act, 0, 3));
        Check.due("the most are not more than half", 's', x.divergence(act, 1, 2));
        Check.due("more than half is", '-', x.divergence(act, 2, 1));
        Check.due("the source does not count more", 'm', x.divergence(act, 2, 0));
        Check.due("diverging", 9, x.diverging(act));
        x.tongue();
        Check.translate(x, act, 0, 4, "n1");
        Check.translate(x, act, 1, 4, "n3");
        Check.translate(x, act, 2, 4, "n2");
        Check.due("not yet published", 's', x.divergence(act, 0, 0));
        x.publish(act, 4);
        Check.due("a kernel by the tongue that joined", '-', x.divergence(act, 0, 1));
        Check.due("that diverges now", 'm', x.divergence(act, 0, 2));
        Check.due("three of five", '-', x.divergence(act, 1, 4));
        Check.due("diverging then", 5, x.diverging(act));
        Equaltexts y = Check.office(1, 0);
        Check.due("one tongue is its kernel", '-', y.divergence(Check.frozen(y, "n1"), 0, 0));
    }

    private static void promise26Faults() {
        Equaltexts x = Check.office(2, 0);
        int act = Check.draft(x, "n1", "n2");
        Check.fails(x, "drafted", UOE, () -> x.divergence(act, 0, 0));
        x.freeze(act);
        x.tongue();
        Check.translate(x, act, 0, 2, "n1");
        Check.fails(x, "not in force in this tongue", UOE, () -> x.divergence(act, 0, 2));
        Check.fails(x, "no act", IOOBE, () -> x.divergence(1, 0, 0));
        Check.fails(x, "no unit", IOOBE, () -> x.divergence(act, 1, 2));
        Check.fails(x, "unit -1", IOOBE, () -> x.divergence(act, -1, 0));
        Check.fails(x, "no tongue", IOOBE, () -> x.divergence(act, 0, 3));
        Check.fails(x, "tongue -1", IOOBE, () -> x.divergence(act, 0, -1));
    }

    private static void promise27() {
        Equaltexts x = Check.office(3, 1);
        int act = Check.draft(x, "n1", "n1", "n2");
        Check.addUnit(x, act, "n1", "n2", "n3");
        Check.addUnit(x, act, "n1", "w1 n1", "w2 n1");
        Check.addUnit(x, act, "m0", "m1", "m0");
        Check.due("a draft", 0, x.diverging(act));
        x.freeze(act);
        Check.due("one, three, none, one", 5, x.diverging(act));
        x.tongue();
        for (int unit = 0; unit < 4; unit++) {
            Check.translate(x, act, unit, 3, "n9");
        }
        Check.due("a tongue in which it is not in force", 5, x.diverging(act));
        Check.fails(x, "no act", IOOBE, () -> x.diverging(1));
        Check.fails(x, "act -1", IOOBE, () -> x.diverging(-1));
    }

    private static void promise28() {
        Equaltexts x = Check.office(3, 1);
        int act = Check.frozen(x, "n1 t0", "n1 t1", "n2 t1");
        x.pass(4);
        Check.type(x, "w7 t3 n1");
        Check.due("the first corrigendum", 1, x.corrigendum(act, 0, 2));
        Check.due("the buffer is empty then", 0, x.wipe());
        Check.due("a version more", 2, x.versions(act, 0, 2));
        Check.due("in this tongue alone", 1, x.versions(act, 0, 0));
        Check.due("before", "n2 t1", Check.textOn(x, act, 0, 2, 3));
        Check.due("of this day", "w7 t3 n1", Check.textOn(x, act, 0, 2, 4));
        Check.due("it does not diverge", '-', x.divergence(act, 0, 2));
        int other = Check.frozen(x, "r1", "r2", "r1");
        Check.type(x, "r1 w1");
        Check.due("of all acts", 2, x.corrigendum(other, 0, 1));
    }

    private static void promise28Faults() {
        Equaltexts x = Check.office(3, 2);
        int act = Check.draft(x, "n1 t1", "n1 t1", "n2 t1");
        Check.addUnit(x, act, "n1 t1", "n1 t1", "n2 t11");
        Check.addUnit(x, act, "n1", "n2", "n3");
        Check.type(x, "n1 t1");
        Check.fails(x, "drafted", UOE, () -> x.corrigendum(act, 0, 2));
        x.freeze(act);
        Check.fails(x, "it does not diverge", UOE, () -> x.corrigendum(act, 0, 0));
        Check.fails(x, "it diverges otherwise", UOE, () -> x.corrigendum(act, 1, 2));
        Check.fails(x, "there is no kernel", UOE, () -> x.corrigendum(act, 2, 0));
        Check.fails(x, "no act", IOOBE, () -> x.corrigendum(1, 0, 2));
        Check.fails(x, "no unit", IOOBE, () -> x.corrigendum(act, 3, 2));
        Check.fails(x, "unit -1", IOOBE, () -> x.corrigendum(act, -1, 2));
        Check.fails(x, "no tongue", IOOBE, () -> x.corrigendum(act, 0, 3));
        Check.fails(x, "tongue -1", IOOBE, () -> x.corrigendum(act, 0, -1));
        x.tongue();
        Check.fails(x, "not in force", UOE, () -> x.corrigendum(act, 0, 3));
        Check.type(x, "m0");
        Check.fails(x, "the buffer would diverge", UOE, () -> x.corrigendum(act, 0, 2));
        Check.due("the buffer stays", 3, x.wipe());
        Check.type(x, "n2 t1");
        Check.fails(x, "the buffer would diverge as before", UOE, () -> x.corrigendum(act, 0, 2));
    }

    private static void promise28Versions() {
        Equaltexts x = Office400.frozen(394);
        Office400.adopt(x, 0);
        Check.due("it diverges", 'm', x.divergence(1, 0, 4));
        int before = x.corrigendum(1, 0, 4);
        Check.type(x, "w1");
        Check.fails(x, "there are 400", ISE, () -> x.corrigendum(1, 0, 3));
        Check.fails(x, "nothing diverges ahead of full", UOE, () -> x.corrigendum(1, 0, 0));
        Check.due("corrigenda", 107, before);
    }
}
