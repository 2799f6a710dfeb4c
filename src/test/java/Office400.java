/**
 * An office near its 400 versions: five tongues, of which the last one joined behind the act 0, and acts
 * of 12 units. It takes more calls than the document promises to answer; the class knows no such bound.
 */
final class Office400 {
    private static final int WITHOUT_AMENDMENTS = 396;

    private final Equaltexts x = new Equaltexts();
    private int versions;
    private int amended;

    private Office400() {
    }

    /** All five acts are frozen. */
    static Equaltexts frozen(int versions) {
        if (versions > WITHOUT_AMENDMENTS) {
            Equaltexts x = frozen(versions - 5);
            adopt(x, 11);
            return x;
        }
        return new Office400().build(versions, 5);
    }

    /** An act can be added. */
    static Equaltexts with(int versions) {
        return new Office400().build(versions, 4);
    }

    private Equaltexts build(int wanted, int acts) {
        for (int t = 0; t < 4; t++) {
            x.tongue();
        }
        freeze("", "", "", "n1");
        x.tongue();
        for (int act = 1; act < acts; act++) {
            freeze("", "", "", "n1", "n1");
        }
        correct(wanted, acts);
        while (versions + 5 <= wanted) {
            adopt(x, amended % 12);
            amended++;
            versions += 5;
            correct(wanted, acts);
        }
        if (versions != wanted) {
            throw new IllegalStateException("the office has " + versions + " versions, not " + wanted);
        }
        return x;
    }

    private void freeze(String... texts) {
        int act = x.act(0, 0);
        for (int i = 0; i < 12; i++) {
            Check.addUnit(x, act, texts);
        }
        versions = x.freeze(act);
    }

    private void correct(int wanted, int acts) {
        for (int act = 0; act < acts; act++) {
            for (int unit = 0; unit < 12; unit++) {
                for (int t = 3; t < (act == 0 ? 4 : 5); t++) {
                    if (versions < wanted && x.divergence(act, unit, t) == 'm') {
                        x.corrigendum(act, unit, t);
                        versions++;
                    }
                }
            }
        }
    }

    /** Five versions more, of which two diverge. */
    static void adopt(Equaltexts x, int unit) {
        int amendment = ready(x, unit);
        x.vote(amendment, 1, 0);
    }

    /** An amendment of a unit of the act 1 that lacks no text. */
    static int ready(Equaltexts x, int unit) {
        int amendment = Check.move(x, 1, unit, 0, "");
        x.supply(amendment, 1);
        x.supply(amendment, 2);
        Check.supply(x, amendment, 3, "n1");
        Check.supply(x, amendment, 4, "n1");
        return amendment;
    }
}
