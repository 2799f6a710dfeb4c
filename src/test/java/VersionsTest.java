/** Promises 18 to 21: versions on each day. */
public final class VersionsTest {
    private static final Class<IndexOutOfBoundsException> IOOBE = IndexOutOfBoundsException.class;
    private static final Class<java.util.NoSuchElementException> NSEE = java.util.NoSuchElementException.class;

    public static void main(String[] args) {
        promise18();
        promise18Drafted();
        promise19();
        promise20();
        promise21();
        Check.end("VersionsTest");
    }

    /** An act of the day 2 with versions of the days 2, 5, 5 and 7 in the tongue 0, and a tongue behind. */
    private static Equaltexts history() {
        Equaltexts x = Check.office(2, 1);
        x.pass(2);
        int act = Check.draft(x, "w1", "w1");
        Check.addUnit(x, act, "w9 w9 w9 w9", "w9 w9 w9 w9");
        x.freeze(act);
        x.pass(3);
        adopt(x, "w1 w2");
        adopt(x, "w1 w2 n3");
        x.pass(2);
        adopt(x, "");
        x.tongue();
        Check.translate(x, 0, 0, 2, "w5 w6 w7 w8 m1");
        return x;
    }

    private static void adopt(Equaltexts x, String text) {
        int amendment = Check.move(x, 0, 0, 0, text);
        Check.supply(x, amendment, 1, text);
        x.vote(amendment, 1, 0);
    }

    private static void promise18() {
        Equaltexts x = history();
        Check.fails(x, "the day before", NSEE, () -> x.tokens(0, 0, 0, 1));
        Check.fails(x, "day -1", NSEE, () -> x.tokens(0, 0, 0, -1));
        Check.due("the first day", 1, x.tokens(0, 0, 0, 2));
        Check.due("between", 1, x.tokens(0, 0, 0, 4));
        Check.due("the last one of a day", 3, x.tokens(0, 0, 0, 5));
        Check.due("behind it", 3, x.tokens(0, 0, 1, 6));
        Check.due("without tokens", 0, x.tokens(0, 0, 0, 7));
        Check.due("days to come", 0, x.tokens(0, 0, 0, Integer.MAX_VALUE));
        Check.due("another unit", 4, x.tokens(0, 1, 0, 7));
        Check.fails(x, "not in force in this tongue", NSEE, () -> x.tokens(0, 0, 2, 7));
        Check.fails(x, "no act", IOOBE, () -> x.tokens(1, 0, 0, 7));
        Check.fails(x, "act -1", IOOBE, () -> x.tokens(-1, 0, 0, 7));
        Check.fails(x, "no unit", IOOBE, () -> x.tokens(0, 2, 0, 1));
        Check.fails(x, "unit -1", IOOBE, () -> x.tokens(0, -1, 0, 7));
        Check.fails(x, "no tongue", IOOBE, () -> x.tokens(0, 0, 3, 7));
        Check.fails(x, "tongue -1", IOOBE, () -> x.tokens(0, 0, -1, 7));
    }

    private static void promise18Drafted() {
        Equaltexts x = Check.office(1, 0);
        int act = Check.draft(x, "w1");
        Check.fails(x, "a draft is none of a version", NSEE, () -> x.tokens(act, 0, 0, 0));
        Check.fails(x, "nor has it tokens of a day", NSEE, () -> x.tokenAt(act, 0, 0, 0, 0, true));
        Check.due("nor versions", 0, x.versions(act, 0, 0));
    }

    private static void promise19() {
        Equaltexts x = history();
        Check.due("a letter", (int) 'n', x.tokenAt(0, 0, 0, 5, 2, false));
        Check.due("a value", 3, x.tokenAt(0, 0, 0, 5, 2, true));
        Check.due("on an earlier day", 1, x.tokenAt(0, 0, 1, 4, 0, true));
        Check.due("on a later day", 2, x.tokenAt(0, 0, 1, 6, 1, true));
        Check.fails(x, "index 3", NSEE, () -> x.tokenAt(0, 0, 0, 5, 3, true));
        Check.fails(x, "index -1", NSEE, () -> x.tokenAt(0, 0, 0, 5, -1, false));
        Check.fails(x, "of none", NSEE, () -> x.tokenAt(0, 0, 0, 7, 0, true));
        Check.fails(x, "no version by that day", NSEE, () -> x.tokenAt(0, 0, 0, 1, 0, true));
        Check.fails(x, "not in force", NSEE, () -> x.tokenAt(0, 0, 2, 7, 0, true));
        Check.fails(x, "no act", IOOBE, () -> x.tokenAt(1, 0, 0, 7, 9, true));
        Check.fails(x, "no unit", IOOBE, () -> x.tokenAt(0, 2, 0, 7, 0, true));
        Check.fails(x, "no tongue", IOOBE, () -> x.tokenAt(0, 0, 3, 7, 0, true));
    }

    private static void promise20() {
        Equaltexts x = history();
        Check.due("four versions", 4, x.versions(0, 0, 0));
        Check.due("in the other tongue", 4, x.versions(0, 0, 1));
        Check.due("of another unit", 1, x.versions(0, 1, 0));
        Check.due("translated only", 0, x.versions(0, 0, 2));
        Check.fails(x, "no act", IOOBE, () -> x.versions(1, 0, 0));
        Check.fails(x, "act -1", IOOBE, () -> x.versions(-1, 0, 0));
        Check.fails(x, "no unit", IOOBE, () -> x.versions(0, 2, 0));
        Check.fails(x, "unit -1", IOOBE, () -> x.versions(0, -1, 0));
        Check.fails(x, "no tongue", IOOBE, () -> x.versions(0, 0, 3));
        Check.fails(x, "tongue -1", IOOBE, () -> x.versions(0, 0, -1));
    }

    private static void promise21() {
        Equaltexts x = history();
        Check.due("the day before", false, x.applies(0, 0, 1));
        Check.due("the day", true, x.applies(0, 0, 2));
        Check.due("a day to come", true, x.applies(0, 1, 9999));
        Check.due("not yet published", false, x.applies(0, 2, 9999));
        Check.translate(x, 0, 0, 2, "");
        Check.translate(x, 0, 1, 2, "w1");
        x.pass(1);
        x.publish(0, 2);
        Check.due("before the day on which it was published", false, x.applies(0, 2, 7));
        Check.due("on that day", true, x.applies(0, 2, 8));
        Check.due("a draft", false, x.applies(Check.draft(x, "w1", "w1", "w1"), 0, 9999));
        Check.fails(x, "no act", IOOBE, () -> x.applies(2, 0, 0));
        Check.fails(x, "act -1", IOOBE, () -> x.applies(-1, 0, 0));
        Check.fails(x, "no tongue", IOOBE, () -> x.applies(0, 3, 0));
        Check.fails(x, "tongue -1", IOOBE, () -> x.applies(0, -1, 0));
    }
}
