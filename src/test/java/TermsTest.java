import java.util.LinkedHashMap;
import java.util.List;
import java.util.Map;

/** Each sentence of "Terms" has a test that is called by it; a sentence without one is told. */
public final class TermsTest {
    private static final Class<IndexOutOfBoundsException> IOOBE = IndexOutOfBoundsException.class;
    private static final Class<IllegalArgumentException> IAE = IllegalArgumentException.class;
    private static final Class<IllegalStateException> ISE = IllegalStateException.class;
    private static final Class<UnsupportedOperationException> UOE = UnsupportedOperationException.class;
    private static final Class<java.util.NoSuchElementException> NSEE = java.util.NoSuchElementException.class;

    private static final Map<String, Runnable> TESTS = new LinkedHashMap<>();

    public static void main(String[] args) {
        conceptsAndTokens();
        acts();
        versions();
        kernels();
        amendments();
        courtsAndStaff();
        // Of several threads nothing is promised.
        List<String> untested = List.of("It is not thread-safe.");
        for (String sentence : Document.terms()) {
            Check.due("tested or not to be: " + sentence, true,
                TESTS.containsKey(sentence) != untested.contains(sentence));
        }
        TESTS.forEach((sentence, test) -> {
            Check.due("in the document: " + sentence, true, Document.terms().contains(sentence));
            test.run();
        });
        Check.end("TermsTest");
    }

    private static void told(String sentence, Runnable test) {
        TESTS.put(sentence, test);
    }

    // ---- tongues, concepts, tokens

    private static void conceptsAndTokens() {
        told("No text is authentic alone; a change in one is a change in none until all are.",
            TermsTest::noTextAlone);
        told("At most 5 tongues and 16 concepts are numbered from 0.", TermsTest::numbersOfTonguesAndConcepts);
        told("A concept has forms 0 to 5 in a tongue, of which some are allowed; a form can count as another one, "
            + "once, without going on from that.", TermsTest::formsOfConcepts);
        told("Its meaning in a tongue is a set of the situations 0 to 11, told as the sum of 2 to the power of each.",
            TermsTest::situations);
        told("Days are numbered from 0.", TermsTest::daysFrom0);
        told("A text is a row of at most 10 tokens, each of a letter and a value, as they were typed into the buffer: "
            + "words 'w', terms 't', numbers 'n', references to units of the act 'r', modal verbs 'm', negations "
            + "'x', of the value 0.", TermsTest::rowsOfTokens);
        told("The distance of two texts is the least sum of 1 for each token that is left out or put in, and 1 for "
            + "each that becomes another one; tokens are alike if letters and values are.", TermsTest::distances);
    }

    private static void noTextAlone() {
        Equaltexts x = Check.office(3, 0);
        Check.frozen(x, "w1", "w1", "w1");
        long before = x.checksum();
        Check.move(x, 0, 0, 1, "w2");
        Check.supply(x, 0, 0, "w2");
        Check.fails(x, "one text is not there", UOE, () -> x.vote(0, 1, 0));
        Check.due("no text is changed", before, x.checksum());
        Check.supply(x, 0, 2, "w2");
        Check.due("not by supplying either", before, x.checksum());
        x.vote(0, 1, 0);
        for (int t = 0; t < 3; t++) {
            Check.due("all are", "w2", Check.textOn(x, 0, 0, t, 0));
        }
    }

    private static void numbersOfTonguesAndConcepts() {
        Equaltexts x = new Equaltexts();
        for (int t = 0; t < 5; t++) {
            Check.fails(x, "not yet there", IOOBE, numberOf(x, t));
            Check.due("tongue", t, x.tongue());
            Check.due("there", 0, x.backlog(t));
        }
        Check.fails(x, "a sixth tongue", ISE, x::tongue);
        for (int c = 0; c < 16; c++) {
            int concept = c;
            Check.fails(x, "not yet there", IOOBE, () -> x.mean(concept, 4, 0));
            Check.due("concept", c, x.concept());
            Check.due("there", 4095, x.mean(c, 4, c));
        }
        Check.fails(x, "a seventeenth concept", ISE, x::concept);
        for (int c = 0; c < 16; c++) {
            Check.due("each has a meaning of its own", c, x.mean(c, 4, 0));
        }
    }

    private static Check.Call numberOf(Equaltexts x, int tongue) {
        return () -> x.backlog(tongue);
    }

    private static void formsOfConcepts() {
        Equaltexts x = Check.office(5, 16);
        int act = Check.draft(x, "", "", "", "", "t150 t151 t152 t153 t154 t155");
        Check.due("none is allowed", 6, x.forbidden(act, 4));
        for (int form = 0; form < 6; form++) {
            x.allow(15, 4, form, true);
            Check.due("some are", 5 - form, x.forbidden(act, 4));
        }
        Check.fails(x, "form -1", IAE, () -> x.allow(15, 4, -1, true));
        Check.fails(x, "form 6", IAE, () -> x.allow(15, 4, 6, true));
        Check.fails(x, "no such form is typed", IAE, () -> x.type('t', 156));
        x.allow(15, 4, 0, false);
        x.allow(15, 4, 1, false);
        // 2 counts as 1, and 1 as 5, which is allowed; 2 does not go on to it, and 0 counts as itself.
        x.alias(15, 4, 2, 1);
        x.alias(15, 4, 1, 5);
        Check.due("once, without going on", 2, x.forbidden(act, 4));
        x.alias(15, 4, 0, 5);
        Check.due("the first one as the last one", 1, x.forbidden(act, 4));
        x.alias(15, 4, 0, 1);
        x.alias(15, 4, 5, 0);
        Check.due("two that count as one another end there", 3, x.forbidden(act, 4));
        Check.fails(x, "other -1", IAE, () -> x.alias(15, 4, 0, -1));
        Check.fails(x, "other 6", IAE, () -> x.alias(15, 4, 0, 6));
    }

    private static void situations() {
        Equaltexts x = Check.office(1, 2);
        int act = Check.draft(x, "t0 t10");
        for (int s = 0; s < 12; s++) {
            x.mean(0, 0, 1 << s);
            Check.due("situation " + s, 1 << s, x.meaning(act, 0, 0));
        }
        for (int situations : new int[] {0, 1, 2048, 2049, 4094, 4095}) {
            x.mean(0, 0, situations);
            Check.due("a sum", situations, x.meaning(act, 0, 0));
        }
        Check.fails(x, "a situation 12", IAE, () -> x.mean(0, 0, 4096));
        Check.fails(x, "less than none", IAE, () -> x.mean(0, 0, -1));
    }

    private static void daysFrom0() {
        Equaltexts x = Check.office(1, 0);
        Check.due("the first day", 0, x.day());
        Check.frozen(x, "w1");
        Check.due("a version of the day 0", 1, x.tokens(0, 0, 0, 0));
        Check.due("in force on it", true, x.applies(0, 0, 0));
        Check.fails(x, "none of the day -1", NSEE, () -> x.tokens(0, 0, 0, -1));
        Check.due("nor in force on it", false, x.applies(0, 0, -1));
        Check.due("a deadline on the day 0", 9999, x.setDeadline(0, 0));
        Check.due("does not go by on it", 0, Check.move(x, 0, 0, 0, "w2"));
    }

    private static void rowsOfTokens() {
        String text = "n9999 x0 w99 t155 r11 m1 w0 t0 n0 m0";
        Equaltexts x = Check.office(1, 16);
        Check.due("none typed yet", 0, x.wipe());
        Check.type(x, text);
        Check.fails(x, "an eleventh token", ISE, () -> x.type('x', 0));
        int act = x.act(0, 0);
        x.unit(act, -1, -1);
        x.write(act, 0, 0);
        x.unit(act, -1, -1);
        x.write(act, 1, 0);
        x.freeze(act);
        Check.due("as they were typed", text, Check.textOn(x, act, 0, 0, 0));
        Check.due("ten of them", 10, x.tokens(act, 0, 0, 0));
        Check.due("or none", 0, x.tokens(act, 1, 0, 0));
        x.type('x', 12345);
        x.type('x', -1);
        Check.move(x, act, 0, 0, "");
        x.vote(0, 1, 0);
        Check.due("negations are of the value 0", "x0 x0", Check.textOn(x, act, 0, 0, 0));
    }

    private static void distances() {
        distance(0, "", "");
        distance(10, "w1 w2 w3 w4 w5 w6 w7 w8 w9 n1", "");
        distance(10, "", "w1 w2 w3 w4 w5 w6 w7 w8 w9 n1");
        distance(0, "w1 w2 w3 w4 w5 w6 w7 w8 w9 n1", "w1 w2 w3 w4 w5 w6 w7 w8 w9 n1");
        distance(10, "w1 w1 w1 w1 w1 w1 w1 w1 w1 w1", "w2 w2 w2 w2 w2 w2 w2 w2 w2 w2");
        distance(2, "w1 w2 w3 w4 w5 w6 w7 w8 w9 n1", "w2 w3 w4 w5 w6 w7 w8 w9 n1 w1");
        distance(1, "w1", "w2");
        distance(1, "w1", "");
        distance(1, "", "w1");
        distance(1, "w1", "n1");
        distance(1, "t1", "t0");
        distance(1, "x", "w0");
        distance(0, "x", "x");
        distance(2, "w1 w2 w3", "w2 w3 w4");
        distance(3, "w1 w2 w3 w4", "w5 w1 w3 w6");
    }

    private static void distance(int want, String one, String other) {
        Equaltexts x = Check.office(1, 2);
        Check.frozen(x, one);
        Check.move(x, 0, 0, 0, other);
        Check.due("distance of " + one + " and " + other, want, x.distance(0));
    }

    // ---- acts

    private static void acts() {
        told("At most 5 acts are numbered from 0, each of at most 12 units, numbered from 0 in it, each below an "
            + "earlier one, or none, at most 3 levels deep, one that is below none being the first level.",
            TermsTest::actsOfUnits);
        told("An act that is drafted has a source, and texts in tongues, none at first.", TermsTest::sourceAndTexts);
        told("Writing in the source makes the texts of this unit in all other tongues stale; a text in another tongue "
            + "is stale until it is written behind the one in the source; one that is not there is stale, too, also "
            + "in the source, and in tongues that joined later.", TermsTest::staleTexts);
        told("To tell another source makes nothing stale or fresh but that its texts, where there are any, are fresh.",
            TermsTest::anotherSource);
        told("Each ask about a unit is open till its text in the source, as it is told then, is written; if one or "
            + "more are open then, this counts as one change.", TermsTest::openAsks);
        told("Frozen, an act is in force in all tongues that are there, by texts as they are; each one is the first "
            + "version of its text, of this day.", TermsTest::frozenActs);
    }

    private static void actsOfUnits() {
        Equaltexts x = Check.office(1, 0);
        for (int act = 0; act < 5; act++) {
            Check.due("act", act, x.act(0, 0));
            for (int unit = 0; unit < 12; unit++) {
                int above = unit % 3 - 1 + (unit % 3 == 0 ? 0 : unit / 3 * 3);
                int itself = unit;
                int of = act;
                Check.fails(x, "below itself", IAE, () -> x.unit(of, itself, -1));
                Check.due("unit", unit, x.unit(act, above, -1));
            }
            int of = act;
            Check.fails(x, "a thirteenth unit", ISE, () -> x.unit(of, -1, -1));
            Check.fails(x, "a thirteenth unit of the level 4", IAE, () -> x.unit(of, 11, -1));
        }
        Check.fails(x, "a sixth act", ISE, () -> x.act(0, 0));
        Equaltexts y = Check.office(0, 0);
        y.act(0, 0);
        Check.due("below none, the level 1", 0, y.unit(0, -1, -1));
        Check.due("the level 2", 1, y.unit(0, 0, -1));
        Check.due("another one of it", 2, y.unit(0, 0, -1));
        Check.due("the level 3", 3, y.unit(0, 1, -1));
        Check.due("below the other one", 4, y.unit(0, 2, -1));
        Check.fails(y, "the level 4", IAE, () -> y.unit(0, 3, -1));
        Check.fails(y, "the level 4 of the other one", IAE, () -> y.unit(0, 4, -1));
        Check.due("none are deeper than the first of all", 5, y.unit(0, 0, -1));
    }

    private static void sourceAndTexts() {
        Equaltexts x = Check.office(2, 0);
        x.act(0, 0);
        x.unit(0, -1, -1);
        Check.due("no texts at first", 2, x.stale(0));
        Check.fails(x, "none in the source", NSEE, () -> x.meaning(0, 0, 0));
        Check.fails(x, "none in another tongue", NSEE, () -> x.meaning(0, 0, 1));
        Check.due("the source is the tongue 0", 0, x.setSource(0, 1));
        Check.due("and then another one", 1, x.setSource(0, 1));
        Check.write(x, 0, 0, 1, "w1");
        Check.due("a text", 4095, x.meaning(0, 0, 1));
        Check.fails(x, "in this tongue alone", NSEE, () -> x.meaning(0, 0, 0));
        Equaltexts y = new Equaltexts();
        y.act(0, 0);
        Check.fails(y, "a source that is not there yet", IOOBE, () -> y.setSource(0, 0));
        y.tongue();
        Check.due("it is the tongue 0 all the same", 0, y.setSource(0, 0));
    }

    private static void staleTexts() {
        Equaltexts x = Check.office(3, 0);
        x.act(0, 0);
        x.unit(0, -1, -1);
        x.unit(0, -1, -1);
        Check.due("none is there, also not in the source", 6, x.stale(0));
        Check.due("without one in the source none is behind it", 6, Check.write(x, 0, 0, 1, "w1"));
        Check.due("the source is fresh, and the other stays stale", 5, Check.write(x, 0, 0, 0, "w1"));
        Check.due("written behind it", 4, Check.write(x, 0, 0, 1, "w1"));
        Check.due("in the last tongue", 3, Check.write(x, 0, 0, 2, ""));
        Check.due("another unit", 2, Check.write(x, 0, 1, 0, "w1"));
        Check.due("all others of this unit alone", 4, Check.write(x, 0, 0, 0, "w2"));
        Check.due("and anew", 4, Check.write(x, 0, 0, 0, "w2"));
        Check.due("one behind it", 3, Check.write(x, 0, 0, 2, "w2"));
        x.tongue();
        Check.due("in a tongue that joined later", 5, x.stale(0));
        Check.due("and is written", 4, Check.write(x, 0, 0, 3, "w2"));
        Check.fails(x, "stale texts are not frozen", UOE, () -> x.freeze(0));
    }

    private static void anotherSource() {
        Equaltexts x = Check.office(3, 0);
        Check.draft(x, "w1", "w1", "w1");
        Check.addUnit(x, 0, "w1");
        Check.due("two are not there", 2, x.stale(0));
        x.setSource(0, 2);
        Check.due("one that is not there is not fresh", 2, x.stale(0));
        Check.write(x, 0, 0, 2, "w2");
        Check.due("written in the new source", 4, x.stale(0));
        x.setSource(0, 1);
        Check.due("its text is fresh, and no other one", 3, x.stale(0));
        x.setSource(0, 2);
        Check.due("and stays so", 3, x.stale(0));
        x.setSource(0, 0);
        Check.due("as all do", 2, x.stale(0));
        Check.write(x, 0, 1, 1, "w1");
        Check.write(x, 0, 1, 2, "w1");
        Check.due("all are fresh", 0, x.stale(0));
        x.setSource(0, 1);
        Check.due("and stay so", 0, x.stale(0));
        Check.due("frozen", 6, x.freeze(0));
        Equaltexts y = Check.office(2, 0);
        y.act(0, 0);
        y.unit(0, -1, -1);
        y.setSource(0, 1);
        Check.write(y, 0, 0, 0, "w1");
        Check.due("no text in the source to be behind", 2, y.stale(0));
        y.setSource(0, 0);
        Check.due("fresh as the source", 1, y.stale(0));
        y.setSource(0, 1);
        Check.due("a rewritten one is not behind one in the source", 2, Check.write(y, 0, 0, 0, "w2"));
    }

    private static void openAsks() {
        Equaltexts x = Check.office(3, 0);
        Check.draft(x, "w1", "w1", "w1");
        Check.addUnit(x, 0, "w1", "w1", "w1");
        Check.due("one", 1, x.ask(0, 0, 1));
        Check.due("two of one tongue", 2, x.ask(0, 0, 1));
        Check.due("three", 3, x.ask(0, 0, 2));
        Check.due("of another unit", 4, x.ask(0, 1, 2));
        Check.write(x, 0, 0, 1, "w2");
        Check.due("another tongue closes none", 5, x.ask(0, 1, 2));
        Check.due("and changes none", 0, x.changed(0));
        Check.write(x, 0, 0, 0, "w2");
        Check.due("one change, though three were open", 1, x.changed(0));
        Check.due("two of the other unit are open still", 3, x.ask(0, 1, 1));
        x.setSource(0, 1);
        Check.due("telling another source closes none", 4, x.ask(0, 1, 0));
        Check.write(x, 0, 1, 0, "w2");
        Check.due("the old source closes none", 5, x.ask(0, 1, 0));
        Check.write(x, 0, 1, 1, "w2");
        Check.due("the source as it is told then does", 2, x.changed(0));
        Check.write(x, 0, 1, 1, "w3");
        Check.due("none is open any more", 2, x.changed(0));
        Check.due("the first one anew", 1, x.ask(0, 1, 0));
        Check.write(x, 0, 1, 1, "w3");
        Check.due("a text that is as it was is written, too", 3, x.changed(0));
    }

    private static void frozenActs() {
        Equaltexts x = Check.office(2, 0);
        x.pass(7);
        Check.draft(x, "n1", "n2 w1");
        x.setSource(0, 1);
        Check.addUnit(x, 0, "", "");
        Check.write(x, 0, 1, 0, "");
        x.pass(1);
        Check.due("each text is a version", 4, x.freeze(0));
        Check.due("the first one", 1, x.versions(0, 0, 0));
        Check.due("of this day", 2, x.tokens(0, 0, 1, 8));
        Check.fails(x, "not of the one on which it was written", NSEE, () -> x.tokens(0, 0, 1, 7));
        Check.due("texts as they are", "n1", Check.textOn(x, 0, 0, 0, 8));
        Check.due("without tokens, too", 1, x.versions(0, 1, 1));
        x.tongue();
        Check.due("in force in a tongue that was there", true, x.applies(0, 1, 8));
        Check.due("in none that joined then", false, x.applies(0, 2, 9999));
    }

    // ---- versions and tongues that join

    private static void versions() {
        told("Each version has a day.", TermsTest::daysOfVersions);
        told("On a day, a text is its last version of this day or an earlier one.", TermsTest::lastVersionOfADay);
        told("A text of an act that is drafted is none of a version, but counts as its text now.", TermsTest::drafts);
        told("The versions of all acts are at most 400.", TermsTest::versionsOfAllActs);
        told("A frozen act is not in force in a tongue that joined later, till it is published in it: then texts "
            + "translated for it become the first versions, of this day.", TermsTest::tonguesThatJoin);
        told("Until then such a text counts as none but for translating.", TermsTest::textsNotYetPublished);
        told("An act could be applied against persons of a tongue on a day if it was in force in this tongue by then.",
            TermsTest::appliedActs);
    }

    private static void amend(Equaltexts x, String... texts) {
        int amendment = Check.move(x, 0, 0, 0, texts[0]);
        for (int t = 1; t < texts.length; t++) {
            Check.supply(x, amendment, t, texts[t]);
        }
        x.vote(amendment, 1, 0);
    }

    private static void daysOfVersions() {
        Equaltexts x = Check.office(1, 0);
        x.pass(9);
        Check.frozen(x, "");
        Check.due("of the day 9", 9L, x.checksum());
        x.pass(365);
        amend(x, "");
        Check.due("and of the day 374", 31L * 9 + 374, x.checksum());
    }

    private static void lastVersionOfADay() {
        Equaltexts x = Check.office(1, 0);
        x.pass(1);
        Check.frozen(x, "w1");
        amend(x, "w1 w2");
        x.pass(2);
        amend(x, "w1 w2 w3");
        amend(x, "");
        amend(x, "w1 w2 w3 w4");
        x.pass(1);
        Check.fails(x, "before all of them", NSEE, () -> x.tokens(0, 0, 0, 0));
        Check.due("the last one of the first day", 2, x.tokens(0, 0, 0, 1));
        Check.due("of an earlier day", 2, x.tokens(0, 0, 0, 2));
        Check.due("the last one of three", 4, x.tokens(0, 0, 0, 3));
        Check.due("today", 4, x.tokens(0, 0, 0, 4));
        Check.due("five versions", 5, x.versions(0, 0, 0));
    }

    private static void drafts() {
        Equaltexts x = Check.office(2, 2);
        Check.draft(x, "t0 r1", "t10 n1");
        x.translator(3, 1);
        Check.due("no version", 0, x.versions(0, 0, 0));
        Check.fails(x, "none by any day", NSEE, () -> x.tokens(0, 0, 0, 9999));
        Check.fails(x, "nor tokens of one", NSEE, () -> x.tokenAt(0, 0, 0, 9999, 0, false));
        Check.due("nothing to sum up", 0L, x.checksum());
        Check.fails(x, "nor of a mean length", NSEE, x::meanTokens);
        Check.due("it differs", 'n', x.difference(0, 0, 0, 1));
        Check.due("has forms", 1, x.forbidden(0, 0));
        Check.due("uses concepts", 2, x.undefined(0));
        Check.due("refers", 1, x.dangling(0, 0));
        Check.due("means", 4095, x.meaning(0, 0, 0));
        Check.due("takes days", 2, x.days(0, 0, 1));
        Check.due("is assigned", 0, x.assign(0, 1, 0));
        Check.due("is memorized", 1, x.memorize(0, 0, 0, 1, 0));
        Check.due("is proposed for", 0, x.propose(0, 0, 0, 1));
    }

    private static void versionsOfAllActs() {
        Equaltexts x = Office400.with(395);
        Check.draft(x, "w1", "w1", "w1", "w1", "w1");
        Check.due("all 400", 400, x.freeze(4));
        Equaltexts y = Office400.with(396);
        Check.draft(y, "w1", "w1", "w1", "w1", "w1");
        Check.fails(y, "401", ISE, () -> y.freeze(4));
        int sum = 0;
        for (int act = 0; act < 5; act++) {
            for (int unit = 0; unit < (act < 4 ? 12 : 1); unit++) {
                for (int t = 0; t < 5; t++) {
                    sum += x.versions(act, unit, t);
                }
            }
        }
        Check.due("each one is of a text", 400, sum);
    }

    private static void tonguesThatJoin() {
        Equaltexts x = Check.office(1, 0);
        Check.frozen(x, "n1");
        x.tongue();
        Check.translate(x, 0, 0, 1, "n1 w1");
        x.pass(3);
        Check.due("not in force", 1, x.backlog(1));
        Check.due("nor applied", false, x.applies(0, 1, 9999));
        x.publish(0, 1);
        Check.due("in force", 0, x.backlog(1));
        Check.due("the first version", 1, x.versions(0, 0, 1));
        Check.due("of this day", "n1 w1", Check.textOn(x, 0, 0, 1, 3));
        Check.fails(x, "not of the one on which it was translated", NSEE, () -> x.tokens(0, 0, 1, 2));
    }

    /** An act of which the unit 0 is translated into the tongue 2, and the unit 1 is not yet. */
    private static Equaltexts translated() {
        Equaltexts x = Check.office(2, 2);
        Check.draft(x, "n1", "n2");
        Check.addUnit(x, 0, "r0", "r0");
        x.freeze(0);
        x.tongue();
        x.translator(7, 1);
        Check.translate(x, 0, 0, 2, "n1 t10 r11");
        return x;
    }

    private static void textsNotYetPublished() {
        Equaltexts x = translated();
        Check.due("it counts for translating", 0, Check.translate(x, 0, 1, 2, "r0"));
        Check.fails(x, "no version", NSEE, () -> x.tokens(0, 0, 2, 9999));
        Check.fails(x, "nor tokens of one", NSEE, () -> x.tokenAt(0, 0, 2, 9999, 0, true));
        Check.due("no versions", 0, x.versions(0, 0, 2));
        Check.fails(x, "no difference of it", NSEE, () -> x.difference(0, 0, 2, 0));
        Check.fails(x, "nor to it", NSEE, () -> x.difference(0, 0, 0, 2));
        Check.due("no forms", 0, x.forbidden(0, 2));
        Check.due("no concepts", 0, x.undefined(0));
        Check.due("no references", 0, x.dangling(0, 2));
        Check.fails(x, "no divergence", UOE, () -> x.divergence(0, 0, 2));
        Check.due("in none of the kernels", 's', x.divergence(0, 0, 0));
        Check.due("nothing that diverges", 2, x.diverging(0));
        Check.fails(x, "no corrigendum", UOE, () -> x.corrigendum(0, 0, 2));
        Check.fails(x, "no amendment", UOE, () -> x.move(0, 0, 2));
        Check.fails(x, "no meaning", NSEE, () -> x.meaning(0, 0, 2));
        x.mean(1, 2, 0);
        Check.due("not heard by a court", 4095, x.judged(x.judge(0, 0, 'b', 0)));
        Check.fails(x, "no days", NSEE, () -> x.days(0, 2, 0));
        Check.fails(x, "nor work", NSEE, () -> x.assign(0, 2, 0));
        Check.fails(x, "not memorized as a source", NSEE, () -> x.memorize(0, 0, 2, 0, 0));
        Check.fails(x, "nor as a target", NSEE, () -> x.memorize(0, 0, 0, 2, 0));
        Check.fails(x, "nor proposed for", NSEE, () -> x.propose(0, 0, 2, 0));
        x.publish(0, 2);
        Check.due("then it counts", 'r', x.difference(0, 0, 0, 2));
        Check.due("its concepts", 1, x.undefined(0));
        Check.due("its references", 1, x.dangling(0, 2));
        Check.due("its tokens", 4, x.days(0, 2, 0));
        Check.due("its meaning", 0, x.meaning(0, 0, 2));
    }

    private static void appliedActs() {
        Equaltexts x = Check.office(1, 0);
        x.pass(3);
        Check.frozen(x, "w1");
        x.tongue();
        x.pass(4);
        Check.translate(x, 0, 0, 1, "w1");
        x.publish(0, 1);
        Check.due("the day before", false, x.applies(0, 0, 2));
        Check.due("by that day", true, x.applies(0, 0, 3));
        Check.due("against other persons not yet", false, x.applies(0, 1, 6));
        Check.due("then", true, x.applies(0, 1, 7));
        Check.due("and ever after", true, x.applies(0, 1, Integer.MAX_VALUE));
        Check.due("never before", false, x.applies(0, 0, Integer.MIN_VALUE));
    }

    // ---- kernels

    private static void kernels() {
        told("The kernel of a text are: its numbers by rising values, like ones as often as they are there; its "
            + "references likewise; the concepts of its terms likewise; its modal verbs in their order; how many "
            + "negations it has; and, for each negation in their order, the concept of the first term anywhere "
            + "behind it, none without one.", TermsTest::kernelsOfTexts);
        told("The first difference of two texts is the first of these that differs: 'n', 'r', 't', 'm', 'x', 's'.",
            TermsTest::firstDifferences);
        told("A form is not allowed if the form as which it counts is not.", TermsTest::formsNotAllowed);
        told("A reference leads nowhere if the act has no such unit, or this one's text in the tongue is not there or "
            + "has no tokens.", TermsTest::references);
        told("Of a unit in force, the kernel that most tongues have in which it is in force, more than half of them, "
            + "is its kernel; if there is none, all are 's'.", TermsTest::kernelsOfUnits);
        told("A text of another kernel diverges: manifestly if its first difference to the texts of the kernel is 'n' "
            + "or 'r', and its concepts, modal verbs and negations, with what is behind them, are alike.",
            TermsTest::manifestDivergences);
        told("A corrigendum puts a text of the kernel in its place, as a version of this day, in this tongue alone.",
            TermsTest::corrigenda);
    }

    private static void differs(char want, String one, String other) {
        Equaltexts x = Check.office(2, 2);
        Check.draft(x, one, other);
        Check.due("difference of " + one + " and " + other, want, x.difference(0, 0, 0, 1));
        Check.due("difference of " + other + " and " + one, want, x.difference(0, 0, 1, 0));
    }

    private static void kernelsOfTexts() {
        differs('-', "", "w1 w99");
        differs('-', "n2 n1 n9999 n2 n0", "n0 n1 n2 n2 n9999");
        differs('n', "n1 n2 n2", "n1 n1 n2");
        differs('n', "n1", "n1 n1");
        differs('-', "r11 r0 r11", "r11 r11 r0");
        differs('r', "r11 r0 r0", "r11 r11 r0");
        differs('-', "t15 t0 t10", "t11 t12 t5");
        differs('t', "t0 t10 t10", "t0 t0 t10");
        differs('-', "m0 w1 m1", "m0 m1");
        differs('m', "m0 m1", "m1 m0");
        differs('x', "x", "x x");
        differs('x', "", "x");
        differs('-', "x w1 n1 t0 t10", "n1 x t5 t11");
        differs('s', "t0 x t10", "x t0 t10");
        differs('s', "t0 x", "x t0");
        differs('-', "x x t0", "x w1 x t1");
        differs('s', "x t0 x t10", "x t10 x t0");
    }

    private static void firstDifferences() {
        String[] one = {"n1", "r1", "t0", "m0", "x"};
        String[] other = {"n2", "r2", "t10", "m1", "x x"};
        for (int from = 0; from < 5; from++) {
            StringBuilder first = new StringBuilder();
            StringBuilder second = new StringBuilder();
            for (int i = 4; i >= 0; i--) {
                first.append(one[i]).append(' ');
                second.append(i < from ? one[i] : other[i]).append(' ');
            }
            differs("nrtmx".charAt(from), first.toString(), second.toString());
        }
        differs('s', "x t0 t10 n1 r1 m0", "x t10 t0 n1 r1 m0");
        differs('-', "x t0 t10 n1 r1 m0", "m0 r1 n1 x t1 w1 t11");
    }

    private static void formsNotAllowed() {
        Equaltexts x = Check.office(1, 1);
        Check.draft(x, "t0");
        x.allow(0, 0, 0, true);
        x.alias(0, 0, 0, 5);
        Check.due("allowed itself, but not what it counts as", 1, x.forbidden(0, 0));
        x.allow(0, 0, 5, true);
        x.allow(0, 0, 0, false);
        Check.due("what it counts as, but not itself", 0, x.forbidden(0, 0));
        x.alias(0, 0, 0, 0);
        Check.due("itself again", 1, x.forbidden(0, 0));
    }

    private static void references() {
        Equaltexts x = Check.office(2, 0);
        Check.draft(x, "r0", "");
        Check.due("to itself", 0, x.dangling(0, 0));
        Check.write(x, 0, 0, 0, "r1 r2 r11");
        Check.addUnit(x, 0, "w1", "");
        Check.addUnit(x, 0, "");
        Check.due("unit 2 has no tokens, unit 11 is not there", 2, x.dangling(0, 0));
        Check.write(x, 0, 2, 0, "x");
        Check.due("unit 2 has one", 1, x.dangling(0, 0));
        Check.write(x, 0, 0, 1, "r0 r1 r2 r3 r3");
        Check.due("in the other tongue", 4, x.dangling(0, 1));
        for (int unit = 3; unit < 12; unit++) {
            Check.addUnit(x, 0, "w1");
        }
        Check.due("the last unit is there", 0, x.dangling(0, 0));
        Check.draft(x, "r1");
        Check.due("units of the act alone", 1, x.dangling(1, 0));
    }

    private static void kernelsOfUnits() {
        classes("-", "n1");
        classes("ss", "n1", "n2");
        classes("--", "n1", "w1 n1");
        classes("sss", "n1", "n2", "n3");
        classes("m--", "n1", "n2", "n2");
        classes("ssss", "n1", "n1", "n2", "n2");
        classes("ssss", "n1", "n1", "n2", "n3");
        classes("-m--", "n1", "n2", "n1", "n1");
        classes("sssss", "n1", "n1", "n2", "n2", "n3");
        classes("mm---", "n1", "n3", "n2", "n2", "n2");
        classes("-----", "", "", "", "", "");
    }

    /** How the texts of a unit in force are classified. */
    private static void classes(String want, String... texts) {
        Equaltexts x = Check.office(texts.length, 2);
        Check.frozen(x, texts);
        StringBuilder found = new StringBuilder();
        for (int t = 0; t < texts.length; t++) {
            found.append(x.divergence(0, 0, t));
        }
        Check.due("classes of " + List.of(texts), want, found.toString());
        Check.due("diverging", want.replace("-", "").length(), x.diverging(0));
    }

    private static void manifestDivergences() {
        String kernel = "n1 r1 t0 m0 x t10";
        String[] manifest = {"n2 r1 t0 m0 x t10", "n1 r2 t0 m0 x t10", "n2 r2 t0 m0 x t10", "t0 m0 x t10"};
        String[] otherwise = {"n1 r1 t0 t0 m0 x t10", "n1 r1 t0 m1 x t10", "n1 r1 t0 m0 x x t10",
            "n1 r1 x t0 m0 t10", "n2 r1 t0 t0 m0 x t10", "n2 r1 t0 m1 x t10", "n1 r2 t0 m0 x x t10",
            "n1 r2 x t0 m0 t10"};
        for (String text : manifest) {
            classes("--m", kernel, kernel, text);
        }
        for (String text : otherwise) {
            classes("--d", kernel, kernel, text);
        }
    }

    private static void corrigenda() {
        Equaltexts x = Check.office(3, 1);
        Check.frozen(x, "n1 t0", "n1 t0", "n2 t0");
        x.pass(1);
        Check.type(x, "n2 t1");
        Check.fails(x, "not a text of the kernel", UOE, () -> x.corrigendum(0, 0, 2));
        x.wipe();
        Check.type(x, "w1 t1 n1");
        x.corrigendum(0, 0, 2);
        Check.due("as it was", "n2 t0", Check.textOn(x, 0, 0, 2, 0));
        Check.due("in its place", "w1 t1 n1", Check.textOn(x, 0, 0, 2, 1));
        Check.due("a version more", 2, x.versions(0, 0, 2));
        Check.due("not in another tongue", 1, x.versions(0, 0, 0));
        Check.due("nor in the other one", 1, x.versions(0, 0, 1));
    }

    // ---- amendments

    private static void amendments() {
        told("At most 12 amendments are numbered from 0.", TermsTest::numbersOfAmendments);
        told("One is moved in a tongue; it lacks the texts in all others in which the act is in force, till they are "
            + "supplied, the last one counting.", TermsTest::textsThatAreLacking);
        told("Its distance is that of its text to that in force now, in the tongue in which it was moved; a text can "
            + "be without tokens.", TermsTest::distancesOfAmendments);
        told("A compromise leaves both open.", TermsTest::compromises);
        told("Of a unit's amendments that are open and lack none, compromises are voted on first, by rising numbers, "
            + "then all others by falling distances, of several the lower number.", TermsTest::orderOfVotes);
        told("Adopted with more ayes than noes, its texts become versions of this day in all tongues, and all other "
            + "open amendments of the unit fall; otherwise it is lost.", TermsTest::votes);
        told("A text moved in a tongue in which the act came into force later is lacking there, too.",
            TermsTest::lackingInTonguesThatJoined);
    }

    private static void numbersOfAmendments() {
        Equaltexts x = Check.office(1, 0);
        Check.frozen(x, "w1");
        for (int i = 0; i < 12; i++) {
            int number = i;
            Check.fails(x, "not yet there", IOOBE, () -> x.state(number));
            Check.due("amendment", i, i % 2 == 0 || i == 1 ? x.move(0, 0, 0) : x.compromise(0, 1));
        }
        Check.fails(x, "a thirteenth", ISE, () -> x.move(0, 0, 0));
        Check.fails(x, "a thirteenth as a compromise", ISE, () -> x.compromise(0, 1));
        x.vote(3, 1, 0);
        Check.fails(x, "those that are no more open count, too", ISE, () -> x.move(0, 0, 0));
    }

    private static void textsThatAreLacking() {
        Equaltexts x = Check.office(4, 0);
        Check.frozen(x, "w1", "w1", "w1", "w1");
        x.tongue();
        Check.move(x, 0, 0, 3, "w2");
        Check.due("two lack still", 2, Check.supply(x, 0, 0, "w3"));
        Check.due("the same one", 2, Check.supply(x, 0, 0, "w4"));
        Check.due("one lacks", 1, Check.supply(x, 0, 2, "w5"));
        Check.fails(x, "not where it was moved", UOE, () -> x.supply(0, 3));
        Check.fails(x, "not where it is not in force", UOE, () -> x.supply(0, 4));
        Check.fails(x, "not ready", NSEE, () -> x.next(0, 0));
        Check.due("none lacks", 0, x.supply(0, 1));
        Check.due("ready", 0, x.next(0, 0));
        x.vote(0, 1, 0);
        Check.due("the last one counts", "w4", Check.textOn(x, 0, 0, 0, 0));
        Check.due("without tokens", "", Check.textOn(x, 0, 0, 1, 0));
    }

    private static void distancesOfAmendments() {
        Equaltexts x = Check.office(2, 0);
        Check.frozen(x, "w1 w2 w3", "");
        Check.due("of one without tokens", 0, x.move(0, 0, 0));
        Check.due("all are left out", 3, x.distance(0));
        Check.move(x, 0, 0, 1, "w1 w2 w3");
        Check.due("all are put in, in its tongue", 3, x.distance(1));
        x.supply(1, 0);
        Check.due("its other texts do not count", 3, x.distance(1));
        x.supply(0, 1);
        x.vote(0, 1, 0);
        Check.due("of the text in force now", 0, x.distance(0));
    }

    private static void compromises() {
        Equaltexts x = Check.office(1, 0);
        Check.frozen(x, "w1");
        x.move(0, 0, 0);
        x.move(0, 0, 0);
        Check.due("a compromise", 2, x.compromise(0, 1));
        Check.due("of a compromise", 3, x.compromise(2, 0));
        for (int i = 0; i < 4; i++) {
            Check.due("open", 'o', x.state(i));
        }
        x.vote(2, 0, 0);
        Check.due("they stay so though it is lost", 'o', x.state(0));
        Check.due("and can be moved on", 4, x.compromise(0, 1));
    }

    private static void orderOfVotes() {
        Equaltexts x = Check.office(1, 0);
        Check.frozen(x, "w1 w2");
        for (String text : new String[] {"w1 w2", "w3 w2", "w3 w4", "w5 w2", "w5 w6"}) {
            Check.move(x, 0, 0, 0, text);
        }
        Check.type(x, "w1 w2");
        x.compromise(0, 1);
        Check.type(x, "w7 w7 w7 w7");
        x.compromise(0, 1);
        for (int due : new int[] {5, 6, 2, 4, 1, 3, 0}) {
            Check.due("next", due, x.next(0, 0));
            for (int other = 0; other < 7; other++) {
                int voted = other;
                if (other != due) {
                    Check.fails(x, "not next", UOE, () -> x.vote(voted, 1, 0));
                }
            }
            x.vote(due, 0, 0);
        }
        Check.fails(x, "all are lost", NSEE, () -> x.next(0, 0));
    }

    private static void votes() {
        Equaltexts x = Check.office(2, 0);
        Check.draft(x, "w1", "w1");
        Check.addUnit(x, 0, "w1", "w1");
        x.freeze(0);
        for (int i = 0; i < 5; i++) {
            Check.move(x, 0, i == 4 ? 1 : 0, 0, "w2");
            if (i != 3) {
                Check.supply(x, i, 1, "w3");
            }
        }
        x.pass(1);
        Check.due("as many are not more", false, x.vote(0, 999, 999));
        Check.due("lost", 'l', x.state(0));
        Check.due("none but one aye", true, x.vote(1, 1, 0));
        Check.due("adopted", 'a', x.state(1));
        Check.due("open and ready, it falls", 'f', x.state(2));
        Check.due("open and lacking, it falls", 'f', x.state(3));
        Check.due("of another unit", 'o', x.state(4));
        Check.due("a lost one stays lost", 'l', x.state(0));
        Check.due("of this day", "w2", Check.textOn(x, 0, 0, 0, 1));
        Check.due("in all tongues", "w3", Check.textOn(x, 0, 0, 1, 1));
        Check.due("before", "w1", Check.textOn(x, 0, 0, 1, 0));
        Check.due("fewer ayes", false, x.vote(4, 998, 999));
        Check.due("the last one is lost", 'l', x.state(4));
    }

    private static void lackingInTonguesThatJoined() {
        Equaltexts x = Check.office(1, 0);
        Check.frozen(x, "");
        Check.move(x, 0, 0, 0, "");
        Check.move(x, 0, 0, 0, "");
        Check.due("it lacks none", 0, x.next(0, 0));
        x.tongue();
        Check.due("nor in a tongue that joined", 0, x.next(0, 0));
        x.translate(0, 0, 1);
        Check.due("nor when it is translated", 0, x.next(0, 0));
        x.publish(0, 1);
        Check.fails(x, "but when it is in force", NSEE, () -> x.next(0, 0));
        Check.fails(x, "nor is it voted on", UOE, () -> x.vote(0, 1, 0));
        Check.due("supplied", 0, x.supply(1, 1));
        Check.due("that one is next", 1, x.next(0, 0));
    }

    // ---- courts, staff, memories, exceptions

    private static void courtsAndStaff() {
        told("The meaning of a text are the situations that are in the meanings of the concepts of all its terms in "
            + "this tongue, of a term right behind a negation, one or the last of several, in none of it; all 12 "
            + "without terms.", TermsTest::meanings);
        told("A court finds, of the meanings in all tongues in which the act is in force: 'c' what is in all of them; "
            + "'m' what is in more than half; 'p' the one that differs in the fewest situations from the purpose of "
            + "the act, of several that of the lowest tongue; 'b' the one with the fewest situations, likewise.",
            TermsTest::courts);
        told("It is found by texts and meanings as they are as it is found, and can be replayed by these, whatever "
            + "comes later, the same day too.", TermsTest::replays);
        told("At most 8 translators are numbered from 0.", TermsTest::numbersOfTranslators);
        told("One who knows both tongues can translate directly; otherwise two can, or one twice, through a pivot, a "
            + "third tongue: the first one from the one into the pivot, the second one from it.", TermsTest::pivots);
        told("Each takes the tokens of all units together, by the speed, rounded up to days; both take their days one "
            + "behind the other.", TermsTest::daysOfWork);
        told("Direct work counts ahead of work through a pivot, however long.", TermsTest::directWork);
        told("The fewest days count, of several ways that with the least sum of what both were assigned, of one who "
            + "does both twice, of the one alone directly, then the lowest pivot, then the lowest numbers.",
            TermsTest::fewestDays);
        told("The tokens are added to what each was assigned, of one who does both twice.", TermsTest::assignedTokens);
        told("The proposal is of the entry of both tongues, in this direction, whose source is the nearest one, of "
            + "several the one of the same unit and act, then the last one.", TermsTest::proposals);
        told("A method that throws an exception changes nothing.", TermsTest::nothingChanged);
        told("If several exceptions apply, the one that is documented first is thrown.", TermsTest::firstException);
    }

    private static void means(int want, String text) {
        Equaltexts x = Check.office(2, 2);
        x.mean(0, 1, 0b000000000111);
        x.mean(1, 1, 0b100000000110);
        x.mean(0, 0, 0);
        x.mean(1, 0, 0);
        Check.draft(x, "", text);
        Check.due("meaning of " + text, want, x.meaning(0, 0, 1));
    }

    private static void meanings() {
        means(4095, "");
        means(4095, "x w1 m0 n1 r1");
        means(0b111, "t0");
        means(0b110, "t0 t15");
        means(4095 & ~0b111, "x t0");
        means(4095 & ~0b111, "x x x t0");
        means(0b111, "x w1 t0");
        means(0b1, "t0 x t10");
        means(0b100000000000, "x t0 t10");
        means(0, "x t0 t5");
        means(0b110, "t10 t0 x");
    }

    /** What a court finds of texts that mean what is told, each in a tongue. */
    private static int found(char method, int purpose, int... meanings) {
        Equaltexts x = Check.office(meanings.length, 1);
        x.act(purpose, 0);
        x.unit(0, -1, -1);
        for (int t = 0; t < meanings.length; t++) {
            x.mean(0, t, meanings[t]);
            Check.write(x, 0, 0, t, "t0");
        }
        x.freeze(0);
        return x.judged(x.judge(0, 0, method, 0));
    }

    private static void courts() {
        Check.due("in all of them", 0b1000, found('c', 0, 0b1111, 0b1010, 0b1100));
        Check.due("in all five", 2049, found('c', 0, 4095, 2049, 2051, 2053, 4095));
        Check.due("in all but one", 0, found('c', 0, 1, 1, 1, 1, 0));
        Check.due("in more than half of three", 0b1110, found('m', 0, 0b1111, 0b1010, 0b1100));
        Check.due("in half of two", 0, found('m', 0, 1, 2));
        Check.due("in half of four", 0, found('m', 0, 1, 1, 2, 2));
        Check.due("in three of four", 1, found('m', 0, 1, 1, 1, 2));
        Check.due("in three of five", 1, found('m', 0, 1, 1, 1, 2, 2));
        Check.due("nearest to the purpose", 0b110, found('p', 0b111, 0b1, 0b110, 0b1000));
        Check.due("of several the lowest tongue", 0b11, found('p', 0b111, 0b1, 0b11, 0b110));
        Check.due("all situations differ", 4095, found('p', 0, 4095, 4095));
        Check.due("the fewest situations", 0b1000, found('b', 0b111, 0b11, 0b1000, 0b111));
        Check.due("likewise the lowest tongue", 0b100, found('b', 0b1, 0b11, 0b100, 0b1));
        Check.due("none at all", 0, found('b', 4095, 1, 0, 2));
    }

    private static void replays() {
        Equaltexts x = Check.office(1, 1);
        x.mean(0, 0, 0b11);
        Check.frozen(x, "t0");
        x.judge(0, 0, 'c', 0);
        x.mean(0, 0, 0b100);
        Check.due("by the meaning of then, the same day too", 0b11, x.replay(0));
        amend(x, "x t0");
        Check.due("by the text of then, the same day too", 0b11, x.replay(0));
        x.pass(1);
        x.judge(0, 0, 'c', 0);
        Check.due("by those of now", 4095 & ~0b100, x.judged(1));
        x.tongue();
        x.mean(0, 1, 0);
        Check.translate(x, 0, 0, 1, "x t0");
        x.publish(0, 1);
        Check.due("a tongue that joined later", 4095 & ~0b100, x.replay(1));
        Check.due("all is found as it was", true, x.isSound());
        Check.due("and told so", 0b11, x.judged(0));
    }

    private static void numbersOfTranslators() {
        Equaltexts x = Check.office(1, 0);
        for (int i = 0; i < 8; i++) {
            int number = i;
            Check.fails(x, "not yet there", IOOBE, () -> x.load(number));
            Check.due("translator", i, x.translator(i % 2, 1));
            Check.due("there", 0L, x.load(i));
        }
        Check.fails(x, "a ninth", ISE, () -> x.translator(1, 1));
    }

    /** Acts of so many tokens in the tongue 0, of four, and translators of tongues and speeds. */
    private static Equaltexts work(int tokens, int... tonguesAndSpeeds) {
        Equaltexts x = Check.office(4, 0);
        x.act(0, 0);
        for (int left = tokens; left > 0; left -= 10) {
            x.unit(0, -1, -1);
            for (int i = 0; i < Math.min(10, left); i++) {
                x.type('w', i);
            }
            x.write(0, (tokens - left) / 10, 0);
        }
        for (int i = 0; i < tonguesAndSpeeds.length; i += 2) {
            x.translator(tonguesAndSpeeds[i], tonguesAndSpeeds[i + 1]);
        }
        return x;
    }

    private static void pivots() {
        Equaltexts one = work(5, 0b0011, 1, 0b1100, 1, 0b0001, 9, 0b0010, 9);
        Check.due("directly", 5, one.days(0, 0, 1));
        Check.fails(one, "no pivot between them", NSEE, () -> one.days(0, 0, 2));
        Equaltexts two = work(5, 0b0011, 1, 0b0110, 1);
        Check.due("two through the tongue 1", 10, two.days(0, 0, 2));
        Check.due("the one who knows the first tongue comes first", 0, two.assign(0, 0, 2));
        Check.fails(two, "through one pivot alone", NSEE, () -> two.days(0, 0, 3));
        two.translator(0b1100, 1);
        Check.fails(two, "not through two pivots", NSEE, () -> two.days(0, 0, 3));
        two.translator(0b1010, 1);
        Check.due("through the tongue 1 to the last one", 10, two.days(0, 0, 3));
        Equaltexts turned = work(5, 0b0110, 1, 0b0011, 1);
        Check.due("whatever their numbers are", 1, turned.assign(0, 0, 2));
        Equaltexts all = work(5, 0b0111, 1);
        Check.due("one who knows all three does it once", 5, all.days(0, 0, 2));
        all.assign(0, 0, 2);
        Check.due("and is assigned it once", 5L, all.load(0));
    }

    private static void daysOfWork() {
        Check.due("no tokens, no days", 0, work(0, 3, 1).days(0, 0, 1));
        Check.due("one token", 1, work(1, 3, 99).days(0, 0, 1));
        Check.due("just a day", 1, work(99, 3, 99).days(0, 0, 1));
        Check.due("a token more", 2, work(100, 3, 99).days(0, 0, 1));
        Check.due("the slowest", 120, work(120, 3, 1).days(0, 0, 1));
        Check.due("of all units together, not unit by unit", 3, work(30, 3, 14).days(0, 0, 1));
        Check.due("both one behind the other, each rounded up", 4, work(12, 0b0011, 11, 0b0110, 9).days(0, 0, 2));
        Check.due("both just full", 2, work(12, 0b0011, 12, 0b0110, 12).days(0, 0, 2));
        Check.due("no tokens through a pivot", 0, work(0, 0b0011, 12, 0b0110, 12).days(0, 0, 2));
    }

    private static void directWork() {
        Equaltexts x = work(120, 0b0011, 1, 0b0101, 99, 0b0110, 99);
        Check.due("however long", 120, x.days(0, 0, 1));
        x.assign(0, 0, 1);
        Check.due("and however much was assigned", 0, x.assign(0, 0, 1));
        Check.due("to the one alone", 240L, x.load(0));
        Check.due("and to none through a pivot", 0L, x.load(1) + x.load(2));
    }

    private static void fewestDays() {
        Equaltexts days = work(10, 0b0011, 4, 0b0011, 5, 0b0011, 9);
        Check.due("the fewest days, of two the lower number", 1, days.assign(0, 0, 1));
        Check.due("then the one with less", 2, days.assign(0, 0, 1));
        Check.due("of two alike the lower number again", 1, days.assign(0, 0, 1));
        Check.due("the slower one never", 0L, days.load(0));
        Equaltexts sums = work(10, 0b0011, 1, 0b0110, 1, 0b1001, 1, 0b1100, 1);
        Check.due("the lowest pivot", 0, sums.assign(0, 0, 2));
        Check.due("the least sum ahead of the lowest pivot", 2, sums.assign(0, 0, 2));
        Equaltexts both = work(10, 0b0011, 1, 0b0110, 1, 0b0011, 1, 0b0110, 1);
        Check.due("the lowest numbers", 0, both.assign(0, 0, 2));
        Check.due("were assigned", 10L, both.load(1));
        Check.due("the least sum is of the two others", 2, both.assign(0, 0, 2));
        Check.due("of both of them", 10L, both.load(3));
        Equaltexts sum = work(10, 0b1001, 1, 0b1100, 1, 0b0011, 1, 0b0110, 1);
        sum.translator(0b1100, 1);
        Check.due("through the lowest pivot, the tongue 1, whatever the numbers are", 2, sum.assign(0, 0, 2));
        Equaltexts one = work(10, 0b0011, 1, 0b0110, 1, 0b1100, 2);
        one.assign(0, 0, 1);
        Check.due("what the first was assigned directly counts in the sum", 20, one.days(0, 0, 2));
        one.translator(0b0011, 1);
        Check.due("of both sums the least", 3, one.assign(0, 0, 2));
        Equaltexts second = work(10, 0b0011, 1, 0b0110, 1, 0b0110, 1);
        second.assign(0, 0, 2);
        second.assign(0, 0, 2);
        Check.due("what the second was assigned counts, too", 10L, second.load(1));
        Check.due("so the other one was the second", 10L, second.load(2));
    }

    private static void assignedTokens() {
        Equaltexts x = work(11, 0b0011, 1, 0b0110, 99, 0b0011, 1);
        x.assign(0, 0, 2);
        Check.due("all tokens to the first", 11L, x.load(0));
        Check.due("and to the second, whatever the speed", 11L, x.load(1));
        x.assign(0, 0, 2);
        Check.due("the second one took part again", 22L, x.load(1));
        Check.due("with another first one", 11L, x.load(2));
        Equaltexts none = work(0, 0b0011, 1);
        none.assign(0, 0, 1);
        Check.due("no tokens", 0L, none.load(0));
        Equaltexts most = work(120, 0b0011, 1);
        most.assign(0, 0, 1);
        most.assign(0, 0, 1);
        Check.due("the most tokens, twice", 240L, most.load(0));
    }

    private static void proposals() {
        Equaltexts x = Check.office(3, 0);
        x.translator(0, 1);
        Check.draft(x, "w1 w2", "n1", "n7");
        Check.addUnit(x, 0, "w1 w2 w3 w4", "n1 n2", "n8");
        Check.addUnit(x, 0, "w1 w2 w3", "n1 n2 n3", "n9");
        Check.fails(x, "nothing yet", NSEE, () -> x.propose(0, 0, 0, 1));
        x.memorize(0, 0, 1, 0, 0);
        x.memorize(0, 0, 0, 2, 0);
        Check.fails(x, "of this direction and both tongues", NSEE, () -> x.propose(0, 0, 0, 1));
        x.memorize(0, 0, 0, 1, 0);
        x.memorize(0, 1, 0, 1, 0);
        Check.due("one is as near as the other", 1, x.propose(0, 2, 0, 1));
        Check.due("the last one", 2, x.wipe());
        x.memorize(0, 0, 0, 1, 0);
        x.propose(0, 2, 0, 1);
        Check.due("again the last one", 1, x.wipe());
        Check.write(x, 0, 2, 0, "w1 w2 w3 w5");
        x.memorize(0, 2, 0, 1, 0);
        Check.due("the nearest one, though others are later", 0, x.propose(0, 1, 0, 1));
        Check.due("of two tokens", 2, x.wipe());
        Check.write(x, 0, 2, 0, "w1 w2 w3");
        Check.due("alike near", 1, x.propose(0, 2, 0, 1));
        Check.due("the one of the same unit", 3, x.wipe());
        x.memorize(0, 1, 0, 1, 0);
        x.propose(0, 2, 0, 1);
        Check.due("ahead of a later one", 3, x.wipe());
        Check.draft(x, "w9");
        Check.addUnit(x, 1, "w9");
        Check.addUnit(x, 1, "w1 w2 w3");
        x.propose(1, 2, 0, 1);
        Check.due("not of the same number in another act", 2, x.wipe());
    }

    private static void nothingChanged() {
        Equaltexts x = Check.office(2, 1);
        Check.frozen(x, "n1 t0", "n2 t0");
        Check.type(x, "w1 w2");
        String before = Check.stateOf(x);
        Check.fails(x, "a refused call", UOE, () -> x.write(0, 0, 0));
        Check.fails(x, "another one", IAE, () -> x.type('q', 0));
        Check.due("nothing is changed by both", before, Check.stateOf(x));
        Check.due("the buffer is as it was", 2, x.wipe());
        Check.due("the look sees what an answered call changes", false, before.equals(Check.stateOf(x)));
    }

    private static void firstException() {
        Equaltexts x = Check.office(1, 1);
        x.act(0, 0);
        Check.fails(x, "no act, no unit, no concept", IOOBE, () -> x.unit(1, 9, 9));
        Check.fails(x, "no unit, no concept", IAE, () -> x.unit(0, 9, 9));
        for (int i = 0; i < 12; i++) {
            Check.addUnit(x, 0, "w1");
        }
        Check.fails(x, "12 units, no concept", IAE, () -> x.unit(0, -1, 1));
        x.freeze(0);
        Check.fails(x, "frozen, 12 units, no concept", IAE, () -> x.unit(0, -1, 1));
        Check.fails(x, "frozen, 12 units", UOE, () -> x.unit(0, -1, -1));
    }
}
