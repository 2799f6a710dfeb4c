/** The edges of the promises 42 to 60: tongues that join, staff, memories, letters and figures. */
final class StaffEdges {
    private static final Fault ISE = Fault.ISE;
    private static final Fault IAE = Fault.IAE;
    private static final Fault UOE = Fault.UOE;
    private static final Fault NSEE = Fault.NSEE;

    private StaffEdges() {
    }

    static void all() {
        backlogs();
        translations();
        editions();
        editionsFull();
        translators();
        ways();
        waysRefused();
        loads();
        memories();
        memoriesRefused();
        proposals();
        letters();
        figures();
    }

    // ---- promises 42 to 45

    private static void backlogs() {
        Edges.Argument three = Edges.index(3);
        Edges.Made backlogAt = (x, a) -> x.backlogAt(a[0], a[1]);
        Edges.of("backlog", DraftingEdges::behind, (x, a) -> x.backlog(a[0]), three).takes().refuses();
        Edges.of("backlogAt", DraftingEdges::behind, backlogAt, Edges.someOf(3, 2), Edges.between(NSEE, 0, 1))
            .takes().refuses();
        Edges.of("backlogAt", DraftingEdges::behind, backlogAt, Edges.someOf(3, 0, 1),
            Edges.any(Integer.MIN_VALUE, -1, 0, 1, Integer.MAX_VALUE)).refuses(NSEE);
        Edges.of("backlogAt", DraftingEdges::drafted, backlogAt, Edges.index(2), Edges.between(NSEE, 0, 0))
            .refuses(NSEE);
    }

    private static void translations() {
        Edges.Argument two = Edges.index(2);
        Edges.Made translate = (x, a) -> x.translate(a[0], a[1], a[2]);
        Edges.of("translate", DraftingEdges::behind, translate, two, two, Edges.someOf(3, 2)).takes().refuses();
        Edges.of("translate", DraftingEdges::behind, translate, two, two, Edges.someOf(3, 0, 1)).refuses(UOE);
        Edges.of("translate", DraftingEdges::frozen, translate, two, two, two).refuses(UOE);
        Edges.of("translate", DraftingEdges::drafted, translate, two, two, two).refuses(UOE);
        Edges.of("translate", StaffEdges::published, translate, two, two, Edges.index(3)).refuses(UOE);
    }

    private static Equaltexts published() {
        Equaltexts x = DraftingEdges.behind();
        x.publish(0, 2);
        x.publish(1, 2);
        return x;
    }

    /** Both acts have a last unit that is as told in the tongue 2, of which the kernel is "w1". */
    private static Equaltexts translatedTo(String text) {
        Equaltexts x = DraftingEdges.behind();
        x.wipe();
        Check.translate(x, 0, 1, 2, text);
        Check.translate(x, 1, 1, 2, text);
        return x;
    }

    /** Both acts have no text of the last unit in the tongue 2. */
    private static Equaltexts untranslated() {
        Equaltexts x = DraftingEdges.frozen();
        x.tongue();
        x.wipe();
        Check.translate(x, 0, 0, 2, "n1 t0");
        Check.translate(x, 1, 0, 2, "n1 t0");
        return x;
    }

    private static void editions() {
        Edges.Argument two = Edges.index(2);
        Edges.Argument behind = Edges.someOf(3, 2);
        Edges.Made publish = (x, a) -> x.publish(a[0], a[1]);
        Edges.of("publish", DraftingEdges::behind, publish, two, behind).takes().refuses();
        Edges.of("publish", () -> translatedTo(""), publish, two, behind).takes();
        Edges.of("publish", DraftingEdges::behind, publish, two, Edges.someOf(3, 0, 1)).refuses(UOE);
        Edges.of("publish", DraftingEdges::drafted, publish, two, two).refuses(UOE);
        Edges.of("publish", StaffEdges::published, publish, two, Edges.index(3)).refuses(UOE);
        Edges.of("publish", StaffEdges::untranslated, publish, two, behind).refuses(UOE);
        for (String text : new String[] {"n1", "r0", "t0", "m0", "x"}) {
            Edges.of("publish", () -> translatedTo(text), publish, two, behind).refuses(UOE);
        }
    }

    /** So many versions, and the act 0 is translated into the tongue 4, the last unit as it is told. */
    private static Equaltexts fullAndTranslated(int versions, String last) {
        Equaltexts x = Office400.frozen(versions);
        for (int unit = 0; unit < 12; unit++) {
            Check.translate(x, 0, unit, 4, unit < 11 ? "" : last);
        }
        return x;
    }

    private static void editionsFull() {
        Edges.Made publish = (x, a) -> x.publish(a[0], a[1]);
        Edges.Argument act = Edges.someOf(5, 0);
        Edges.Argument tongue = Edges.someOf(5, 4);
        Edges.of("publish", () -> fullAndTranslated(388, ""), publish, act, tongue).takes().refuses();
        Edges.of("publish", () -> fullAndTranslated(389, ""), publish, act, tongue).refuses(ISE);
        Edges.of("publish", () -> fullAndTranslated(400, ""), publish, act, tongue).refuses(ISE);
        Edges.of("publish", () -> fullAndTranslated(389, "m1"), publish, act, tongue).refuses(UOE, ISE);
        Edges.of("publish", () -> fullAndTranslated(400, ""), publish, Edges.someOf(5, 1, 2, 3, 4), tongue)
            .refuses(UOE, ISE);
    }

    // ---- promises 46 to 49

    private static Equaltexts withStaff(int tongues, int staff) {
        Equaltexts x = Check.office(tongues, 0);
        for (int i = 0; i < staff; i++) {
            x.translator(0, 1 + i);
        }
        return x;
    }

    private static void translators() {
        Edges.Made translator = (x, a) -> x.translator(a[0], a[1]);
        Edges.Argument speed = Edges.range(1, 99);
        for (int there = 0; there <= 5; there++) {
            int tongues = there;
            int all = (1 << tongues) - 1;
            Edges.Argument bits = new Edges.Argument(new int[] {0, all, all / 2, all - all / 2},
                new int[] {Integer.MIN_VALUE, -1, all + 1, 2 * all + 1 + (all == 0 ? 1 : 0), 1 << 30,
                    Integer.MAX_VALUE}, IAE);
            Edges.of("translator", () -> withStaff(tongues, 0), translator, bits, speed).takes().refuses();
            Edges.of("translator", () -> withStaff(tongues, 7), translator, bits, speed).takes().refuses();
            Edges.of("translator", () -> withStaff(tongues, 8), translator, bits, speed).refuses(ISE);
        }
    }

    /** Acts 0 and 1 with texts in the tongues 0 and 1 of three, and translators. */
    private static Equaltexts work(int... known) {
        Equaltexts x = DraftingEdges.drafted();
        x.tongue();
        for (int tongues : known) {
            x.translator(tongues, 9);
        }
        return x;
    }

    /** What both calls of the promises 47 and 48 are. */
    private static Edges.Made way(String call) {
        return call.equals("days") ? (x, a) -> x.days(a[0], a[1], a[2]) : (x, a) -> x.assign(a[0], a[1], a[2]);
    }

    private static Edges.Made wayToItself(String call) {
        return call.equals("days") ? (x, a) -> x.days(a[0], a[1], a[1]) : (x, a) -> x.assign(a[0], a[1], a[1]);
    }

    private static void ways() {
        Edges.Argument two = Edges.index(2);
        for (String call : new String[] {"days", "assign"}) {
            Edges.Office office = () -> work(0b111);
            Edges.of(call, office, way(call), two, Edges.someOf(3, 0), Edges.someOf(3, 1, 2)).takes().refuses();
            Edges.of(call, office, way(call), two, Edges.someOf(3, 1), Edges.someOf(3, 0, 2)).takes().refuses();
            Edges.of(call, () -> work(0b101, 0b110), way(call), two, Edges.someOf(3, 0), Edges.someOf(3, 1, 2))
                .takes().refuses();
        }
    }

    private static void waysRefused() {
        Edges.Argument two = Edges.index(2);
        Edges.Argument three = Edges.index(3);
        for (String call : new String[] {"days", "assign"}) {
            Edges.of(call, () -> work(0b111), wayToItself(call), two, Edges.someOf(3, 0, 1)).refuses(IAE);
            Edges.of(call, () -> work(0b111), wayToItself(call), two, Edges.someOf(3, 2)).refuses(IAE, NSEE);
            Edges.of(call, () -> work(), wayToItself(call), two, three).refuses(IAE, NSEE);
            Edges.of(call, () -> work(0b111), way(call), two, Edges.someOf(3, 2), Edges.someOf(3, 0, 1))
                .refuses(NSEE);
            Edges.of(call, () -> work(), way(call), two, Edges.someOf(3, 0), Edges.someOf(3, 1, 2)).refuses(NSEE);
            Edges.of(call, () -> work(0b001, 0b010, 0b110), way(call), two, Edges.someOf(3, 0), Edges.someOf(3, 1, 2))
                .refuses(NSEE);
            Edges.of(call, StaffEdges::halfThere, way(call), two, Edges.someOf(3, 2), Edges.someOf(3, 0, 1))
                .refuses(NSEE);
            Edges.of(call, StaffEdges::behindWithStaff, way(call), two, Edges.someOf(3, 2), Edges.someOf(3, 0, 1))
                .refuses(NSEE);
        }
    }

    /** In the tongue 2 each act lacks the text of its last unit. */
    private static Equaltexts halfThere() {
        Equaltexts x = work(0b111);
        x.write(0, 0, 2);
        x.write(1, 0, 2);
        return x;
    }

    private static Equaltexts behindWithStaff() {
        Equaltexts x = DraftingEdges.behind();
        x.translator(0b111, 9);
        return x;
    }

    private static void loads() {
        for (int there : new int[] {1, 8}) {
            Edges.Office office = () -> withStaff(1, there);
            Edges.Argument translator = Edges.index(there);
            Edges.of("load", office, (x, a) -> x.load(a[0]), translator).takes().refuses();
            Edges.of("poison", office, (x, a) -> x.poison(a[0]), translator).takes().refuses();
            Edges.of("answer", office, (x, a) -> x.answer(a[0]), translator).refuses(NSEE);
        }
        for (String call : new String[] {"load", "poison", "answer"}) {
            Edges.of(call, Equaltexts::new, (x, a) -> call.equals("load") ? x.load(a[0])
                : call.equals("poison") ? (long) x.poison(a[0]) : x.answer(a[0]), Edges.any(-1, 0, 1))
                .refuses(Fault.IOOBE);
        }
    }

    // ---- promises 50 to 52

    /** Two translators, a tongue 2 without texts, and so many entries of the tongues 0 and 1. */
    private static Equaltexts remembering(int entries) {
        Equaltexts x = work(0, 0);
        for (int i = 0; i < entries; i++) {
            x.memorize(0, i % 2, 0, 1, i % 2);
        }
        return x;
    }

    private static void memories() {
        Edges.Argument two = Edges.index(2);
        Edges.Made memorize = (x, a) -> x.memorize(a[0], a[1], a[2], a[3], a[4]);
        for (int entries : new int[] {0, 19}) {
            Edges.Office office = () -> remembering(entries);
            Edges.of("memorize", office, memorize, two, two, Edges.someOf(3, 0), Edges.someOf(3, 1), two)
                .takes().refuses();
            Edges.of("memorize", office, memorize, two, two, Edges.someOf(3, 1), Edges.someOf(3, 0), two)
                .takes().refuses();
        }
        Edges.of("memorize", () -> remembering(20), memorize, two, two, Edges.someOf(3, 0), Edges.someOf(3, 1), two)
            .refuses(ISE);
    }

    private static void memoriesRefused() {
        Edges.Argument two = Edges.index(2);
        Edges.Argument there = Edges.someOf(3, 0, 1);
        Edges.Argument lacks = Edges.someOf(3, 2);
        Edges.Made memorize = (x, a) -> x.memorize(a[0], a[1], a[2], a[3], a[4]);
        Edges.Made toItself = (x, a) -> x.memorize(a[0], a[1], a[2], a[2], a[3]);
        Edges.of("memorize", () -> remembering(0), toItself, two, two, there, two).refuses(IAE);
        Edges.of("memorize", () -> remembering(20), toItself, two, two, there, two).refuses(IAE, ISE);
        Edges.of("memorize", () -> remembering(20), toItself, two, two, lacks, two).refuses(IAE, NSEE, ISE);
        for (Edges.Office office : new Edges.Office[] {() -> remembering(0), StaffEdges::behindWithTwo}) {
            Edges.of("memorize", office, memorize, two, two, there, lacks, two).refuses(NSEE);
            Edges.of("memorize", office, memorize, two, two, lacks, there, two).refuses(NSEE);
        }
        Edges.of("memorize", () -> remembering(20), memorize, two, two, there, lacks, two).refuses(NSEE, ISE);
    }

    private static Equaltexts behindWithTwo() {
        Equaltexts x = behindWithStaff();
        x.translator(0, 1);
        return x;
    }

    private static Equaltexts behindRemembering() {
        Equaltexts x = behindWithStaff();
        x.memorize(0, 0, 0, 1, 0);
        return x;
    }

    private static void proposals() {
        Edges.Argument two = Edges.index(2);
        Edges.Argument lacks = Edges.someOf(3, 2);
        Edges.Made propose = (x, a) -> x.propose(a[0], a[1], a[2], a[3]);
        Edges.Made fromItself = (x, a) -> x.propose(a[0], a[1], a[2], a[2]);
        for (int entries : new int[] {1, 20}) {
            Edges.Office office = () -> remembering(entries);
            Edges.of("propose", office, propose, two, two, Edges.someOf(3, 0), Edges.someOf(3, 1)).takes().refuses();
            Edges.of("propose", office, propose, two, two, Edges.someOf(3, 1), Edges.someOf(3, 0, 2)).refuses(NSEE);
            Edges.of("propose", office, propose, two, two, Edges.someOf(3, 0), lacks).refuses(NSEE);
            Edges.of("propose", office, fromItself, two, two, Edges.someOf(3, 0, 1)).refuses(IAE);
            Edges.of("propose", office, fromItself, two, two, lacks).refuses(IAE, NSEE);
        }
        Edges.of("propose", () -> remembering(0), propose, two, two, Edges.someOf(3, 0), Edges.someOf(3, 1))
            .refuses(NSEE);
        Edges.of("propose", StaffEdges::behindRemembering, propose, two, two, lacks, Edges.someOf(3, 0, 1))
            .refuses(NSEE);
    }

    // ---- promises 53 to 60

    private static Equaltexts waiting(int letters) {
        Equaltexts x = Check.office(2, 0);
        x.translator(0b01, 1);
        x.translator(0b11, 1);
        for (int i = 0; i < letters; i++) {
            x.letter(0);
        }
        return x;
    }

    private static void letters() {
        Edges.Argument two = Edges.index(2);
        Edges.Made letter = (x, a) -> x.letter(a[0]);
        Edges.of("letter", () -> waiting(0), letter, two).takes().refuses();
        Edges.of("letter", () -> waiting(19), letter, two).takes().refuses();
        Edges.of("letter", () -> waiting(20), letter, two).refuses(ISE);
        Edges.Made answer = (x, a) -> x.answer(a[0]);
        Edges.of("answer", () -> waiting(1), answer, two).takes().refuses();
        Edges.of("answer", () -> waiting(20), answer, two).takes().refuses();
        Edges.of("answer", () -> waiting(0), answer, two).refuses(NSEE);
        Edges.of("answer", StaffEdges::waitingForAnother, answer, Edges.someOf(2, 0)).refuses(NSEE);
    }

    private static Equaltexts waitingForAnother() {
        Equaltexts x = waiting(0);
        x.letter(1);
        return x;
    }

    private static void figures() {
        Edges.of("frozenShare", Equaltexts::new, (x, a) -> x.frozenShare()).refuses(Fault.AE);
        Edges.of("frozenShare", DraftingEdges::drafted, (x, a) -> x.frozenShare()).takes();
        Edges.of("meanTokens", Equaltexts::new, (x, a) -> x.meanTokens()).refuses(NSEE);
        Edges.of("meanTokens", DraftingEdges::drafted, (x, a) -> x.meanTokens()).refuses(NSEE);
        Edges.of("meanTokens", DraftingEdges::frozen, (x, a) -> x.meanTokens()).takes();
    }
}
