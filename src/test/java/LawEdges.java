/** The edges of the promises 22 to 41: checks, divergences, amendments and courts. */
final class LawEdges {
    private static final Fault ISE = Fault.ISE;
    private static final Fault IAE = Fault.IAE;
    private static final Fault UOE = Fault.UOE;
    private static final Fault NSEE = Fault.NSEE;

    private LawEdges() {
    }

    static void all() {
        differences();
        checksOfActs();
        divergences();
        corrigenda();
        corrigendaFull();
        deadlines();
        moves();
        compromises();
        compromisesRefused();
        supplies();
        amendments();
        nextOnes();
        votes();
        votesFull();
        meanings();
        judgments();
        judgmentsRefused();
    }

    // ---- promises 22 to 28

    /** As drafted, with a tongue 2 that has no text. */
    private static Equaltexts lacking() {
        Equaltexts x = DraftingEdges.drafted();
        x.tongue();
        return x;
    }

    private static void differences() {
        Edges.Argument two = Edges.index(2);
        Edges.Argument there = Edges.someOf(3, 0, 1);
        Edges.Argument lacks = Edges.someOf(3, 2);
        Edges.Made difference = (x, a) -> x.difference(a[0], a[1], a[2], a[3]);
        Edges.of("difference", DraftingEdges::drafted, difference, two, two, two, two).takes().refuses();
        Edges.of("difference", DraftingEdges::frozen, difference, two, two, two, two).takes().refuses();
        for (Edges.Office office : new Edges.Office[] {LawEdges::lacking, DraftingEdges::behind}) {
            Edges.of("difference", office, difference, two, two, there, there).takes().refuses();
            Edges.of("difference", office, difference, two, two, lacks, there).refuses(NSEE);
            Edges.of("difference", office, difference, two, two, there, lacks).refuses(NSEE);
            Edges.of("difference", office, difference, two, two, lacks, lacks).refuses(NSEE);
        }
    }

    private static void checksOfActs() {
        Edges.Argument two = Edges.index(2);
        Edges.Argument three = Edges.index(3);
        for (Edges.Office office : new Edges.Office[] {LawEdges::lacking, DraftingEdges::behind}) {
            Edges.of("forbidden", office, (x, a) -> x.forbidden(a[0], a[1]), two, three).takes().refuses();
            Edges.of("undefined", office, (x, a) -> x.undefined(a[0]), two).takes().refuses();
            Edges.of("dangling", office, (x, a) -> x.dangling(a[0], a[1]), two, three).takes().refuses();
            Edges.of("diverging", office, (x, a) -> x.diverging(a[0]), two).takes().refuses();
        }
    }

    private static void divergences() {
        Edges.Argument two = Edges.index(2);
        Edges.Made divergence = (x, a) -> x.divergence(a[0], a[1], a[2]);
        Edges.of("divergence", DraftingEdges::frozen, divergence, two, two, two).takes().refuses();
        Edges.of("divergence", DraftingEdges::drafted, divergence, two, two, two).refuses(UOE);
        Edges.of("divergence", DraftingEdges::behind, divergence, two, two, Edges.someOf(3, 0, 1)).takes().refuses();
        Edges.of("divergence", DraftingEdges::behind, divergence, two, two, Edges.someOf(3, 2)).refuses(UOE);
    }

    /** Two acts of two units, of which the text in the tongue 2 is told beside two of "n1 t0". */
    private static Equaltexts beside(String text, boolean isFrozen, String typed) {
        Equaltexts x = Check.office(3, 2);
        for (int act = 0; act < 2; act++) {
            Check.draft(x, "n1 t0", "t0 n1", text);
            Check.addUnit(x, act, "n1 t0", "n1 t1", text);
            if (isFrozen) {
                x.freeze(act);
            }
        }
        x.tongue();
        Check.type(x, typed);
        return x;
    }

    /** Two acts of two units, in which no kernel has more than half of the tongues. */
    private static Equaltexts apart() {
        Equaltexts x = Check.office(2, 0);
        for (int act = 0; act < 2; act++) {
            Check.draft(x, "n1", "n2");
            Check.addUnit(x, act, "r1", "");
            x.freeze(act);
        }
        Check.type(x, "n1");
        return x;
    }

    private static void corrigenda() {
        Edges.Argument two = Edges.index(2);
        Edges.Made corrigendum = (x, a) -> x.corrigendum(a[0], a[1], a[2]);
        Edges.Argument wrong = Edges.someOf(4, 2);
        for (String manifest : new String[] {"n2 t0", "r1 n1 t0", "t0"}) {
            Edges.of("corrigendum", () -> beside(manifest, true, "w3 t1 n1"), corrigendum, two, two, wrong)
                .takes().refuses();
        }
        Edges.Argument right = Edges.someOf(4, 0, 1);
        Edges.of("corrigendum", () -> beside("n2 t0", true, "n1 t0"), corrigendum, two, two, right).refuses(UOE);
        Edges.Argument behind = Edges.someOf(4, 3);
        Edges.of("corrigendum", () -> beside("n2 t0", true, "n1 t0"), corrigendum, two, two, behind).refuses(UOE);
        Edges.of("corrigendum", () -> beside("n2 t0", false, "n1 t0"), corrigendum, two, two, wrong).refuses(UOE);
        for (String otherwise : new String[] {"n1 t10", "n2 t10", "n2 t0 m0", "n2 x t0", "n2", "n1 t0 t0"}) {
            Edges.of("corrigendum", () -> beside(otherwise, true, "n1 t0"), corrigendum, two, two, wrong)
                .refuses(UOE);
        }
        for (String typed : new String[] {"", "n1", "n2 t0", "n1 t10", "n1 t0 r0", "n1 t0 m1", "n1 x t0", "n1 t0 x"}) {
            Edges.of("corrigendum", () -> beside("n2 t0", true, typed), corrigendum, two, two, wrong).refuses(UOE);
        }
        Edges.of("corrigendum", LawEdges::apart, corrigendum, two, two, two).refuses(UOE);
    }

    /** So many versions, of which the texts of the unit 0 of the act 1 in the tongues 3 and 4 diverge. */
    private static Equaltexts fullAndDiverging(int versions) {
        Equaltexts x = Office400.frozen(versions - 5);
        Office400.adopt(x, 0);
        return x;
    }

    private static Equaltexts fullOf400() {
        Equaltexts x = fullAndDiverging(399);
        x.corrigendum(1, 0, 4);
        return x;
    }

    private static void corrigendaFull() {
        Edges.Made corrigendum = (x, a) -> x.corrigendum(a[0], a[1], a[2]);
        Edges.Argument act = Edges.someOf(5, 1);
        Edges.Argument unit = Edges.someOf(12, 0);
        Edges.of("corrigendum", () -> fullAndDiverging(399), corrigendum, act, unit, Edges.someOf(5, 3, 4)).takes();
        Edges.of("corrigendum", LawEdges::fullOf400, corrigendum, act, unit, Edges.someOf(5, 3)).refuses(ISE);
        Edges.of("corrigendum", LawEdges::fullOf400, corrigendum, act, unit, Edges.someOf(5, 0, 4))
            .refuses(UOE, ISE);
    }

    // ---- promises 29 to 36

    private static void deadlines() {
        Edges.Argument two = Edges.index(2);
        for (Edges.Office office : new Edges.Office[] {DraftingEdges::drafted, DraftingEdges::frozen}) {
            Edges.of("setDeadline", office, (x, a) -> x.setDeadline(a[0], a[1]), two, Edges.range(0, 9999))
                .takes().refuses();
        }
    }

    /** Acts in force in two tongues of three, of which amendments are moved till a day, with so many of them. */
    private static Equaltexts movable(int deadline, int amendments) {
        Equaltexts x = DraftingEdges.behind();
        x.setDeadline(0, deadline);
        x.setDeadline(1, deadline);
        x.wipe();
        for (int i = 0; i < amendments; i++) {
            x.setDeadline(0, 9999);
            x.move(0, i % 2, i % 2);
            x.setDeadline(0, deadline);
        }
        Check.type(x, "w3 w4");
        return x;
    }

    private static void moves() {
        Edges.Argument two = Edges.index(2);
        Edges.Argument inForce = Edges.someOf(3, 0, 1);
        Edges.Argument behind = Edges.someOf(3, 2);
        Edges.Made move = (x, a) -> x.move(a[0], a[1], a[2]);
        Edges.of("move", () -> movable(2, 0), move, two, two, inForce).takes().refuses();
        Edges.of("move", () -> movable(9999, 11), move, two, two, inForce).takes().refuses();
        Edges.of("move", () -> movable(1, 0), move, two, two, inForce).refuses(UOE);
        Edges.of("move", () -> movable(9999, 0), move, two, two, behind).refuses(UOE);
        Edges.of("move", DraftingEdges::drafted, move, two, two, two).refuses(UOE);
        Edges.of("move", () -> movable(9999, 12), move, two, two, inForce).refuses(ISE);
        Edges.of("move", () -> movable(1, 12), move, two, two, inForce).refuses(UOE, ISE);
        Edges.of("move", () -> movable(9999, 12), move, two, two, behind).refuses(UOE, ISE);
    }

    private static void compromises() {
        Edges.Made compromise = (x, a) -> x.compromise(a[0], a[1]);
        // The amendments 0, 2, 4 .. are of the unit 0, the others of the unit 1, all of the act 0.
        for (int last : new int[] {3, 11}) {
            Edges.Office office = () -> movable(0, last);
            Edges.Argument first = Edges.someOf(last, 0);
            Edges.Argument second = Edges.someOf(last, 2);
            Edges.of("compromise", office, compromise, first, second).takes().refuses();
            Edges.of("compromise", office, compromise, second, first).takes().refuses();
        }
        Edges.of("compromise", () -> movable(0, 12), compromise, Edges.someOf(12, 0), Edges.someOf(12, 2, 10))
            .refuses(ISE);
        Edges.of("compromise", () -> movable(0, 12), compromise, Edges.someOf(12, 0), Edges.someOf(12, 1, 0))
            .refuses(UOE, ISE);
    }

    /** Amendments 0 to 3 of one unit, of which 0 is lost, and 4 and 5 of another unit and another act. */
    private static Equaltexts somewhatVoted() {
        Equaltexts x = Check.office(1, 0);
        Check.draft(x, "w1");
        Check.addUnit(x, 0, "w1");
        x.freeze(0);
        Check.frozen(x, "w1");
        for (int i = 0; i < 4; i++) {
            Check.move(x, 0, 0, 0, "w2");
        }
        Check.move(x, 0, 1, 0, "w2");
        Check.move(x, 1, 0, 0, "w2");
        x.vote(0, 0, 0);
        Check.type(x, "w3 w4");
        return x;
    }

    private static Equaltexts adopted() {
        Equaltexts x = somewhatVoted();
        x.vote(1, 1, 0);
        return x;
    }

    private static void compromisesRefused() {
        Edges.Made compromise = (x, a) -> x.compromise(a[0], a[1]);
        Edges.Argument one = Edges.someOf(6, 1);
        Edges.Argument lost = Edges.someOf(6, 0);
        Edges.of("compromise", LawEdges::somewhatVoted, compromise, one, Edges.someOf(6, 2, 3)).takes().refuses();
        Edges.of("compromise", LawEdges::somewhatVoted, compromise, one, lost).refuses(UOE);
        Edges.of("compromise", LawEdges::somewhatVoted, compromise, lost, one).refuses(UOE);
        Edges.of("compromise", LawEdges::somewhatVoted, compromise, one, one).refuses(UOE);
        Edges.of("compromise", LawEdges::somewhatVoted, compromise, one, Edges.someOf(6, 4, 5)).refuses(UOE);
        Edges.Argument fallen = Edges.someOf(6, 2, 3);
        Edges.of("compromise", LawEdges::adopted, compromise, one, fallen).refuses(UOE);
        Edges.of("compromise", LawEdges::adopted, compromise, fallen, one).refuses(UOE);
        Edges.of("compromise", LawEdges::adopted, compromise, fallen, Edges.someOf(6, 3, 2)).refuses(UOE);
    }

    private static void supplies() {
        Edges.Made supply = (x, a) -> x.supply(a[0], a[1]);
        // The amendment 0 is moved in the tongue 0, the amendment 1 in the tongue 1; the tongue 2 is behind.
        Edges.Office office = () -> movable(0, 2);
        Edges.of("supply", office, supply, Edges.someOf(2, 0), Edges.someOf(3, 1)).takes().refuses();
        Edges.of("supply", office, supply, Edges.someOf(2, 1), Edges.someOf(3, 0)).takes().refuses();
        Edges.of("supply", office, supply, Edges.someOf(2, 0), Edges.someOf(3, 0, 2)).refuses(UOE);
        Edges.of("supply", office, supply, Edges.someOf(2, 1), Edges.someOf(3, 1, 2)).refuses(UOE);
        Edges.of("supply", LawEdges::votedInTwoTongues, supply, Edges.index(3), Edges.index(2)).refuses(UOE);
    }

    /** The amendments 0, 1 and 2 are lost, adopted and fallen. */
    private static Equaltexts votedInTwoTongues() {
        Equaltexts x = Check.office(2, 0);
        Check.frozen(x, "w1", "w1");
        for (int i = 0; i < 3; i++) {
            x.move(0, 0, 0);
            x.supply(i, 1);
        }
        x.vote(0, 0, 1);
        x.vote(1, 1, 0);
        Check.type(x, "w3 w4");
        return x;
    }

    private static void amendments() {
        for (int there : new int[] {1, 12}) {
            Edges.Office office = () -> movable(0, there);
            Edges.of("distance", office, (x, a) -> x.distance(a[0]), Edges.index(there)).takes().refuses();
            Edges.of("state", office, (x, a) -> x.state(a[0]), Edges.index(there)).takes().refuses();
        }
        Edges.of("distance", Equaltexts::new, (x, a) -> x.distance(a[0]), Edges.any(-1, 0, 1))
            .refuses(Fault.IOOBE);
        Edges.of("state", Equaltexts::new, (x, a) -> x.state(a[0]), Edges.any(-1, 0, 1))
            .refuses(Fault.IOOBE);
    }

    /** Two acts of two units in one tongue, with an amendment of each unit, numbered 0 to 3. */
    private static Equaltexts votable() {
        Equaltexts x = Check.office(1, 0);
        for (int act = 0; act < 2; act++) {
            Check.draft(x, "w1");
            Check.addUnit(x, act, "w1");
            x.freeze(act);
            Check.move(x, act, 0, 0, "w2");
            Check.move(x, act, 1, 0, "w2");
        }
        return x;
    }

    private static void nextOnes() {
        Edges.Argument two = Edges.index(2);
        Edges.Made next = (x, a) -> x.next(a[0], a[1]);
        Edges.of("next", LawEdges::votable, next, two, two).takes().refuses();
        Edges.of("next", DraftingEdges::drafted, next, two, two).refuses(NSEE);
        Edges.of("next", DraftingEdges::frozen, next, two, two).refuses(NSEE);
        // All that are moved lack a text in the other tongue.
        Edges.of("next", () -> movable(0, 12), next, two, two).refuses(NSEE);
        Edges.of("next", LawEdges::votedInTwoTongues, next, Edges.index(1), Edges.index(1)).refuses(NSEE);
    }

    private static void votes() {
        Edges.Argument count = Edges.range(0, 999);
        Edges.Made vote = (x, a) -> x.vote(a[0], a[1], a[2]);
        Edges.of("vote", LawEdges::votable, vote, Edges.index(4), count, count).takes().refuses();
        Edges.of("vote", () -> movable(0, 12), vote, Edges.index(12), count, count).refuses(UOE);
        Edges.of("vote", LawEdges::votedInTwoTongues, vote, Edges.index(3), count, count).refuses(UOE);
        // The amendment 1 is next, and after it 2 and 3; 0 is lost.
        Edges.of("vote", LawEdges::somewhatVoted, vote, Edges.someOf(6, 1, 4, 5), count, count).takes().refuses();
        Edges.of("vote", LawEdges::somewhatVoted, vote, Edges.someOf(6, 0, 2, 3), count, count).refuses(UOE);
    }

    /** So many versions, and two amendments of one unit that lack no text, so that the last one is not next. */
    private static Equaltexts fullAndVotable(int versions) {
        Equaltexts x = Office400.frozen(versions);
        Office400.ready(x, 0);
        Office400.ready(x, 0);
        return x;
    }

    private static void votesFull() {
        Edges.Made vote = (x, a) -> x.vote(a[0], a[1], a[2]);
        Edges.Argument ayes = new Edges.Argument(new int[] {1, 999}, Edges.range(0, 999).refused(), IAE);
        Edges.Argument noes = new Edges.Argument(new int[] {0}, Edges.range(0, 999).refused(), IAE);
        for (int versions : new int[] {395, 396, 400}) {
            Edges.Office office = () -> fullAndVotable(versions);
            int made = amendmentsOf(office.built());
            Edges.Argument next = Edges.someOf(made, made - 2);
            Edges.Argument notNext = Edges.someOf(made, made - 1);
            Edges.of("vote", office, vote, next, Edges.any(0, 1, 999), Edges.any(999)).takes();
            if (versions == 395) {
                Edges.of("vote", office, vote, next, ayes, noes).takes().refuses();
            } else {
                Edges.of("vote", office, vote, next, ayes, noes).refuses(ISE);
                Edges.of("vote", office, vote, notNext, ayes, noes).refuses(UOE, ISE);
            }
        }
    }

    private static int amendmentsOf(Equaltexts x) {
        int made = 0;
        while (isThere(x, made)) {
            made++;
        }
        return made;
    }

    private static boolean isThere(Equaltexts x, int amendment) {
        try {
            return x.state(amendment) != 0;
        } catch (IndexOutOfBoundsException e) {
            return false;
        }
    }

    // ---- promises 37 to 41

    private static void meanings() {
        Edges.Argument two = Edges.index(2);
        Edges.Made meaning = (x, a) -> x.meaning(a[0], a[1], a[2]);
        Edges.of("meaning", DraftingEdges::drafted, meaning, two, two, two).takes().refuses();
        Edges.of("meaning", DraftingEdges::frozen, meaning, two, two, two).takes().refuses();
        for (Edges.Office office : new Edges.Office[] {LawEdges::lacking, DraftingEdges::behind}) {
            Edges.of("meaning", office, meaning, two, two, Edges.someOf(3, 0, 1)).takes().refuses();
            Edges.of("meaning", office, meaning, two, two, Edges.someOf(3, 2)).refuses(NSEE);
        }
    }

    private static Equaltexts judgedOften(int judgments, boolean isFrozen) {
        Equaltexts x = DraftingEdges.frozen();
        for (int i = 0; i < judgments; i++) {
            x.judge(i % 2, 0, "cmpb".charAt(i % 4), i % 10);
        }
        for (int act = 2; act < 4 && !isFrozen; act++) {
            Check.draft(x, "w1", "w1");
            Check.addUnit(x, act, "w1", "w1");
        }
        return x;
    }

    private static Edges.Argument method() {
        return new Edges.Argument(new int[] {'c', 'm', 'p', 'b'},
            new int[] {0, 'a', 'd', 'l', 'n', 'o', 'q', 'B', 'C', 'M', 'P', '-', 255, 65535}, IAE);
    }

    private static void judgments() {
        Edges.Argument two = Edges.index(2);
        Edges.Argument court = Edges.range(0, 9);
        Edges.Made judge = (x, a) -> x.judge(a[0], a[1], (char) a[2], a[3]);
        Edges.of("judge", () -> judgedOften(0, true), judge, two, two, method(), court).takes().refuses();
        Edges.of("judge", () -> judgedOften(29, true), judge, two, two, method(), court).takes().refuses();
        for (int there : new int[] {1, 30}) {
            Edges.Office office = () -> judgedOften(there, true);
            Edges.of("judged", office, (x, a) -> x.judged(a[0]), Edges.index(there)).takes().refuses();
            Edges.of("replay", office, (x, a) -> x.replay(a[0]), Edges.index(there)).takes().refuses();
        }
        Edges.of("judged", Equaltexts::new, (x, a) -> x.judged(a[0]), Edges.any(-1, 0, 1))
            .refuses(Fault.IOOBE);
        Edges.of("replay", Equaltexts::new, (x, a) -> x.replay(a[0]), Edges.any(-1, 0, 1))
            .refuses(Fault.IOOBE);
    }

    private static void judgmentsRefused() {
        Edges.Argument two = Edges.index(2);
        Edges.Argument court = Edges.range(0, 9);
        Edges.Made judge = (x, a) -> x.judge(a[0], a[1], (char) a[2], a[3]);
        Edges.Argument drafted = Edges.someOf(4, 2, 3);
        Edges.of("judge", () -> judgedOften(30, true), judge, two, two, method(), court).refuses(ISE);
        Edges.of("judge", () -> judgedOften(29, false), judge, drafted, two, method(), court).refuses(UOE);
        Edges.of("judge", () -> judgedOften(30, false), judge, drafted, two, method(), court).refuses(UOE, ISE);
    }
}
