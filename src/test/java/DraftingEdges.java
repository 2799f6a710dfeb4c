/** The edges of the promises 2 to 21: tongues, concepts, the buffer, drafting and versions. */
final class DraftingEdges {
    private static final Fault ISE = Fault.ISE;
    private static final Fault IAE = Fault.IAE;
    private static final Fault UOE = Fault.UOE;
    private static final Fault NSEE = Fault.NSEE;

    private DraftingEdges() {
    }

    static void all() {
        tonguesAndConcepts();
        forms();
        tokensTyped();
        daysPassed();
        acts();
        units();
        unitsFullAndFrozen();
        sourcesAndTexts();
        asks();
        freezing();
        freezingFull();
        textsOnDays();
        tokensOfTexts();
        countsOfVersions();
    }

    // ---- offices

    /** Two acts of two units each, with texts in both tongues. */
    static Equaltexts drafted() {
        Equaltexts x = Check.office(2, 2);
        for (int act = 0; act < 2; act++) {
            Check.draft(x, "n1 t0", "n1 t0");
            Check.addUnit(x, act, "w1", "w1");
        }
        Check.type(x, "w7 x t10");
        return x;
    }

    /** The same ones, of the day 2. */
    static Equaltexts frozen() {
        Equaltexts x = drafted();
        x.pass(2);
        x.freeze(0);
        x.freeze(1);
        return x;
    }

    /** The same ones, and a tongue 2 into which all is translated, but not published. */
    static Equaltexts behind() {
        Equaltexts x = frozen();
        x.tongue();
        x.wipe();
        for (int act = 0; act < 2; act++) {
            Check.translate(x, act, 0, 2, "n1 t0");
            Check.translate(x, act, 1, 2, "w1");
        }
        Check.type(x, "w7 x t10");
        return x;
    }

    // ---- promises 2 to 9

    private static void tonguesAndConcepts() {
        for (int there = 0; there < 5; there++) {
            int tongues = there;
            Edges.of("tongue", () -> Check.office(tongues, 0), (x, a) -> x.tongue()).takes();
        }
        Edges.of("tongue", () -> Check.office(5, 0), (x, a) -> x.tongue()).refuses(ISE);
        for (int there = 0; there < 16; there++) {
            int concepts = there;
            Edges.of("concept", () -> Check.office(0, concepts), (x, a) -> x.concept()).takes();
        }
        Edges.of("concept", () -> Check.office(0, 16), (x, a) -> x.concept()).refuses(ISE);
    }

    private static void forms() {
        for (int[] size : new int[][] {{1, 1}, {5, 16}, {2, 3}}) {
            Edges.Office office = () -> Check.office(size[0], size[1]);
            Edges.Argument concept = Edges.index(size[1]);
            Edges.Argument tongue = Edges.index(size[0]);
            Edges.Argument form = Edges.range(0, 5);
            Edges.of("allow", office, (x, a) -> x.allow(a[0], a[1], a[2], a[3] == 1),
                concept, tongue, form, Edges.any(0, 1)).takes().refuses();
            Edges.of("alias", office, (x, a) -> x.alias(a[0], a[1], a[2], a[3]),
                concept, tongue, form, Edges.range(0, 5)).takes().refuses();
            Edges.of("mean", office, (x, a) -> x.mean(a[0], a[1], a[2]),
                concept, tongue, Edges.range(0, 4095)).takes().refuses();
        }
    }

    private static Equaltexts typed(int tokens) {
        Equaltexts x = Check.office(1, 3);
        for (int i = 0; i < tokens; i++) {
            x.type('w', i);
        }
        return x;
    }

    private static void typing(Edges.Argument kind, Edges.Argument value) {
        Edges.Made type = (x, a) -> x.type((char) a[0], a[1]);
        Edges.of("type", () -> typed(0), type, kind, value).takes().refuses();
        Edges.of("type", () -> typed(9), type, kind, value).takes().refuses();
        Edges.of("type", () -> typed(10), type, kind, value).refuses(ISE);
    }

    private static void tokensTyped() {
        int[] refused = {0, 'a', 's', 'v', 'y', 'l', 'o', 'q', 'u', 'W', 'T', 'N', 'R', 'M', 'X', '-', 255, 65535};
        for (int kind : new int[] {'w', 't', 'n', 'r', 'm', 'x'}) {
            Edges.Argument kinds = new Edges.Argument(new int[] {kind}, refused, IAE);
            if (kind == 't') {
                typing(kinds, new Edges.Argument(new int[] {0, 5, 10, 15, 20, 25},
                    new int[] {Integer.MIN_VALUE, -10, -1, 6, 9, 16, 19, 26, 29, 30, 99, Integer.MAX_VALUE}, IAE));
            } else if (kind == 'x') {
                typing(kinds, Edges.any(Integer.MIN_VALUE, -1, 0, 1, Integer.MAX_VALUE));
            } else {
                typing(kinds, Edges.range(0, kind == 'w' ? 99 : kind == 'n' ? 9999 : kind == 'r' ? 11 : 1));
            }
        }
    }

    private static Equaltexts dayed(int day) {
        Equaltexts x = new Equaltexts();
        while (x.day() < day) {
            x.pass(Math.min(365, day - x.day()));
        }
        return x;
    }

    private static void daysPassed() {
        Edges.Made pass = (x, a) -> x.pass(a[0]);
        Edges.of("pass", () -> dayed(0), pass, Edges.range(1, 365)).takes().refuses();
        Edges.of("pass", () -> dayed(9999 - 365), pass, Edges.range(1, 365)).takes().refuses();
        Edges.of("pass", () -> dayed(9998), pass, Edges.any(1)).takes();
        Edges.of("pass", () -> dayed(9999 - 364), pass, Edges.any(365)).refuses(ISE);
        Edges.of("pass", () -> dayed(9998), pass, Edges.any(2, 365)).refuses(ISE);
        Edges.of("pass", () -> dayed(9999), pass, Edges.range(1, 365)).refuses(ISE);
    }

    // ---- promises 10 to 17

    private static Equaltexts withActs(int acts) {
        Equaltexts x = new Equaltexts();
        for (int i = 0; i < acts; i++) {
            x.act(0, 0);
        }
        return x;
    }

    private static void acts() {
        Edges.Made act = (x, a) -> x.act(a[0], a[1]);
        Edges.Argument purpose = Edges.range(0, 4095);
        Edges.of("act", () -> withActs(0), act, purpose, Edges.range(0, 9)).takes().refuses();
        Edges.of("act", () -> withActs(4), act, purpose, Edges.range(0, 9)).takes().refuses();
        Edges.of("act", () -> withActs(5), act, purpose, Edges.range(0, 9)).refuses(ISE);
    }

    /** Two acts of units of the levels 1, 2, 3 and, from then on, 1. */
    private static Equaltexts levels(int units, boolean isFrozen) {
        Equaltexts x = Check.office(1, 3);
        for (int act = 0; act < 2; act++) {
            x.act(0, 0);
            for (int i = 0; i < units; i++) {
                x.unit(act, i < 3 ? i - 1 : -1, i % 3 - 1);
                Check.write(x, act, i, 0, "w1");
            }
            if (isFrozen) {
                x.freeze(act);
            }
        }
        return x;
    }

    private static void units() {
        Edges.Made unit = (x, a) -> x.unit(a[0], a[1], a[2]);
        Edges.of("unit", () -> levels(0, false), unit, Edges.index(2), new Edges.Argument(new int[] {-1},
            new int[] {Integer.MIN_VALUE, -2, 0, 1, Integer.MAX_VALUE}, IAE), Edges.range(-1, 2)).takes().refuses();
        Edges.of("unit", () -> levels(3, false), unit, Edges.index(2), new Edges.Argument(new int[] {-1, 0, 1},
            new int[] {Integer.MIN_VALUE, -2, 2, 3, 12, Integer.MAX_VALUE}, IAE), Edges.range(-1, 2))
            .takes().refuses();
        Edges.of("unit", () -> levels(11, false), unit, Edges.index(2), new Edges.Argument(new int[] {-1, 0, 1, 10},
            new int[] {Integer.MIN_VALUE, -2, 2, 11, 12, Integer.MAX_VALUE}, IAE), Edges.range(-1, 2))
            .takes().refuses();
        Edges.of("unit", () -> withActs(5), unit, Edges.index(5), Edges.any(-1), Edges.any(-1)).takes().refuses();
    }

    private static void unitsFullAndFrozen() {
        Edges.Made unit = (x, a) -> x.unit(a[0], a[1], a[2]);
        Edges.Argument defined = Edges.range(-1, 2);
        Edges.Argument above = new Edges.Argument(new int[] {-1, 0, 1, 3, 11},
            new int[] {Integer.MIN_VALUE, -2, 2, 12, Integer.MAX_VALUE}, IAE);
        Edges.of("unit", () -> levels(12, false), unit, Edges.index(2), above, defined).refuses(ISE);
        Edges.of("unit", () -> levels(12, true), unit, Edges.index(2), above, defined).refuses(UOE, ISE);
        Edges.Argument few = new Edges.Argument(new int[] {-1, 0, 1},
            new int[] {Integer.MIN_VALUE, -2, 2, 3, Integer.MAX_VALUE}, IAE);
        Edges.of("unit", () -> levels(3, true), unit, Edges.index(2), few, defined).refuses(UOE);
    }

    private static void sourcesAndTexts() {
        Edges.Argument two = Edges.index(2);
        Edges.Made setSource = (x, a) -> x.setSource(a[0], a[1]);
        Edges.of("setSource", DraftingEdges::drafted, setSource, two, two).takes().refuses();
        Edges.of("setSource", DraftingEdges::frozen, setSource, two, two).refuses(UOE);
        Edges.of("setSource", () -> withActs(1), (x, a) -> x.setSource(0, a[0]), Edges.any(0))
            .refuses(Fault.IOOBE);
        Edges.Made write = (x, a) -> x.write(a[0], a[1], a[2]);
        Edges.of("write", DraftingEdges::drafted, write, two, two, two).takes().refuses();
        Edges.of("write", DraftingEdges::frozen, write, two, two, two).refuses(UOE);
        Edges.of("write", DraftingEdges::behind, write, two, two, Edges.index(3)).refuses(UOE);
        for (Edges.Office office : new Edges.Office[] {DraftingEdges::drafted, DraftingEdges::frozen}) {
            Edges.of("stale", office, (x, a) -> x.stale(a[0]), two).takes().refuses();
            Edges.of("changed", office, (x, a) -> x.changed(a[0]), two).takes().refuses();
        }
    }

    private static Equaltexts sourceless() {
        Equaltexts x = drafted();
        x.tongue();
        x.setSource(0, 2);
        return x;
    }

    private static void asks() {
        Edges.Argument two = Edges.index(2);
        Edges.Made ask = (x, a) -> x.ask(a[0], a[1], a[2]);
        Edges.of("ask", DraftingEdges::drafted, ask, two, two, Edges.someOf(2, 1)).takes().refuses();
        Edges.of("ask", DraftingEdges::drafted, ask, two, two, Edges.someOf(2, 0)).refuses(UOE);
        Edges.of("ask", DraftingEdges::sourceless, ask, Edges.someOf(2, 0), two, Edges.index(3)).refuses(UOE);
        Edges.of("ask", DraftingEdges::frozen, ask, two, two, two).refuses(UOE);
    }

    private static Equaltexts tongueless() {
        Equaltexts x = withActs(2);
        x.unit(0, -1, -1);
        x.unit(1, -1, -1);
        return x;
    }

    private static Equaltexts unitless() {
        Equaltexts x = Check.office(2, 0);
        x.act(0, 0);
        x.act(0, 0);
        return x;
    }

    /** Of each act the last text in the last tongue is stale. */
    private static Equaltexts staled() {
        Equaltexts x = drafted();
        for (int act = 0; act < 2; act++) {
            x.write(act, 1, 0);
        }
        return x;
    }

    private static void freezing() {
        Edges.Argument two = Edges.index(2);
        Edges.Made freeze = (x, a) -> x.freeze(a[0]);
        Edges.of("freeze", DraftingEdges::drafted, freeze, two).takes().refuses();
        Edges.of("freeze", DraftingEdges::frozen, freeze, two).refuses(UOE);
        Edges.of("freeze", () -> withActs(2), freeze, two).refuses(UOE);
        Edges.of("freeze", DraftingEdges::tongueless, freeze, two).refuses(UOE);
        Edges.of("freeze", DraftingEdges::unitless, freeze, two).refuses(UOE);
        Edges.of("freeze", DraftingEdges::staled, freeze, two).refuses(UOE);
        Edges.of("freeze", DraftingEdges::sourceless, freeze, two).refuses(UOE);
    }

    /** An office of so many versions, and an act 4 of five texts, all of them there. */
    private static Equaltexts nearlyFull(int versions) {
        Equaltexts x = Office400.with(versions);
        Check.draft(x, "w1", "w1", "w1", "w1", "w1");
        return x;
    }

    private static Equaltexts fullAndStale() {
        Equaltexts x = nearlyFull(396);
        Check.write(x, 4, 0, 0, "w2");
        return x;
    }

    private static void freezingFull() {
        Edges.Made freeze = (x, a) -> x.freeze(a[0]);
        Edges.of("freeze", () -> nearlyFull(395), freeze, Edges.someOf(5, 4)).takes().refuses();
        Edges.of("freeze", () -> nearlyFull(396), freeze, Edges.someOf(5, 4)).refuses(ISE);
        Edges.of("freeze", () -> nearlyFull(396), freeze, Edges.someOf(5, 0, 1, 2, 3)).refuses(UOE, ISE);
        Edges.of("freeze", DraftingEdges::fullAndStale, freeze, Edges.someOf(5, 4)).refuses(UOE, ISE);
    }

    // ---- promises 18 to 21

    private static void textsOnDays() {
        Edges.Argument two = Edges.index(2);
        Edges.Made tokens = (x, a) -> x.tokens(a[0], a[1], a[2], a[3]);
        Edges.Argument day = new Edges.Argument(new int[] {2, 3, 9999, Integer.MAX_VALUE},
            new int[] {Integer.MIN_VALUE, -1, 0, 1}, NSEE);
        Edges.of("tokens", DraftingEdges::frozen, tokens, two, two, two, day).takes().refuses();
        Edges.of("tokens", DraftingEdges::drafted, tokens, two, two, two, day).refuses(NSEE);
        Edges.of("tokens", DraftingEdges::behind, tokens, two, two, Edges.someOf(3, 2), day).refuses(NSEE);
    }

    private static void tokensOfTexts() {
        Edges.Argument two = Edges.index(2);
        Edges.Argument day = new Edges.Argument(new int[] {2, Integer.MAX_VALUE},
            new int[] {Integer.MIN_VALUE, -1, 1}, NSEE);
        Edges.Argument isValue = Edges.any(0, 1);
        Edges.Made tokenAt = (x, a) -> x.tokenAt(a[0], a[1], a[2], a[3], a[4], a[5] == 1);
        // The unit 0 has two tokens, the unit 1 one.
        Edges.of("tokenAt", DraftingEdges::frozen, tokenAt, two, Edges.someOf(2, 0), two, day,
            Edges.between(NSEE, 0, 1), isValue).takes().refuses();
        Edges.of("tokenAt", DraftingEdges::frozen, tokenAt, two, Edges.someOf(2, 1), two, day,
            Edges.between(NSEE, 0, 0), isValue).takes().refuses();
        Edges.of("tokenAt", DraftingEdges::drafted, tokenAt, two, two, two, day,
            Edges.between(NSEE, 0, 0), isValue).refuses(NSEE);
        Edges.of("tokenAt", DraftingEdges::behind, tokenAt, two, two, Edges.someOf(3, 2), day,
            Edges.between(NSEE, 0, 0), isValue).refuses(NSEE);
        Edges.of("tokenAt", () -> withEmptyText(), (x, a) -> x.tokenAt(0, 0, 0, 0, a[0], true),
            Edges.any(Integer.MIN_VALUE, -1, 0, 1, Integer.MAX_VALUE)).refuses(NSEE);
        Edges.of("tokenAt", () -> withLongText(), (x, a) -> x.tokenAt(0, 0, 0, 0, a[0], a[1] == 1),
            Edges.between(NSEE, 0, 9), isValue).takes().refuses();
    }

    private static Equaltexts withEmptyText() {
        Equaltexts x = Check.office(1, 0);
        Check.frozen(x, "");
        return x;
    }

    private static Equaltexts withLongText() {
        Equaltexts x = Check.office(1, 0);
        Check.frozen(x, "w0 w1 w2 w3 w4 w5 w6 w7 w8 w9");
        return x;
    }

    private static void countsOfVersions() {
        Edges.Argument two = Edges.index(2);
        Edges.Argument three = Edges.index(3);
        Edges.Made versions = (x, a) -> x.versions(a[0], a[1], a[2]);
        Edges.Made applies = (x, a) -> x.applies(a[0], a[1], a[2]);
        Edges.Argument day = Edges.any(Integer.MIN_VALUE, -1, 0, 9999, 10000, Integer.MAX_VALUE);
        Edges.of("versions", DraftingEdges::drafted, versions, two, two, two).takes().refuses();
        Edges.of("versions", DraftingEdges::behind, versions, two, two, three).takes().refuses();
        Edges.of("applies", DraftingEdges::drafted, applies, two, two, day).takes().refuses();
        Edges.of("applies", DraftingEdges::behind, applies, two, three, day).takes().refuses();
    }
}
