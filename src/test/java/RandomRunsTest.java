import java.lang.reflect.InvocationTargetException;
import java.lang.reflect.Method;
import java.util.ArrayList;
import java.util.HashMap;
import java.util.List;
import java.util.Map;
import java.util.Random;

/** Long runs of calls, the same ones each time, of which each answer and each exception is that of the model. */
public final class RandomRunsTest {
    private static final int RUNS = 600;
    /** As many calls as the document promises to answer. */
    private static final int CALLS = 512;

    /** What each argument of a call is: a letter a kind, see argument(). */
    private static final String[] FACE = {
        "tongue", "concept", "allow ctf?", "alias ctff", "mean cts", "type kv", "wipe", "pass d", "act sp",
        "unit azz", "setSource at", "write aut", "stale a", "ask aut", "changed a", "freeze a", "tokens autD",
        "tokenAt autDi?", "versions aut", "applies atD", "difference autt", "forbidden at", "undefined a",
        "dangling at", "divergence aut", "diverging a", "corrigendum aut", "setDeadline aD", "move aut",
        "compromise mm", "supply mt", "distance m", "next au", "vote myn", "state m", "meaning aut",
        "judge auhC", "judged j", "replay j", "conflicts", "backlog t", "backlogAt ti", "translate aut",
        "publish at", "translator bS", "days att", "assign att", "load w", "memorize auttw", "propose autt",
        "poison w", "letter t", "answer w", "overdue", "day", "checksum", "frozenShare", "meanTokens", "isSound"
    };
    private static final String[] TEXTS = {
        "", "w1", "w2 w3", "n1", "n1 w4", "n1 t0", "w1 n1 t1", "n2 t0", "r0", "r1 n1", "t0 t11", "t11 t1",
        "x t0", "x t11", "t0 x", "x x t1", "m0 n1", "m1 n1", "m0 m1", "n1 n1 r0 r2 t0 m0 x t10"
    };

    private static final Map<String, Method> REAL = methods(Equaltexts.class);
    private static final Map<String, Method> MODEL = methods(Model.class);

    private final Random random;
    private final Equaltexts real = new Equaltexts();
    private final Model model = new Model();
    private final List<String> told = new ArrayList<>();
    /** How many of a kind there are by now: tongues, acts, units of each act, amendments and so on. */
    private final Map<String, Integer> made = new HashMap<>();
    private int lastAct;
    private int calls;
    private int wrong;

    private RandomRunsTest(int seed) {
        random = new Random(seed);
    }

    public static void main(String[] args) {
        Map<String, Integer> often = new HashMap<>();
        for (int seed = 0; seed < RUNS; seed++) {
            RandomRunsTest test = new RandomRunsTest(seed);
            test.run();
            for (String call : test.told) {
                often.merge(call.replaceAll("(?s)\\(.*\\) = ", " ").replaceAll("(?s) [^A-Z].*", ""), 1, Integer::sum);
            }
            Check.due("run " + seed + " wrong answers", 0, test.wrong);
        }
        for (String line : FACE) {
            String name = line.split(" ")[0];
            Check.due("some run has an answer of " + name, true, often.containsKey(name));
        }
        if (args.length > 0) {
            often.keySet().stream().sorted().forEach(call -> System.out.println(call + " " + often.get(call)));
        }
        Check.end("RandomRunsTest");
    }

    private static Map<String, Method> methods(Class<?> type) {
        Map<String, Method> found = new HashMap<>();
        for (Method method : type.getDeclaredMethods()) {
            if (java.lang.reflect.Modifier.isPublic(method.getModifiers())) {
                method.setAccessible(true);
                found.put(method.getName(), method);
            }
        }
        return found;
    }

    private void run() {
        for (int i = random.nextInt(4); i >= 0; i--) {
            call("tongue");
        }
        for (int i = random.nextInt(3); i >= 0; i--) {
            call("concept");
        }
        for (int i = random.nextInt(3); i >= 0; i--) {
            int act = number(call("act", random.nextInt(4096), random.nextInt(10)));
            for (int k = random.nextInt(3); k >= 0; k--) {
                call("unit", act, random.nextInt(count("unit" + act) + 1) - 1, random.nextInt(3) - 1);
            }
        }
        for (int i = random.nextInt(5); i > 0; i--) {
            call("translator", argument('b'), argument('S'));
        }
        while (calls < CALLS && wrong == 0) {
            step();
        }
    }

    private void step() {
        int kind = random.nextInt(100);
        int act = (Integer) argument('a');
        if (kind < 3) {
            draftAll(act);
        } else if (kind < 7) {
            amend(act);
        } else if (kind < 9) {
            translateAll();
        } else if (kind < 10) {
            correct(act);
        } else if (kind < 13) {
            remember(act);
        } else if (kind < 20) {
            type(TEXTS[random.nextInt(TEXTS.length)]);
        } else {
            String[] line = FACE[random.nextInt(FACE.length)].split(" ");
            Object[] arguments = new Object[line.length == 1 ? 0 : line[1].length()];
            for (int i = 0; i < arguments.length; i++) {
                arguments[i] = argument(line[1].charAt(i));
            }
            call(line[0], arguments);
        }
    }

    private int count(String what) {
        return made.getOrDefault(what, 0);
    }

    private void type(String text) {
        for (String token : text.split(" ")) {
            if (!token.isEmpty()) {
                call("type", token.charAt(0), token.length() == 1 ? 0 : Integer.parseInt(token.substring(1)));
            }
        }
    }

    /** Puts the text of another tongue in place of one that diverges. */
    private void correct(int act) {
        for (int unit = 0; unit < count("unit" + act); unit++) {
            for (int t = 0; t < count("tongue"); t++) {
                if ("m".equals("" + call("divergence", act, unit, t))) {
                    copy(act, unit, random.nextInt(count("tongue")));
                    call("corrigendum", act, unit, t);
                    return;
                }
            }
        }
    }

    private void remember(int act) {
        Object unit = argument('u');
        Object from = argument('t');
        Object to = argument('t');
        call("memorize", act, unit, from, to, argument('w'));
        call("memorize", act, argument('u'), from, to, argument('w'));
        call("propose", act, argument('u'), from, to);
        call("wipe");
    }

    /** A text that is often one of the few that many places have. */
    private void typeLike(int base) {
        call("wipe");
        type(TEXTS[random.nextInt(4) == 0 ? random.nextInt(TEXTS.length) : base]);
    }

    private void draftAll(int act) {
        for (int unit = 0; unit < count("unit" + act); unit++) {
            int base = random.nextInt(TEXTS.length);
            for (int t = 0; t < count("tongue"); t++) {
                typeLike(base);
                if (!(call("write", act, unit, t) instanceof Integer)) {
                    break;
                }
            }
        }
        call("freeze", act);
    }

    private void amend(int act) {
        int base = random.nextInt(TEXTS.length);
        int unit = random.nextInt(Math.max(1, count("unit" + act)));
        typeLike(base);
        int amendment = number(call("move", act, unit, argument('t')));
        if (random.nextBoolean()) {
            typeLike(base);
            amendment = number(call("compromise", amendment, Math.max(0, amendment - 1)));
        }
        for (int t = 0; t < count("tongue"); t++) {
            typeLike(base);
            call("supply", amendment, t);
        }
        int next = number(call("next", act, unit));
        if (random.nextBoolean()) {
            call("vote", random.nextInt(4) == 0 ? amendment : next, random.nextInt(3), random.nextInt(3));
        }
    }

    /** Translates an act that is behind in some tongue, mostly with texts of its kernels. */
    private void translateAll() {
        for (int t = 0; t < count("tongue"); t++) {
            if (number(call("backlog", t)) > 0) {
                int act = number(call("backlogAt", t, 0));
                for (int unit = 0; unit < count("unit" + act); unit++) {
                    if (random.nextInt(5) == 0) {
                        typeLike(random.nextInt(TEXTS.length));
                    } else {
                        copy(act, unit, random.nextInt(count("tongue")));
                    }
                    call("translate", act, unit, t);
                }
                call("publish", act, t);
                return;
            }
        }
    }

    /** Types what a text has now. */
    private void copy(int act, int unit, int tongue) {
        call("wipe");
        int tokens = number(call("tokens", act, unit, tongue, 9999));
        for (int i = 0; i < tokens; i++) {
            int letter = number(call("tokenAt", act, unit, tongue, 9999, i, false));
            call("type", (char) letter, number(call("tokenAt", act, unit, tongue, 9999, i, true)));
        }
    }

    private Object argument(char kind) {
        if (kind == '?') {
            return random.nextBoolean();
        }
        if (kind == 'k' || kind == 'h') {
            String letters = kind == 'k' ? "wtnrmx" : "cmpb";
            return random.nextInt(20) == 0 ? (char) random.nextInt(256) : letters.charAt(random.nextInt(letters.length()));
        }
        int[] far = {-1, Integer.MIN_VALUE, Integer.MAX_VALUE, 6, 12, 99, 365, 400, 1000, 4096, 10000, 65536};
        if (random.nextInt(25) == 0) {
            return far[random.nextInt(far.length)];
        }
        switch (kind) {
            case 'a': return lastAct = random.nextInt(count("act") + 1) * 9 / 10;
            case 'u': return random.nextInt(Math.max(1, count("unit" + lastAct)));
            case 't': return random.nextInt(Math.max(1, count("tongue")));
            case 'c': return random.nextInt(Math.max(1, count("concept")));
            case 'm': return random.nextInt(Math.max(1, count("move")));
            case 'j': return random.nextInt(Math.max(1, count("judge")));
            case 'w': return random.nextInt(Math.max(1, count("translator")));
            case 'z': return random.nextInt(count("unit" + lastAct) + 1) - 1;
            case 'f': return random.nextInt(6);
            case 's': return random.nextInt(4096);
            case 'v': return random.nextInt(22);
            case 'd': return 1 + random.nextInt(12);
            case 'D': return random.nextInt(200);
            case 'b': return random.nextInt(1 << count("tongue"));
            case 'S': return 1 + random.nextInt(6);
            default: return random.nextInt(5);
        }
    }

    /** Keeps in mind how many of a kind there are, so that most arguments are of something. */
    private void count(String name, Object[] arguments, Object answer) {
        String kind = name.equals("unit") ? "unit" + arguments[0] : name.equals("compromise") ? "move" : name;
        if (answer instanceof Integer && List.of("tongue", "concept", "act", "unit", "move", "compromise", "judge",
                "translator").contains(name)) {
            made.put(kind, (Integer) answer + 1);
        }
    }

    private static int number(Object answer) {
        return answer instanceof Integer ? (Integer) answer : 0;
    }

    private Object call(String name, Object... arguments) {
        if (calls >= CALLS || wrong > 0) {
            return "";
        }
        calls++;
        String before = random.nextInt(8) == 0 ? Check.stateOf(real) : null;
        Object got = made(REAL.get(name), real, arguments);
        Object want = made(MODEL.get(name), model, arguments);
        count(name, arguments, got);
        told.add(name + java.util.Arrays.toString(arguments).replace('[', '(').replace(']', ')') + " = " + got);
        boolean isKept = before == null || !(got instanceof String) || before.equals(Check.stateOf(real));
        if (!want.equals(got) || !isKept) {
            wrong++;
            told.forEach(System.out::println);
            System.out.println("due is " + want + (isKept ? "" : ", and nothing is changed by it"));
        }
        return got;
    }

    /** The answer, or the name of the exception. */
    private static Object made(Method method, Object on, Object[] arguments) {
        try {
            return method.invoke(on, arguments);
        } catch (InvocationTargetException e) {
            RuntimeException thrown = (RuntimeException) e.getCause();
            boolean isOwn = on instanceof Model || Check.thrower(thrown).equals("Equaltexts");
            return thrown.getClass().getSimpleName() + (isOwn ? "" : " of the machine");
        } catch (IllegalAccessException e) {
            throw new IllegalStateException(e);
        }
    }
}
