import java.lang.reflect.Array;
import java.lang.reflect.Field;
import java.lang.reflect.Modifier;
import java.util.IdentityHashMap;
import java.util.List;
import java.util.Map;

/** What all tests share: comparing answers, awaiting exceptions, and typing texts. */
final class Check {
    interface Call {
        Object answer();
    }

    private static int wrong;

    private Check() {
    }

    static void due(String call, Object want, Object got) {
        if (!want.equals(got)) {
            wrong++;
            System.out.println(call + " answered " + got + ", due is " + want);
        }
    }

    /** The call throws just this exception, by a throw statement of the class, and changes nothing. */
    static void fails(Equaltexts x, String call, Class<? extends RuntimeException> want, Call made) {
        String before = stateOf(x);
        try {
            Object got = made.answer();
            due(call, want.getSimpleName(), got);
        } catch (RuntimeException e) {
            due(call, want.getSimpleName(), e.getClass().getSimpleName());
            due(call + " throws by itself", "Equaltexts", thrower(e));
        }
        due(call + " changes nothing", before, stateOf(x));
    }

    static String thrower(RuntimeException e) {
        return e.getStackTrace().length == 0 ? "?" : e.getStackTrace()[0].getClassName();
    }

    /** Types "n30 t1 x" token by token. */
    static void type(Equaltexts x, String text) {
        for (String token : text.split(" ")) {
            if (!token.isEmpty()) {
                x.type(token.charAt(0), token.length() == 1 ? 0 : Integer.parseInt(token.substring(1)));
            }
        }
    }

    static int write(Equaltexts x, int act, int unit, int tongue, String text) {
        type(x, text);
        return x.write(act, unit, tongue);
    }

    static int move(Equaltexts x, int act, int unit, int tongue, String text) {
        type(x, text);
        return x.move(act, unit, tongue);
    }

    static int supply(Equaltexts x, int amendment, int tongue, String text) {
        type(x, text);
        return x.supply(amendment, tongue);
    }

    static int translate(Equaltexts x, int act, int unit, int tongue, String text) {
        type(x, text);
        return x.translate(act, unit, tongue);
    }

    /** The text that is in force on a day, as it was typed. */
    static String textOn(Equaltexts x, int act, int unit, int tongue, int day) {
        StringBuilder text = new StringBuilder();
        for (int i = 0; i < x.tokens(act, unit, tongue, day); i++) {
            text.append(i == 0 ? "" : " ").append((char) x.tokenAt(act, unit, tongue, day, i, false))
                .append(x.tokenAt(act, unit, tongue, day, i, true));
        }
        return text.toString();
    }

    static Equaltexts office(int tongues, int concepts) {
        Equaltexts x = new Equaltexts();
        for (int i = 0; i < tongues; i++) {
            x.tongue();
        }
        for (int i = 0; i < concepts; i++) {
            x.concept();
        }
        return x;
    }

    /** Adds an act of one unit of which the texts, in tongues from 0, are told. */
    static int draft(Equaltexts x, String... texts) {
        int act = x.act(0, 0);
        addUnit(x, act, texts);
        return act;
    }

    static int addUnit(Equaltexts x, int act, String... texts) {
        int unit = x.unit(act, -1, -1);
        for (int t = 0; t < texts.length; t++) {
            write(x, act, unit, t, texts[t]);
        }
        return unit;
    }

    static int frozen(Equaltexts x, String... texts) {
        int act = draft(x, texts);
        x.freeze(act);
        return act;
    }

    /** All that an object holds, written out, but for scratch. */
    static String stateOf(Object x) {
        StringBuilder out = new StringBuilder();
        try {
            writeState(x, out, new IdentityHashMap<>());
        } catch (IllegalAccessException e) {
            throw new IllegalStateException(e);
        }
        return out.toString();
    }

    private static void writeState(Object x, StringBuilder out, Map<Object, Integer> seen)
            throws IllegalAccessException {
        if (x == null || x instanceof Number || x instanceof Boolean || x instanceof Character
                || x instanceof String) {
            out.append(x).append(' ');
            return;
        }
        Integer known = seen.get(x);
        if (known != null) {
            out.append('#').append(known).append(' ');
            return;
        }
        seen.put(x, seen.size());
        if (x instanceof List) {
            out.append('(');
            for (Object item : (List<?>) x) {
                writeState(item, out, seen);
            }
            out.append(')');
        } else if (x.getClass().isArray()) {
            out.append('[');
            for (int i = 0; i < Array.getLength(x); i++) {
                writeState(Array.get(x, i), out, seen);
            }
            out.append(']');
        } else {
            out.append('{');
            for (Field field : x.getClass().getDeclaredFields()) {
                if (!Modifier.isStatic(field.getModifiers()) && !field.getName().equals("row")) {
                    field.setAccessible(true);
                    out.append(field.getName()).append('=');
                    writeState(field.get(x), out, seen);
                }
            }
            out.append('}');
        }
    }

    static void end(String test) {
        System.out.println(wrong == 0 ? test + ": all answers are as due" : test + ": " + wrong + " wrong");
        if (wrong != 0) {
            System.exit(1);
        }
    }
}
