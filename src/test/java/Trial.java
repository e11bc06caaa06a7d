import java.lang.annotation.ElementType;
import java.lang.annotation.Retention;
import java.lang.annotation.RetentionPolicy;
import java.lang.annotation.Target;
import java.lang.reflect.InvocationTargetException;
import java.lang.reflect.Method;
import java.util.Objects;
import java.util.function.BiFunction;
import java.util.function.Function;
import java.util.function.Supplier;

/**
 * What the tests of boundary cases share. Tables are told row by row with "~" between two fields and "/" behind
 * each row: neither of the two is a sign, so no field can hold them.
 */
class Trial {
    /** The words of the document that a test holds the program to, and the part or promise where they stand. */
    @Retention(RetentionPolicy.RUNTIME)
    @Target(ElementType.METHOD)
    @interface Says {
        String at();
        String[] it();
    }

    static final String SIGNS = "0123456789abcdefghijklmnopqrstuvwxyz,;|:\"'\n.-\\ #=<>&!";
    static final String RISING = "\n !\"#&',-.0123456789:;<=>\\abcdefghijklmnopqrstuvwxyz|";
    static final Class<?> INDEX = IndexOutOfBoundsException.class;
    static final Class<?> ARGUMENT = IllegalArgumentException.class;
    static final Class<?> STATE = IllegalStateException.class;
    static final int MIN = Integer.MIN_VALUE;
    static final int MAX = Integer.MAX_VALUE;

    private static String running = "";
    private static int asked;
    private static int wrong;

    Trial() { }

    // ---- running

    static void run(Class<?> tests) throws Exception {
        int many = 0;
        for (Method test : tests.getDeclaredMethods()) {
            Says says = test.getAnnotation(Says.class);
            if (says == null) continue;
            running = says.at() + ", " + test.getName();
            int before = asked;
            try {
                test.invoke(null);
            } catch (InvocationTargetException e) {
                due("ends without an exception", true, e.getCause());
            }
            if (asked == before) due("asks anything", true, false);
            many++;
        }
        System.out.println(many + " boundary cases, " + asked + " answers asked, " + wrong + " wrong");
        if (wrong != 0 || many == 0) System.exit(1);
    }

    static void due(Object want, Object got) { due("", want, got); }

    static void due(String what, Object want, Object got) {
        asked++;
        if (Objects.equals(want, got)) return;
        wrong++;
        System.out.println(running + (what.isEmpty() ? "" : ", " + what) + ": answered " + got + ", due is " + want);
    }

    /** The call throws just this, and the object goes on as one that was never asked. */
    static void refuses(Class<?> want, Supplier<Commadesk> made, Function<Commadesk, Object> call) {
        Commadesk x = made.get();
        Object got;
        try {
            got = call.apply(x);
        } catch (RuntimeException e) {
            got = e.getClass();
        }
        due(want, got);
        due("a call that throws changes nothing", afterwards(made.get()), afterwards(x));
    }

    static void accepts(Supplier<Commadesk> made, Function<Commadesk, Object> call) {
        try {
            call.apply(made.get());
            due(true, true);
        } catch (RuntimeException e) {
            due("no exception", true, e);
        }
    }

    /** The call takes every number from the least to the greatest, and no other one. */
    static void takes(Class<?> want, Supplier<Commadesk> made, int least, int greatest, BiFunction<Commadesk, Integer, Object> call) {
        for (int bad : new int[] {least - 1, greatest + 1, least - 9, greatest + 9, MIN, MAX}) refuses(want, made, x -> call.apply(x, bad));
        for (int good = least; good <= greatest; good++) {
            int n = good;
            accepts(made, x -> call.apply(x, n));
        }
    }

    /** The call takes the tables 0 and 1, and no other one. */
    static void takesTables(Supplier<Commadesk> made, BiFunction<Commadesk, Integer, Object> call) { takes(INDEX, made, 0, 1, call); }

    // ---- objects

    static Commadesk type(Commadesk x, String text) {
        x.wipe();
        for (char c : text.toCharArray()) x.type(SIGNS.indexOf(c));
        return x;
    }

    static Commadesk typed(String text) { return type(new Commadesk(), text); }

    /** The mode as mode() tells it: 8 * separator + 4 * quote + 2 if escaped + 1 if strict. */
    static Commadesk mode(Commadesk x, int mode) {
        x.mode(mode / 8, mode / 4 % 2, mode / 2 % 2 == 1, mode % 2 == 1);
        return x;
    }

    /** Reads the told rows into a table, by one call that can be undone; the text is empty then, the mode the first one. */
    static Commadesk fill(Commadesk x, int table, String rows) {
        mode(x, 0).begin();
        StringBuilder all = new StringBuilder();
        for (String row : rows.split("/", -1)) {
            all.append('"').append(row.replace("\"", "\"\"").replace("~", "\",\"")).append("\"\n");
        }
        String text = all.substring(0, all.length() - 3);
        for (int from = 0; from < text.length(); from += 300) {
            type(x, text.substring(from, Math.min(from + 300, text.length())));
            x.feed(0, x.desk(0));
        }
        x.finish(table);
        x.wipe();
        return x;
    }

    static Commadesk of(String zero) { return fill(new Commadesk(), 0, zero); }

    static Commadesk of(String zero, String one) { return fill(of(zero), 1, one); }

    /** Two tables, a fault, a reading that stands within quotes, another mode, a filter as the text, one who knocked. */
    static Commadesk busy() {
        Commadesk x = of("b~2/a~1/c~3/", "a~x/d~y/");
        x.knock();
        type(x, "a\"b,\"c\nd").begin();
        x.feed(0, 8);
        return type(mode(x, 15), "0=a");
    }

    static String rows(String row, int many) { return (row + "/").repeat(many); }

    /** Rows of two signs each that rise: a0, a1, .. a9, b0, .. */
    static String risingRows(int many) {
        StringBuilder out = new StringBuilder();
        for (int i = 0; i < many; i++) out.append((char) ('a' + i / 10)).append(i % 10).append('/');
        return out.toString();
    }

    // ---- what is told of an object

    static String shown(Commadesk x, int table) {
        StringBuilder out = new StringBuilder();
        for (int r = 0; r < x.rows(table); r++) {
            for (int c = 0; c < x.fields(table, r); c++) out.append(c > 0 ? "~" : "").append(x.cell(table, r, c));
            out.append('/');
        }
        return out.toString();
    }

    static String both(Commadesk x) { return shown(x, 0) + " + " + shown(x, 1); }

    /** Each fault that is kept: its kind, row, column and place. */
    static String faults(Commadesk x) {
        StringBuilder out = new StringBuilder();
        for (int i = 0; i < x.desk(7); i++) {
            out.append(i > 0 ? " " : "").append(x.fault(i, 0)).append('@').append(x.fault(i, 1)).append(',');
            out.append(x.fault(i, 2)).append(',').append(x.fault(i, 3));
        }
        return out.toString();
    }

    static String desk(Commadesk x) {
        StringBuilder out = new StringBuilder();
        for (int what = 0; what <= 12; what++) out.append(x.desk(what)).append(' ');
        return out.toString();
    }

    /** All that can be asked of an object but for what follows from it. */
    static String told(Commadesk x) { return x.text() + " | " + desk(x) + "| " + faults(x) + " | " + both(x); }

    /** What is told of an object now, behind the end of a reading that goes on, and behind each undo(). */
    static String afterwards(Commadesk x) {
        StringBuilder out = new StringBuilder(told(x));
        if (x.desk(5) == 1) {
            type(x, "e\",f;g'h\ni");
            out.append(x.feed(0, x.desk(0))).append(x.finish(1)).append(told(x));
        }
        for (int many = x.desk(11); many > 0; many--) out.append(x.undo()).append(told(x));
        return out.toString();
    }
}
