import java.util.Objects;

/** For each promise of the document: ordinary calls, the edges that it names, and wrong arguments. */
public final class PromisesTest {
    private static final String SIGNS = "0123456789abcdefghijklmnopqrstuvwxyz,;|:\"'\n.-\\ #=<>&!";
    private static final int[] WILD = {Integer.MIN_VALUE, -2, -1, 41, 400, Integer.MAX_VALUE};
    private static int promise;
    private static int asked;
    private static int wrong;

    private interface Call { Object ask(); }

    private static void due(Object want, Object got) {
        asked++;
        if (!Objects.equals(want, got)) {
            wrong++;
            System.out.println("promise " + promise + ", line " + line() + ": answered " + got + ", due is " + want);
        }
    }

    private static void fails(Class<?> want, Call call) {
        Object got;
        try {
            got = call.ask();
        } catch (RuntimeException e) {
            got = e.getClass();
        }
        due(want, got);
    }

    private static void noIndex(Call call) { fails(IndexOutOfBoundsException.class, call); }
    private static void noArgument(Call call) { fails(IllegalArgumentException.class, call); }
    private static void noState(Call call) { fails(IllegalStateException.class, call); }

    private static int line() {
        for (StackTraceElement at : new Throwable().getStackTrace()) {
            String name = at.getMethodName();
            if (name.matches("p[0-9]+") || name.equals("main")) return at.getLineNumber();
        }
        return 0;
    }

    private static Commadesk type(Commadesk x, String text) {
        x.wipe();
        for (char c : text.toCharArray()) x.type(SIGNS.indexOf(c));
        return x;
    }

    private static Commadesk typed(String text) { return type(new Commadesk(), text); }

    /** Reads a text into a table, the text itself being empty afterwards. */
    private static Commadesk load(Commadesk x, int table, String text) {
        type(x, text).read(table);
        x.wipe();
        return x;
    }

    private static Commadesk loaded(String text) { return load(new Commadesk(), 0, text); }

    /** A table told row by row, "/" between rows and "," between fields; any sign may be in a field. */
    private static String shown(Commadesk x, int table) {
        StringBuilder out = new StringBuilder();
        for (int r = 0; r < x.rows(table); r++) {
            if (r > 0) out.append('/');
            for (int c = 0; c < x.fields(table, r); c++) out.append(c > 0 ? "," : "").append(x.cell(table, r, c));
        }
        return out.toString();
    }

    private static String faults(Commadesk x) {
        StringBuilder out = new StringBuilder();
        for (int i = 0; i < x.desk(7); i++) {
            for (int j = 0; j < 4; j++) out.append(x.fault(i, j)).append(j < 3 ? "," : " ");
        }
        return out.toString().trim();
    }

    private static String read(Commadesk x, String text) {
        type(x, text).read(0);
        return shown(x, 0) + " [" + faults(x) + "]";
    }

    private static String read(String text) { return read(new Commadesk(), text); }

    private static String times(String what, int many) { return what.repeat(many); }

    /** Forty texts by rising texts, each with the same sign ahead of it and the same signs behind. */
    private static String many(String ahead, String behind) {
        StringBuilder out = new StringBuilder();
        for (int i = 0; i < 40; i++) out.append(ahead).append((char) ('a' + i / 10)).append(i % 10).append(behind);
        return out.toString();
    }

    static void p1() {
        Commadesk x = new Commadesk();
        due("", x.text());
        due(0, x.rows(0));
        due(0, x.rows(1));
        for (int what = 0; what <= 12; what++) due(0, x.desk(what));
        noState(x::undo);
        noIndex(() -> x.fault(0, 0));
        Commadesk y = new Commadesk();
        x.type(1);
        x.insert(0, 0, 1);
        due("", y.text());
        due(0, y.rows(0));
    }

    static void p2() {
        Commadesk x = new Commadesk();
        for (int sign = 0; sign <= 52; sign++) due(sign + 1, x.type(sign));
        due(SIGNS, x.text());
        noArgument(() -> x.type(-1));
        noArgument(() -> x.type(53));
        for (int wild : new int[] {Integer.MIN_VALUE, Integer.MAX_VALUE, 65}) noArgument(() -> x.type(wild));
        for (int i = 54; i <= 300; i++) due(i, x.type(10));
        noState(() -> x.type(10));
        noArgument(() -> x.type(53));
        due(300, x.text().length());
    }

    static void p3() {
        Commadesk x = typed("abcde");
        due(4, x.rub(1));
        due("abcd", x.text());
        due(2, x.rub(2));
        due("ab", x.text());
        due(0, x.rub(300));
        due(0, x.rub(1));
        noArgument(() -> x.rub(0));
        noArgument(() -> x.rub(301));
        for (int wild : new int[] {Integer.MIN_VALUE, -1, Integer.MAX_VALUE}) noArgument(() -> x.rub(wild));
    }

    static void p4() {
        Commadesk x = typed("abc");
        due(3, x.wipe());
        due("", x.text());
        due(0, x.wipe());
    }

    static void p5() {
        Commadesk x = loaded("a,bc\n\"d\ne\"\n");
        due(2, x.take(0, 0, 1));
        due("bc", x.text());
        due(3, x.take(0, 1, 0));
        due("d\ne", x.text());
        noIndex(() -> x.take(0, 1, 1));
        noIndex(() -> x.take(0, 2, 0));
        noIndex(() -> x.take(1, 0, 0));
        noIndex(() -> x.take(2, 0, 0));
        noIndex(() -> x.take(-1, 0, 0));
        for (int wild : WILD) { noIndex(() -> x.take(0, wild, 0)); noIndex(() -> x.take(0, 0, wild)); }
        due("d\ne", x.text());
        x.undo();
        type(x, times("a", 300)).begin();
        x.feed(0, 300);
        x.finish(0);
        due(300, x.take(0, 0, 0));
        x.begin();
        x.feed(0, 300);
        x.feed(0, 1);
        x.finish(0);
        x.wipe();
        noState(() -> x.take(0, 0, 0));
        noIndex(() -> x.take(0, 0, 1));
        due("", x.text());
        due(301, x.cell(0, 0, 0).length());
    }

    static void p6() {
        Commadesk x = new Commadesk();
        due(0, x.mode(3, 1, true, true));
        due(31, x.mode(1, 0, true, false));
        due(10, x.mode(2, 1, false, true));
        due(21, x.mode(0, 0, false, false));
        noArgument(() -> x.mode(-1, 0, false, false));
        noArgument(() -> x.mode(4, 0, false, false));
        noArgument(() -> x.mode(0, -1, true, true));
        noArgument(() -> x.mode(0, 2, true, true));
        due(0, x.mode(0, 0, false, false));
        type(x, "a,b;c");
        x.begin();
        x.feed(0, 1);
        x.mode(1, 1, true, true);
        x.feed(1, 5);
        x.finish(0);
        due("a,b;c", shown(x, 0));
        due(2, x.fields(0, 0));
        x.read(0);
        due(2, x.fields(0, 0));
        due("a,b", x.cell(0, 0, 0));
        for (int separator = 0; separator < 4; separator++) {
            x.mode(separator, 0, false, false);
            type(x, "a" + ",;|:".charAt(separator) + "b").read(0);
            due(2, x.fields(0, 0));
        }
        x.mode(0, 1, false, false);
        due("a,b,\"c []", read(x, "'a','b',\"c"));
    }

    static void p7() {
        Commadesk x = typed("a\nb\n\"");
        due(-1, x.begin());
        due(0, x.begin());
        x.feed(0, 5);
        due(2, x.desk(9));
        due(2, x.begin());
        due(0, x.desk(8));
        due(0, x.desk(9));
        due(1, x.desk(5));
        x.feed(0, 5);
        x.finish(0);
        due(1, x.desk(6));
        due(2, x.desk(5));
        due(3, x.begin());
        due(0, x.desk(6));
        due(0, x.desk(7));
        noIndex(() -> x.fault(0, 0));
        due(3, x.rows(0));
    }

    static void p8() {
        Commadesk x = typed("a,b\nc");
        noState(() -> x.feed(0, 1));
        noIndex(() -> x.feed(0, 6));
        x.begin();
        due(0, x.feed(0, 0));
        due(0, x.feed(0, 3));
        due(1, x.desk(10));
        due(1, x.feed(3, 5));
        due(1, x.feed(4, 5));
        due(6, x.desk(8));
        noIndex(() -> x.feed(-1, 2));
        noIndex(() -> x.feed(6, 6));
        noIndex(() -> x.feed(3, 2));
        noIndex(() -> x.feed(0, 6));
        noIndex(() -> x.feed(Integer.MIN_VALUE, Integer.MAX_VALUE));
        due(1, x.feed(5, 5));
        due(1, x.finish(1));
        due("a,b/cc", shown(x, 1));
        noState(() -> x.feed(0, 1));
        noIndex(() -> x.feed(0, 6));
    }

    static void p9() {
        Commadesk x = typed("a,b\nc\nd");
        noState(() -> x.finish(0));
        noIndex(() -> x.finish(2));
        x.begin();
        x.feed(0, 7);
        noIndex(() -> x.finish(-1));
        due(1, x.desk(5));
        due(2, x.finish(1));
        due("a,b/c/d", shown(x, 1));
        due("", shown(x, 0));
        due("5,1,1,5 5,2,1,7", faults(x));
        noState(() -> x.finish(1));
        x.begin();
        due(0, x.finish(1));
        due(0, x.rows(1));
        // the thirty first faults are kept, all are counted
        type(x, times("a\"", 40)).begin();
        x.feed(0, 80);
        due(40, x.finish(0));
        due(30, x.desk(7));
        due(59, x.fault(29, 3));
        noIndex(() -> x.fault(30, 3));
    }

    static void p10() {
        due("a,b []", read("a,b"));
        due("a,b []", read("a,b\n"));
        due(" []", read(""));
        due(0, typed("").read(0));
        due(1, typed("\n").read(0));
        due(2, typed("\n\n").read(1));
        due(", []", read(","));
        due("a, []", read("a,"));
        due("a,/b, []", read("a,\nb,"));
        due("a\"b [1,0,0,1]", read("a\"b"));
        due("a\"b []", read("\"a\"\"b\""));
        due("ab\" [2,0,0,3 1,0,0,4]", read("\"a\"b\""));
        due("a\nb [4,0,0,4]", read("\"a\nb"));
        due(" []", read("\"\""));
        due(1, typed("\"\"").read(0));
        due("a,b/c [5,1,1,5]", read("a,b\nc"));
        due("1,2,3,4,5,6,7,8 [6,0,8,17]", read("1,2,3,4,5,6,7,8,9"));
        due("1,2,3,4,5,6,7,8/1,2,3,4,5,6,7,8 [6,0,8,17 6,1,8,35 6,1,9,36 5,1,10,36]",
            read("1,2,3,4,5,6,7,8,9\n1,2,3,4,5,6,7,8,9,"));
        Commadesk many = typed(times("a\n", 42));
        due(40, many.read(0));
        due("7,40,1,81 7,41,1,83", faults(many));
        due(42, many.desk(9));
        Commadesk e = new Commadesk();
        e.mode(0, 0, true, false);
        due("a\"\\ []", read(e, "\"a\\\"\\\\\""));
        due("ab [3,0,0,3]", read(e, "\"a\\b\""));
        due("a\"b [2,0,0,3]", read(e, "\"a\"\"b"));
        due("a\\ [4,0,0,3]", read(e, "\"a\\"));
        due("a\\b []", read(e, "a\\b"));
        Commadesk s = new Commadesk();
        s.mode(0, 0, false, true);
        due("a,b/e,f [1,1,0,5 5,2,1,10]", read(s, "a,b\nc\",d\nx\ne,f"));
        due(" [1,0,1,3 5,1,1,6 5,2,1,8]", read(s, "x,y\"\nb\nc"));
        due("d,e [1,0,0,1 5,1,1,6]", read(s, "a\",b\nc\nd,e"));
        noIndex(() -> s.read(2));
        noIndex(() -> s.read(-1));
        Commadesk o = typed("a");
        o.begin();
        o.feed(0, 1);
        due(1, o.read(1));
        due("a", shown(o, 1));
        due(1, o.desk(11));
        due(2, o.desk(5));
    }

    static void p11() {
        Commadesk x = loaded("a,\"b,c\"\n\"d\"\"e\",\"f\ng\"\n,\n");
        due(23, x.write(0, false));
        due("a,\"b,c\"\n\"d\"\"e\",\"f\ng\"\n,\n", x.text());
        due(29, x.write(0, true));
        due("\"a\",\"b,c\"\n\"d\"\"e\",\"f\ng\"\n\"\",\"\"\n", x.text());
        x.mode(1, 1, true, false);
        due(18, x.write(0, false));
        due("a;b,c\nd\"e;'f\ng'\n;\n", x.text());
        due(0, x.write(1, true));
        due("", x.text());
        Commadesk e = new Commadesk();
        e.mode(0, 0, true, false);
        load(e, 0, "\"a\\\"\\\\\",b\\\n");
        due(11, e.write(0, false));
        due("\"a\\\"\\\\\",b\\\n", e.text());
        e.write(0, true);
        due("\"a\\\"\\\\\",\"b\\\\\"\n", e.text());
        Commadesk ahead = loaded("\",a\",\"\"\"a\",\"\na\",\"a,\"\n");
        ahead.write(0, false);
        due("\",a\",\"\"\"a\",\"\na\",\"a,\"\n", ahead.text());
        Commadesk full = typed(times("a", 299));
        full.read(0);
        full.wipe();
        due(300, full.write(0, false));
        full.wipe();
        noState(() -> full.write(0, true));
        due("", full.text());
        noIndex(() -> full.write(2, false));
        noIndex(() -> full.write(-1, true));
    }

    static void p12() {
        Commadesk x = loaded("a,bcd\nefg,h,i\n\n");
        due(25, x.fix(0));
        due("a   bcd \nefg h   i \n    \n", x.text());
        due(0, x.fix(1));
        due("", x.text());
        Commadesk full = typed(times("a", 298));
        full.read(0);
        due(300, full.fix(0));
        full.wipe();
        type(full, times("a", 299)).read(0);
        full.wipe();
        noState(() -> full.fix(0));
        due("", full.text());
        noIndex(() -> full.fix(2));
    }

    static void p13() {
        Commadesk x = typed("abcdef\nab \n\n a\n    ");
        due(5, x.readFixed(0, 2));
        due("ab,cd,ef/ab,// a/,", shown(x, 0));
        due(2, x.fields(0, 4));
        due(1, x.fields(0, 2));
        type(x, "abc\n").readFixed(1, 3);
        due("abc", shown(x, 1));
        due(0, typed("").readFixed(0, 1));
        Commadesk wide = typed("abcdefghijk");
        wide.readFixed(0, 1);
        due("a,b,c,d,e,f,g,h", shown(wide, 0));
        due(40, typed(times("a\n", 45)).readFixed(0, 40));
        due(1, typed("\n").readFixed(0, 40));
        due(0, wide.desk(5));
        noIndex(() -> wide.readFixed(2, 0));
        noArgument(() -> wide.readFixed(0, 0));
        noArgument(() -> wide.readFixed(0, 41));
        noArgument(() -> wide.readFixed(1, Integer.MIN_VALUE));
        due(1, wide.desk(11));
    }

    static void p14() {
        Commadesk x = loaded("a\nb\n");
        due(3, x.insert(0, 1, 2));
        due("a/,/b", shown(x, 0));
        due(4, x.insert(0, 3, 8));
        due(8, x.fields(0, 3));
        due(1, x.insert(1, 0, 1));
        noIndex(() -> x.insert(0, 5, 1));
        noIndex(() -> x.insert(0, -1, 0));
        noIndex(() -> x.insert(2, 0, 1));
        noArgument(() -> x.insert(0, 0, 0));
        noArgument(() -> x.insert(0, 0, 9));
        for (int i = 4; i < 40; i++) x.insert(0, 0, 1);
        noState(() -> x.insert(0, 40, 1));
        noArgument(() -> x.insert(0, 0, 9));
        noIndex(() -> x.insert(0, 41, 9));
        due(40, x.rows(0));
    }

    static void p15() {
        Commadesk x = loaded("a,b\nc\n");
        type(x, "x");
        due(2, x.put(0, 0, 0));
        due(3, x.put(0, 0, 2));
        due("x,b,x/c", shown(x, 0));
        x.wipe();
        due(2, x.put(0, 1, 1));
        due("x,b,x/c,", shown(x, 0));
        noIndex(() -> x.put(0, 1, 3));
        noIndex(() -> x.put(0, 1, -1));
        noIndex(() -> x.put(0, 2, 0));
        noIndex(() -> x.put(1, 0, 0));
        noIndex(() -> x.put(2, 0, 0));
        x.insert(1, 0, 8);
        due(8, x.put(1, 0, 7));
        noIndex(() -> x.put(1, 0, 8));
    }

    static void p16() {
        Commadesk x = loaded("a,b\nc\nd,e,f\n");
        due(1, x.drop(0, 1));
        due("a,b/d,e,f", shown(x, 0));
        due(3, x.drop(0, 1));
        due(2, x.drop(0, 0));
        noIndex(() -> x.drop(0, 0));
        noIndex(() -> x.drop(0, -1));
        noIndex(() -> x.drop(-1, 0));
        noIndex(() -> x.drop(2, 0));
    }

    static void p17() {
        Commadesk x = loaded("a\nb\nc\nd\n");
        due(3, x.move(0, 0, 2));
        due("b/c/a/d", shown(x, 0));
        due(4, x.move(0, 3, 0));
        due("d/b/c/a", shown(x, 0));
        due(0, x.move(0, 1, 1));
        due(2, x.move(0, 2, 3));
        due("d/b/a/c", shown(x, 0));
        noIndex(() -> x.move(0, 4, 0));
        noIndex(() -> x.move(0, 0, 4));
        noIndex(() -> x.move(0, -1, 0));
        noIndex(() -> x.move(0, 0, -1));
        noIndex(() -> x.move(2, 0, 0));
        noIndex(() -> x.move(1, 0, 0));
    }

    static void p18() {
        Commadesk x = loaded("a,b,c\nd\ne,f\n");
        due(2, x.dropColumn(0, 1));
        due("a,c/d/e", shown(x, 0));
        due(3, x.dropColumn(0, 0));
        due("c//", shown(x, 0));
        due(1, x.fields(0, 1));
        due(0, x.dropColumn(0, 7));
        due(0, x.dropColumn(1, 0));
        noIndex(() -> x.dropColumn(0, 8));
        noIndex(() -> x.dropColumn(0, -1));
        noIndex(() -> x.dropColumn(2, 0));
    }

    static void p19() {
        Commadesk x = loaded("a,b\nc\n");
        load(x, 1, "d\n");
        due(1, x.copy(1));
        due("a,b/c", shown(x, 1));
        type(x, "z").put(0, 0, 0);
        due("a,b/c", shown(x, 1));
        x.drop(1, 0);
        x.drop(1, 0);
        due(2, x.copy(0));
        due(0, x.rows(0));
        noIndex(() -> x.copy(2));
        noIndex(() -> x.copy(-1));
    }

    static void p20() {
        Commadesk x = loaded("a,b\nc\n");
        load(x, 1, "d\n");
        due(3, x.stack(0));
        due("a,b/c/d", shown(x, 0));
        due("d", shown(x, 1));
        due(4, x.stack(1));
        due(7, x.stack(0));
        due(11, x.stack(1));
        due(18, x.stack(0));
        due(29, x.stack(1));
        noState(() -> x.stack(0));
        noState(() -> x.stack(1));
        noIndex(() -> x.stack(2));
        x.part(1, 20);
        x.copy(0);
        due(40, x.stack(0));
        due(20, x.rows(1));
        x.insert(1, 0, 1);
        noState(() -> x.stack(0));
    }

    static void p21() {
        Commadesk x = loaded("a\nb\nc\n");
        load(x, 1, "d\n");
        due(2, x.part(0, 1));
        due("a", shown(x, 0));
        due("b/c", shown(x, 1));
        due(0, x.part(1, 2));
        due("", shown(x, 0));
        due(2, x.part(1, 0));
        due("b/c", shown(x, 0));
        due("", shown(x, 1));
        noIndex(() -> x.part(0, 3));
        noIndex(() -> x.part(0, -1));
        noIndex(() -> x.part(2, 0));
    }

    static void p22() {
        Commadesk x = loaded("a,b,c\nd,e,f\n");
        due(3, x.turn(0));
        due("a,d/b,e/c,f", shown(x, 0));
        due(2, x.turn(0));
        due("a,b,c/d,e,f", shown(x, 0));
        noState(() -> x.turn(1));
        x.insert(0, 0, 2);
        noState(() -> x.turn(0));
        noIndex(() -> x.turn(2));
        Commadesk tall = loaded(times("a\n", 8));
        due(1, tall.turn(0));
        due(8, tall.turn(0));
        tall.insert(0, 8, 1);
        noState(() -> tall.turn(0));
    }

    static void p23() {
        Commadesk x = loaded("b,1\na,1\n,1\na,2\nc\n");
        due(3, x.sort(0, 0, 0, false, 0));
        due(",1/a,1/a,2/b,1/c", shown(x, 0));
        due(5, x.sort(0, 0, 0, true, 0));
        due("c/b,1/a,1/a,2/,1", shown(x, 0));
        due(2, x.sort(0, 0, 0, false, 3));
        due("c/b,1/a,1/,1/a,2", shown(x, 0));
        due(0, x.sort(0, 7, 0, true, 0));
        due(0, x.sort(0, 1, 1, false, 0));
        due(2, x.sort(0, 1, 1, true, 0));
        due("a,2/b,1/a,1/,1/c", shown(x, 0));
        Commadesk n = loaded("10\n9\nx\n-1\n\n007\n1.5\n");
        n.sort(0, 0, 1, false, 0);
        due("x//1.5/-1/007/9/10", shown(n, 0));
        n.sort(0, 0, 1, true, 0);
        due("10/9/007/-1/x//1.5", shown(n, 0));
        n.sort(0, 0, 2, false, 0);
        due("/9/x/10/-1/007/1.5", shown(n, 0));
        n.sort(0, 0, 0, false, 0);
        due("/-1/007/1.5/10/9/x", shown(n, 0));
        Commadesk order = new Commadesk();
        String rising = "\n !\"#&',-.0123456789:;<=>\\abcdefghijklmnopqrstuvwxyz|";
        for (int at = 0; at < rising.length() - 13; at++) {
            type(order, "" + rising.charAt(at + 13));
            order.insert(0, 0, 1);
            order.put(0, 0, 0);
        }
        order.sort(0, 0, 0, false, 0);
        for (int at = 0; at < rising.length() - 13; at++) due("" + rising.charAt(at + 13), order.cell(0, at, 0));
        Commadesk low = new Commadesk();
        for (int at = 0; at < 20; at++) {
            type(low, "" + rising.charAt(at));
            low.insert(0, 0, 1);
            low.put(0, 0, 0);
        }
        low.sort(0, 0, 0, false, 0);
        for (int at = 0; at < 20; at++) due("" + rising.charAt(at), low.cell(0, at, 0));
        due(0, low.sort(0, 0, 0, true, 20));
        noIndex(() -> x.sort(2, 0, 0, false, 0));
        noIndex(() -> x.sort(0, 8, 0, false, 0));
        noIndex(() -> x.sort(0, -1, 3, false, 0));
        noIndex(() -> x.sort(0, 0, 0, false, 6));
        noIndex(() -> x.sort(0, 0, 3, false, -1));
        noArgument(() -> x.sort(0, 0, 3, false, 0));
        noArgument(() -> x.sort(0, 0, -1, false, 5));
    }

    static void p24() {
        Commadesk x = loaded("a,1\nb,2\na,3\nc\n");
        type(x, "0=a");
        due(1, x.filter(0, 2));
        due("a,1/b,2/a,3", shown(x, 0));
        due(1, x.filter(0, 0));
        due("a,1/a,3", shown(x, 0));
        due(0, x.filter(0, 2));
        due(0, x.filter(1, 0));
        type(x, "1>1");
        due(1, x.filter(0, 0));
        due("a,3", shown(x, 0));
        noIndex(() -> x.filter(0, 2));
        noIndex(() -> x.filter(2, 0));
        noIndex(() -> x.filter(0, -1));
        type(x, "1>x");
        noState(() -> x.filter(0, 0));
        noIndex(() -> x.filter(0, 2));
        due("a,3", shown(x, 0));
    }

    static void p25() {
        Commadesk x = loaded("b,5\na,1\nb,-7\na\n,2\nb,x\na,2147483647\na,2147483647\n");
        due(3, x.group(0, 0, 1));
        due(",1,2/a,4,4294967295/b,3,-2", shown(x, 1));
        due(6, x.group(0, 1, 1));
        due("-7,1,-7/1,1,1/2,1,2/2147483647,2,4294967294/5,1,5/x,1,0", shown(x, 1));
        due(0, x.group(0, 7, 0));
        due(0, x.rows(1));
        due(3, x.group(0, 0, 7));
        due(",1,0/a,4,0/b,3,0", shown(x, 1));
        due(3, x.group(1, 0, 1));
        due(",1,1/a,1,4/b,1,3", shown(x, 0));
        Commadesk full = loaded(many("a", "\n"));
        due(40, full.group(0, 0, 0));
        due(many("a", ",1,0/"), shown(full, 1) + "/");
        noIndex(() -> x.group(2, 0, 0));
        noIndex(() -> x.group(0, 8, 0));
        noIndex(() -> x.group(0, 0, 8));
        noIndex(() -> x.group(0, -1, 0));
        noIndex(() -> x.group(0, 0, -1));
    }

    static void p26() {
        Commadesk x = loaded("a,1\nb,2\nc,3\n\na,4\n");
        load(x, 1, "x,a,y\nz\nw,c\nq,a\n");
        due(3, x.join(0, 0, 1));
        due("a,1,x,y/c,3,w/a,4,x,y", shown(x, 0));
        due("x,a,y/z/w,c/q,a", shown(x, 1));
        x.undo();
        due(0, x.join(0, 1, 0));
        due(0, x.rows(0));
        Commadesk wide = loaded("a,2,3,4,5,6,7\nb\n");
        load(wide, 1, "a,1\nb,1,2\n");
        due(2, wide.join(0, 0, 0));
        due(8, wide.fields(0, 0));
        noState(() -> wide.join(0, 0, 0));
        due("a,2,3,4,5,6,7,1/b,1,2", shown(wide, 0));
        wide.dropColumn(1, 1);
        due(2, wide.join(0, 0, 0));
        due("a,2,3,4,5,6,7,1/b,1,2,2", shown(wide, 0));
        Commadesk gone = loaded("a,2,3,4,5,6,7,8\n");
        load(gone, 1, "b,1\n");
        due(0, gone.join(0, 0, 0));
        noIndex(() -> gone.join(2, 0, 0));
        noIndex(() -> gone.join(0, 8, 0));
        noIndex(() -> gone.join(0, 0, 8));
        noIndex(() -> gone.join(0, -1, 0));
    }

    static void p27() {
        Commadesk x = loaded("a,b,a,,a,,a#2,b\na,a\n");
        due(4, x.heads(0));
        due("a,b,a#2,,a#3,#2,a#2,b#2/a,a", shown(x, 0));
        due(1, x.heads(0));
        due("a,b,a#2,,a#3,#2,a#2#2,b#2/a,a", shown(x, 0));
        due(0, x.heads(0));
        noState(() -> x.heads(1));
        noIndex(() -> x.heads(2));
        noIndex(() -> x.heads(-1));
    }

    static void p28() {
        Commadesk x = loaded("a\nb\nc\n");
        // 0 becomes 74, 5624, 28652, 51790
        due(2, x.sample(0, 0, 4));
        due("c/c/c/b", shown(x, 1));
        due("a/b/c", shown(x, 0));
        due(1, x.sample(0, 0, 2));
        due("c/c", shown(x, 1));
        int seed = 65536;
        StringBuilder want = new StringBuilder();
        for (int i = 0; i < 10; i++) {
            seed = (75 * seed + 74) % 65537;
            want.append(i > 0 ? "/" : "").append("abc".charAt(seed % 3));
        }
        x.sample(0, 65536, 10);
        due(want.toString(), shown(x, 1));
        noIndex(() -> x.sample(2, -1, 0));
        noArgument(() -> x.sample(0, -1, 1));
        noArgument(() -> x.sample(0, 65537, 1));
        noArgument(() -> x.sample(0, 0, 0));
        noArgument(() -> x.sample(0, 0, 11));
        Commadesk only = loaded("a\n");
        due(1, only.sample(0, 9, 2));
        due("a/a", shown(only, 1));
        Commadesk none = new Commadesk();
        noState(() -> none.sample(0, 0, 1));
        noArgument(() -> none.sample(0, 0, 11));
        due(0, none.desk(11));
    }

    private static String both(Commadesk x) { return shown(x, 0) + "+" + shown(x, 1); }

    static void p29() {
        noState(() -> new Commadesk().undo());
        String filter = "0=a";
        for (int kind = 0; kind < 18; kind++) {
            Commadesk x = loaded("a,b\nc,a\n");
            load(x, 1, "d,a\na,b\n");
            x.begin();
            type(x, filter);
            x.feed(0, 3);
            String was = both(x);
            int many = x.desk(11);
            switch (kind) {
                case 0: x.finish(0); break;
                case 1: x.read(0); break;
                case 2: x.readFixed(0, 2); break;
                case 3: x.insert(0, 1, 1); break;
                case 4: x.put(0, 1, 1); break;
                case 5: x.drop(1, 1); break;
                case 6: x.move(0, 0, 1); break;
                case 7: x.dropColumn(0, 0); break;
                case 8: x.copy(0); break;
                case 9: x.stack(0); break;
                case 10: x.part(0, 0); break;
                case 11: x.turn(0); break;
                case 12: x.sort(0, 0, 0, true, 0); break;
                case 13: x.filter(0, 0); break;
                case 14: x.group(0, 0, 1); break;
                case 15: x.join(0, 0, 0); break;
                case 16: x.sample(0, 5, 3); break;
                default: x.dropColumn(1, 0); x.heads(1); many++;
            }
            due(many + 1, x.desk(11));
            if (kind != 17) due(false, was.equals(both(x)));
            if (kind == 17) x.undo();
            x.undo();
            due(was, both(x));
        }
        Commadesk headed = loaded("a,a\n");
        headed.heads(0);
        headed.undo();
        due("a,a", shown(headed, 0));
        // calls by which nothing becomes otherwise count, too
        Commadesk same = loaded("a\nb\n");
        same.move(0, 0, 0);
        same.dropColumn(0, 7);
        same.heads(0);
        same.copy(0);
        due(5, same.desk(11));
        same.undo();
        due("a/b", shown(same, 0));
        same.undo();
        due(2, same.undo());
        // calls that throw do not
        noIndex(() -> same.drop(0, 2));
        due(2, same.desk(11));
        // the last fifteen
        Commadesk deep = new Commadesk();
        for (int i = 0; i < 20; i++) deep.insert(0, 0, 1);
        due(15, deep.desk(11));
        for (int i = 14; i >= 10; i--) due(i, deep.undo());
        due(15, deep.rows(0));
        for (int i = 0; i < 3; i++) deep.insert(0, 0, 1);
        for (int i = 12; i >= 0; i--) due(i, deep.undo());
        due(5, deep.rows(0));
        noState(deep::undo);
    }

    static void p30() {
        Commadesk x = typed("a b\n|\\");
        due("a b\n|\\", x.text());
        due("a b\n|\\", x.text());
        due("", new Commadesk().text());
    }

    static void p31() {
        Commadesk x = loaded("a\nb\n");
        due(2, x.rows(0));
        due(0, x.rows(1));
        noIndex(() -> x.rows(2));
        noIndex(() -> x.rows(-1));
        for (int wild : WILD) noIndex(() -> x.rows(wild));
    }

    static void p32() {
        Commadesk x = loaded("a\nb,c\n");
        due(1, x.fields(0, 0));
        due(2, x.fields(0, 1));
        noIndex(() -> x.fields(0, 2));
        noIndex(() -> x.fields(0, -1));
        noIndex(() -> x.fields(1, 0));
        noIndex(() -> x.fields(2, 0));
    }

    static void p33() {
        Commadesk x = loaded("a\nb,\"c\nd\"\n");
        due("a", x.cell(0, 0, 0));
        due("c\nd", x.cell(0, 1, 1));
        noIndex(() -> x.cell(0, 0, 1));
        noIndex(() -> x.cell(0, 0, -1));
        noIndex(() -> x.cell(0, 2, 0));
        noIndex(() -> x.cell(0, -1, 0));
        noIndex(() -> x.cell(1, 0, 0));
        noIndex(() -> x.cell(2, 0, 0));
    }

    static void p34() {
        due(true, new Commadesk().isEven(1));
        due(true, loaded("a,b\nc,d\n").isEven(0));
        due(true, loaded("a,b\n").isEven(0));
        due(false, loaded("a,b\nc,d\ne\n").isEven(0));
        due(false, loaded("a\nc,d\n").isEven(0));
        noIndex(() -> new Commadesk().isEven(2));
        noIndex(() -> new Commadesk().isEven(-1));
    }

    static void p35() {
        Commadesk x = loaded("a,b,b,\nc\n");
        due(3, x.headed(0));
        due(1, type(x, "b").headed(0));
        due(0, type(x, "a").headed(0));
        due(-1, type(x, "c").headed(0));
        due(-1, x.headed(1));
        noIndex(() -> x.headed(2));
        noIndex(() -> x.headed(-1));
    }

    static void p36() {
        Commadesk x = loaded("a,b\nc\na,\nab,b\n");
        type(x, "a");
        due(0, x.find(0, 0, 0));
        due(2, x.find(0, 0, 1));
        due(-1, x.find(0, 0, 3));
        due(-1, x.find(0, 0, 4));
        type(x, "");
        due(2, x.find(0, 1, 0));
        due(-1, x.find(0, 7, 0));
        due(3, type(x, "b").find(0, 1, 1));
        noIndex(() -> x.find(0, 0, 5));
        noIndex(() -> x.find(0, 0, -1));
        noIndex(() -> x.find(0, 8, 0));
        noIndex(() -> x.find(0, -1, 0));
        noIndex(() -> x.find(2, 0, 0));
    }

    private static int typeOf(String... fields) {
        Commadesk x = new Commadesk();
        for (String field : fields) {
            x.insert(0, x.rows(0), 1);
            type(x, field).put(0, x.rows(0) - 1, 0);
        }
        return x.typeOf(0, 0, 0);
    }

    static void p37() {
        due(0, typeOf());
        due(0, typeOf("", ""));
        due(1, typeOf("1", "", "-0", "007", "2147483647", "-2147483648", "000000000002147483647"));
        due(5, typeOf("2147483648"));
        due(5, typeOf("-2147483649"));
        due(5, typeOf("21474836480"));
        due(5, typeOf("-21474836480"));
        due(5, typeOf("99999999999999999999999999"));
        due(5, typeOf("18446744073709551617"));
        due(5, typeOf("-"));
        due(5, typeOf("--1"));
        due(5, typeOf("1-"));
        due(5, typeOf("1 "));
        due(2, typeOf("1", "1.5"));
        due(2, typeOf("-0.0", "99999999999.99999999999"));
        for (String not : new String[] {".5", "5.", "-.5", "-5.", "1.2.3", "1.-2", "--1.2", ".", "-.", "1.a"}) due(5, typeOf(not));
        due(3, typeOf("yes", "no", "true", "false"));
        due(5, typeOf("yes", "1"));
        due(5, typeOf("yess"));
        due(4, typeOf("2024-02-29", "0001-01-01", "9999-12-31", "2000-02-29", "2023-02-28", "2023-04-30", "2023-07-31", "2023-08-31"));
        for (String not : new String[] {"2023-02-29", "1900-02-29", "2024-02-30", "0000-01-01", "2023-00-01", "2023-13-01",
            "2023-01-00", "2023-01-32", "2023-04-31", "2023-06-31", "2023-09-31", "2023-11-31", "2023-1-01", "2023-01-1", "2023-01-011",
            "-023-01-01", "2023.01.01", "2023-01.01", "2023-0101", "a023-01-01", "2023-01-0a", "2023-0a-01",
            "202:-01-01", "20-3-01-01", "2023-0:-01", "2023-01-0:", "2023-1--01", "2023-01-1-"}) due(5, typeOf(not));
        due(4, typeOf("2023-01-31", "2023-03-31", "2023-05-31", "2023-10-31", "2023-12-31", "2400-02-29"));
        due(5, typeOf("1", "2024-02-29"));
        Commadesk x = loaded("head,1\n1,yes\n2\n");
        due(5, x.typeOf(0, 0, 0));
        due(1, x.typeOf(0, 0, 1));
        due(3, x.typeOf(0, 1, 1));
        due(5, x.typeOf(0, 1, 0));
        due(0, x.typeOf(0, 1, 2));
        due(0, x.typeOf(0, 0, 3));
        due(0, x.typeOf(0, 7, 0));
        noIndex(() -> x.typeOf(0, 0, 4));
        noIndex(() -> x.typeOf(0, 0, -1));
        noIndex(() -> x.typeOf(0, 8, 0));
        noIndex(() -> x.typeOf(0, -1, 0));
        noIndex(() -> x.typeOf(2, 0, 0));
    }

    static void p38() {
        Commadesk x = loaded("1\n\n2.5\nyes\n2020-01-01\nx\n");
        due(2, x.wrong(0, 0, 1));
        due(3, x.wrong(0, 0, 2));
        due(0, x.wrong(0, 0, 3));
        due(0, x.wrong(0, 0, 4));
        due(-1, x.wrong(0, 0, 5));
        due(-1, x.wrong(0, 1, 1));
        due(-1, x.wrong(1, 0, 1));
        noArgument(() -> x.wrong(0, 0, 0));
        noArgument(() -> x.wrong(0, 0, 6));
        noIndex(() -> x.wrong(0, 8, 0));
        noIndex(() -> x.wrong(0, -1, 1));
        noIndex(() -> x.wrong(2, 0, 1));
    }

    static void p39() {
        Commadesk x = loaded("1,2147483647\n-5,2147483647\nx,2147483647\n1.5\n,2147483648\n");
        due(-4L, x.total(0, 0));
        due(6442450941L, x.total(0, 1));
        due(0L, x.total(0, 7));
        due(0L, x.total(1, 0));
        noIndex(() -> x.total(0, 8));
        noIndex(() -> x.total(0, -1));
        noIndex(() -> x.total(2, 0));
    }

    static void p40() {
        Commadesk x = loaded("a,\"b,c\"\n\"d\"\"e\",\\\n");
        due(17, x.written(0, false));
        due(21, x.written(0, true));
        x.mode(0, 0, true, false);
        due(17, x.written(0, false));
        due(22, x.written(0, true));
        x.mode(1, 1, false, false);
        due(12, x.written(0, false));
        due(0, x.written(1, true));
        noIndex(() -> x.written(2, true));
        Commadesk large = typed(times("\"", 300));
        large.insert(0, 0, 1);
        large.put(0, 0, 0);
        due(603, large.written(0, false));
    }

    static void p41() {
        Commadesk x = loaded("a,b\n\"c,d\"\ne\n");
        due("a,b\n\"c,d\"\n", x.page(0, 0, 2));
        due("e\n", x.page(0, 1, 2));
        due("", x.page(0, 2, 2));
        due("a,b\n\"c,d\"\ne\n", x.page(0, 0, 40));
        due("", x.page(0, 40, 40));
        due("\"c,d\"\n", x.page(0, 1, 1));
        due("\"c,d\"\n", x.page(0, 1, 1));
        due("", x.page(1, 0, 40));
        due("e\n", x.page(0, 2, 1));
        type(x, "f").put(0, 2, 0);
        due("f\n", x.page(0, 2, 1));
        type(x, "ae").insert(0, 0, 1);
        x.put(0, 0, 0);
        due("ae\n", x.page(0, 0, 1));
        type(x, "be").put(0, 0, 0);
        due("be\n", x.page(0, 0, 1));
        type(x, "bf").put(0, 0, 0);
        due("bf\n", x.page(0, 0, 1));
        x.drop(0, 0);
        x.mode(1, 1, false, false);
        due("c,d\n", x.page(0, 1, 1));
        noIndex(() -> x.page(2, -1, 0));
        noArgument(() -> x.page(0, -1, 1));
        noArgument(() -> x.page(0, 41, 1));
        noArgument(() -> x.page(0, 0, 0));
        noArgument(() -> x.page(0, 0, 41));
        Commadesk large = typed(times("a", 300));
        large.insert(0, 0, 1);
        large.put(0, 0, 0);
        large.copy(1);
        large.stack(0);
        due(602, large.page(0, 0, 2).length());
    }

    static void p42() {
        Commadesk x = loaded("b,1\na,1\nc\nb,2\n\n");
        load(x, 1, "a,2\nd\nb,1\n,x\n");
        due("*\n*a\n-c\n+d\n", x.differences(0));
        due("*\n*a\n-c\n+d\n", x.differences(0));
        due("*2\n+x\n", x.differences(1));
        due("", x.differences(7));
        x.copy(1);
        due("", x.differences(0));
        noIndex(() -> x.differences(8));
        noIndex(() -> x.differences(-1));
        Commadesk full = loaded(many("a", "\n"));
        load(full, 1, many("b", "\n"));
        due(many("-a", "\n") + many("+b", "\n"), full.differences(0));
        full.copy(0);
        due("", full.differences(0));
        Commadesk one = loaded("b\na\na,x\n");
        due("-a\n-b\n", one.differences(0));
        due("-x\n", one.differences(1));
        one.part(0, 0);
        due("+a\n+b\n", one.differences(0));
    }

    static void p43() {
        due(-1, new Commadesk().guess());
        due(-1, typed("a").guess());
        due(0, typed("a,b").guess());
        due(1, typed("a;b\nc;d").guess());
        due(2, typed("a|b|c;d").guess());
        due(3, typed("a:b\nc:d,e").guess());
        due(0, typed("a,b;c|d:e").guess());
        due(1, typed("a,b;c;d").guess());
        due(-1, typed("a,b\nc").guess());
        due(0, typed("a,b\nc,d\ne,f\ng").guess());
        due(-1, typed("a,b\nc,d\ne\n").guess());
        due(-1, typed("\"a,b\"").guess());
        due(-1, typed("1,2,3\n4;5\n").guess());
        // of those that are kept: both rows have eight of them
        due(0, typed(times(",", 8) + "\n" + times(",", 9)).guess());
        due(0, typed(times(",", 7) + times(";", 9)).guess());
        Commadesk x = typed("'a,b';c");
        due(0, x.guess());
        x.mode(0, 1, false, true);
        due(1, x.guess());
        due(0, x.desk(5));
        Commadesk strict = typed("a\",b");
        strict.mode(3, 0, false, true);
        due(0, strict.guess());
        due(3, strict.desk(1));
        Commadesk e = typed("\"a\\\",b\";c");
        due(0, e.guess());
        e.mode(0, 0, true, false);
        due(1, e.guess());
    }

    static void p44() {
        String[] right = {"0=a", "7:", "0=", "0<1", "0>-1", "1=a&2=b!3=c", "0==<>:", "0=\n", "0<2147483647", "0=a!0=a"};
        for (String filter : right) due(-1, typed(filter).filterFault());
        due(0, typed("").filterFault());
        due(0, typed("8=a").filterFault());
        due(0, typed("a").filterFault());
        due(0, typed("!").filterFault());
        due(1, typed("0").filterFault());
        due(1, typed("0a").filterFault());
        due(1, typed("0&").filterFault());
        due(2, typed("0<").filterFault());
        due(2, typed("0<x").filterFault());
        due(2, typed("0<2147483648").filterFault());
        due(2, typed("0<12x").filterFault());
        due(2, typed("0<&1=a").filterFault());
        due(4, typed("0=a&").filterFault());
        due(4, typed("0=a!").filterFault());
        due(4, typed("0=a&&").filterFault());
        due(4, typed("0=a! 1=b").filterFault());
        due(6, typed("0=a!1>").filterFault());
        due(6, typed("0=a!1>1.5&9").filterFault());
        due(8, typed("0=a!1>1&9").filterFault());
    }

    private static boolean passes(Commadesk x, String filter, int row) { return type(x, filter).passes(0, row); }

    static void p45() {
        Commadesk x = loaded("abc,5,\n-3,x\n");
        due(true, passes(x, "0=abc", 0));
        due(false, passes(x, "0=ab", 0));
        due(false, passes(x, "0=abcd", 0));
        due(true, passes(x, "0:bc", 0));
        due(true, passes(x, "0:abc", 0));
        due(true, passes(x, "0:", 0));
        due(false, passes(x, "0:ac", 0));
        due(false, passes(x, "0:abcd", 0));
        due(true, passes(x, "1<6", 0));
        due(false, passes(x, "1<5", 0));
        due(true, passes(x, "1>4", 0));
        due(false, passes(x, "1>5", 0));
        due(true, passes(x, "0<-2", 1));
        due(false, passes(x, "1<9", 1));
        due(false, passes(x, "1>-9", 1));
        due(true, passes(x, "2=", 0));
        due(true, passes(x, "2=", 1));
        due(false, passes(x, "2<9", 1));
        due(true, passes(x, "7:", 1));
        due(true, passes(x, "0=abc&1=5", 0));
        due(false, passes(x, "0=abc&1=6", 0));
        due(false, passes(x, "1=6&0=abc", 0));
        due(true, passes(x, "1=6!0=abc", 0));
        due(true, passes(x, "0=abc!1=6", 0));
        due(true, passes(x, "1=6&1=5!0=abc&1=5", 0));
        due(false, passes(x, "1=6!0=x", 0));
        due(false, passes(x, "1=5&0=x!1=6&0=abc", 0));
        noIndex(() -> x.passes(0, 2));
        noIndex(() -> x.passes(0, -1));
        noIndex(() -> x.passes(1, 0));
        noIndex(() -> x.passes(2, 0));
        type(x, "1");
        noState(() -> x.passes(0, 0));
        noIndex(() -> x.passes(0, 2));
    }

    static void p46() {
        Commadesk x = new Commadesk();
        noIndex(() -> x.fault(0, 0));
        type(x, "a\nb,c\"\n").read(0);
        due(1, x.fault(0, 0));
        due(1, x.fault(0, 1));
        due(1, x.fault(0, 2));
        due(5, x.fault(0, 3));
        due(5, x.fault(1, 0));
        due(1, x.fault(1, 1));
        due(2, x.fault(1, 2));
        due(6, x.fault(1, 3));
        noIndex(() -> x.fault(2, 0));
        noIndex(() -> x.fault(-1, 4));
        noArgument(() -> x.fault(0, 4));
        noArgument(() -> x.fault(1, -1));
        for (int wild : WILD) { noIndex(() -> x.fault(wild, 0)); noArgument(() -> x.fault(0, wild)); }
        type(x, "").read(0);
        noIndex(() -> x.fault(0, 0));
    }

    static void p47() {
        Commadesk x = typed("ab\"\n\"c");
        x.mode(2, 1, true, true);
        due(6, x.desk(0));
        due(2, x.desk(1));
        due(1, x.desk(2));
        due(1, x.desk(3));
        due(1, x.desk(4));
        due(0, x.desk(5));
        x.mode(0, 0, true, false);
        x.begin();
        due(1, x.desk(5));
        x.feed(0, 4);
        due(1, x.desk(6));
        due(1, x.desk(7));
        due(4, x.desk(8));
        due(1, x.desk(9));
        due(0, x.desk(10));
        x.feed(0, 1);
        due(1, x.desk(10));
        x.feed(3, 5);
        due(2, x.desk(10));
        x.feed(4, 5);
        due(3, x.desk(10));
        type(x, ",\"\\");
        x.feed(0, 3);
        due(4, x.desk(10));
        x.feed(2, 3);
        due(2, x.desk(10));
        x.finish(0);
        due(2, x.desk(5));
        due(0, x.desk(10));
        due(3, x.desk(6));
        due(3, x.desk(9));
        due(12, x.desk(8));
        due(1, x.desk(11));
        due(0, x.desk(12));
        x.knock();
        due(1, x.desk(12));
        noArgument(() -> x.desk(-1));
        noArgument(() -> x.desk(13));
        for (int wild : WILD) noArgument(() -> x.desk(wild));
    }

    static void p48() {
        Commadesk x = new Commadesk();
        due(true, x.isSound());
        load(x, 0, "b,\"a,;|:\"\n\"\"\"\",'\n\"x\ny\",\\\n,\n");
        load(x, 1, "a\n\nb,c\n");
        for (int mode = 0; mode < 32; mode++) {
            x.mode(mode / 8, mode / 4 % 2, mode / 2 % 2 == 1, mode % 2 == 1);
            due(true, x.isSound());
        }
        String was = both(x);
        int read = x.desk(8);
        due(2, x.desk(11));
        x.isSound();
        due(was, both(x));
        due(read, x.desk(8));
        due(2, x.desk(11));
    }

    static void p49() {
        Commadesk x = new Commadesk();
        due(1, x.knock());
        due(2, x.knock());
        due(2, x.desk(12));
        x.insert(0, 0, 1);
        x.undo();
        due(3, x.knock());
    }

    static void p50() {
        long d = 5404;
        for (int what = 0; what <= 12; what++) d = d * 31;
        for (int table = 0; table < 2; table++) {
            d = d * 31;
            d = d * 31 + 1;
            for (int i = 0; i < 18; i++) d = d * 31;
        }
        d = d * 31 - 1;
        d = d * 31;
        d = d * 31;
        d = d * 31 + 1;
        due(d, new Commadesk().digest());
        Commadesk x = typed("a,\"b\nc\"\"\n!");
        x.read(0);
        x.begin();
        x.feed(0, 4);
        type(x, "0=a");
        long before = x.digest();
        due(before, x.digest());
        x.knock();
        due(false, before == x.digest());
        Model model = new Model();
        for (char c : "a,\"b\nc\"\"\n!".toCharArray()) model.type(SIGNS.indexOf(c));
        model.read(0);
        model.begin();
        model.feed(0, 4);
        model.wipe();
        for (char c : "0=a".toCharArray()) model.type(SIGNS.indexOf(c));
        due(model.digest(), before);
        // faults, all signs, many types and sums
        String mixed = "a\"b,2020-02-02,5,1.5,yes\nb,\"c\"d,1,,no,x\n\"" + SIGNS;
        type(x, mixed).read(1);
        x.mode(2, 1, true, true);
        model.wipe();
        model.knock();
        for (char c : mixed.toCharArray()) model.type(SIGNS.indexOf(c));
        model.read(1);
        model.mode(2, 1, true, true);
        due(model.digest(), x.digest());
    }

    public static void main(String[] args) throws Exception {
        for (promise = 1; promise <= 50; promise++) {
            int before = asked;
            PromisesTest.class.getDeclaredMethod("p" + promise).invoke(null);
            if (asked == before) {
                wrong++;
                System.out.println("promise " + promise + " has no test");
            }
        }
        System.out.println(asked + " answers asked, " + wrong + " wrong");
        if (wrong != 0) System.exit(1);
    }
}
