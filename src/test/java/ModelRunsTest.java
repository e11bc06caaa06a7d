/** Runs of calls drawn by a fixed generator, each call's answer compared with the model's; digests often. */
public final class ModelRunsTest {
    private static final int RUNS = 3000;
    private static final int CALLS = 512;
    private static long seed;

    private interface Call { Object ask(); }

    private static int draw(int below) {
        seed = seed * 6364136223846793005L + 1442695040888963407L;
        return (int) ((seed >>> 33) % below);
    }

    private static String answer(Call call) {
        try {
            return String.valueOf(call.ask());
        } catch (IllegalArgumentException | IllegalStateException | IndexOutOfBoundsException e) {
            return "throws." + e.getClass().getSimpleName();
        }
    }

    /** A number that is mostly in a range, sometimes just outside of it. */
    private static int near(int from, int to) {
        int kind = draw(24);
        if (kind == 0) return from - 1 - draw(2);
        if (kind == 1) return to + 1 + draw(2);
        if (kind == 2 && draw(8) == 0) return draw(2) == 0 ? Integer.MIN_VALUE : Integer.MAX_VALUE;
        return from + draw(Math.max(1, to - from + 1));
    }

    private static final String[] PIECES = {
        "a", "b", "1", "2", "-3", "0", "00", "yes", "no", "true", "false", "2024-02-29", "2023-02-29", "1900-02-29",
        "2000-02-29", "0000-01-01", "2021-04-31", "2021-04-30", "2021-13-01", "2021-00-10", "2021-1-01", "1.5", "-0.0",
        "1.", ".5", "1.2.3", "-", "2147483647", "2147483648", "-2147483648", "-2147483649", "0002147483647", "-0",
        "99999999999999999999", ",", ";", "|", ":", "\"", "'", "\n", "\\", " ", "#", "=", "<", ">", "&", "!", "x", "\"\"",
        "\"a\"", "'b'", "\"\\\"", "\n\n", ",,", "a,b\n", "1;2\n", ",,,,,,,,", "\"a\nb\",c\n", "\\\\"};
    private static final String[] FILTERS = {
        "0=a", "0<3", "1>-5&0:1", "7=", "0=b!1=a", "0:", "1:x!0>2&1<9", "0>0", "0=yes&1=", "2:a", "8=1", "0<x", "0=a&", "1"};

    private static String typed() {
        if (draw(4) == 0) return FILTERS[draw(FILTERS.length)];
        if (draw(15) == 0) return (draw(2) == 0 ? "\n" : "a\"\n").repeat(20 + draw(30));
        StringBuilder all = new StringBuilder();
        int many = 1 + draw(draw(5) == 0 ? 60 : 6);
        for (int i = 0; i < many; i++) {
            all.append(draw(8) == 0 ? "" + Model.SIGNS.charAt(draw(53)) : PIECES[draw(PIECES.length)]);
        }
        return all.toString();
    }

    private static boolean run(int number) {
        seed = number * 7919L + 17;
        Commadesk it = new Commadesk();
        Model due = new Model();
        StringBuilder log = new StringBuilder();
        int left = CALLS;
        while (left > 0) {
            if (draw(5) == 0) {
                String all = typed();
                if (draw(3) != 0) { it.wipe(); due.wipe(); log.append("wipe ").append('\n'); left--; }
                for (int i = 0; i < all.length() && left > 0; i++, left--) {
                    int sign = Model.SIGNS.indexOf(all.charAt(i));
                    log.append("type ").append(sign).append('\n');
                    if (!same(number, log, answer(() -> it.type(sign)), answer(() -> due.type(sign)))) return false;
                }
                continue;
            }
            left--;
            int what = draw(52);
            int t = draw(30) == 0 ? near(0, 1) : draw(2);
            int rows = t == 0 || t == 1 ? due.rows(t) : 3;
            int r = near(0, Math.max(0, rows - 1)), s = near(0, rows), c = draw(3) == 0 ? near(0, 7) : draw(3), n = draw(3);
            int q = near(0, Math.max(0, rows - 1));
            boolean x = draw(2) == 0, y = draw(3) == 0;
            int m = draw(20);
            int from = near(0, due.text.length()), to = near(Math.max(0, from), due.text.length());
            int sep = near(0, 3), quo = near(0, 1), nine = near(1, 8), how = near(0, 2), many = near(1, 10);
            int seed1 = near(0, 65536), wide = draw(3) == 0 ? near(1, 40) : 1 + draw(5), d = near(0, 12), page = near(0, 3);
            int nth = near(0, 5), part = near(0, 3), kind = near(1, 5);
            log.append(what).append(" t").append(t).append(" r").append(r).append(" q").append(q).append(" s").append(s)
                .append(" c").append(c).append(" n").append(n).append(" x").append(x).append('\n');
            Call mine, its;
            switch (what) {
                case 0: mine = () -> it.rub(many); its = () -> due.rub(many); break;
                case 1: mine = it::wipe; its = due::wipe; break;
                case 2: mine = () -> it.take(t, r, c); its = () -> due.take(t, r, c); break;
                case 3: mine = () -> it.mode(sep, quo, x, y); its = () -> due.mode(sep, quo, x, y); break;
                case 4: mine = it::begin; its = due::begin; break;
                case 5: case 6: mine = () -> it.feed(from, to); its = () -> due.feed(from, to); break;
                case 7: mine = () -> it.finish(t); its = () -> due.finish(t); break;
                case 8: case 46: case 47: case 48: mine = () -> it.read(t); its = () -> due.read(t); break;
                case 9: mine = () -> it.write(t, x); its = () -> due.write(t, x); break;
                case 10: mine = () -> it.fix(t); its = () -> due.fix(t); break;
                case 11: mine = () -> it.readFixed(t, wide); its = () -> due.readFixed(t, wide); break;
                case 12: mine = () -> it.insert(t, s, nine); its = () -> due.insert(t, s, nine); break;
                case 13: case 49: case 50: case 51: mine = () -> it.put(t, r, c); its = () -> due.put(t, r, c); break;
                case 14: mine = () -> it.drop(t, r); its = () -> due.drop(t, r); break;
                case 15: mine = () -> it.move(t, r, q); its = () -> due.move(t, r, q); break;
                case 16: mine = () -> it.dropColumn(t, c); its = () -> due.dropColumn(t, c); break;
                case 17: mine = () -> it.copy(t); its = () -> due.copy(t); break;
                case 18: mine = () -> it.stack(t); its = () -> due.stack(t); break;
                case 19: mine = () -> it.part(t, s); its = () -> due.part(t, s); break;
                case 20: mine = () -> it.turn(t); its = () -> due.turn(t); break;
                case 21: mine = () -> it.sort(t, c, how, x, s); its = () -> due.sort(t, c, how, x, s); break;
                case 22: mine = () -> it.filter(t, s); its = () -> due.filter(t, s); break;
                case 23: mine = () -> it.group(t, c, n); its = () -> due.group(t, c, n); break;
                case 24: mine = () -> it.join(t, c, n); its = () -> due.join(t, c, n); break;
                case 25: mine = () -> it.heads(t); its = () -> due.heads(t); break;
                case 26: mine = () -> it.sample(t, seed1, many); its = () -> due.sample(t, seed1, many); break;
                case 27: mine = it::undo; its = due::undo; break;
                case 28: mine = it::text; its = due::text; break;
                case 29: mine = () -> it.rows(t); its = () -> due.rows(t); break;
                case 30: mine = () -> it.fields(t, r); its = () -> due.fields(t, r); break;
                case 31: mine = () -> it.cell(t, r, c); its = () -> due.cell(t, r, c); break;
                case 32: mine = () -> it.isEven(t); its = () -> due.isEven(t); break;
                case 33: mine = () -> it.headed(t); its = () -> due.headed(t); break;
                case 34: mine = () -> it.find(t, c, s); its = () -> due.find(t, c, s); break;
                case 35: mine = () -> it.typeOf(t, c, s); its = () -> due.typeOf(t, c, s); break;
                case 36: mine = () -> it.wrong(t, c, kind); its = () -> due.wrong(t, c, kind); break;
                case 37: mine = () -> it.total(t, c); its = () -> due.total(t, c); break;
                case 38: mine = () -> it.written(t, x); its = () -> due.written(t, x); break;
                case 39: mine = () -> it.page(t, page, many); its = () -> due.page(t, page, many); break;
                case 40: mine = () -> it.differences(c); its = () -> due.differences(c); break;
                case 41: mine = it::guess; its = due::guess; break;
                case 42: mine = it::filterFault; its = due::filterFault; break;
                case 43: mine = () -> it.passes(t, r); its = () -> due.passes(t, r); break;
                case 44: mine = () -> it.fault(nth, part); its = () -> due.fault(nth, part); break;
                default:
                    mine = m == 0 ? it::knock : () -> it.desk(d);
                    its = m == 0 ? due::knock : () -> due.desk(d);
            }
            if (!same(number, log, answer(mine), answer(its))) return false;
            if (draw(6) == 0 && !isWholeSame(number, log.append("digest\n"), it, due)) return false;
        }
        return same(number, log, answer(it::isSound), "true") && same(number, log, answer(it::digest), answer(due::digest));
    }

    /** All that a digest sees, part by part, so that a wrong one can be read. */
    private static boolean isWholeSame(int number, StringBuilder log, Commadesk it, Model due) {
        boolean isSame = same(number, log, it.text(), due.text());
        for (int i = 0; i <= 12; i++) isSame &= same(number, log, it.desk(i), due.desk(i));
        for (int i = 0; isSame && i < due.desk(7); i++) {
            for (int j = 0; j < 4; j++) isSame &= same(number, log, it.fault(i, j), due.fault(i, j));
        }
        for (int t = 0; isSame && t < 2; t++) isSame = isTableSame(number, log, it, due, t);
        return isSame && same(number, log, it.guess(), due.guess()) && same(number, log, it.filterFault(), due.filterFault())
            && same(number, log, it.differences(0), due.differences(0)) && same(number, log, it.isSound(), due.isSound())
            && same(number, log, it.digest(), due.digest());
    }

    private static boolean isTableSame(int number, StringBuilder log, Commadesk it, Model due, int t) {
        boolean isSame = same(number, log, it.rows(t), due.rows(t)) && same(number, log, it.isEven(t), due.isEven(t))
            && same(number, log, it.written(t, false), due.written(t, false)) && same(number, log, it.written(t, true), due.written(t, true));
        for (int c = 0; c < 8; c++) {
            isSame &= same(number, log, it.typeOf(t, c, 0), due.typeOf(t, c, 0)) && same(number, log, it.total(t, c), due.total(t, c));
        }
        for (int r = 0; isSame && r < due.rows(t); r++) {
            isSame = same(number, log, it.fields(t, r), due.fields(t, r));
            for (int c = 0; isSame && c < due.fields(t, r); c++) isSame = same(number, log, it.cell(t, r, c), due.cell(t, r, c));
        }
        return isSame;
    }

    private static boolean same(int number, StringBuilder log, Object got, Object due) {
        if (got.equals(due)) return true;
        System.out.println("run " + number + ", after these calls:\n" + log + "answered " + got + ", due is " + due);
        return false;
    }

    public static void main(String[] args) {
        int runs = args.length > 0 ? Integer.parseInt(args[0]) : RUNS;
        for (int number = 1; number <= runs; number++) {
            if (!run(number)) System.exit(1);
        }
        System.out.println(runs + " runs answer as the model does");
    }
}
