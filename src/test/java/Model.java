import java.util.ArrayList;
import java.util.Arrays;
import java.util.HashSet;
import java.util.List;
import java.util.Set;
import java.util.TreeSet;

/**
 * The document once more, written as slowly and plainly as can be, with the Java library and nothing of
 * Commadesk's own code: ModelRunsTest compares the two.
 */
final class Model {
    static final String SIGNS = "0123456789abcdefghijklmnopqrstuvwxyz,;|:\"'\n.-\\ #=<>&!";

    /** All that a reading of some signs comes to. */
    static final class Reading {
        final List<List<String>> rows = new ArrayList<>();
        final List<int[]> faults = new ArrayList<>();
        int ended = 0;
        int state = 0;
    }

    String text = "";
    int separator, quote;
    boolean escaped, strict;
    List<List<List<String>>> tables = new ArrayList<>(List.of(new ArrayList<>(), new ArrayList<>()));
    final List<List<List<List<String>>>> past = new ArrayList<>();
    int stage = 0;
    String fed = "";
    char readSeparator, readQuote;
    boolean readEscaped, readStrict;
    int refused = 0;

    // ---- helpers

    private static RuntimeException index() { return new IndexOutOfBoundsException(); }
    private static RuntimeException argument() { return new IllegalArgumentException(); }
    private static RuntimeException state() { return new IllegalStateException(); }

    private List<List<String>> table(int t) {
        if (t != 0 && t != 1) throw index();
        return tables.get(t);
    }
    private List<String> row(int t, int r) {
        List<List<String>> all = table(t);
        if (r < 0 || r >= all.size()) throw index();
        return all.get(r);
    }
    private static void column(int c) { if (c < 0 || c > 7) throw index(); }
    private void place(int t, int r) { if (r < 0 || r > table(t).size()) throw index(); }
    private static List<List<String>> deep(List<List<String>> from) {
        List<List<String>> to = new ArrayList<>();
        for (List<String> row : from) to.add(new ArrayList<>(row));
        return to;
    }
    private void remember() {
        past.add(List.of(deep(tables.get(0)), deep(tables.get(1))));
        if (past.size() > 15) past.remove(0);
    }
    private static String at(List<String> row, int c) { return c < row.size() ? row.get(c) : ""; }
    private static Long whole(String s) {
        if (!s.matches("-?[0-9]+")) return null;
        java.math.BigInteger n = new java.math.BigInteger(s);
        return n.bitLength() <= 31 ? n.longValue() : null;
    }
    private static boolean of(int type, String s) {
        switch (type) {
            case 1: return whole(s) != null;
            case 2: return whole(s) != null || s.matches("-?[0-9]+\\.[0-9]+");
            case 3: return Set.of("yes", "no", "true", "false").contains(s);
            case 4:
                if (!s.matches("[0-9]{4}-[0-9]{2}-[0-9]{2}") || s.startsWith("0000")) return false;
                try { java.time.LocalDate.parse(s); return true; } catch (java.time.DateTimeException e) { return false; }
            default: return true;
        }
    }
    private static char sep(int n) { return ",;|:".charAt(n); }
    private static char quo(int n) { return "\"'".charAt(n); }

    static Reading parse(String all, boolean atEnd, char sep, char quo, boolean esc, boolean strict) {
        Reading it = new Reading();
        List<String> fields = new ArrayList<>();
        StringBuilder f = new StringBuilder();
        int[] n = {0, -1, 0};   // fields ended of the row, of the first row, faults of the row
        for (int i = 0; i <= all.length(); i++) {
            boolean isEnd = i == all.length();
            if (isEnd && !atEnd) break;
            boolean fieldEnds = false, rowEnds = false;
            if (isEnd) {
                if (it.state == 2 || it.state == 4) {
                    it.faults.add(new int[] {4, it.ended, n[0], i}); n[2]++;
                    if (it.state == 4) f.append('\\');
                    rowEnds = true;
                } else rowEnds = it.state != 0 || n[0] > 0;
            } else {
                char c = all.charAt(i);
                switch (it.state) {
                    case 0:
                        if (c == sep) fieldEnds = true;
                        else if (c == '\n') rowEnds = true;
                        else if (c == quo) it.state = 2;
                        else { f.append(c); it.state = 1; }
                        break;
                    case 1:
                        if (c == sep) fieldEnds = true;
                        else if (c == '\n') rowEnds = true;
                        else {
                            if (c == quo) { it.faults.add(new int[] {1, it.ended, n[0], i}); n[2]++; }
                            f.append(c);
                        }
                        break;
                    case 2:
                        if (c == quo) it.state = 3;
                        else if (esc && c == '\\') it.state = 4;
                        else f.append(c);
                        break;
                    case 3:
                        if (c == sep) fieldEnds = true;
                        else if (c == '\n') rowEnds = true;
                        else if (c == quo && !esc) { f.append(c); it.state = 2; }
                        else { it.faults.add(new int[] {2, it.ended, n[0], i}); n[2]++; f.append(c); it.state = 1; }
                        break;
                    default:
                        if (c != quo && c != '\\') { it.faults.add(new int[] {3, it.ended, n[0], i}); n[2]++; }
                        f.append(c);
                        it.state = 2;
                }
            }
            if (fieldEnds || rowEnds) {
                if (n[0] >= 8) { it.faults.add(new int[] {6, it.ended, n[0], i}); n[2]++; }
                else fields.add(f.toString());
                f.setLength(0);
                n[0]++;
                it.state = 0;
            }
            if (rowEnds) {
                if (n[1] < 0) n[1] = n[0];
                if (n[0] != n[1]) { it.faults.add(new int[] {5, it.ended, n[0], i}); n[2]++; }
                boolean keep = true;
                if (it.rows.size() == 40) { it.faults.add(new int[] {7, it.ended, n[0], i}); n[2]++; keep = false; }
                if (strict && n[2] > 0) keep = false;
                if (keep) it.rows.add(new ArrayList<>(fields));
                fields.clear();
                it.ended++;
                n[0] = 0;
                n[2] = 0;
            }
        }
        if (atEnd) it.state = 0;
        return it;
    }
    private Reading reading() {
        return parse(fed, stage == 2, readSeparator, readQuote, readEscaped, readStrict);
    }
    private String writtenRows(List<List<String>> rows, boolean all) {
        StringBuilder out = new StringBuilder();
        String q = "" + quo(quote);
        for (List<String> row : rows) {
            for (int c = 0; c < row.size(); c++) {
                if (c > 0) out.append(sep(separator));
                String f = row.get(c);
                if (all || f.contains(q) || f.contains("\n") || f.contains("" + sep(separator))) {
                    f = escaped ? f.replace("\\", "\\\\").replace(q, "\\" + q) : f.replace(q, q + q);
                    f = q + f + q;
                }
                out.append(f);
            }
            out.append('\n');
        }
        return out.toString();
    }
    private int filterFaultOf(String s) {
        int at = 0;
        while (true) {
            if (at >= s.length() || "01234567".indexOf(s.charAt(at)) < 0) return at;
            if (at + 1 >= s.length() || "=<>:".indexOf(s.charAt(at + 1)) < 0) return at + 1;
            int end = at + 2;
            while (end < s.length() && s.charAt(end) != '&' && s.charAt(end) != '!') end++;
            if ("<>".indexOf(s.charAt(at + 1)) >= 0 && whole(s.substring(at + 2, end)) == null) return at + 2;
            if (end == s.length()) return -1;
            at = end + 1;
        }
    }
    private boolean passing(List<String> row) {
        for (String group : text.split("!", -1)) {
            boolean all = true;
            for (String term : group.split("&", -1)) {
                String f = at(row, term.charAt(0) - '0');
                String v = term.substring(2);
                switch (term.charAt(1)) {
                    case '=': all &= f.equals(v); break;
                    case ':': all &= f.contains(v); break;
                    case '<': all &= whole(f) != null && whole(f) < whole(v); break;
                    default: all &= whole(f) != null && whole(f) > whole(v);
                }
            }
            if (all) return true;
        }
        return false;
    }
    private boolean even(List<List<String>> t) {
        Set<Integer> widths = new HashSet<>();
        for (List<String> row : t) widths.add(row.size());
        return widths.size() <= 1;
    }

    // ---- the face

    int type(int sign) {
        if (sign < 0 || sign > 52) throw argument();
        if (text.length() == 300) throw state();
        text += SIGNS.charAt(sign);
        return text.length();
    }
    int rub(int many) {
        if (many < 1 || many > 300) throw argument();
        text = many >= text.length() ? "" : text.substring(0, text.length() - many);
        return text.length();
    }
    int wipe() { int n = text.length(); text = ""; return n; }
    int take(int t, int r, int c) {
        String f = cell(t, r, c);
        if (f.length() > 300) throw state();
        text = f;
        return f.length();
    }
    int mode(int s, int q, boolean e, boolean strictly) {
        if (s < 0 || s > 3 || q < 0 || q > 1) throw argument();
        int was = 8 * separator + 4 * quote + (escaped ? 2 : 0) + (strict ? 1 : 0);
        separator = s; quote = q; escaped = e; strict = strictly;
        return was;
    }
    int begin() {
        int had = stage == 0 ? -1 : reading().rows.size();
        stage = 1; fed = "";
        readSeparator = sep(separator); readQuote = quo(quote); readEscaped = escaped; readStrict = strict;
        return had;
    }
    int feed(int from, int to) {
        if (from < 0 || from > text.length() || to < from || to > text.length()) throw index();
        if (stage != 1) throw state();
        fed += text.substring(from, to);
        return reading().rows.size();
    }
    int finish(int t) {
        table(t);
        if (stage != 1) throw state();
        remember();
        stage = 2;
        tables.set(t, deep(reading().rows));
        return reading().faults.size();
    }
    int read(int t) {
        table(t);
        begin();
        feed(0, text.length());
        finish(t);
        return table(t).size();
    }
    int write(int t, boolean all) {
        String w = writtenRows(table(t), all);
        if (w.length() > 300) throw state();
        text = w;
        return w.length();
    }
    int fix(int t) {
        StringBuilder out = new StringBuilder();
        for (List<String> row : table(t)) {
            for (int c = 0; c < row.size(); c++) {
                int w = 0;
                for (List<String> other : table(t)) w = Math.max(w, at(other, c).length());
                out.append(row.get(c)).append(" ".repeat(w + 1 - row.get(c).length()));
            }
            out.append('\n');
        }
        if (out.length() > 300) throw state();
        text = out.toString();
        return text.length();
    }
    int readFixed(int t, int width) {
        table(t);
        if (width < 1 || width > 40) throw argument();
        remember();
        List<String> lines = new ArrayList<>(Arrays.asList(text.split("\n", -1)));
        if (lines.get(lines.size() - 1).isEmpty()) lines.remove(lines.size() - 1);
        List<List<String>> made = new ArrayList<>();
        for (String line : lines.subList(0, Math.min(40, lines.size()))) {
            List<String> row = new ArrayList<>();
            String left = line;
            do {
                int n = Math.min(width, left.length());
                row.add(left.substring(0, n).replaceAll(" +$", ""));
                left = left.substring(n);
            } while (!left.isEmpty() && row.size() < 8);
            made.add(row);
        }
        tables.set(t, made);
        return made.size();
    }
    int insert(int t, int r, int fields) {
        place(t, r);
        if (fields < 1 || fields > 8) throw argument();
        if (table(t).size() == 40) throw state();
        remember();
        List<String> row = new ArrayList<>();
        for (int i = 0; i < fields; i++) row.add("");
        table(t).add(r, row);
        return table(t).size();
    }
    int put(int t, int r, int c) {
        List<String> row = row(t, r);
        if (c < 0 || c > row.size() || c > 7) throw index();
        remember();
        if (c == row.size()) row.add(text); else row.set(c, text);
        return row.size();
    }
    int drop(int t, int r) { row(t, r); remember(); return table(t).remove(r).size(); }
    int move(int t, int from, int to) {
        row(t, from); row(t, to);
        remember();
        List<List<String>> was = new ArrayList<>(table(t));
        table(t).add(to, table(t).remove(from));
        int n = 0;
        for (int i = 0; i < was.size(); i++) if (was.get(i) != table(t).get(i)) n++;
        return n;
    }
    int dropColumn(int t, int c) {
        table(t); column(c);
        remember();
        int n = 0;
        for (List<String> row : table(t)) {
            if (c >= row.size()) continue;
            n++;
            row.remove(c);
            if (row.isEmpty()) row.add("");
        }
        return n;
    }
    int copy(int t) {
        int had = table(t).size();
        remember();
        tables.set(t, deep(table(1 - t)));
        return had;
    }
    int stack(int t) {
        if (table(t).size() + table(1 - t).size() > 40) throw state();
        remember();
        table(t).addAll(deep(table(1 - t)));
        return table(t).size();
    }
    int part(int t, int r) {
        place(t, r);
        remember();
        List<List<String>> all = table(t);
        tables.set(1 - t, deep(all.subList(r, all.size())));
        tables.set(t, deep(all.subList(0, r)));
        return table(1 - t).size();
    }
    int turn(int t) {
        List<List<String>> all = table(t);
        if (!even(all) || all.isEmpty() || all.size() > 8) throw state();
        remember();
        List<List<String>> made = new ArrayList<>();
        for (int c = 0; c < all.get(0).size(); c++) {
            List<String> row = new ArrayList<>();
            for (List<String> old : all) row.add(old.get(c));
            made.add(row);
        }
        tables.set(t, made);
        return made.size();
    }
    int sort(int t, int c, int how, boolean falling, int from) {
        table(t); column(c); place(t, from);
        if (how < 0 || how > 2) throw argument();
        remember();
        List<List<String>> was = new ArrayList<>(table(t));
        java.util.Comparator<List<String>> by =
            how == 0 ? java.util.Comparator.comparing(r -> at(r, c))
            : how == 1 ? java.util.Comparator.comparing(r -> whole(at(r, c)) == null ? Long.MIN_VALUE : whole(at(r, c)))
            : java.util.Comparator.comparing(r -> at(r, c).length());
        table(t).subList(from, was.size()).sort(falling ? by.reversed() : by);
        int n = 0;
        for (int i = 0; i < was.size(); i++) if (was.get(i) != table(t).get(i)) n++;
        return n;
    }
    int filter(int t, int from) {
        place(t, from);
        if (filterFaultOf(text) != -1) throw state();
        remember();
        int had = table(t).size();
        table(t).subList(from, had).removeIf(r -> !passing(r));
        return had - table(t).size();
    }
    int group(int t, int c, int v) {
        table(t); column(c); column(v);
        remember();
        TreeSet<String> keys = new TreeSet<>();
        for (List<String> r : table(t)) if (c < r.size()) keys.add(r.get(c));
        List<List<String>> made = new ArrayList<>();
        for (String key : keys) {
            int n = 0;
            long sum = 0;
            for (List<String> r : table(t)) {
                if (c >= r.size() || !r.get(c).equals(key)) continue;
                n++;
                if (whole(at(r, v)) != null) sum += whole(at(r, v));
            }
            made.add(new ArrayList<>(List.of(key, "" + n, "" + sum)));
        }
        tables.set(1 - t, made);
        return made.size();
    }
    int join(int t, int c, int its) {
        table(t); column(c); column(its);
        List<List<String>> made = new ArrayList<>();
        for (List<String> r : table(t)) {
            if (c >= r.size()) continue;
            for (List<String> o : table(1 - t)) {
                if (its >= o.size() || !o.get(its).equals(r.get(c))) continue;
                List<String> both = new ArrayList<>(r);
                List<String> rest = new ArrayList<>(o);
                rest.remove(its);
                both.addAll(rest);
                if (both.size() > 8) throw state();
                made.add(both);
                break;
            }
        }
        remember();
        tables.set(t, made);
        return made.size();
    }
    int heads(int t) {
        if (table(t).isEmpty()) throw state();
        remember();
        List<String> row = table(t).get(0);
        List<String> was = new ArrayList<>(row);
        int n = 0;
        for (int c = 0; c < row.size(); c++) {
            int nth = java.util.Collections.frequency(was.subList(0, c + 1), was.get(c));
            if (nth > 1) { row.set(c, was.get(c) + "#" + nth); n++; }
        }
        return n;
    }
    int sample(int t, int seed, int many) {
        table(t);
        if (seed < 0 || seed > 65536 || many < 1 || many > 10) throw argument();
        if (table(t).isEmpty()) throw state();
        remember();
        List<List<String>> made = new ArrayList<>();
        Set<Integer> seen = new HashSet<>();
        int x = seed;
        for (int i = 0; i < many; i++) {
            x = (75 * x + 74) % 65537;
            made.add(table(t).get(x % table(t).size()));
            seen.add(x % table(t).size());
        }
        tables.set(1 - t, deep(made));
        return seen.size();
    }
    int undo() {
        if (past.isEmpty()) throw state();
        tables = new ArrayList<>(past.remove(past.size() - 1));
        return past.size();
    }
    String text() { return text; }
    int rows(int t) { return table(t).size(); }
    int fields(int t, int r) { return row(t, r).size(); }
    String cell(int t, int r, int c) {
        if (c < 0 || c >= row(t, r).size()) throw index();
        return row(t, r).get(c);
    }
    boolean isEven(int t) { return even(table(t)); }
    int headed(int t) { return table(t).isEmpty() ? -1 : table(t).get(0).indexOf(text); }
    int find(int t, int c, int from) {
        table(t); column(c); place(t, from);
        for (int r = from; r < table(t).size(); r++) if (c < row(t, r).size() && row(t, r).get(c).equals(text)) return r;
        return -1;
    }
    int typeOf(int t, int c, int from) {
        table(t); column(c); place(t, from);
        List<String> filled = new ArrayList<>();
        for (List<String> r : table(t).subList(from, table(t).size())) if (!at(r, c).isEmpty()) filled.add(at(r, c));
        if (filled.isEmpty()) return 0;
        for (int type = 1; type <= 4; type++) {
            int now = type;
            if (filled.stream().allMatch(s -> of(now, s))) return type;
        }
        return 5;
    }
    int wrong(int t, int c, int type) {
        table(t); column(c);
        if (type < 1 || type > 5) throw argument();
        for (int r = 0; r < table(t).size(); r++) if (!at(row(t, r), c).isEmpty() && !of(type, at(row(t, r), c))) return r;
        return -1;
    }
    long total(int t, int c) {
        table(t); column(c);
        long sum = 0;
        for (List<String> r : table(t)) if (whole(at(r, c)) != null) sum += whole(at(r, c));
        return sum;
    }
    int written(int t, boolean all) { return writtenRows(table(t), all).length(); }
    String page(int t, int page, int size) {
        table(t);
        if (page < 0 || page > 40 || size < 1 || size > 40) throw argument();
        List<List<String>> all = table(t);
        return writtenRows(all.subList(Math.min(all.size(), page * size), Math.min(all.size(), page * size + size)), false);
    }
    String differences(int c) {
        column(c);
        TreeSet<String> keys = new TreeSet<>();
        for (List<List<String>> t : tables) for (List<String> r : t) if (c < r.size()) keys.add(r.get(c));
        StringBuilder out = new StringBuilder();
        for (String key : keys) {
            List<List<String>> found = new ArrayList<>();
            for (List<List<String>> t : tables) {
                List<String> hit = null;
                for (List<String> r : t) if (hit == null && c < r.size() && r.get(c).equals(key)) hit = r;
                found.add(hit);
            }
            if (found.get(0) == null) out.append('+').append(key).append('\n');
            else if (found.get(1) == null) out.append('-').append(key).append('\n');
            else if (!found.get(0).equals(found.get(1))) out.append('*').append(key).append('\n');
        }
        return out.toString();
    }
    int guess() {
        int best = -1, most = 1;
        for (int s = 0; s < 4; s++) {
            List<List<String>> rows = parse(text, true, sep(s), quo(quote), escaped, false).rows;
            Set<Integer> widths = new HashSet<>();
            for (List<String> r : rows.subList(0, Math.min(3, rows.size()))) widths.add(r.size());
            if (widths.size() == 1 && widths.iterator().next() > most) { most = widths.iterator().next(); best = s; }
        }
        return best;
    }
    int filterFault() { return filterFaultOf(text); }
    boolean passes(int t, int r) {
        row(t, r);
        if (filterFaultOf(text) != -1) throw state();
        return passing(row(t, r));
    }
    int fault(int nth, int what) {
        if (nth < 0 || stage == 0 || nth >= Math.min(30, reading().faults.size())) throw index();
        if (what < 0 || what > 3) throw argument();
        return reading().faults.get(nth)[what];
    }
    int desk(int what) {
        if (what < 0 || what > 12) throw argument();
        Reading it = reading();
        return new int[] {text.length(), separator, quote, escaped ? 1 : 0, strict ? 1 : 0, stage, it.faults.size(),
            Math.min(30, it.faults.size()), fed.length(), it.ended, it.state, past.size(), refused}[what];
    }
    boolean isSound() { return true; }
    int knock() { return ++refused; }
    long digest() {
        long d = 5404;
        for (int i = 0; i <= 12; i++) d = d * 31 + desk(i);
        for (int i = 0; i < desk(7); i++) for (int j = 0; j < 4; j++) d = d * 31 + fault(i, j);
        for (char c : text.toCharArray()) d = d * 31 + SIGNS.indexOf(c);
        for (int t = 0; t < 2; t++) {
            d = d * 31 + rows(t);
            d = d * 31 + (isEven(t) ? 1 : 0);
            d = d * 31 + written(t, false);
            d = d * 31 + written(t, true);
            for (int c = 0; c < 8; c++) { d = d * 31 + typeOf(t, c, 0); d = d * 31 + total(t, c); }
            for (List<String> r : table(t)) {
                d = d * 31 + r.size();
                for (String f : r) {
                    d = d * 31 + f.length();
                    for (char c : f.toCharArray()) d = d * 31 + SIGNS.indexOf(c);
                }
            }
        }
        d = d * 31 + guess();
        d = d * 31 + filterFault();
        d = d * 31 + differences(0).length();
        return d * 31 + (isSound() ? 1 : 0);
    }
}
