/** Boundary cases of writing: the document's part 2 (to WRITE), its promises 11, 12, 40 and 41. */
public final class WritingEdgesTest extends Trial {
    private static final int ESCAPED = 2;

    /** What a table is written as, by a mode; how long it is, and its pages, have to be so, too. */
    private static String written(int mode, boolean isAll, String rows) {
        Commadesk x = mode(of(rows), mode);
        int many = x.written(0, isAll);
        due(many, x.write(0, isAll));
        due(many, x.text().length());
        if (!isAll) due(x.text(), x.page(0, 0, 40));
        return x.text();
    }

    private static String written(String rows) { return written(0, false, rows); }

    // ---- part 2: to write

    @Says(at = "part 2", it = "ROW by ROW its FIELDS with the SEPARATOR between two, and a LINE END behind each ROW")
    static void separatorsStandBetweenAndLineEndsBehind() {
        due("", written(""));
        due("\n", written("/"));
        due("a\n", written("a/"));
        due("a,b\n", written("a~b/"));
        due(",\n", written("~/"));
        due(",,,,,,,\n", written("~~~~~~~/"));
        due("a\n\nb,c\n", written("a//b~c/"));
        due("\n".repeat(40), written(rows("", 40)));
    }

    @Says(at = "part 2", it = "A FIELD is put in QUOTES, if all are")
    static void allFieldsInQuotes() {
        due("", written(0, true, ""));
        due("\"\"\n", written(0, true, "/"));
        due("\"a\",\"\"\n\"b\"\n", written(0, true, "a~/b/"));
        due("'a','\"'\n", written(4, true, "a~\"/"));
        due("a,\n", written(0, false, "a~/"));
    }

    @Says(at = "part 2", it = "or if the SEPARATOR, the QUOTE or a LINE END is in it")
    static void theSeparatorInAField() {
        String[] signs = {",", ";", "|", ":"};
        for (int s = 0; s < 4; s++) {
            String want = "";
            for (int other = 0; other < 4; other++) want += (other == s ? "\"" + signs[other] + "\"" : signs[other]) + (other < 3 ? signs[s] : "\n");
            due(want, written(8 * s, false, ",~;~|~:/"));
        }
        due("\",a\"\n", written(",a/"));
        due("\"a,\"\n", written("a,/"));
        due("\"a,b\",c\n", written("a,b~c/"));
    }

    @Says(at = "part 2", it = "or if the SEPARATOR, the QUOTE or a LINE END is in it")
    static void theQuoteInAField() {
        due("\"\"\"\",'\n", written("\"~'/"));
        due("\",''''\n", written(4, false, "\"~'/"));
        due("\"\"\"a\",\"a\"\"\"\n", written("\"a~a\"/"));
    }

    @Says(at = "part 2", it = "or if the SEPARATOR, the QUOTE or a LINE END is in it")
    static void aLineEndInAField() {
        due("\"\n\"\n", written("\n/"));
        due("\"\na\",\"a\n\"\n", written("\na~a\n/"));
        due("'a\nb'\n", written(4, false, "a\nb/"));
    }

    @Says(at = "part 2", it = "or if the SEPARATOR, the QUOTE or a LINE END is in it")
    static void noOtherSignPutsAFieldInQuotes() {
        for (char c : SIGNS.toCharArray()) {
            boolean isQuoted = c == ',' || c == '"' || c == '\n';
            due(isQuoted ? '"' : c, written(c + "/").charAt(0));
            due(isQuoted ? '"' : c, written(ESCAPED, false, c + "/").charAt(0));
        }
    }

    @Says(at = "part 2", it = "then each QUOTE in it is doubled")
    static void eachQuoteIsDoubled() {
        due("\"\"\"\"\"\"\n", written("\"\"/"));
        due("\"a\"\"b\"\"\"\n", written("a\"b\"/"));
        due("\"'\\\"\n", written(0, true, "'\\/"));
        due("'''\"\\'\n", written(4, false, "'\"\\/"));
    }

    @Says(at = "part 2", it = "or, if ESCAPED, a backslash is put ahead of each QUOTE and each backslash in it")
    static void quotesAndBackslashesAreEscaped() {
        due("\"\\\"\\\"\"\n", written(ESCAPED, false, "\"\"/"));
        due("\"\\\\,\"\n", written(ESCAPED, false, "\\,/"));
        due("\"\\\\\\\\\"\n", written(ESCAPED, true, "\\\\/"));
        due("'\\'\\\\\"'\n", written(4 + ESCAPED, false, "'\\\"/"));
        // outside quotes a backslash is a sign as any other
        due("\\\n", written(ESCAPED, false, "\\/"));
        due("a\\b,\"\\\\\n\"\n", written(ESCAPED, false, "a\\b~\\\n/"));
    }

    // ---- promise 11: write

    @Says(at = "promise 11", it = {"The TEXT becomes a TABLE, WRITTEN.", "Returns how many SIGNS it has then."})
    static void writeOfAnEmptyTableEmptiesTheText() {
        Commadesk x = typed("abc");
        due(0, x.write(0, false));
        due("", x.text());
        due(0, type(x, "abc").write(1, true));
        due("", x.text());
    }

    @Says(at = "promise 11", it = "Throws `IllegalStateException` if it would have more than 300")
    static void aTableOfThreeHundredSignsIsWritten() {
        due(300, of("a".repeat(299) + "/").write(0, false));
        due(300, of("a".repeat(297) + "/").write(0, true));
        due(300, of(rows("a".repeat(4) + "~b~c", 30) + "/".repeat(9) + "d".repeat(20) + "/").write(0, false));
        refuses(STATE, () -> of("a".repeat(300) + "/"), x -> x.write(0, false));
        refuses(STATE, () -> of("a".repeat(298) + "/"), x -> x.write(0, true));
        refuses(STATE, () -> type(of("", rows("abcdefg", 38)), "xyz"), x -> x.write(1, false));
        refuses(STATE, () -> of("a".repeat(299) + "/a/"), x -> x.write(0, false));
    }

    @Says(at = "promise 11", it = "Throws `IllegalStateException` if it would have more than 300")
    static void theQuotesAndWhatGuardsThemCountToo() {
        due(300, of("\"".repeat(148) + "a/").write(0, false));
        refuses(STATE, () -> of("\"".repeat(149) + "/"), x -> x.write(0, false));
        due(299, mode(of("\"".repeat(148) + "/"), ESCAPED).write(0, false));
        due(300, mode(of("a" + "\\".repeat(148) + "/"), ESCAPED).write(0, true));
        refuses(STATE, () -> mode(of("\\".repeat(149) + "/"), ESCAPED), x -> x.write(0, true));
        due(150, mode(of("\\".repeat(149) + "/"), ESCAPED).write(0, false));
        refuses(STATE, () -> mode(of("a," + "b".repeat(296) + "/"), 0), x -> x.write(0, false));
        due(299, mode(of("a," + "b".repeat(296) + "/"), 8).write(0, false));
    }

    @Says(at = "promise 11", it = "Throws `IndexOutOfBoundsException` if there is no such TABLE")
    static void writeTakesTwoTables() {
        takesTables(Trial::busy, (x, n) -> x.write(n, false));
        takesTables(Trial::busy, (x, n) -> x.write(n, true));
    }

    // ---- promise 12: fix

    private static String fixed(String rows) {
        Commadesk x = of(rows);
        due(x.fix(0), x.text().length());
        due(rows, shown(x, 0));
        return x.text();
    }

    @Says(at = "promise 12", it = "ROW by ROW each FIELD with as many blanks behind it that it is one SIGN wider than the longest FIELD of that COLUMN, "
        + "and a LINE END")
    static void eachColumnIsOneSignWiderThanItsLongestField() {
        due("", fixed(""));
        due(" \n", fixed("/"));
        due("a \n", fixed("a/"));
        due("  \n", fixed("~/"));
        due("a   \nbcd \n", fixed("a/bcd/"));
        due("bcd \na   \n", fixed("bcd/a/"));
        due("a  b   \ncd efg \n", fixed("a~b/cd~efg/"));
        due("        \n", fixed("~~~~~~~/"));
        due("a,\"b \n", fixed("a,\"b/"));
        due("a\nb \nc   \n", fixed("a\nb/c/"));
    }

    @Says(at = "promise 12", it = "ROW by ROW each FIELD with as many blanks behind it that it is one SIGN wider than the longest FIELD of that COLUMN, "
        + "and a LINE END")
    static void aRowHasNoBlanksForColumnsThatItHasNot() {
        due("ab c \nd  \n", fixed("ab~c/d/"));
        due("a   \nbcd efg  \n    hijk \n", fixed("a/bcd~efg/~hijk/"));
        due("  b \na \n", fixed("~b/a/"));
    }

    @Says(at = "promise 12", it = {"The TEXT becomes a TABLE in widths", "Returns how many SIGNS it has then."})
    static void fixOfAnEmptyTableEmptiesTheText() {
        Commadesk x = typed("abc");
        due(0, x.fix(1));
        due("", x.text());
    }

    @Says(at = "promise 12", it = "Throws `IllegalStateException` if it would have more than 300")
    static void aTableOfThreeHundredSignsInWidths() {
        due(300, of("a".repeat(298) + "/").fix(0));
        refuses(STATE, () -> of("a".repeat(299) + "/"), x -> x.fix(0));
        due(300, of("a".repeat(148) + "//").fix(0));
        refuses(STATE, () -> of("a".repeat(149) + "//"), x -> x.fix(0));
        due(300, of("a".repeat(147) + "~/~/").fix(0));
        refuses(STATE, () -> of("a".repeat(148) + "~/~/"), x -> x.fix(0));
        due(300, of("a".repeat(148) + "~" + "b".repeat(149) + "/").fix(0));
        refuses(STATE, () -> type(of("", "a".repeat(149) + "~" + "b".repeat(149) + "/"), "xyz"), x -> x.fix(1));
        due(80, of(rows("", 40)).fix(0));
    }

    @Says(at = "promise 12", it = "Throws `IndexOutOfBoundsException` if there is no such TABLE")
    static void fixTakesTwoTables() { takesTables(Trial::busy, (x, n) -> x.fix(n)); }

    // ---- promise 40: written

    @Says(at = "promise 40", it = "Returns how many SIGNS it would have, WRITTEN.")
    static void writtenOfAnEmptyAndOfALargeTable() {
        due(0, new Commadesk().written(0, false));
        due(0, new Commadesk().written(1, true));
        Commadesk x = of(rows("a~b~c~d~e~f~g~h", 40), "\"".repeat(301) + "/");
        due(40 * 16, x.written(0, false));
        due(40 * 32, x.written(0, true));
        due(605, x.written(1, false));
        due(605, x.written(1, true));
        due(605, mode(x, ESCAPED).written(1, false));
        due(302, mode(x, 4).written(1, false));
        due(304, mode(x, 4).written(1, true));
    }

    @Says(at = "promise 40", it = "Throws `IndexOutOfBoundsException` if there is no such TABLE")
    static void writtenTakesTwoTables() {
        takesTables(Trial::busy, (x, n) -> x.written(n, true));
        takesTables(Trial::busy, (x, n) -> x.written(n, false));
    }

    // ---- promise 41: page

    @Says(at = "promise 41", it = "Returns the ROWS from page * size on, size of them (or as many as there are), WRITTEN with least quotes")
    static void theFirstAndTheLastPage() {
        Commadesk x = of("a/b,c/d~e/f\"/g/");
        due("a\n\"b,c\"\n", x.page(0, 0, 2));
        due("d,e\n\"f\"\"\"\n", x.page(0, 1, 2));
        due("g\n", x.page(0, 2, 2));
        due("a\n", x.page(0, 0, 1));
        due("g\n", x.page(0, 4, 1));
        due("a\n\"b,c\"\nd,e\n\"f\"\"\"\n", x.page(0, 0, 4));
        due("g\n", x.page(0, 1, 4));
        due("a\n\"b,c\"\nd,e\n\"f\"\"\"\ng\n", x.page(0, 0, 5));
        due("a\n\"b,c\"\nd,e\n\"f\"\"\"\ng\n", x.page(0, 0, 40));
        due("a\nb,c\n", mode(x, 8).page(0, 0, 2));
        due("d;e\nf\"\n", mode(x, 12).page(0, 1, 2));
    }

    @Says(at = "promise 41", it = "\"\" if there are none")
    static void aPageBehindTheLastRowIsEmpty() {
        Commadesk x = of("a/b/c/d/");
        due("", x.page(0, 2, 2));
        due("", x.page(0, 4, 1));
        due("", x.page(0, 1, 4));
        due("", x.page(0, 1, 40));
        due("", x.page(0, 40, 40));
        due("", x.page(1, 0, 1));
        due("", x.page(1, 40, 40));
        Commadesk full = of(risingRows(40));
        due("d9\n", full.page(0, 39, 1));
        due("", full.page(0, 40, 1));
        due(120, full.page(0, 0, 40).length());
        due("d9\n", full.page(0, 1, 39));
    }

    @Says(at = "promise 41", it = "Returns the ROWS from page * size on, size of them (or as many as there are), WRITTEN with least quotes")
    static void aPageCanHaveMoreSignsThanATextAndEachIsAsTheTableIs() {
        Commadesk x = of(rows("a".repeat(300), 3));
        due(903, x.page(0, 0, 40).length());
        due(301, x.page(0, 2, 1).length());
        type(x, "b".repeat(300)).put(0, 2, 0);
        due("b".repeat(300) + "\n", x.page(0, 2, 1));
        x.undo();
        due("a".repeat(300) + "\n", x.page(0, 2, 1));
    }

    @Says(at = "promise 41", it = "Returns the ROWS from page * size on, size of them (or as many as there are), WRITTEN with least quotes")
    static void aPageOfLongFieldsIsAsLongAsTheyAre() {
        Commadesk x = typed("\"" + "a".repeat(299));
        x.begin();
        x.feed(0, 300);
        for (int i = 1; i < 10; i++) x.feed(1, 300);
        x.finish(0);
        due("a".repeat(2990) + "\n", x.page(0, 0, 40));
        x.rub(300);
        x.type(40);
        x.begin();
        x.feed(0, 1);
        type(x, "\"".repeat(300));
        for (int i = 0; i < 10; i++) x.feed(0, 300);
        x.finish(0);
        due("\"".repeat(3002) + "\n", x.page(0, 0, 1));
    }

    @Says(at = "promise 41", it = "Returns the ROWS from page * size on, size of them (or as many as there are), WRITTEN with least quotes")
    static void aPageOfAFullTable() {
        Commadesk x = typed("ab".repeat(150));
        x.insert(0, 0, 8);
        for (int column = 0; column < 8; column++) x.put(0, 0, column);
        for (int i = 0; i < 3; i++) {
            x.copy(1);
            x.stack(0);
        }
        x.copy(1);
        for (int i = 0; i < 4; i++) x.stack(0);
        String row = ("ab".repeat(150) + ",").repeat(7) + "ab".repeat(150) + "\n";
        due(40, x.rows(0));
        due(row.repeat(40), x.page(0, 0, 40));
        due(row.repeat(13), x.page(0, 2, 13));
        due(row, x.page(0, 3, 13));
        due(row.repeat(40).length(), x.written(0, false));
        due(row.repeat(40).length() + 640, x.written(0, true));
    }

    @Says(at = "promise 41", it = "Throws `IndexOutOfBoundsException` if there is no such TABLE")
    static void pageTakesTwoTables() { takesTables(Trial::busy, (x, n) -> x.page(n, 0, 1)); }

    @Says(at = "promise 41", it = "Throws `IllegalArgumentException` if page is not 0 to 40, or size not 1 to 40")
    static void pageTakesFortyOnePagesOfOneToFortyRows() {
        takes(ARGUMENT, Trial::busy, 0, 40, (x, n) -> x.page(0, n, 1));
        takes(ARGUMENT, Trial::busy, 0, 40, (x, n) -> x.page(0, n, 40));
        takes(ARGUMENT, Trial::busy, 1, 40, (x, n) -> x.page(0, 0, n));
        takes(ARGUMENT, Commadesk::new, 1, 40, (x, n) -> x.page(0, 40, n));
    }

    @Says(at = "part 5", it = "If several exceptions apply, the one that is named first is thrown")
    static void pageNamesTheTableFirst() {
        refuses(INDEX, Trial::busy, x -> x.page(2, 41, 1));
        refuses(INDEX, Trial::busy, x -> x.page(-1, 0, 0));
    }

    public static void main(String[] args) throws Exception { run(WritingEdgesTest.class); }
}
