/** Boundary cases of reading: the document's part 3, its promises 7 to 10, 13, 43 and 46. */
public final class ReadingEdgesTest extends Trial {
    private static final int ESCAPED = 2;
    private static final int STRICT = 1;
    private static final int FIELD_BEGINS = 0, PLAIN = 1, QUOTED = 2, BEHIND = 3, ESCAPING = 4;

    /** What a text is read as, by a mode: the rows, and behind them the faults. */
    private static String read(int mode, String text) {
        Commadesk x = type(mode(new Commadesk(), mode), text);
        x.read(0);
        return result(x);
    }

    private static String result(Commadesk x) { return shown(x, 0) + (x.desk(7) > 0 ? " " : "") + faults(x); }

    private static String read(String text) { return read(0, text); }

    /** The state in which a reading by a mode is, behind a text that goes on. */
    private static int state(int mode, String text) {
        Commadesk x = type(mode(new Commadesk(), mode), text);
        x.begin();
        due(0, x.desk(10));
        x.feed(0, text.length());
        return x.desk(10);
    }

    private static int state(String text) { return state(0, text); }

    /** The same text fed sign by sign, as one, and within another text. */
    private static void readsTheSameInParts(int mode, String text) {
        Commadesk x = type(mode(new Commadesk(), mode), "a" + text + "b");
        x.begin();
        for (int i = 1; i <= text.length(); i++) x.feed(i, i + 1);
        x.finish(0);
        due(read(mode, text), result(x));
    }

    // ---- part 3: where a field begins

    @Says(at = "part 3", it = "with a state: at first the FIELD BEGINS")
    static void aReadingBeginsWhereAFieldBegins() {
        Commadesk x = typed("\"a");
        x.begin();
        due(FIELD_BEGINS, x.desk(10));
        x.feed(0, 2);
        due(QUOTED, x.desk(10));
        x.begin();
        due(FIELD_BEGINS, x.desk(10));
    }

    @Says(at = "part 3", it = "FIELD BEGINS: at the SEPARATOR the FIELD ends (empty), and the next one BEGINS")
    static void aSeparatorWhereAFieldBegins() {
        due("~a/", read(",a"));
        due("a~~b/", read("a,,b"));
        due("~~/", read(",,"));
        due(FIELD_BEGINS, state(","));
        due(FIELD_BEGINS, state("\n,"));
    }

    @Says(at = "part 3", it = "at a LINE END the ROW ends; at the QUOTE it is QUOTED; any other SIGN is TAKEN, and it is PLAIN.")
    static void aLineEndWhereAFieldBegins() {
        due("/", read("\n"));
        due("///", read("\n\n\n"));
        due("a~/", read("a,\n"));
        due("a//b/", read("a\n\nb"));
        due(FIELD_BEGINS, state("\n"));
    }

    @Says(at = "part 3", it = "at a LINE END the ROW ends; at the QUOTE it is QUOTED; any other SIGN is TAKEN, and it is PLAIN.")
    static void aQuoteWhereAFieldBegins() {
        due(QUOTED, state("\""));
        due(QUOTED, state("a,\""));
        due(QUOTED, state("a\n\""));
        due(QUOTED, state(4, "'"));
        due("a/", read("\"a\""));
    }

    @Says(at = "part 3", it = "at a LINE END the ROW ends; at the QUOTE it is QUOTED; any other SIGN is TAKEN, and it is PLAIN.")
    static void anyOtherSignWhereAFieldBegins() {
        for (char c : SIGNS.toCharArray()) {
            if (c == ',' || c == '\n' || c == '"') continue;
            due(PLAIN, state("" + c));
            due(PLAIN, state(ESCAPED, "" + c));
            due(c + "/", read("" + c));
            due(c + "/", read(ESCAPED, "" + c));
        }
    }

    // ---- part 3: plain

    @Says(at = "part 3", it = "PLAIN: at the SEPARATOR the FIELD ends, and the next one BEGINS")
    static void aSeparatorInAPlainField() {
        due("a~b/", read("a,b"));
        due("a~/", read("a,"));
        due(FIELD_BEGINS, state("a,"));
        due(QUOTED, state("a,\""));
    }

    @Says(at = "part 3", it = "at a LINE END the ROW ends; a QUOTE is FAULT 1, and it is TAKEN; any other SIGN is TAKEN.")
    static void aLineEndInAPlainField() {
        due("a/b/", read("a\nb"));
        due("a/", read("a\n"));
        due(FIELD_BEGINS, state("a\n"));
    }

    @Says(at = "part 3", it = "a QUOTE is FAULT 1, and it is TAKEN")
    static void aQuoteInAPlainField() {
        due("a\"/ 1@0,0,1", read("a\""));
        due("a\"\"b/ 1@0,0,1 1@0,0,2", read("a\"\"b"));
        due("a~ \"/ 1@0,1,3", read("a, \""));
        due("a\"/ 1@0,0,1", read(ESCAPED, "a\""));
        due(PLAIN, state("a\""));
        due("a'/", read("a'"));
        due("a'/ 1@0,0,1", read(4, "a'"));
    }

    @Says(at = "part 3", it = "any other SIGN is TAKEN.")
    static void anyOtherSignInAPlainField() {
        for (char c : SIGNS.toCharArray()) {
            if (c == ',' || c == '\n' || c == '"') continue;
            due("a" + c + "/", read("a" + c));
            due("a" + c + "b/", read(ESCAPED, "a" + c + "b"));
        }
        due("a\\n\\/", read(ESCAPED, "a\\n\\"));
    }

    // ---- part 3: within quotes

    @Says(at = "part 3", it = "QUOTED: at the QUOTE it is BEHIND")
    static void aQuoteWithinQuotes() {
        due(BEHIND, state("\"\""));
        due(BEHIND, state("\"a\""));
        due(BEHIND, state(ESCAPED, "\"a\""));
        due("/", read("\"\""));
    }

    @Says(at = "part 3", it = "if ESCAPED, at a backslash it is ESCAPING")
    static void aBackslashWithinQuotes() {
        due(ESCAPING, state(ESCAPED, "\"\\"));
        due(ESCAPING, state(ESCAPED, "\"a\\"));
        due(QUOTED, state("\"\\"));
        due("\\/", read("\"\\\""));
        due("\\\\/", read("\"\\\\\""));
    }

    @Says(at = "part 3", it = "any other SIGN is TAKEN (a LINE END, too)")
    static void anyOtherSignWithinQuotes() {
        for (char c : SIGNS.toCharArray()) {
            if (c == '"') continue;
            due(c + "/", read("\"" + c + "\""));
            due(QUOTED, state("\"" + c));
            if (c != '\\') due("a" + c + "/", read(ESCAPED, "\"a" + c + "\""));
        }
        due("a\n~b/", read("\"a\n\",b"));
        due(1, typed("\"\n\n\"").read(0));
    }

    // ---- part 3: behind quotes

    @Says(at = "part 3", it = "BEHIND: at the SEPARATOR the FIELD ends, and the next one BEGINS")
    static void aSeparatorBehindQuotes() {
        due("a~b/", read("\"a\",b"));
        due("~/", read("\"\","));
        due(FIELD_BEGINS, state("\"a\","));
    }

    @Says(at = "part 3", it = "at a LINE END the ROW ends; at the QUOTE, if not ESCAPED, that is TAKEN, and it is QUOTED")
    static void aLineEndBehindQuotes() {
        due("a/b/", read("\"a\"\nb"));
        due("/", read("\"\"\n"));
        due(FIELD_BEGINS, state("\"a\"\n"));
    }

    @Says(at = "part 3", it = "at the QUOTE, if not ESCAPED, that is TAKEN, and it is QUOTED")
    static void aQuoteBehindQuotes() {
        due("a\"b/", read("\"a\"\"b\""));
        due("\"/", read("\"\"\"\""));
        due("\"\"/", read("\"\"\"\"\"\""));
        due(QUOTED, state("\"\"\""));
        due("'/", read(4, "''''"));
    }

    @Says(at = "part 3", it = "any other SIGN is FAULT 2, it is TAKEN, and it is PLAIN")
    static void anyOtherSignBehindQuotes() {
        for (char c : SIGNS.toCharArray()) {
            if (c == ',' || c == '\n' || c == '"') continue;
            due("a" + c + "/ 2@0,0,3", read("\"a\"" + c));
            due(PLAIN, state("\"a\"" + c));
        }
        due("ab~c/ 2@0,0,3", read("\"a\"b,c"));
        // it is plain then: the next quote is another fault
        due("ab\"/ 2@0,0,3 1@0,0,4", read("\"a\"b\""));
    }

    @Says(at = "part 3", it = "any other SIGN is FAULT 2, it is TAKEN, and it is PLAIN")
    static void aQuoteBehindQuotesIfEscaped() {
        due("a\"/ 2@0,0,3", read(ESCAPED, "\"a\"\""));
        due("\"b/ 2@0,0,2", read(ESCAPED, "\"\"\"b"));
        due(PLAIN, state(ESCAPED, "\"a\"\""));
        due("a\\/ 2@0,0,3", read(ESCAPED, "\"a\"\\"));
    }

    // ---- part 3: escaping

    @Says(at = "part 3", it = "ESCAPING: the QUOTE or a backslash is TAKEN")
    static void aQuoteOrABackslashEscaped() {
        due("\"/", read(ESCAPED, "\"\\\"\""));
        due("\\/", read(ESCAPED, "\"\\\\\""));
        due("a\"\\b/", read(ESCAPED, "\"a\\\"\\\\b\""));
        due(QUOTED, state(ESCAPED, "\"\\\""));
        due(QUOTED, state(ESCAPED, "\"\\\\"));
        due("'/", read(4 + ESCAPED, "'\\''"));
    }

    @Says(at = "part 3", it = "any other SIGN is FAULT 3, and it is TAKEN; it is QUOTED then")
    static void anyOtherSignEscaped() {
        for (char c : SIGNS.toCharArray()) {
            if (c == '\\' || c == '"') continue;
            due("a" + c + "/ 3@0,0,3", read(ESCAPED, "\"a\\" + c + "\""));
            due(QUOTED, state(ESCAPED, "\"\\" + c));
        }
        due("\"/ 3@0,0,2", read(4 + ESCAPED, "'\\\"'"));
    }

    // ---- part 3: at the end

    @Says(at = "part 3", it = "At the end of reading: QUOTED or ESCAPING is FAULT 4 (ESCAPING a backslash is TAKEN), and the ROW ends")
    static void quotesLeftOpenAtTheEnd() {
        due("/ 4@0,0,1", read("\""));
        due("a\n/ 4@0,0,3", read("\"a\n"));
        due("a~b/ 4@0,1,4", read("a,\"b"));
        due("a/b/ 4@1,0,4", read("a\n\"b"));
        due("a\"/ 4@0,0,4", read("\"a\"\""));
    }

    @Says(at = "part 3", it = "At the end of reading: QUOTED or ESCAPING is FAULT 4 (ESCAPING a backslash is TAKEN), and the ROW ends")
    static void escapingAtTheEnd() {
        due("\\/ 4@0,0,2", read(ESCAPED, "\"\\"));
        due("a~b\\/ 4@0,1,5", read(ESCAPED, "a,\"b\\"));
        due("\\/ 4@0,0,3", read(ESCAPED, "\"\\\\"));
    }

    @Says(at = "part 3", it = "PLAIN or BEHIND: the ROW ends")
    static void aPlainFieldAndAQuotedOneAtTheEnd() {
        due("a/", read("a"));
        due("a/b/", read("a\nb"));
        due("/", read("\"\""));
        due("a~b/", read("a,\"b\""));
    }

    @Says(at = "part 3", it = "FIELD BEGINS: the ROW ends, if a FIELD of it has ended; otherwise nothing is there any more")
    static void aFieldThatBeginsAtTheEnd() {
        due("~/", read(","));
        due("a~/", read("a,"));
        due("a~b/c~/", read("a,b\nc,"));
        due("", read(""));
        due("a/", read("a\n"));
        due("/", read("\n"));
        Commadesk x = typed("a\n");
        x.read(0);
        due(1, x.desk(9));
        type(x, "").read(0);
        due(0, x.desk(9));
    }

    // ---- part 3: faults 5, 6 and 7, and strict reading

    @Says(at = "part 3", it = "As a FIELD ends that is the ninth one of its ROW or a later one: FAULT 6, and it is left out.")
    static void theNinthFieldIsLeftOut() {
        due("a~b~c~d~e~f~g~h/", read("a,b,c,d,e,f,g,h"));
        due("a~b~c~d~e~f~g~/", read("a,b,c,d,e,f,g,"));
        due("a~b~c~d~e~f~g~h/ 6@0,8,17", read("a,b,c,d,e,f,g,h,i"));
        due("a~b~c~d~e~f~g~h/ 6@0,8,16", read("a,b,c,d,e,f,g,h,"));
        due("a~b~c~d~e~f~g~h/ 6@0,8,18", read("a,b,c,d,e,f,g,h,ij\n"));
        due("a~b~c~d~e~f~g~h/ 6@0,8,19", read("a,b,c,d,e,f,g,h,\"i\"\n"));
    }

    @Says(at = "part 3", it = "As a FIELD ends that is the ninth one of its ROW or a later one: FAULT 6, and it is left out.")
    static void eachLaterFieldIsLeftOutToo() {
        due("~~~~~~~/ 6@0,8,8 6@0,9,9 6@0,10,10", read(",".repeat(10)));
        due("a/~~~~~~~/ 6@1,8,10 6@1,9,11 5@1,10,11", read("a\n" + ",".repeat(9) + "\n"));
        // the next row has its own fields again
        due("~~~~~~~/~~~~~~~/ 6@0,8,8 5@1,8,16", read(",".repeat(8) + "\n" + ",".repeat(7)));
    }

    @Says(at = "part 3", it = "if it has another number of FIELDS (those left out, too) than the first ROW that ended "
        + "(whether that was kept or not): FAULT 5")
    static void aRowWithOtherFieldsThanTheFirstOne() {
        due("a/b/", read("a\nb"));
        due("a/b~c/ 5@1,2,5", read("a\nb,c"));
        due("a~b/c/ 5@1,1,5", read("a,b\nc\n"));
        due("a~b// 5@1,1,4", read("a,b\n\n"));
        // it is the first row that counts, not the one ahead
        due("a/b~c/d/e~f/ 5@1,2,5 5@3,2,11", read("a\nb,c\nd\ne,f"));
    }

    @Says(at = "part 3", it = "if it has another number of FIELDS (those left out, too) than the first ROW that ended "
        + "(whether that was kept or not): FAULT 5")
    static void fieldsThatAreLeftOutCountToo() {
        String eight = "~~~~~~~/";
        due(eight + eight + " 6@0,8,8 5@1,8,16", read(",".repeat(8) + "\n" + ",".repeat(7) + "\n"));
        due(eight + eight + " 6@0,8,8 6@1,8,17", read(",".repeat(8) + "\n" + ",".repeat(8) + "\n"));
        due(eight + eight + " 6@1,8,16 5@1,9,16", read(",".repeat(7) + "\n" + ",".repeat(8) + "\n"));
    }

    @Says(at = "part 3", it = "if it has another number of FIELDS (those left out, too) than the first ROW that ended "
        + "(whether that was kept or not): FAULT 5")
    static void aFirstRowThatIsLeftOutCountsToo() {
        due("c~d/ 1@0,0,1 5@2,1,10", read(STRICT, "a\",b\nc,d\ne"));
        due("c/ 1@0,0,1", read(STRICT, "a\"\nc"));
        due(" 1@0,0,1 5@1,2,6 5@2,2,10", read(STRICT, "a\"\nb,c\nd,e\n"));
    }

    @Says(at = "part 3", it = "then, if 40 ROWS are kept: FAULT 7, and it is left out")
    static void theFortyFirstRowIsLeftOut() {
        due(rows("a", 40), read("a\n".repeat(40)));
        due(rows("a", 40) + " 7@40,1,81", read("a\n".repeat(41)));
        due(rows("a", 40) + " 7@40,1,81", read("a\n".repeat(40) + "b"));
        due(rows("", 40) + " 7@40,1,40 7@41,1,41", read("\n".repeat(42)));
        Commadesk x = typed("\n".repeat(42));
        x.read(1);
        due(40, x.rows(1));
        due(42, x.desk(9));
    }

    @Says(at = "part 3", it = "then, if 40 ROWS are kept: FAULT 7, and it is left out")
    static void faultsOfOneSignComeInTheirOrder() {
        due(rows("a", 40) + " 6@40,8,88 5@40,9,88 7@40,9,88", read("a\n".repeat(40) + ",".repeat(8) + "\n"));
        due(rows("a", 40) + " 4@40,1,83 5@40,2,83 7@40,2,83", read("a\n".repeat(40) + "b,\""));
    }

    @Says(at = "part 3", it = "then, if 40 ROWS are kept: FAULT 7, and it is left out")
    static void rowsLeftOutAheadDoNotFillTheForty() {
        due(rows("a", 40) + " 1@0,0,1", read(STRICT, "b\"\n" + "a\n".repeat(40)));
        due(rows("a", 40) + " 1@0,0,1 7@41,1,84", read(STRICT, "b\"\n" + "a\n".repeat(41)));
        due(rows("a", 40) + " 1@40,0,81 7@40,1,82", read(STRICT, "a\n".repeat(40) + "b\"\n"));
        due(rows("a", 39) + "c/ 1@39,0,79", read(STRICT, "a\n".repeat(39) + "b\"\nc\n"));
    }

    @Says(at = "part 3", it = "If STRICT, a ROW in which there was any FAULT is left out.")
    static void strictReadingLeavesOutRowsOfEachKindOfFault() {
        due("a~/c~/ 1@1,0,4", read(STRICT, "a,\nb\",\nc,"));
        due("a/c/ 2@1,0,5", read(STRICT, "a\n\"b\"d\nc"));
        due("a/c/ 3@1,0,4", read(STRICT + ESCAPED, "a\n\"\\b\"\nc"));
        due("a/ 4@1,0,4", read(STRICT, "a\n\"b"));
        due("a/c/ 5@1,2,5", read(STRICT, "a\nb,d\nc"));
        due(" 6@0,8,8", read(STRICT, ",".repeat(8)));
    }

    @Says(at = "part 3", it = "If STRICT, a ROW in which there was any FAULT is left out.")
    static void otherReadingKeepsRowsOfEachKindOfFault() {
        due("a~/b\"~/c~/ 1@1,0,4", read("a,\nb\",\nc,"));
        due("a/bd/c/ 2@1,0,5", read("a\n\"b\"d\nc"));
        due("a/b/c/ 3@1,0,4", read(ESCAPED, "a\n\"\\b\"\nc"));
        due("a/b/ 4@1,0,4", read("a\n\"b"));
        due("a/b~d/c/ 5@1,2,5", read("a\nb,d\nc"));
    }

    @Says(at = "part 3", it = "If STRICT, a ROW in which there was any FAULT is left out.")
    static void aFaultOfAnEarlierFieldLeavesTheRowOutToo() {
        due("d~e~f/ 1@0,0,1", read(STRICT, "a\",b,c\nd,e,f"));
        due(" 1@0,0,1", read(STRICT, "a\",b"));
    }

    @Says(at = "part 3", it = "The next FIELD BEGINS.")
    static void behindARowEverythingBeginsAnew() {
        due("b/ 1@0,0,1", read(STRICT, "a\"\nb\n"));
        due("x/b\"/ 2@0,0,2 1@1,0,5", read("\"\"x\nb\""));
        due(QUOTED, state("\"a\"b\n\""));
        due("ab/c/", read("ab\nc"));
        due("~a/b~/", read(",a\nb,"));
    }

    // ---- part 3: what a fault tells

    @Says(at = "part 3", it = "A FAULT has a KIND (1 to 7), a ROW (how many ROWS had ended ahead of it)")
    static void aFaultTellsEndedRows() {
        due("a\"/ 1@0,0,1", read("a\""));
        due("/b\"/ 1@1,0,2", read("\nb\""));
        // rows that were left out had ended, too
        due(" 1@0,0,1 1@1,0,4 1@2,0,7", read(STRICT, "a\"\nb\"\nc\""));
        due(rows("", 40) + " 7@40,1,40 1@41,0,42 7@41,1,43", read("\n".repeat(41) + "a\""));
    }

    @Says(at = "part 3", it = "a COLUMN (how many FIELDS of this ROW had ended ahead of it, so 8 of the ninth one, as it ends; "
        + "of FAULT 5 and 7 how many there are, those left out, too)")
    static void aFaultTellsEndedFields() {
        due("a\"~b\"/ 1@0,0,1 1@0,1,4", read("a\",b\""));
        due("~~~~~~~/ 6@0,8,8", read(",".repeat(8)));
        due("~~~~~~~/ 1@0,8,9 6@0,8,10", read(",".repeat(8) + "a\""));
        due("/~~~~~~~/ 6@1,8,9 6@1,9,10 5@1,10,10", read("\n" + ",".repeat(9)));
        due(rows("~~~~~~~", 32) + "~~~~~~~/ 6@32,8,264 6@32,9,265 5@32,10,265",
            read((",".repeat(7) + "\n").repeat(32) + ",".repeat(9)));
        due(rows("~", 40) + " 7@40,2,81", read(",\n".repeat(40) + ","));
        due(rows("", 40) + " 5@40,3,42 7@40,3,42", read("\n".repeat(40) + ",,"));
    }

    @Says(at = "part 3", it = "and a PLACE (how many SIGNS were read ahead of the one at which it was found, of all of them at the end)")
    static void aFaultTellsSignsOfTheReading() {
        due("a\"/ 1@0,0,1", read("a\""));
        due("/ 4@0,0,1", read("\""));
        due("a\nb/ 4@0,0,4", read("\"a\nb"));
        due("a/b~/ 5@1,2,4", read("a\nb,"));
        Commadesk x = typed("ab\"c");
        x.begin();
        x.feed(0, 2);
        x.feed(0, 2);
        x.feed(2, 4);
        x.feed(2, 3);
        x.finish(0);
        // not the place within the text, but of all that was read
        due("1@0,0,4 1@0,0,6", faults(x));
    }

    @Says(at = "part 3", it = "The first 30 of a reading are kept.")
    static void thirtyFaultsAreKept() {
        Commadesk x = typed("a" + "\"".repeat(30));
        x.read(0);
        due(30, x.desk(6));
        due(30, x.desk(7));
        due(30, x.fault(29, 3));
        type(x, "a" + "\"".repeat(29)).read(0);
        due(29, x.desk(7));
        refuses(INDEX, () -> { Commadesk y = typed("a" + "\"".repeat(29)); y.read(0); return y; }, y -> y.fault(29, 0));
    }

    @Says(at = "part 3", it = "The first 30 of a reading are kept.")
    static void theThirtyFirstFaultIsCountedButNotKept() {
        Commadesk x = typed("a" + "\"".repeat(31) + "\nb,c");
        x.read(0);
        due(32, x.desk(6));
        due(30, x.desk(7));
        due("1@0,0,1", faults(x).substring(0, 7));
        due(30, x.fault(29, 3));
        refuses(INDEX, () -> { Commadesk y = typed("a" + "\"".repeat(31)); y.read(0); return y; }, y -> y.fault(30, 0));
        // also such a fault leaves its row out of a strict reading
        due(1, type(mode(new Commadesk(), STRICT), "a" + "\"".repeat(31) + "\nb\"\nc").read(0));
    }

    @Says(at = "part 3", it = "The READER goes SIGN by SIGN, with a state")
    static void textsAreReadTheSameInParts() {
        String[] texts = {"a,b\nc", "\"a\"\"b\"\n", "\"a\"b", "a\"b", "\"\\a\\\"\\\\\",\"\\", ",".repeat(9) + "\n\n", "\"a\nb\",\n\"", "'a','\\''"};
        for (String text : texts) for (int mode = 0; mode < 8; mode++) readsTheSameInParts(mode, text);
    }

    // ---- promise 7: begin

    @Says(at = "promise 7", it = "Returns how many ROWS that had kept (also one that ended); NONE, if none had begun.")
    static void beginTellsWhatTheLastReadingKept() {
        Commadesk x = typed("a\nb\nc");
        due(-1, x.begin());
        due(0, x.begin());
        x.feed(0, 5);
        due(2, x.begin());
        x.feed(0, 5);
        x.finish(0);
        due(3, x.begin());
        x.finish(0);
        due(0, x.begin());
        due(-1, new Commadesk().begin());
        type(x, "\n".repeat(45)).read(1);
        due(40, x.begin());
        mode(x, STRICT).begin();
        type(x, "a\n\"\n").read(1);
        due(1, x.begin());
    }

    @Says(at = "promise 7", it = "A reading begins (one that had begun is gone, with its FAULTS).")
    static void aNewReadingKnowsNothingOfTheLastOne() {
        Commadesk x = typed("a,b\nc\"\n\"d");
        x.begin();
        x.feed(0, 9);
        due(2, x.desk(6));
        x.begin();
        due("9 0 0 0 0 1 0 0 0 0 0 0 0 ", desk(x));
        due("", faults(x));
        // neither its rows nor how many fields its first row had, nor what it had taken
        type(x, "e");
        x.feed(0, 1);
        due(0, x.finish(0));
        due("e/", shown(x, 0));
    }

    @Says(at = "promise 7", it = "A reading begins (one that had begun is gone, with its FAULTS).")
    static void aReadingThatStoodWithinARowIsGone() {
        Commadesk x = typed("a,b,c");
        x.begin();
        x.feed(0, 5);
        x.begin();
        x.feed(4, 5);
        due(0, x.finish(0));
        due("c/", shown(x, 0));
        due(1, x.desk(8));
        // neither do its faults leave out a row of the next one, nor is its quoted field left open
        type(mode(x, STRICT), "a\",\"b").begin();
        x.feed(0, 5);
        due(QUOTED, x.desk(10));
        x.begin();
        x.feed(4, 5);
        due(0, x.finish(0));
        due("b/", shown(x, 0));
    }

    // ---- promise 8: feed

    @Says(at = "promise 8", it = {"Reads SIGNS of the TEXT.", "Returns how many ROWS are kept."})
    static void feedOfNoSignAndOfAll() {
        Commadesk x = typed("a\nb\nc");
        x.begin();
        due(0, x.feed(0, 0));
        due(0, x.feed(5, 5));
        due(0, x.feed(3, 3));
        due(0, x.desk(8));
        due(0, x.feed(0, 1));
        due(1, x.feed(1, 2));
        due(3, x.feed(0, 5));
        due(3, x.feed(4, 5));
        due(8, x.desk(8));
        x.finish(0);
        due("a/a/b/cc/", shown(x, 0));
        Commadesk empty = new Commadesk();
        empty.begin();
        due(0, empty.feed(0, 0));
    }

    @Says(at = "promise 8", it = {"Reads SIGNS of the TEXT.", "Returns how many ROWS are kept."})
    static void feedKeepsFortyRows() {
        Commadesk x = typed("\n".repeat(300));
        x.begin();
        due(39, x.feed(0, 39));
        due(40, x.feed(0, 1));
        due(40, x.feed(0, 1));
        due(40, x.feed(0, 300));
        due(341, x.desk(9));
        due(301, x.finish(0));
        due(40, x.rows(0));
    }

    private static Commadesk reading() {
        Commadesk x = typed("a\",b");
        x.begin();
        x.feed(0, 2);
        return x;
    }

    @Says(at = "promise 8", it = "Throws `IndexOutOfBoundsException` if from is not 0 to how many SIGNS the TEXT has, or to not from to that")
    static void feedTakesPlacesOfTheText() {
        takes(INDEX, ReadingEdgesTest::reading, 0, 4, (x, n) -> x.feed(n, 4));
        takes(INDEX, ReadingEdgesTest::reading, 0, 4, (x, n) -> x.feed(0, n));
        takes(INDEX, ReadingEdgesTest::reading, 2, 4, (x, n) -> x.feed(2, n));
        takes(INDEX, ReadingEdgesTest::reading, 4, 4, (x, n) -> x.feed(4, n));
        refuses(INDEX, ReadingEdgesTest::reading, x -> x.feed(5, 5));
        refuses(INDEX, ReadingEdgesTest::reading, x -> x.feed(-1, -1));
        refuses(INDEX, ReadingEdgesTest::reading, x -> x.feed(3, 2));
        refuses(INDEX, ReadingEdgesTest::reading, x -> x.feed(MIN, MAX));
    }

    @Says(at = "promise 8", it = "Throws `IllegalStateException` if no reading has begun, or it ended")
    static void feedNeedsAReadingUnderWay() {
        refuses(STATE, () -> typed("abc"), x -> x.feed(0, 3));
        refuses(STATE, () -> typed("abc"), x -> x.feed(0, 0));
        refuses(STATE, ReadingEdgesTest::ended, x -> x.feed(0, 3));
        refuses(STATE, () -> { Commadesk x = typed("abc"); x.read(0); return x; }, x -> x.feed(0, 3));
    }

    private static Commadesk ended() {
        Commadesk x = typed("abc");
        x.begin();
        x.finish(0);
        return x;
    }

    @Says(at = "part 5", it = "If several exceptions apply, the one that is named first is thrown")
    static void feedNamesThePlacesFirst() {
        refuses(INDEX, () -> typed("abc"), x -> x.feed(0, 4));
        refuses(INDEX, () -> typed("abc"), x -> x.feed(-1, 0));
        refuses(INDEX, ReadingEdgesTest::ended, x -> x.feed(2, 1));
    }

    // ---- promise 9: finish

    @Says(at = "promise 9", it = "The reading ends: a TABLE has just the ROWS that were kept")
    static void theTableHasJustTheRowsThatWereKept() {
        Commadesk x = type(of("x~y/z/", "q/"), "a,b\n");
        x.begin();
        x.feed(0, 4);
        due(0, x.finish(0));
        due("a~b/ + q/", both(x));
        x.begin();
        due(0, x.finish(1));
        due("a~b/ + ", both(x));
        type(mode(x, STRICT), "a\"").begin();
        x.feed(0, 2);
        due(1, x.finish(0));
        due(" + ", both(x));
    }

    @Says(at = "promise 9", it = "(the FAULTS can be asked till another reading begins)")
    static void faultsCanBeAskedTillAnotherReadingBegins() {
        Commadesk x = typed("a\"");
        x.begin();
        x.feed(0, 2);
        due("1@0,0,1", faults(x));
        x.finish(0);
        due("1@0,0,1", faults(x));
        x.wipe();
        x.insert(0, 0, 1);
        x.undo();
        mode(x, 31);
        due("1@0,0,1", faults(x));
        x.begin();
        due("", faults(x));
        due(0, x.desk(6));
    }

    @Says(at = "promise 9", it = "Returns how many FAULTS there were (also such as were not kept).")
    static void finishCountsFaultsThatWereNotKept() {
        Commadesk x = typed("a" + "\"".repeat(299));
        x.begin();
        x.feed(0, 300);
        due(299, x.finish(0));
        due(30, x.desk(7));
        x.begin();
        x.feed(0, 31);
        due(30, x.finish(0));
        x.begin();
        x.feed(0, 32);
        due(31, x.finish(0));
        x.begin();
        due(0, x.finish(0));
    }

    @Says(at = "promise 9", it = "Returns how many FAULTS there were (also such as were not kept).")
    static void finishCountsFaultsOfTheEndToo() {
        Commadesk x = typed("a\n,\"");
        x.begin();
        x.feed(0, 4);
        due(0, x.desk(6));
        due(2, x.finish(0));
        due("4@1,1,4 5@1,2,4", faults(x));
    }

    @Says(at = "promise 9", it = "Throws `IndexOutOfBoundsException` if there is no such TABLE")
    static void finishTakesTwoTables() { takesTables(Trial::busy, (x, n) -> x.finish(n)); }

    @Says(at = "promise 9", it = "Throws `IllegalStateException` if no reading has begun, or it ended")
    static void finishNeedsAReadingUnderWay() {
        refuses(STATE, () -> typed("abc"), x -> x.finish(0));
        refuses(STATE, ReadingEdgesTest::ended, x -> x.finish(1));
        refuses(STATE, () -> { Commadesk x = typed("abc"); x.read(0); return x; }, x -> x.finish(0));
    }

    @Says(at = "part 5", it = "If several exceptions apply, the one that is named first is thrown")
    static void finishNamesTheTableFirst() {
        refuses(INDEX, () -> typed("abc"), x -> x.finish(2));
        refuses(INDEX, ReadingEdgesTest::ended, x -> x.finish(-1));
    }

    // ---- promise 10: read

    @Says(at = "promise 10", it = {"Reads the whole TEXT: as begin(), feed() of all, and finish().", "Returns how many ROWS it has then."})
    static void readOfAnEmptyText() {
        Commadesk x = of("a/", "b/");
        due(0, x.read(0));
        due(" + b/", both(x));
        due("0 0 0 0 0 2 0 0 0 0 0 3 0 ", desk(x));
        due(2, x.undo());
        due("a/ + b/", both(x));
    }

    @Says(at = "promise 10", it = {"Reads the whole TEXT: as begin(), feed() of all, and finish().", "Returns how many ROWS it has then."})
    static void readOfAFullTextAndOfMoreThanFortyRows() {
        Commadesk x = typed("ab,".repeat(100));
        due(1, x.read(0));
        due(300, x.desk(8));
        due(8, x.fields(0, 0));
        due(40, type(x, "\n".repeat(300)).read(1));
        due(300, x.desk(9));
        due(39, type(x, "\n".repeat(39)).read(1));
        due(40, type(x, "\n".repeat(39) + "a").read(1));
    }

    @Says(at = "promise 10", it = {"Reads the whole TEXT: as begin(), feed() of all, and finish().", "Returns how many ROWS it has then."})
    static void readIsAsTheThreeCalls() {
        Commadesk x = type(mode(of("q/", "r/"), 7), "\"a\\b',\nc,'\\'',\n'");
        Commadesk y = type(mode(of("q/", "r/"), 7), "\"a\\b',\nc,'\\'',\n'");
        x.begin();
        x.feed(0, x.desk(0));
        x.finish(1);
        due(x.rows(1), y.read(1));
        due(afterwards(x), afterwards(y));
    }

    @Says(at = "promise 10", it = "Reads the whole TEXT: as begin(), feed() of all, and finish().")
    static void aReadingThatWasUnderWayIsGone() {
        Commadesk x = typed("a\"b");
        x.begin();
        x.feed(0, 3);
        type(x, "c");
        due(1, x.read(0));
        due("c/", shown(x, 0));
        due("", faults(x));
        refuses(STATE, () -> { Commadesk y = typed("a"); y.begin(); y.read(0); return y; }, y -> y.finish(0));
    }

    @Says(at = "promise 10", it = "Throws `IndexOutOfBoundsException` if there is no such TABLE")
    static void readTakesTwoTables() {
        takesTables(Trial::busy, (x, n) -> x.read(n));
        takesTables(Commadesk::new, (x, n) -> x.read(n));
    }

    // ---- promise 13: readFixed

    private static String fixed(int width, String text) {
        Commadesk x = typed(text);
        int many = x.readFixed(0, width);
        due(many, x.rows(0));
        return shown(x, 0);
    }

    @Says(at = "promise 13", it = "each of its lines (up to a LINE END, or the end, if there are SIGNS ahead of that) is a ROW")
    static void theLastLineNeedsSigns() {
        due("", fixed(1, ""));
        due("a/", fixed(1, "a"));
        due("a/", fixed(1, "a\n"));
        due("a/b/", fixed(1, "a\nb"));
        due("a//", fixed(1, "a\n\n"));
        due("a//", fixed(1, "a\n "));
        Commadesk x = of("a/b/");
        due(0, x.readFixed(0, 1));
        due(0, x.rows(0));
    }

    @Says(at = "promise 13", it = "its FIELDS are so many SIGNS each, the last one what is left (never none behind others)")
    static void aLineOfJustSoManySigns() {
        due("ab/", fixed(3, "ab"));
        due("abc/", fixed(3, "abc"));
        due("abc~d/", fixed(3, "abcd"));
        due("abc~de/", fixed(3, "abcde"));
        due("abc~def/", fixed(3, "abcdef\n"));
        due("abc~def~g/", fixed(3, "abcdefg\n"));
        due("a~b~c/", fixed(1, "abc"));
        due("a".repeat(40) + "~a/", fixed(40, "a".repeat(41)));
        due("a,b~\"c\"/", fixed(3, "a,b\"c\""));
    }

    @Says(at = "promise 13", it = "each without the blanks at its end (of blanks alone none is left)")
    static void blanksAtTheEndOfAFieldAreLeftOut() {
        due("a~b/", fixed(3, "a  b  "));
        due(" a~ b/", fixed(3, " a  b "));
        due("a b~c/", fixed(3, "a bc"));
        due("~a/", fixed(2, "  a"));
        due("/", fixed(2, "  "));
        due("/", fixed(2, " "));
        // a field of blanks alone is there, and empty, at the end of its line, too
        due("a~/", fixed(2, "a   "));
        due("a~/", fixed(2, "a  "));
        due("a~~/", fixed(1, "a  \n"));
        due("~~/", fixed(2, "      "));
    }

    @Says(at = "promise 13", it = "an empty line is one empty FIELD")
    static void anEmptyLineIsOneEmptyField() {
        due("/", fixed(3, "\n"));
        due("//", fixed(3, "\n\n"));
        due("a//b/", fixed(3, "a\n\nb"));
        Commadesk x = typed("\n");
        x.readFixed(1, 40);
        due(1, x.fields(1, 0));
    }

    @Says(at = "promise 13", it = "The first 40 lines count")
    static void fortyLinesCount() {
        due(rows("a", 39) + "b/", fixed(1, "a\n".repeat(39) + "b"));
        due(rows("a", 40), fixed(1, "a\n".repeat(40)));
        due(rows("a", 40), fixed(1, "a\n".repeat(40) + "b"));
        due(rows("", 40), fixed(40, "\n".repeat(300)));
    }

    @Says(at = "promise 13", it = "and of each the first 8 FIELDS (the eighth one has so many SIGNS at most, too)")
    static void eightFieldsCount() {
        due("a~b~c~d~e~f~g~h/", fixed(1, "abcdefgh"));
        due("a~b~c~d~e~f~g~h/", fixed(1, "abcdefghi"));
        due("aa~bb~cc~dd~ee~ff~gg~h/", fixed(2, "aabbccddeeffggh"));
        due("aa~bb~cc~dd~ee~ff~gg~hh/z/", fixed(2, "aabbccddeeffgghhijk\nz"));
        due("aa~bb~cc~dd~ee~ff~gg~h/", fixed(2, "aabbccddeeffggh ijk"));
        due("~~~~~~~/", fixed(37, " ".repeat(300)));
        due(7 * 40 + 20, fixed(40, "a".repeat(300)).length() - 8);
    }

    @Says(at = "promise 13", it = "Returns how many ROWS it has then.")
    static void theTableHasJustTheLinesOfTheLastText() {
        Commadesk x = typed("abc\nd\n");
        due(2, x.readFixed(0, 2));
        due(2, x.readFixed(1, 1));
        due("ab~c/d/ + a~b~c/d/", both(x));
        due(1, type(x, "ef").readFixed(0, 3));
        due("ef/ + a~b~c/d/", both(x));
        due(0, type(x, "").readFixed(1, 3));
        due("ef/ + ", both(x));
    }

    @Says(at = "promise 13", it = "Throws `IndexOutOfBoundsException` if there is no such TABLE")
    static void readFixedTakesTwoTables() { takesTables(Trial::busy, (x, n) -> x.readFixed(n, 2)); }

    @Says(at = "promise 13", it = "Throws `IllegalArgumentException` if width is not 1 to 40")
    static void readFixedTakesWidthsOfOneToForty() {
        takes(ARGUMENT, Trial::busy, 1, 40, (x, n) -> x.readFixed(0, n));
        takes(ARGUMENT, Commadesk::new, 1, 40, (x, n) -> x.readFixed(1, n));
    }

    @Says(at = "part 5", it = "If several exceptions apply, the one that is named first is thrown")
    static void readFixedNamesTheTableFirst() {
        refuses(INDEX, Trial::busy, x -> x.readFixed(2, 0));
        refuses(INDEX, Trial::busy, x -> x.readFixed(-1, 41));
    }

    // ---- promise 43: guess

    private static int guess(int mode, String text) { return type(mode(new Commadesk(), mode), text).guess(); }

    @Says(at = "promise 43", it = "if the first three ROWS, or as many as there are, at least one, have all as many FIELDS")
    static void guessLooksAtThreeRowsAtMost() {
        due(-1, guess(0, ""));
        due(0, guess(0, "a,b"));
        due(0, guess(0, "a,b\nc,d"));
        due(0, guess(0, "a,b\nc,d\ne,f"));
        due(-1, guess(0, "a,b\nc"));
        due(-1, guess(0, "a,b\nc,d\ne"));
        due(0, guess(0, "a,b\nc,d\ne,f\ng"));
        due(0, guess(0, "a,b\nc,d\ne,f\ng,h,i"));
        due(-1, guess(0, "a\nb,c\nd,e"));
        due(0, guess(0, ",\n".repeat(45)));
    }

    @Says(at = "promise 43", it = "(of those that are kept)")
    static void guessCountsFieldsThatAreKept() {
        due(0, guess(0, ",".repeat(7) + "\n" + ",".repeat(12)));
        due(0, guess(0, ",".repeat(9) + "\n" + ",".repeat(8) + "\n" + ",".repeat(7)));
        due(-1, guess(0, ",".repeat(7) + "\n" + ",".repeat(6)));
        // eight of each are kept, so neither has more
        due(0, guess(0, ",".repeat(7) + ";".repeat(20)));
    }

    @Says(at = "promise 43", it = "at least two, it is one that can be")
    static void guessNeedsTwoFields() {
        due(-1, guess(0, "a"));
        due(-1, guess(0, "\n\n\n"));
        due(3, guess(0, "a:"));
        due(2, guess(0, "|"));
    }

    @Says(at = "promise 43", it = "of these that with the most FIELDS, of several the smallest; NONE.")
    static void guessTakesTheMostFieldsThenTheSmallest() {
        due(0, guess(0, "a:b|c;d,e"));
        due(1, guess(0, "a:b|c;d"));
        due(3, guess(0, "a,b:c:d"));
        due(2, guess(0, "a,b;c|d|e:f"));
        due(2, guess(0, "a|b|c;d,e"));
        due(1, guess(0, "a|b|c;d;e,f"));
        due(-1, guess(0, "a.b"));
    }

    @Says(at = "promise 43", it = "the TEXT is read by each one (QUOTE and ESCAPED as in MODE, not STRICT)")
    static void guessGoesByTheQuoteOfTheMode() {
        due(1, guess(0, "\"a,b,c\";d"));
        due(0, guess(4, "\"a,b,c\";d"));
        due(1, guess(4, "'a,b,c';d"));
    }

    @Says(at = "promise 43", it = "the TEXT is read by each one (QUOTE and ESCAPED as in MODE, not STRICT)")
    static void guessGoesByTheEscapingOfTheMode() {
        due(1, guess(ESCAPED, "\"a\\\",b,c\";d"));
        due(0, guess(0, "\"a\\\",b,c\";d"));
    }

    @Says(at = "promise 43", it = "the TEXT is read by each one (QUOTE and ESCAPED as in MODE, not STRICT)")
    static void guessIsNotStrict() {
        due(0, guess(STRICT, "a\",b"));
        due(-1, guess(STRICT, "a\"\nb,c\nd,e"));
        due(0, guess(STRICT, ",".repeat(9)));
        for (int separator = 0; separator < 4; separator++) due(1, guess(8 * separator + STRICT, "a;b"));
    }

    @Says(at = "promise 43", it = "at least one, have all as many FIELDS")
    static void guessKnowsNothingOfWhatItReadAhead() {
        Commadesk x = typed("a,b");
        due(0, x.guess());
        due(-1, type(x, "").guess());
        due(3, type(x, "a:b").guess());
        due(-1, type(x, "").guess());
        due(1, type(x, "a;b").guess());
        due(-1, type(x, "a").guess());
        due(-1, type(x, "\"|a").guess());
        due(2, type(x, "a|b").guess());
    }

    // ---- promise 46: fault

    private static Commadesk faulty() {
        Commadesk x = typed("a\nb,c\"\n\"d");
        x.read(0);
        return x;
    }

    @Says(at = "promise 46", it = "`what`: 0 KIND, 1 ROW, 2 COLUMN, 3 PLACE")
    static void eachPartOfAFault() {
        due("1@1,1,5 5@1,2,6 4@2,0,9", faults(faulty()));
    }

    @Says(at = "promise 46", it = "Throws `IndexOutOfBoundsException` if there is no such one that is kept")
    static void faultTakesThoseThatAreKept() {
        takes(INDEX, ReadingEdgesTest::faulty, 0, 2, (x, n) -> x.fault(n, 0));
        refuses(INDEX, Commadesk::new, x -> x.fault(0, 0));
        refuses(INDEX, ReadingEdgesTest::reading, x -> x.fault(1, 3));
        refuses(INDEX, () -> { Commadesk x = faulty(); x.begin(); return x; }, x -> x.fault(0, 0));
        takes(INDEX, () -> { Commadesk x = typed("a" + "\"".repeat(60)); x.read(0); return x; }, 0, 29, (x, n) -> x.fault(n, 3));
    }

    @Says(at = "promise 46", it = "Throws `IllegalArgumentException` if what is not 0 to 3")
    static void aFaultHasFourParts() { takes(ARGUMENT, ReadingEdgesTest::faulty, 0, 3, (x, n) -> x.fault(0, n)); }

    @Says(at = "part 5", it = "If several exceptions apply, the one that is named first is thrown")
    static void faultNamesWhichOneFirst() {
        refuses(INDEX, ReadingEdgesTest::faulty, x -> x.fault(3, 4));
        refuses(INDEX, Commadesk::new, x -> x.fault(0, -1));
    }

    public static void main(String[] args) throws Exception { run(ReadingEdgesTest.class); }
}
