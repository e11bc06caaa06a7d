/** Boundary cases of signs, the text and the mode: the document's part 1, its promises 1 to 6 and 30. */
public final class TextEdgesTest extends Trial {
    // ---- part 1: signs

    @Says(at = "part 1", it = "SIGNS are told by numbers: 0 to 9 the digits \"0\" to \"9\"")
    static void theFirstAndTheLastDigit() {
        due("0", one(0));
        due("9", one(9));
        for (int n = 0; n <= 9; n++) due((char) ('0' + n) + "", one(n));
    }

    @Says(at = "part 1", it = "10 to 35 the letters \"a\" to \"z\"")
    static void theFirstAndTheLastLetter() {
        due("a", one(10));
        due("z", one(35));
        for (int n = 10; n <= 35; n++) due((char) ('a' + n - 10) + "", one(n));
    }

    @Says(at = "part 1", it = "36 \",\", 37 \";\", 38 \"|\", 39 \":\", 40 the double quote, 41 the single quote, 42 the LINE END (the line feed), "
        + "43 \".\", 44 \"-\", 45 the backslash, 46 the blank, 47 \"#\", 48 \"=\", 49 \"<\", 50 \">\", 51 \"&\", 52 \"!\"")
    static void theOtherSigns() {
        String[] want = {",", ";", "|", ":", "\"", "'", "\n", ".", "-", "\\", " ", "#", "=", "<", ">", "&", "!"};
        for (int n = 36; n <= 52; n++) due(want[n - 36], one(n));
    }

    private static String one(int sign) {
        Commadesk x = new Commadesk();
        x.type(sign);
        return x.text();
    }

    @Says(at = "part 1", it = "The TEXT is a row of at most 300 SIGNS (empty at first)")
    static void theTextIsEmptyAtFirst() {
        due("", new Commadesk().text());
        due(0, new Commadesk().desk(0));
        due(0, new Commadesk().wipe());
    }

    @Says(at = "part 1", it = "The TEXT is a row of at most 300 SIGNS (empty at first)")
    static void theTextHoldsThreeHundredSignsOfEachKind() {
        Commadesk x = new Commadesk();
        StringBuilder want = new StringBuilder();
        for (int i = 0; i < 300; i++) {
            due(i + 1, x.type(i % 53));
            want.append(SIGNS.charAt(i % 53));
        }
        due(want.toString(), x.text());
        due(300, x.desk(0));
    }

    // ---- part 1: which text is the lesser one

    /** Whether the one text comes ahead of the other one: sorted, grouped, and told as a difference. */
    private static boolean isLess(String one, String two) {
        Commadesk x = of(two + "/" + one + "/");
        x.sort(0, 0, 0, false, 0);
        boolean isSorted = shown(x, 0).equals(one + "/" + two + "/");
        x.group(0, 0, 7);
        due("grouped as sorted", isSorted, x.cell(1, 0, 0).equals(one));
        x = of(two + "/", one + "/");
        due("told as sorted", isSorted ? "+" + one + "\n-" + two + "\n" : "-" + two + "\n+" + one + "\n", x.differences(0));
        return isSorted;
    }

    @Says(at = "part 1", it = "the lesser one is that which has the lesser sign at the first place at which they differ")
    static void theFirstPlaceAtWhichTextsDifferCounts() {
        due(true, isLess("a", "b"));
        due(false, isLess("b", "a"));
        due(true, isLess("az", "ba"));
        due(false, isLess("ba", "az"));
        due(true, isLess("aab", "aba"));
        due(true, isLess("abcdefa", "abcdefb"));
        due(false, isLess("abcdefb", "abcdefa"));
        due(true, isLess("ab", "b"));
        due(false, isLess("b", "ab"));
        due(true, isLess("10", "9"));
    }

    @Says(at = "part 1", it = "or is the beginning of the other one")
    static void theBeginningOfATextIsLess() {
        due(true, isLess("a", "ab"));
        due(false, isLess("ab", "a"));
        due(true, isLess("ab", "ab\n"));
        due(false, isLess("ab\n", "ab"));
        due(true, isLess("", "\n"));
        due(false, isLess("\n", ""));
        due(true, isLess("", "a"));
    }

    @Says(at = "part 1", it = "signs in the order: LINE END, blank, \"!\", double quote, \"#\", \"&\", single quote, \",\", \"-\", \".\", digits, "
        + "\":\", \";\", \"<\", \"=\", \">\", backslash, letters, \"|\"")
    static void signsStandInTheirOrder() {
        for (int at = 0; at + 1 < RISING.length(); at++) {
            String less = RISING.charAt(at) + "", more = RISING.charAt(at + 1) + "";
            due(less + more, true, isLess(less, more));
            due(more + less, false, isLess(more, less));
        }
    }

    @Says(at = "part 1", it = "signs in the order: LINE END, blank, \"!\", double quote, \"#\", \"&\", single quote, \",\", \"-\", \".\", digits, "
        + "\":\", \";\", \"<\", \"=\", \">\", backslash, letters, \"|\"")
    static void fortySignsAtOnceAreSortedByTheirOrder() {
        for (int from : new int[] {0, 13}) {
            StringBuilder rising = new StringBuilder(), falling = new StringBuilder();
            for (int at = from; at < from + 40; at++) {
                rising.append(RISING.charAt(at)).append('/');
                falling.insert(0, RISING.charAt(at) + "/");
            }
            Commadesk x = of(falling.toString());
            x.sort(0, 0, 0, false, 0);
            due(rising.toString(), shown(x, 0));
            x.sort(0, 0, 0, true, 0);
            due(falling.toString(), shown(x, 0));
        }
    }

    // ---- part 1: mode

    @Says(at = "part 1", it = "(at first 0, 0, neither)")
    static void theFirstMode() {
        Commadesk x = new Commadesk();
        for (int what = 1; what <= 4; what++) due(0, x.desk(what));
        due(0, x.mode(3, 1, true, true));
    }

    @Says(at = "part 1", it = "a SEPARATOR (0 \",\", 1 \";\", 2 \"|\", 3 \":\")")
    static void eachSeparatorPartsAndIsWritten() {
        String[] signs = {",", ";", "|", ":"};
        for (int separator = 0; separator < 4; separator++) {
            Commadesk x = type(mode(new Commadesk(), 8 * separator), "a,b;c|d:e");
            x.read(0);
            due(2, x.fields(0, 0));
            due("a,b;c|d:e".indexOf(signs[separator]), x.cell(0, 0, 0).length());
            fill(x, 0, "a~b/");
            mode(x, 8 * separator).write(0, false);
            due("a" + signs[separator] + "b\n", x.text());
        }
    }

    @Says(at = "part 1", it = "a QUOTE (0 the double one, 1 the single one)")
    static void eachQuoteQuotesAndIsWritten() {
        Commadesk x = typed("\"a,\",'b,'");
        x.read(0);
        due("a,~'b~'/", shown(x, 0));
        mode(x, 4).read(0);
        due("\"a~\"~b,/", shown(x, 0));
        fill(x, 0, "a/").write(0, true);
        due("\"a\"\n", x.text());
        mode(x, 4).write(0, true);
        due("'a'\n", x.text());
    }

    // ---- promise 1

    @Says(at = "promise 1", it = "Creates two empty TABLES and an empty TEXT.")
    static void aNewObjectIsEmpty() {
        Commadesk x = new Commadesk();
        due("", x.text());
        due(" + ", both(x));
        for (int what = 0; what <= 12; what++) due(0, x.desk(what));
        due(true, x.isEven(0) && x.isEven(1));
        refuses(STATE, Commadesk::new, Commadesk::undo);
        refuses(INDEX, Commadesk::new, y -> y.fault(0, 0));
    }

    @Says(at = "promise 1", it = "Creates two empty TABLES and an empty TEXT.")
    static void objectsShareNothing() {
        Commadesk x = busy();
        Commadesk y = new Commadesk();
        due("", y.text());
        due(" + ", both(y));
        fill(y, 0, "q/").wipe();
        due(told(busy()), told(x));
    }

    // ---- promise 2: type

    @Says(at = "promise 2", it = "Types a SIGN at the end of the TEXT.")
    static void aSignComesBehindTheOthers() {
        Commadesk x = typed("ab");
        due(3, x.type(12));
        due("abc", x.text());
        x.rub(1);
        due(3, x.type(42));
        due("ab\n", x.text());
    }

    @Says(at = "promise 2", it = "Throws `IllegalArgumentException` if sign is not 0 to 52")
    static void thereAreFiftyThreeSigns() { takes(ARGUMENT, Trial::busy, 0, 52, (x, n) -> x.type(n)); }

    @Says(at = "promise 2", it = "Throws `IllegalStateException` if it has 300")
    static void aTextOfThreeHundredSignsGetsNoMore() {
        Commadesk x = typed("a".repeat(298));
        due(299, x.type(11));
        due(300, x.type(12));
        refuses(STATE, () -> typed("a".repeat(300)), y -> y.type(0));
        refuses(STATE, () -> typed("a".repeat(300)), y -> y.type(52));
        x.rub(1);
        due(300, x.type(13));
    }

    @Says(at = "part 5", it = "If several exceptions apply, the one that is named first is thrown")
    static void typeNamesTheSignFirst() {
        refuses(ARGUMENT, () -> typed("a".repeat(300)), x -> x.type(53));
        refuses(ARGUMENT, () -> typed("a".repeat(300)), x -> x.type(-1));
    }

    // ---- promise 3: rub

    @Says(at = "promise 3", it = "`many`: how many at most")
    static void rubTakesAtMostWhatIsThere() {
        Commadesk x = typed("abc");
        due(2, x.rub(1));
        due("ab", x.text());
        due(0, x.rub(2));
        due("", x.text());
        due(0, x.rub(1));
        due(0, x.rub(300));
        due(0, type(x, "abc").rub(4));
        due(0, type(x, "abc").rub(300));
        due("", x.text());
    }

    @Says(at = "promise 3", it = "Returns how many it has then.")
    static void rubOfAFullText() {
        due(1, typed("a".repeat(300)).rub(299));
        due(0, typed("a".repeat(300)).rub(300));
        due(299, typed("a".repeat(300)).rub(1));
    }

    @Says(at = "promise 3", it = "Throws `IllegalArgumentException` if many is not 1 to 300")
    static void rubTakesOneToThreeHundred() {
        takes(ARGUMENT, Trial::busy, 1, 300, (x, n) -> x.rub(n));
        refuses(ARGUMENT, Commadesk::new, x -> x.rub(0));
    }

    // ---- promise 4: wipe

    @Says(at = "promise 4", it = {"Empties the TEXT.", "Returns how many SIGNS it had."})
    static void wipeOfAnEmptyAndOfAFullText() {
        Commadesk x = new Commadesk();
        due(0, x.wipe());
        due(300, type(x, "a".repeat(300)).wipe());
        due("", x.text());
        due(0, x.wipe());
        due(1, x.type(5));
    }

    // ---- promise 5: take

    @Says(at = "promise 5", it = {"The TEXT becomes a FIELD.", "Returns how many SIGNS it has then."})
    static void anEmptyFieldIsTakenToo() {
        Commadesk x = type(of("~a/", "b/"), "xyz");
        due(0, x.take(0, 0, 0));
        due("", x.text());
        due(1, x.take(0, 0, 1));
        due("a", x.text());
        due(1, x.take(1, 0, 0));
        due("b", x.text());
        due("~a/ + b/", both(x));
    }

    @Says(at = "promise 5", it = "Throws `IndexOutOfBoundsException` if there is no such TABLE, ROW of it, or FIELD of that")
    static void onlyFieldsThatAreThereAreTaken() {
        takesTables(Trial::busy, (x, n) -> x.take(n, 0, 0));
        takes(INDEX, Trial::busy, 0, 2, (x, n) -> x.take(0, n, 0));
        takes(INDEX, Trial::busy, 0, 1, (x, n) -> x.take(0, 2, n));
        refuses(INDEX, Commadesk::new, x -> x.take(0, 0, 0));
        refuses(INDEX, () -> of("", "a/"), x -> x.take(0, 0, 0));
        // a field that another row has, but not this one
        refuses(INDEX, () -> of("a~b/c/"), x -> x.take(0, 1, 1));
        accepts(() -> of(rows("a~b~c~d~e~f~g~h", 40)), x -> x.take(0, 39, 7));
        refuses(INDEX, () -> of(rows("a~b~c~d~e~f~g~h", 40)), x -> x.take(0, 39, 8));
        refuses(INDEX, () -> of(rows("a~b~c~d~e~f~g~h", 40)), x -> x.take(0, 40, 7));
    }

    @Says(at = "promise 5", it = "Throws `IllegalStateException` if that has more than 300")
    static void aFieldOfMoreThanThreeHundredSignsIsNotTaken() {
        Commadesk x = of("a".repeat(300) + "~b/");
        due(300, x.take(0, 0, 0));
        due("a".repeat(300), x.text());
        refuses(STATE, () -> of("a".repeat(301) + "~b/"), y -> y.take(0, 0, 0));
        refuses(STATE, () -> type(of("", "a~" + "b".repeat(601) + "/"), "xyz"), y -> y.take(1, 0, 1));
        due(1, of("a".repeat(301) + "~b/").take(0, 0, 1));
    }

    // ---- promise 6: mode

    @Says(at = "promise 6", it = "Returns 8 * SEPARATOR + 4 * QUOTE + 2 if ESCAPED + 1 if STRICT, as it was before.")
    static void allModesAreToldAsTheyWereBefore() {
        Commadesk x = new Commadesk();
        int before = 0;
        for (int i = 0; i < 32; i++) {
            int now = (i * 13 + 31) % 32;
            due(before, x.mode(now / 8, now / 4 % 2, now / 2 % 2 == 1, now % 2 == 1));
            due(now / 8, x.desk(1));
            due(now / 4 % 2, x.desk(2));
            due(now / 2 % 2, x.desk(3));
            due(now % 2, x.desk(4));
            before = now;
        }
    }

    @Says(at = "promise 6", it = "Throws `IllegalArgumentException` if separator is not 0 to 3, or quote not 0 or 1")
    static void thereAreFourSeparatorsAndTwoQuotes() {
        takes(ARGUMENT, Trial::busy, 0, 3, (x, n) -> x.mode(n, 0, false, false));
        takes(ARGUMENT, Trial::busy, 0, 1, (x, n) -> x.mode(0, n, false, false));
        refuses(ARGUMENT, Trial::busy, x -> x.mode(4, 2, true, true));
        refuses(ARGUMENT, Trial::busy, x -> x.mode(3, 2, true, true));
        refuses(ARGUMENT, Trial::busy, x -> x.mode(4, 1, true, true));
    }

    /** Reads one text in two parts, with a mode told between them. */
    private static String withModeBetween(int first, String ahead, int then, String behind) {
        Commadesk x = type(mode(new Commadesk(), first), ahead);
        x.begin();
        x.feed(0, ahead.length());
        type(mode(x, then), behind).feed(0, behind.length());
        x.finish(0);
        due("the mode that was told stays", then, 8 * x.desk(1) + 4 * x.desk(2) + 2 * x.desk(3) + x.desk(4));
        return shown(x, 0) + " " + faults(x);
    }

    @Says(at = "promise 6", it = "(a reading that has begun goes on by the one with which it began)")
    static void aReadingGoesOnByItsSeparator() { due("a~b;c/ ", withModeBetween(0, "a", 8, ",b;c")); }

    @Says(at = "promise 6", it = "(a reading that has begun goes on by the one with which it began)")
    static void aReadingGoesOnByItsQuote() { due("a~b,~'c'/ ", withModeBetween(0, "a,", 4, "\"b,\",'c'")); }

    @Says(at = "promise 6", it = "(a reading that has begun goes on by the one with which it began)")
    static void aReadingGoesOnByItsEscaping() {
        due("a\\b/ ", withModeBetween(0, "\"a", 2, "\\b\""));
        due("a\\b/ ", withModeBetween(2, "\"a", 0, "\\\\b\""));
    }

    @Says(at = "promise 6", it = "(a reading that has begun goes on by the one with which it began)")
    static void aReadingGoesOnByItsStrictness() {
        due("a\"/ 1@0,0,1", withModeBetween(0, "a", 1, "\""));
        due(" 1@0,0,1", withModeBetween(1, "a", 0, "\""));
    }

    @Says(at = "promise 6", it = "(a reading that has begun goes on by the one with which it began)")
    static void theNextReadingGoesByTheModeThatWasTold() {
        Commadesk x = typed("a;b,c");
        x.begin();
        mode(x, 8).feed(0, 3);
        x.begin();
        x.feed(0, 5);
        x.finish(0);
        due("a~b,c/", shown(x, 0));
        mode(x, 0).read(0);
        due("a;b~c/", shown(x, 0));
    }

    // ---- promise 30: text

    @Says(at = "promise 30", it = "Returns the TEXT.")
    static void theTextEmptyAndFull() {
        due("", new Commadesk().text());
        String all = (SIGNS.repeat(6)).substring(0, 300);
        due(all, typed(all).text());
    }

    public static void main(String[] args) throws Exception { run(TextEdgesTest.class); }
}
