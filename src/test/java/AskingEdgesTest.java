import java.math.BigInteger;
import java.util.ArrayList;
import java.util.Arrays;
import java.util.Comparator;
import java.util.LinkedHashMap;
import java.util.List;
import java.util.Map;
import java.util.function.Function;

/** Boundary cases of what is asked: the document's parts 4 and 5, its promises 35 to 39, 42, 44, 45 and 47 to 50. */
public final class AskingEdgesTest extends Trial {
    private static final String EIGHT = "a~b~c~d~e~f~g~h";

    /** The type of a text, as the column's type and as what is wrong in it tell it. */
    private static int type(String text) {
        Commadesk x = of(text + "/");
        int type = x.typeOf(0, 0, 0);
        for (int asked = 1; asked <= 5; asked++) {
            boolean isOf = type == 0 || asked == 5 || asked == type || asked == 2 && type == 1;
            due(text + " of type " + asked, isOf ? -1 : 0, x.wrong(0, 0, asked));
        }
        return type;
    }

    private static void all(int want, String... texts) {
        for (String text : texts) due(text, want, type(text));
    }

    // ---- part 4: types

    @Says(at = "part 4", it = "0 EMPTY: no SIGN")
    static void emptyIsNoSign() {
        all(0, "");
        all(5, " ", "\n", "\"", "#");
    }

    @Says(at = "part 4", it = "1 WHOLE: digits, at least one, \"-\" ahead of them or not")
    static void wholeTextsHaveDigits() {
        all(1, "0", "9", "10", "-1", "-0", "00", "-00", "007", "-007");
        all(5, "-", "--1", "1-", "-1-", "- 1", " 1", "1 ", "1 2", "a", "1a", "a1", "0#", ":1", "1:", "1\n", "1,0");
    }

    @Says(at = "part 4", it = "whose number is -2147483648 to 2147483647")
    static void wholeNumbersHaveBounds() {
        all(1, "2147483647", "2147483646", "-2147483648", "-2147483647", "0000000000002147483647", "-0000000000002147483648",
            "0".repeat(300), "-" + "0".repeat(298) + "1", "0".repeat(301) + "1");
        all(5, "2147483648", "-2147483649", "2147483650", "21474836470", "-21474836480", "4294967296", "4294967297", "-4294967297",
            "9223372036854775807", "9223372036854775808", "-9223372036854775808", "18446744073709551616", "18446744073709551617",
            "-18446744073709551615", "340282366920938463463374607431768211457", "1" + "0".repeat(299), "9".repeat(299), "-" + "9".repeat(299));
    }

    @Says(at = "part 4", it = "2 DECIMAL: digits, at least one, \"-\" ahead of them or not, \".\", digits, at least one")
    static void decimalTextsHaveDigitsOnBothSides() {
        all(2, "0.0", "1.5", "-1.5", "-0.0", "00.00", "99999999999999999999.9", "0." + "0".repeat(298), "2147483648.0", "-2147483649.99");
        all(5, ".", "-.", ".5", "5.", "-.5", "-5.", "1..5", "1.5.", "1.5.5", "1.-5", "--1.5", "1.5-", "1.a", "a.1", "1a.1", "1.1a", "1,5", "1 .5", "1. 5");
    }

    @Says(at = "part 4", it = "3 TRUTH: \"yes\", \"no\", \"true\" or \"false\"")
    static void fourTextsAreTruths() {
        all(3, "yes", "no", "true", "false");
        all(5, "ye", "yess", "n", "noo", "tru", "truee", "fals", "falsee", " yes", "yes ", "y", "t", "yesno");
    }

    @Says(at = "part 4", it = "4 DATE: four digits, \"-\", two digits, \"-\", two digits")
    static void datesHaveTenSigns() {
        all(4, "2026-11-19", "1999-12-31", "2026-01-01");
        all(1, "20261119");
        all(5, "2026-11-1", "2026-1-19", "202-11-19", "02026-11-19", "2026-011-19", "2026-11-019", "2026-11-19 ", " 2026-11-19", "2026-11-190",
            "2026.11.19", "2026-11.19", "2026.11-19", "2026-1119", "2026--11-19", "-2026-11-19", "2026-11-19-", "-026-11-19", "2026--1-19", "2026-11--1");
    }

    @Says(at = "part 4", it = "4 DATE: four digits, \"-\", two digits, \"-\", two digits")
    static void eachOtherPlaceOfADateIsADigit() {
        for (int place : new int[] {0, 1, 2, 3, 5, 6, 8, 9}) {
            for (char not : new char[] {'a', '-', '.', ':', ' '}) {
                StringBuilder text = new StringBuilder("2011-11-11");
                text.setCharAt(place, not);
                all(5, text.toString());
            }
        }
        for (char not : new char[] {'0', 'a', '.', ':', ' '}) all(5, "2011" + not + "11-11", "2011-11" + not + "11");
    }

    @Says(at = "part 4", it = "the first ones above 0")
    static void thereIsNoYearNought() {
        all(4, "0001-01-01", "9999-12-31", "0004-02-29", "0010-01-01", "0100-01-01", "1000-01-01");
        all(5, "0000-01-01", "0000-12-31", "0000-02-29");
    }

    @Says(at = "part 4", it = "the second ones 1 to 12")
    static void thereAreTwelveMonths() {
        for (int month = 1; month <= 12; month++) all(4, "2026-" + month / 10 + month % 10 + "-15");
        all(5, "2026-00-15", "2026-13-15", "2026-20-15", "2026-99-15");
    }

    @Says(at = "part 4", it = "the third ones 1 to as many days as that month has")
    static void eachMonthHasItsDays() {
        int[] days = {31, 28, 31, 30, 31, 30, 31, 31, 30, 31, 30, 31};
        for (int month = 1; month <= 12; month++) {
            String ahead = "2026-" + month / 10 + month % 10 + "-";
            all(4, ahead + "01", ahead + days[month - 1]);
            all(5, ahead + "00", ahead + (days[month - 1] + 1), ahead + "99");
        }
    }

    @Says(at = "part 4", it = "(February 28, or 29, if the year can be divided by 4, but not by 100, or by 400)")
    static void leapYears() {
        for (String year : new String[] {"2024", "2028", "0004", "9996", "1996", "2000", "2400", "0400", "1600"}) {
            all(4, year + "-02-28", year + "-02-29");
            all(5, year + "-02-30");
        }
        for (String year : new String[] {"2023", "2025", "2026", "0001", "9999", "1900", "2100", "0100", "2200", "2300"}) {
            all(4, year + "-02-28");
            all(5, year + "-02-29", year + "-02-30");
        }
    }

    @Says(at = "part 4", it = "5 all others.")
    static void allOtherTexts() {
        all(5, "a", " ", "-", ".", "yes no", "2026-13-01", "2147483648", "1.5.5", "a".repeat(300), "1".repeat(11));
    }

    @Says(at = "part 4", it = "of all its FIELDS from a ROW on that are not EMPTY: 0, if there are none")
    static void aColumnWithoutFieldsOrOfEmptyOnes() {
        due(0, new Commadesk().typeOf(0, 0, 0));
        due(0, of("/").typeOf(0, 0, 0));
        due(0, of("~/a~/").typeOf(0, 1, 0));
        due(0, of("a/b/").typeOf(0, 1, 0));
        due(0, of("a/b/").typeOf(0, 0, 2));
        due(0, of("a/b//").typeOf(0, 0, 2));
        due(1, of("/1//").typeOf(0, 0, 0));
        due(0, of(risingRows(40)).typeOf(0, 0, 40));
    }

    @Says(at = "part 4", it = "otherwise the first TYPE of 1 to 4 of which all are (of 2 are WHOLE ones, too), otherwise 5")
    static void aColumnOfMixedTypes() {
        due(1, of("1/2/").typeOf(0, 0, 0));
        due(2, of("1/2.5/").typeOf(0, 0, 0));
        due(2, of("2.5/1/").typeOf(0, 0, 0));
        due(2, of("2.5//").typeOf(0, 0, 0));
        due(3, of("yes/no/").typeOf(0, 0, 0));
        due(4, of("2026-11-19//").typeOf(0, 0, 0));
        due(5, of("1/yes/").typeOf(0, 0, 0));
        due(5, of("yes/2026-11-19/").typeOf(0, 0, 0));
        due(5, of("1.5/2026-11-19/").typeOf(0, 0, 0));
        due(5, of("1.5/2147483648/").typeOf(0, 0, 0));
        due(5, of(rows("1", 39) + "x/").typeOf(0, 0, 0));
        due(1, of("x/" + rows("1", 39)).typeOf(0, 0, 1));
    }

    @Says(at = "part 4", it = "KEYS of a FIELD, to SORT: by 0 the text itself, by 1 its number, if it is WHOLE, otherwise one that is less than all, "
        + "by 2 how many SIGNS it has")
    static void keysOfTextsNumbersAndLengths() {
        String rows = "10/9/-2147483648/2147483648/a//2147483647/-0/1.5/";
        due("/-0/-2147483648/1.5/10/2147483647/2147483648/9/a/", sorted(rows, 0));
        due("2147483648/a//1.5/-2147483648/-0/9/10/2147483647/", sorted(rows, 1));
        due("/9/a/10/-0/1.5/2147483648/2147483647/-2147483648/", sorted(rows, 2));
    }

    private static String sorted(String rows, int how) {
        Commadesk x = of(rows);
        x.sort(0, 0, how, false, 0);
        return shown(x, 0);
    }

    @Says(at = "part 4", it = "A ROW without that COLUMN is as if it had an EMPTY FIELD there.")
    static void aRowWithoutTheColumnIsSortedAsAnEmptyField() {
        for (int how = 0; how <= 2; how++) {
            Commadesk x = of("a~1/b/c~/d~-1/e/");
            x.sort(0, 1, how, false, 0);
            due(how == 2 ? "b/c~/e/a~1/d~-1/" : "b/c~/e/d~-1/a~1/", shown(x, 0));
            x.sort(0, 1, how, true, 0);
            due(how == 2 ? "d~-1/a~1/b/c~/e/" : "a~1/d~-1/b/c~/e/", shown(x, 0));
        }
        Commadesk y = of("b/a/");
        due(0, y.sort(0, 7, 0, true, 0));
        due("b/a/", shown(y, 0));
    }

    // ---- part 5 and promise 44: filters

    private static int fault(String filter) { return typed(filter).filterFault(); }

    @Says(at = "part 5", it = "A FILTER is a text: GROUPS with \"!\" between two; a GROUP: TERMS with \"&\" between two")
    static void groupsAndTermsStandBetween() {
        due(-1, fault("0=a"));
        due(-1, fault("0=a!1=b"));
        due(-1, fault("0=a&1=b"));
        due(-1, fault("0=a&1=b!2=c!3=d&4=e"));
        due(-1, fault("0=&1=!2="));
        due(0, fault("!0=a"));
        due(0, fault("&0=a"));
        due(4, fault("0=a!!0=a"));
        due(4, fault("0=a&!0=a"));
        due(4, fault("0=a&&0=a"));
        due(-1, fault("0=&".repeat(99) + "0=a"));
        due(298, fault("0=!".repeat(99) + "0"));
    }

    @Says(at = "part 5", it = "a TERM: a digit 0 to 7 (a COLUMN)")
    static void aTermBeginsWithAColumn() {
        for (int sign = 0; sign <= 52; sign++) due(sign <= 7 ? -1 : 0, fault(SIGNS.charAt(sign) + "=a"));
        for (int sign = 0; sign <= 52; sign++) due(sign <= 7 ? -1 : 4, fault("0=a&" + SIGNS.charAt(sign) + "=a"));
        due(1, fault("00=a"));
    }

    @Says(at = "part 5", it = "one of \"=\", \"<\", \">\" and \":\"")
    static void aTermHasOneOfFourSigns() {
        for (int sign = 0; sign <= 52; sign++) {
            boolean isOne = "=<>:".indexOf(SIGNS.charAt(sign)) >= 0;
            due(isOne ? -1 : 1, fault("0" + SIGNS.charAt(sign) + "1"));
            due(isOne ? -1 : 4, fault("1=!0" + SIGNS.charAt(sign) + "1"));
        }
    }

    @Says(at = "part 5", it = "and a VALUE: all SIGNS up to the next \"&\" or \"!\" or the end (perhaps none)")
    static void aValueIsAllSignsUpToTheNextTerm() {
        for (char c : SIGNS.toCharArray()) {
            due("&!".indexOf(c) < 0 ? -1 : 3, fault("0=" + c + c));
            if ("&!".indexOf(c) < 0) due(true, passes("0=" + c + c, "" + c + c + "/"));
        }
        due(-1, fault("0="));
        due(-1, fault("0:"));
        due(-1, fault("7:=<>:"));
        due(true, passes("0=1=2", "1=2/"));
        due(true, passes("0=", "/"));
        due(true, passes("0=!1=a", "/"));
        due(false, passes("0=&1=a", "/"));
    }

    @Says(at = "part 5", it = "behind \"<\" and \">\" it has to be WHOLE")
    static void aValueToCompareIsWhole() {
        for (String sign : new String[] {"<", ">"}) {
            for (String whole : new String[] {"0", "-0", "007", "2147483647", "-2147483648"}) due(-1, fault("0" + sign + whole));
            for (String not : new String[] {"", "-", "a", "1a", "1.5", " 1", "1 ", "2147483648", "-2147483649", "--1", "1<2", "="}) due(2, fault("0" + sign + not));
        }
        due(-1, fault("0=2147483648"));
        due(-1, fault("0:-"));
    }

    @Says(at = "part 5", it = "The FAULT of a FILTER: the place (from 0 on) of the first SIGN that can not be there "
        + "(of a VALUE that has to be WHOLE and is not, where it begins)")
    static void theFirstFaultOfAFilter() {
        due(0, fault("a"));
        due(0, fault("8"));
        due(1, fault("0a"));
        due(1, fault("0&"));
        due(2, fault("0<1x"));
        due(2, fault("0<12345x&9"));
        due(2, fault("0<&9"));
        due(6, fault("0=a&1<x!9"));
        due(4, fault("0<1&8<x"));
        due(5, fault("0<1&1#x"));
        due(6, fault("0<1&1>!2=a"));
    }

    @Says(at = "part 5", it = "if a SIGN is missing at the end, how many it has")
    static void aSignIsMissingAtTheEnd() {
        due(0, fault(""));
        due(1, fault("0"));
        due(2, fault("0<"));
        due(2, fault("7>"));
        due(4, fault("0=a&"));
        due(4, fault("0=a!"));
        due(5, fault("0=a!1"));
        due(6, fault("0=a!1<"));
        due(300, fault("0=&".repeat(100)));
    }

    private static boolean passes(String filter, String rows) {
        Commadesk x = type(of(rows), filter);
        boolean isPassed = x.passes(0, 0);
        due("filtered as asked", isPassed ? 0 : 1, x.filter(0, 0));
        return isPassed;
    }

    @Says(at = "part 5", it = "A ROW PASSES, if all TERMS of some GROUP hold")
    static void allTermsOfSomeGroupHold() {
        due(true, passes("0=a&1=b", "a~b/"));
        due(false, passes("0=a&1=c", "a~b/"));
        due(false, passes("0=c&1=b", "a~b/"));
        due(true, passes("0=c!1=b", "a~b/"));
        due(true, passes("0=a!1=c", "a~b/"));
        due(false, passes("0=c!1=c", "a~b/"));
        // the first and the last of three groups, and terms of unlike groups
        due(true, passes("0=a&1=b!0=c!0=d", "a~b/"));
        due(true, passes("0=c!0=d!0=a&1=b", "a~b/"));
        due(false, passes("0=a&1=c!0=c&1=b", "a~b/"));
        due(false, passes("0=c&0=a!1=b&1=c", "a~b/"));
        due(true, passes("0=c&0=a!1=b", "a~b/"));
    }

    @Says(at = "part 5", it = "\"=\": its FIELD is the VALUE; \":\": the VALUE is in it")
    static void theFieldIsTheValueOrHasItInIt() {
        due(true, passes("0=ab", "ab/"));
        due(false, passes("0=ab", "abc/"));
        due(false, passes("0=ab", "a/"));
        due(false, passes("0=", "a/"));
        due(false, passes("0=1", "01/"));
        due(true, passes("0:ab", "ab/"));
        due(true, passes("0:ab", "xab/"));
        due(true, passes("0:ab", "abx/"));
        due(true, passes("0:ab", "xaab/"));
        due(false, passes("0:ab", "axb/"));
        due(false, passes("0:ab", "ba/"));
        due(false, passes("0:ab", "a/"));
        due(false, passes("0:a", "/"));
        due(true, passes("0:", "/"));
        due(true, passes("0:", "abc/"));
        due(true, passes("0:b", "a".repeat(299) + "b/"));
    }

    @Says(at = "part 5", it = "\"<\" and \">\": it is WHOLE, and its number is less, or more")
    static void aWholeFieldIsLessOrMore() {
        due(true, passes("0<1", "0/"));
        due(false, passes("0<1", "1/"));
        due(false, passes("0<1", "2/"));
        due(true, passes("0>1", "2/"));
        due(false, passes("0>1", "1/"));
        due(false, passes("0>1", "0/"));
        due(true, passes("0<0", "-1/"));
        due(false, passes("0<0", "-0/"));
        due(false, passes("0>-0", "0/"));
        due(true, passes("0<10", "9/"));
        due(true, passes("0<2147483647", "-2147483648/"));
        due(false, passes("0<-2147483648", "-2147483648/"));
        due(false, passes("0>2147483647", "2147483647/"));
        for (String not : new String[] {"", "a", "1.5", "-", "2147483648", "-2147483649", " 1"}) {
            due(false, passes("0<2147483647", not + "/"));
            due(false, passes("0>-2147483648", not + "/"));
        }
    }

    @Says(at = "part 5", it = "(Without that COLUMN the FIELD is EMPTY.)")
    static void withoutTheColumnTheFieldIsEmpty() {
        due(true, passes("1=", "a/"));
        due(true, passes("7=", "a/"));
        due(true, passes("7:", "a/"));
        due(false, passes("1=a", "a/"));
        due(false, passes("1:a", "a/"));
        due(false, passes("1<1", "a/"));
        due(false, passes("7>-1", "a/"));
        due(true, passes("7=h", EIGHT + "/"));
    }

    @Says(at = "promise 44", it = "Returns the FAULT of the TEXT as a FILTER; NONE, if it is one.")
    static void filterFaultOfTheLongestTexts() {
        due(-1, fault("0=" + "a".repeat(298)));
        due(2, fault("0<" + "9".repeat(298)));
        due(-1, fault("0<" + "0".repeat(298)));
        due(0, fault("a".repeat(300)));
    }

    @Says(at = "promise 45", it = "Throws `IndexOutOfBoundsException` if there is no such TABLE, or ROW of it")
    static void passesTakesRowsOfATable() {
        takesTables(Trial::busy, (x, n) -> x.passes(n, 1));
        takes(INDEX, Trial::busy, 0, 2, (x, n) -> x.passes(0, n));
        refuses(INDEX, () -> typed("0=a"), x -> x.passes(0, 0));
    }

    @Says(at = "promise 45", it = "Throws `IllegalStateException` if the TEXT has a FAULT as a FILTER")
    static void passesNeedsAFilter() {
        for (String text : new String[] {"", "0", "8=a", "0<", "0<x", "0=a&", "0=a!", "a", "0=a!1<2147483648"}) {
            refuses(STATE, () -> type(of("a/b/"), text), x -> x.passes(0, 1));
        }
    }

    @Says(at = "part 5", it = "If several exceptions apply, the one that is named first is thrown")
    static void passesNamesTheRowFirst() {
        refuses(INDEX, () -> typed("x"), x -> x.passes(0, 0));
        refuses(INDEX, () -> of("a/"), x -> x.passes(2, 0));
        refuses(INDEX, () -> of("a/"), x -> x.passes(0, -1));
    }

    // ---- promises 35 to 39

    @Says(at = "promise 35", it = "Returns the first COLUMN whose HEAD (in the ROW 0) is the TEXT; NONE.")
    static void theFirstColumnWithThatHead() {
        due(0, type(of("a~b~a/b~c/"), "a").headed(0));
        due(1, type(of("a~b~a/b~c/"), "b").headed(0));
        due(-1, type(of("a~b~a/b~c/"), "c").headed(0));
        due(7, type(of(EIGHT + "/"), "h").headed(0));
        due(1, of("a~/b/").headed(0));
        due(-1, of("a/~/").headed(0));
        due(-1, type(of("ab~b/"), "a").headed(0));
        due(-1, new Commadesk().headed(0));
        due(-1, type(of("a/"), "a").headed(1));
        due(0, type(of("", "a/"), "a").headed(1));
    }

    @Says(at = "promise 35", it = "Throws `IndexOutOfBoundsException` if there is no such TABLE")
    static void headedTakesTwoTables() { takesTables(Trial::busy, (x, n) -> x.headed(n)); }

    @Says(at = "promise 36", it = "Returns the first ROW from there on that has that COLUMN, and there the TEXT (its FIELD, whole); NONE.")
    static void theFirstRowFromThereOn() {
        Commadesk x = type(of("a/ab/a~b/b~a/a/"), "a");
        due(0, x.find(0, 0, 0));
        due(2, x.find(0, 0, 1));
        due(2, x.find(0, 0, 2));
        due(4, x.find(0, 0, 3));
        due(4, x.find(0, 0, 4));
        due(-1, x.find(0, 0, 5));
        due(3, x.find(0, 1, 0));
        due(-1, x.find(0, 2, 0));
        due(-1, x.find(1, 0, 0));
        due(39, type(of(risingRows(40)), "d9").find(0, 0, 0));
        due(7, type(of(rows(EIGHT, 8)), "h").find(0, 7, 7));
        due("a/ab/a~b/b~a/a/", shown(x, 0));
    }

    @Says(at = "promise 36", it = "Returns the first ROW from there on that has that COLUMN, and there the TEXT (its FIELD, whole); NONE.")
    static void anEmptyTextIsFoundOnlyInFieldsThatAreThere() {
        Commadesk x = of("a/b~/~c/");
        due(1, x.find(0, 1, 0));
        due(-1, x.find(0, 1, 2));
        due(2, x.find(0, 0, 0));
        due(-1, x.find(0, 2, 0));
        due(-1, x.find(0, 7, 0));
    }

    @Says(at = "promise 36", it = "Throws `IndexOutOfBoundsException` if there is no such TABLE, column is not 0 to 7, or from not 0 to how many ROWS it has")
    static void findTakesColumnsAndPlaces() {
        takesTables(Trial::busy, (x, n) -> x.find(n, 0, 0));
        takes(INDEX, Trial::busy, 0, 7, (x, n) -> x.find(0, n, 0));
        takes(INDEX, Trial::busy, 0, 3, (x, n) -> x.find(0, 0, n));
        takes(INDEX, Commadesk::new, 0, 0, (x, n) -> x.find(0, 0, n));
        takes(INDEX, () -> of(risingRows(40)), 0, 40, (x, n) -> x.find(0, 7, n));
    }

    @Says(at = "promise 37", it = "Throws `IndexOutOfBoundsException` if there is no such TABLE, column is not 0 to 7, or from not 0 to how many ROWS it has")
    static void typeOfTakesColumnsAndPlaces() {
        takesTables(Trial::busy, (x, n) -> x.typeOf(n, 0, 0));
        takes(INDEX, Trial::busy, 0, 7, (x, n) -> x.typeOf(0, n, 0));
        takes(INDEX, Trial::busy, 0, 3, (x, n) -> x.typeOf(0, 0, n));
        takes(INDEX, Commadesk::new, 0, 0, (x, n) -> x.typeOf(0, 0, n));
        takes(INDEX, () -> of(risingRows(40)), 0, 40, (x, n) -> x.typeOf(0, 7, n));
    }

    @Says(at = "promise 38", it = "Returns the first ROW whose FIELD in that COLUMN is not EMPTY and not of that TYPE (of 2 are WHOLE ones, too; of 5 are all); NONE.")
    static void theFirstRowThatIsWrong() {
        Commadesk x = of("/1/~x/2.5/yes/2026-11-19/x/");
        due(3, x.wrong(0, 0, 1));
        due(4, x.wrong(0, 0, 2));
        due(1, x.wrong(0, 0, 3));
        due(1, x.wrong(0, 0, 4));
        due(-1, x.wrong(0, 0, 5));
        due(2, x.wrong(0, 1, 1));
        due(-1, x.wrong(0, 1, 5));
        due(-1, x.wrong(0, 2, 1));
        due(-1, x.wrong(0, 7, 4));
        due(-1, new Commadesk().wrong(0, 0, 1));
        due(0, of("x/").wrong(0, 0, 1));
        due(39, of(rows("1", 39) + "x/").wrong(0, 0, 1));
        due(-1, of(rows("", 40)).wrong(0, 0, 3));
    }

    @Says(at = "promise 38", it = "Throws `IndexOutOfBoundsException` if there is no such TABLE, or column is not 0 to 7")
    static void wrongTakesEightColumns() {
        takesTables(Trial::busy, (x, n) -> x.wrong(n, 0, 1));
        takes(INDEX, Trial::busy, 0, 7, (x, n) -> x.wrong(0, n, 5));
    }

    @Says(at = "promise 38", it = "Throws `IllegalArgumentException` if type is not 1 to 5")
    static void wrongTakesFiveTypes() {
        takes(ARGUMENT, Trial::busy, 1, 5, (x, n) -> x.wrong(0, 0, n));
        takes(ARGUMENT, Commadesk::new, 1, 5, (x, n) -> x.wrong(1, 7, n));
    }

    @Says(at = "part 5", it = "If several exceptions apply, the one that is named first is thrown")
    static void wrongNamesTheColumnFirst() {
        refuses(INDEX, Trial::busy, x -> x.wrong(2, 0, 0));
        refuses(INDEX, Trial::busy, x -> x.wrong(0, 8, 6));
    }

    @Says(at = "promise 39", it = "Returns the sum of its WHOLE FIELDS.")
    static void sumsBeyondAnInt() {
        due(0L, new Commadesk().total(0, 0));
        due(0L, of("a/1.5//-/2147483648/-2147483649/").total(0, 0));
        due(5L, of("7/a/-2/1.5/~9/").total(0, 0));
        due(9L, of("7/a/-2/1.5/~9/").total(0, 1));
        due(0L, of("7/a/").total(0, 1));
        due(85899345880L, of(rows("2147483647", 40)).total(0, 0));
        due(-85899345920L, of(rows("-2147483648", 40)).total(0, 0));
        due(8L, of(rows("1~2~3~4~5~6~7~8", 1)).total(0, 7));
    }

    @Says(at = "promise 39", it = "Throws `IndexOutOfBoundsException` if there is no such TABLE, or column is not 0 to 7")
    static void totalTakesEightColumns() {
        takesTables(Trial::busy, (x, n) -> x.total(n, 0));
        takes(INDEX, Trial::busy, 0, 7, (x, n) -> x.total(0, n));
    }

    // ---- promise 42: differences

    private static String differences(String zero, String one, int column) { return of(zero, one).differences(column); }

    @Says(at = "promise 42", it = "\"-\" and the text, if it is only in the TABLE 0, \"+\" and the text, if only in the TABLE 1, "
        + "\"*\" and the text, if these ROWS have not the same FIELDS; with a LINE END behind each")
    static void eachKindOfDifference() {
        due("", differences("", "", 0));
        due("-a\n", differences("a/", "", 0));
        due("+a\n", differences("", "a/", 0));
        due("", differences("a/", "a/", 0));
        due("*a\n", differences("a~1/", "a~2/", 0));
        due("*a\n", differences("a/", "a~/", 0));
        due("*a\n", differences("a~1/", "a/", 0));
        due("*a\n", differences("1~a/", "2~a/", 1));
        due("-\n", differences("/", "", 0));
        due("*\n", differences("/", "~/", 0));
        due("-\n\n", differences("\n/", "", 0));
        due("", differences(rows(EIGHT, 40), EIGHT + "/", 7));
        due("*a\n", differences(EIGHT + "/", "a~b~c~d~e~f~g~i/", 0));
    }

    @Says(at = "promise 42", it = "by rising texts")
    static void differencesByRisingTexts() {
        due("-a\n+aa\n*b\n-c\n+d\n", differences("c/a/b~1/", "d/b~2/aa/", 0));
        due("+\n+a\n-b\n-c\n", differences("c/b/", "a//", 0));
        due("-a\n-b\n+c\n+d\n", differences("b/a/", "d/c/", 0));
    }

    @Says(at = "promise 42", it = "(of each text the first ROW that has it; ROWS without that COLUMN do not count)")
    static void theFirstRowOfEachTextCounts() {
        due("", differences("a~1/a~2/", "a~1/a~3/", 0));
        due("*a\n", differences("a~2/a~1/", "a~1/a~2/", 0));
        due("-a\n", differences("a/a/a/", "", 0));
        due("", differences("a/b/", "c/", 1));
        due("-x\n", differences("a~x/b/", "c/", 1));
        due("+\n", differences("a/b/", "c~/", 1));
        due("", differences("a~b/", "c/", 7));
    }

    @Says(at = "promise 42", it = "Returns how the TABLE 1 is unlike the TABLE 0, by the texts in that COLUMN")
    static void eightyDifferences() {
        String zero = risingRows(40), one = zero.replaceAll("(..)/", "$1a/");
        String got = differences(zero, one, 0);
        due(40 * 4 + 40 * 5, got.length());
        due("-a0\n+a0a\n-a1\n", got.substring(0, 13));
        due("-d9\n+d9a\n", got.substring(got.length() - 9));
        due("", differences(zero, zero, 0));
        due("*" + zero.substring(0, zero.length() - 1).replace("/", "\n*") + "\n", differences(zero, zero.replace("/", "~/"), 0));
    }

    @Says(at = "promise 42", it = "Throws `IndexOutOfBoundsException` if column is not 0 to 7")
    static void differencesTakesEightColumns() {
        takes(INDEX, Trial::busy, 0, 7, (x, n) -> x.differences(n));
        takes(INDEX, Commadesk::new, 0, 7, (x, n) -> x.differences(n));
    }

    // ---- promise 47: desk

    @Says(at = "promise 47", it = "0 SIGNS of the TEXT, 1 SEPARATOR, 2 QUOTE, 3 1 if ESCAPED, otherwise 0, 4 1 if STRICT, otherwise 0")
    static void theTextAndTheMode() {
        due("0 0 0 0 0 0 0 0 0 0 0 0 0 ", desk(new Commadesk()));
        due("300 3 0 0 0 0 0 0 0 0 0 0 0 ", desk(type(mode(new Commadesk(), 24), "a".repeat(300))));
        due("1 0 1 0 0 0 0 0 0 0 0 0 0 ", desk(type(mode(new Commadesk(), 4), "a")));
        due("0 0 0 1 0 0 0 0 0 0 0 0 0 ", desk(mode(new Commadesk(), 2)));
        due("0 0 0 0 1 0 0 0 0 0 0 0 0 ", desk(mode(new Commadesk(), 1)));
    }

    @Says(at = "promise 47", it = "5 0 if no reading has begun, 1 if one has, 2 if it ended")
    static void theStageOfAReading() {
        Commadesk x = typed("a");
        due(0, x.desk(5));
        x.begin();
        due(1, x.desk(5));
        x.feed(0, 1);
        due(1, x.desk(5));
        x.finish(0);
        due(2, x.desk(5));
        x.undo();
        due(2, x.desk(5));
        x.begin();
        due(1, x.desk(5));
        x.read(0);
        due(2, x.desk(5));
    }

    @Says(at = "promise 47", it = "6 its FAULTS, 7 how many of these are kept, 8 how many SIGNS it read, 9 how many ROWS ended in it")
    static void whatAReadingCounts() {
        Commadesk x = typed("a" + "\"".repeat(31) + "\n");
        x.begin();
        x.feed(0, 1);
        due("33 0 0 0 0 1 0 0 1 0 1 0 0 ", desk(x));
        x.feed(1, 31);
        due("33 0 0 0 0 1 30 30 31 0 1 0 0 ", desk(x));
        x.feed(31, 33);
        due("33 0 0 0 0 1 31 30 33 1 0 0 0 ", desk(x));
        x.finish(0);
        due("33 0 0 0 0 2 31 30 33 1 0 1 0 ", desk(x));
        type(x, "\n".repeat(43)).read(0);
        due("43 0 0 0 0 2 3 3 43 43 0 2 0 ", desk(x));
    }

    @Says(at = "promise 47", it = "Returns that (6 to 9: 0, if none has begun).")
    static void noReadingHasNumbers() {
        Commadesk x = typed("a\"\n");
        due("3 0 0 0 0 0 0 0 0 0 0 0 0 ", desk(x));
        x.guess();
        x.readFixed(0, 1);
        due("3 0 0 0 0 0 0 0 0 0 0 1 0 ", desk(x));
    }

    @Says(at = "promise 47", it = "(0, if none has begun, or it ended)")
    static void theStateOfAReadingThatEnded() {
        for (String text : new String[] {"", "a", "\"", "\"\"", "\"\\"}) {
            Commadesk x = type(mode(new Commadesk(), 2), text);
            due(0, x.desk(10));
            x.begin();
            x.feed(0, text.length());
            due(text.isEmpty() ? 0 : text.equals("a") ? 1 : text.equals("\"") ? 2 : text.equals("\"\"") ? 3 : 4, x.desk(10));
            x.finish(0);
            due(0, x.desk(10));
            x.read(0);
            due(0, x.desk(10));
        }
    }

    @Says(at = "promise 47", it = "11 how many can be undone, 12 how many were REFUSED")
    static void whatCanBeUndoneAndWhoWasRefused() {
        Commadesk x = new Commadesk();
        for (int i = 0; i < 20; i++) {
            x.insert(0, 0, 1);
            x.knock();
            due(Math.min(15, i + 1), x.desk(11));
            due(i + 1, x.desk(12));
        }
        x.undo();
        due(14, x.desk(11));
        due(20, x.desk(12));
    }

    @Says(at = "promise 47", it = "Throws `IllegalArgumentException` if what is not 0 to 12")
    static void theDeskHasThirteenNumbers() {
        takes(ARGUMENT, Trial::busy, 0, 12, (x, n) -> x.desk(n));
        takes(ARGUMENT, Commadesk::new, 0, 12, (x, n) -> x.desk(n));
    }

    // ---- promise 48: isSound

    @Says(at = "promise 48", it = "Returns whether all is SOUND")
    static void tablesOfEachShapeAreSoundInEachMode() {
        String[] tables = {"", "/", "~/", rows("", 40), rows(EIGHT, 40), rows(EIGHT, 8), "a/b~c/", "\"/\"\"/\n/\\/\\\\/,/;/|/:/'/''/",
            "\\\"~\"\\~\\'~'\\/\\\n~\n\\~,\\~\\,/", SIGNS + "~" + RISING + "/", "b/a/b/a//", "a".repeat(301) + "/"};
        for (String table : tables) {
            for (int mode = 0; mode < 32; mode++) due(true, mode(of(table, "\"a\n,;|:'\\/"), mode).isSound());
        }
    }

    private static final String[] AWKWARD = {"", "/", "~/", "a/b~c/", "\"/\"\"/\n/\\/\\\\/,/;/|/:/'/''/", "\\\"~\"\\~\\'~'\\/\\\n~\n\\~,\\~\\,/",
        "a,\"b\n;'c'|~:\"\"/", "\"~'~\\/", " ~ a~a /", "~~~~~~~/a/", SIGNS + "/"};

    @Says(at = "promise 48", it = "WRITTEN in both ways and read by MODE, but not STRICT, it is itself")
    static void aTableThatIsWrittenIsReadAsItself() {
        for (String table : AWKWARD) {
            for (int mode = 0; mode < 32; mode += 2) {
                for (int all = 0; all <= 1; all++) {
                    Commadesk x = mode(of(table), mode);
                    x.write(0, all == 1);
                    x.read(1);
                    due("mode " + mode, table, shown(x, 1));
                    due("mode " + mode, 0, x.desk(6) - (x.isEven(0) ? 0 : 1));
                }
            }
        }
    }

    @Says(at = "promise 48", it = "so it is, if that text is read in two halves (the first one half of its SIGNS, rounded down)")
    static void aTableThatIsWrittenIsReadInHalvesAsItself() {
        for (String table : AWKWARD) {
            for (int mode = 0; mode < 32; mode += 2) {
                Commadesk x = mode(of(table), mode);
                int many = x.write(0, mode % 4 == 0);
                for (int half = 0; half <= many; half += 1 + many / 8) {
                    x.begin();
                    x.feed(0, half);
                    x.feed(half, many);
                    x.finish(1);
                    due("mode " + mode + ", " + half, table, shown(x, 1));
                }
                x.begin();
                x.feed(0, many / 2);
                x.feed(many / 2, many);
                x.finish(1);
                due("mode " + mode, table, shown(x, 1));
            }
        }
    }

    private static final String[] DOUBLED = {"b~1/a~1/b~2/a~2/~3/~4/", "b/a/b/a//", "c~1/b~1/a~1/c~2/b~2/a~2/c~3/", "ab/a/abc/|/\n/ /9/a~a/",
        "a~9/a~8/a~7/a~6/a~5/", rows("b~/a", 20), risingRows(40)};

    /** The rows as told, the lesser first field ahead; of like ones the row that stood ahead. */
    private static String sorted(String table) {
        List<String> rows = new ArrayList<>(Arrays.asList(table.split("(?<=/)")));
        rows.removeIf(String::isEmpty);
        rows.sort(Comparator.comparing(row -> rising(row.split("[~/]", -1)[0])));
        return String.join("", rows);
    }

    /** A text that is as great among Java's texts as the told one is among the document's. */
    private static String rising(String text) {
        StringBuilder out = new StringBuilder();
        for (char sign : text.toCharArray()) out.append((char) ('A' + RISING.indexOf(sign)));
        return out.toString();
    }

    @Says(at = "promise 48", it = "SORTED by the text of its COLUMN 0, rising, it has the same ROWS, none behind one that has to be behind it, "
        + "and the others in the sequence in which they were")
    static void aSortedTableHasTheSameRows() {
        for (String[] tables : new String[][] {AWKWARD, DOUBLED}) {
            for (String table : tables) {
                Commadesk x = of(table);
                due(true, x.isSound());
                x.sort(0, 0, 0, false, 0);
                due(sorted(table), shown(x, 0));
                due(0, x.sort(0, 0, 0, false, 0));
                due(true, x.isSound());
            }
        }
    }

    @Says(at = "promise 48", it = "turned twice, if it can be, it is itself")
    static void aTableThatIsTurnedTwiceIsItself() {
        for (String table : new String[] {"/", "~/", "a~b~c/", "a/b/c/", "a~b/c~d/e~/", EIGHT + "/", rows(EIGHT, 8), rows("a", 8)}) {
            Commadesk x = of(table);
            int fields = x.fields(0, 0);
            due(fields, x.turn(0));
            due(table.split("/", -1).length - 1, x.turn(0));
            due(table, shown(x, 0));
        }
    }

    // ---- promise 49: knock

    @Says(at = "promise 49", it = "Returns how many were REFUSED ever, with this.")
    static void eachKnockIsCounted() {
        Commadesk x = new Commadesk();
        for (int i = 1; i <= 100; i++) due(i, x.knock());
        due(100, x.desk(12));
        x.insert(0, 0, 1);
        x.undo();
        due(101, x.knock());
        due(1, new Commadesk().knock());
    }

    // ---- promise 50: digest

    /** The checksum by numbers of any size, of which the last 64 bits count. */
    private static long digest(Commadesk x) {
        BigInteger d = BigInteger.valueOf(5404);
        for (int what = 0; what <= 12; what++) d = next(d, x.desk(what));
        for (int nth = 0; nth < x.desk(7); nth++) for (int what = 0; what < 4; what++) d = next(d, x.fault(nth, what));
        for (char c : x.text().toCharArray()) d = next(d, SIGNS.indexOf(c));
        for (int table = 0; table < 2; table++) {
            d = next(d, x.rows(table));
            d = next(d, x.isEven(table) ? 1 : 0);
            d = next(d, x.written(table, false));
            d = next(d, x.written(table, true));
            for (int column = 0; column < 8; column++) d = next(next(d, x.typeOf(table, column, 0)), x.total(table, column));
            for (int row = 0; row < x.rows(table); row++) {
                d = next(d, x.fields(table, row));
                for (int column = 0; column < x.fields(table, row); column++) {
                    d = next(d, x.cell(table, row, column).length());
                    for (char c : x.cell(table, row, column).toCharArray()) d = next(d, SIGNS.indexOf(c));
                }
            }
        }
        d = next(d, x.guess());
        d = next(d, x.filterFault());
        d = next(d, x.differences(0).length());
        return next(d, x.isSound() ? 1 : 0).longValue();
    }

    private static BigInteger next(BigInteger d, long v) { return d.multiply(BigInteger.valueOf(31)).add(BigInteger.valueOf(v)); }

    @Says(at = "promise 50", it = "A number d starts with 5404; then d becomes d * 31 + v, which wraps around as a 64-bit integer")
    static void theDigestWrapsAround() {
        Commadesk x = new Commadesk();
        boolean wasNegative = false, wasPositive = false;
        for (int i = 0; i < 40; i++) {
            long want = digest(x);
            due(want, x.digest());
            wasNegative |= want < 0;
            wasPositive |= want > 0;
            x.knock();
        }
        due(true, wasNegative && wasPositive);
    }

    @Says(at = "promise 50", it = "for each v in this order: desk() of 0 to 12; each FAULT that is kept: fault() of 0 to 3; SIGN by SIGN of the TEXT its number; "
        + "TABLE by TABLE: rows(), 1 if EVEN, otherwise 0, written() with least quotes, then with all, COLUMN by COLUMN of 0 to 7 typeOf() from 0 and total(), "
        + "ROW by ROW fields(), and FIELD by FIELD the SIGNS of it: how many, then each one's number; guess(); filterFault(); how many signs differences() of 0 has; "
        + "1 if isSound(), otherwise 0")
    static void theDigestOfEmptyAndFullObjects() {
        due(digest(busy()), busy().digest());
        Commadesk full = of(rows(EIGHT, 40), rows("1~-2~1.5~yes~2026-11-19~~\n~\"'", 39) + "x/");
        type(mode(full, 31), SIGNS.repeat(6).substring(0, 300));
        due(digest(full), full.digest());
        type(full, "a'".repeat(50)).read(1);
        due(digest(full), full.digest());
        due(digest(type(full, "0=a!1<5")), full.digest());
        due(digest(type(full, "a;b\nc;d")), full.digest());
        Commadesk text = typed(SIGNS);
        due(digest(text), text.digest());
        Commadesk headed = of("name~1/1~yes//", "2.5/x/");
        due(5, headed.typeOf(0, 0, 0));
        due(digest(headed), headed.digest());
    }

    // ---- what is said of all methods

    @Says(at = "What it is", it = "An object is used for at most 512 calls after it has been made")
    static void anObjectIsUsedForFiveHundredAndTwelveCalls() {
        Commadesk x = new Commadesk();
        int calls = 0;
        for (; calls < 300; calls++) x.type(calls == 0 ? 40 : 42);
        x.begin();
        x.feed(0, 1);
        for (calls += 2; calls < 480; calls++) due(0, x.feed(1, 300));
        due(1, x.finish(0));
        due(0, x.copy(1));
        for (calls += 2; calls < 504; calls += 2) {
            due(2, x.stack(calls % 4 / 2));
            due(2, x.undo());
        }
        due(2, x.stack(0));
        due(2, x.rows(0));
        due(2 * (178 * 299 + 3), x.written(0, false));
        due(true, x.isSound());
        due(1, x.knock());
        x.digest();
        due(300, x.wipe());
        due(2, x.undo());
    }

    @Says(at = "part 5", it = "A method that throws an exception changes nothing.")
    static void manyCallsThatThrowChangeNothing() {
        Commadesk x = busy();
        Map<String, Function<Commadesk, Object>> calls = new LinkedHashMap<>();
        calls.put("type", y -> y.type(53));
        calls.put("rub", y -> y.rub(301));
        calls.put("take", y -> y.take(0, 0, 2));
        calls.put("mode", y -> y.mode(3, 2, false, false));
        calls.put("feed", y -> y.feed(0, 4));
        calls.put("finish", y -> y.finish(2));
        calls.put("read", y -> y.read(-1));
        calls.put("write", y -> y.write(2, true));
        calls.put("fix", y -> y.fix(2));
        calls.put("readFixed", y -> y.readFixed(0, 41));
        calls.put("insert", y -> y.insert(0, 0, 9));
        calls.put("put", y -> y.put(0, 0, 3));
        calls.put("drop", y -> y.drop(0, 3));
        calls.put("move", y -> y.move(0, 0, 3));
        calls.put("dropColumn", y -> y.dropColumn(0, 8));
        calls.put("copy", y -> y.copy(2));
        calls.put("stack", y -> y.stack(2));
        calls.put("part", y -> y.part(0, 4));
        calls.put("turn", y -> y.turn(2));
        calls.put("sort", y -> y.sort(0, 0, 3, true, 0));
        calls.put("filter", y -> y.filter(0, 4));
        calls.put("group", y -> y.group(0, 0, 8));
        calls.put("join", y -> y.join(0, 0, 8));
        calls.put("heads", y -> y.heads(2));
        calls.put("sample", y -> y.sample(0, 0, 11));
        String was = told(x);
        calls.forEach((name, call) -> {
            refuses(anyOf(call), Trial::busy, call);
            due(name, was, told(x));
            try {
                call.apply(x);
            } catch (RuntimeException e) {
                due(name, was, told(x));
            }
        });
        due("all of them", afterwards(busy()), afterwards(x));
    }

    private static Class<?> anyOf(Function<Commadesk, Object> call) {
        try {
            call.apply(busy());
            return STATE;
        } catch (RuntimeException e) {
            return e.getClass();
        }
    }

    @Says(at = "part 5", it = "What is asked changes nothing (but knock(), which counts).")
    static void whatIsAskedChangesNothing() {
        Map<String, Function<Commadesk, Object>> calls = new LinkedHashMap<>();
        calls.put("text", Commadesk::text);
        calls.put("rows", x -> x.rows(0));
        calls.put("fields", x -> x.fields(0, 1));
        calls.put("cell", x -> x.cell(0, 1, 1));
        calls.put("isEven", x -> x.isEven(0));
        calls.put("headed", x -> x.headed(0));
        calls.put("find", x -> x.find(0, 0, 0));
        calls.put("typeOf", x -> x.typeOf(0, 1, 0));
        calls.put("wrong", x -> x.wrong(0, 0, 1));
        calls.put("total", x -> x.total(0, 1));
        calls.put("written", x -> x.written(0, true));
        calls.put("page", x -> x.page(0, 0, 2));
        calls.put("differences", x -> x.differences(0));
        calls.put("guess", Commadesk::guess);
        calls.put("filterFault", Commadesk::filterFault);
        calls.put("passes", x -> x.passes(0, 1));
        calls.put("fault", x -> x.fault(0, 3));
        calls.put("desk", x -> x.desk(10));
        calls.put("isSound", Commadesk::isSound);
        calls.put("digest", Commadesk::digest);
        String want = afterwards(busy());
        Commadesk all = busy();
        calls.forEach((name, call) -> {
            Commadesk x = busy();
            Object first = call.apply(x);
            due(name + " again", first, call.apply(x));
            due(name, want, afterwards(x));
            due(name + " of another one", first, call.apply(all));
        });
        due("all of them", want, afterwards(all));
    }

    @Says(at = "part 5", it = "What is asked changes nothing (but knock(), which counts).")
    static void knockCountsAndChangesNothingElse() {
        Commadesk x = busy();
        due(2, x.knock());
        due(told(busy()).replace(" 1 | 1@", " 2 | 1@"), told(x));
    }

    public static void main(String[] args) throws Exception { run(AskingEdgesTest.class); }
}
