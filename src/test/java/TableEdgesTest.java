import java.util.LinkedHashMap;
import java.util.Map;
import java.util.function.Function;

/** Boundary cases of tables and of what was done with them: the document's part 2, its promises 14 to 29 and 31 to 34. */
public final class TableEdgesTest extends Trial {
    private static final String EIGHT = "a~b~c~d~e~f~g~h";

    private static Commadesk full() { return of(risingRows(40), risingRows(39)); }

    private static Commadesk wide() { return of(rows(EIGHT, 40)); }

    // ---- part 2: tables

    @Says(at = "part 2", it = "A TABLE has 0 to 40 ROWS (none at first)")
    static void aTableHasUpToFortyRows() {
        Commadesk x = new Commadesk();
        due(0, x.rows(0));
        due(0, x.rows(1));
        for (int i = 1; i <= 40; i++) due(i, x.insert(0, i - 1, 1));
        due(40, x.rows(0));
        due(1, x.drop(0, 39));
        due(40, x.insert(0, 0, 8));
        for (int i = 0; i < 40; i++) x.drop(0, 0);
        due(0, x.rows(0));
    }

    @Says(at = "part 2", it = "a ROW 1 to 8 FIELDS")
    static void aRowHasUpToEightFields() {
        Commadesk x = new Commadesk();
        x.insert(0, 0, 1);
        due(1, x.fields(0, 0));
        for (int i = 1; i < 8; i++) due(i + 1, x.put(0, 0, i));
        due(8, x.fields(0, 0));
        for (int i = 0; i < 9; i++) x.dropColumn(0, 0);
        due(1, x.fields(0, 0));
    }

    @Says(at = "part 2", it = "each a text of any SIGNS (also none)")
    static void aFieldHoldsAnySigns() {
        Commadesk x = typed(SIGNS);
        x.insert(0, 0, 1);
        due("", x.cell(0, 0, 0));
        x.put(0, 0, 0);
        due(SIGNS, x.cell(0, 0, 0));
        x.wipe();
        x.put(0, 0, 0);
        due("", x.cell(0, 0, 0));
        due("a".repeat(700), of("a".repeat(700) + "/").cell(0, 0, 0));
    }

    @Says(at = "part 2", it = "the OTHER one is that which is not told")
    static void theOtherTableOfEach() {
        String zero = "a~1/b~2/", one = "a~x/";
        due("a~x/ + a~x/", both(done(of(zero, one), x -> x.copy(0))));
        due("a~1/b~2/ + a~1/b~2/", both(done(of(zero, one), x -> x.copy(1))));
        due("a~1/b~2/a~x/ + a~x/", both(done(of(zero, one), x -> x.stack(0))));
        due("a~1/b~2/ + a~x/a~1/b~2/", both(done(of(zero, one), x -> x.stack(1))));
        due(" + a~1/b~2/", both(done(of(zero, one), x -> x.part(0, 0))));
        due("a~x/ + ", both(done(of(zero, one), x -> x.part(1, 0))));
        due("a~1/b~2/ + a~1~1/b~1~2/", both(done(of(zero, one), x -> x.group(0, 0, 1))));
        due("a~1~0/ + a~x/", both(done(of(zero, one), x -> x.group(1, 0, 1))));
        due("a~1~x/ + a~x/", both(done(of(zero, one), x -> x.join(0, 0, 0))));
        due("a~1/b~2/ + a~x~1/", both(done(of(zero, one), x -> x.join(1, 0, 0))));
        due("a~1/b~2/ + a~1/", both(done(of(zero, one), x -> x.sample(0, 0, 1))));
        due("a~x/ + a~x/", both(done(of(zero, one), x -> x.sample(1, 0, 1))));
    }

    private static Commadesk done(Commadesk x, Function<Commadesk, Object> call) {
        call.apply(x);
        return x;
    }

    @Says(at = "part 2", it = "COLUMN c of a ROW is its FIELD c, if it has so many")
    static void aRowHasNoColumnBehindItsFields() {
        Commadesk x = of("a~/b/");
        due("", x.cell(0, 0, 1));
        due(0, x.find(0, 1, 0));
        due(-1, x.find(0, 1, 1));
        due(-1, x.find(0, 2, 0));
        refuses(INDEX, () -> of("a~/b/"), y -> y.cell(0, 1, 1));
        due(1, x.dropColumn(0, 1));
    }

    @Says(at = "part 2", it = "A TABLE is EVEN, if all its ROWS have as many FIELDS (also without ROWS)")
    static void evenTables() {
        due(true, new Commadesk().isEven(0));
        due(true, new Commadesk().isEven(1));
        due(true, of("a~b/").isEven(0));
        due(true, of("a~b/c~/").isEven(0));
        due(false, of("a~b/c/").isEven(0));
        due(false, of("a/b~c/").isEven(0));
        due(false, of("a~b/c~d/e~f/g/").isEven(0));
        due(false, of("a~b/c/d~e/").isEven(0));
        due(true, wide().isEven(0));
        Commadesk x = of(rows("a", 39) + "b~c/");
        due(false, x.isEven(0));
        x.drop(0, 39);
        due(true, x.isEven(0));
    }

    // ---- promise 14: insert

    @Says(at = "promise 14", it = {"Puts a ROW of empty FIELDS in.", "Returns how many ROWS there are then."})
    static void insertAheadBetweenAndBehind() {
        Commadesk x = of("a/b/");
        due(3, x.insert(0, 0, 1));
        due("/a/b/", shown(x, 0));
        due(4, x.insert(0, 2, 2));
        due("/a/~/b/", shown(x, 0));
        due(5, x.insert(0, 4, 8));
        due("/a/~/b/~~~~~~~/", shown(x, 0));
        due(1, x.insert(1, 0, 3));
        due("~~/", shown(x, 1));
    }

    @Says(at = "promise 14", it = "Throws `IndexOutOfBoundsException` if there is no such TABLE, or row is not 0 to how many ROWS it has")
    static void insertTakesPlacesOfATable() {
        takesTables(Trial::busy, (x, n) -> x.insert(n, 0, 1));
        takes(INDEX, Trial::busy, 0, 3, (x, n) -> x.insert(0, n, 1));
        takes(INDEX, Commadesk::new, 0, 0, (x, n) -> x.insert(1, n, 1));
        takes(INDEX, TableEdgesTest::full, 0, 39, (x, n) -> x.insert(1, n, 8));
    }

    @Says(at = "promise 14", it = "Throws `IllegalArgumentException` if fields is not 1 to 8")
    static void insertTakesOneToEightFields() { takes(ARGUMENT, Trial::busy, 1, 8, (x, n) -> x.insert(0, 0, n)); }

    @Says(at = "promise 14", it = "Throws `IllegalStateException` if it has 40")
    static void aTableOfFortyRowsGetsNoMore() {
        due(40, full().insert(1, 39, 1));
        refuses(STATE, TableEdgesTest::full, x -> x.insert(0, 0, 1));
        refuses(STATE, TableEdgesTest::full, x -> x.insert(0, 40, 8));
        refuses(STATE, TableEdgesTest::full, x -> x.insert(0, 39, 1));
    }

    @Says(at = "part 5", it = "If several exceptions apply, the one that is named first is thrown")
    static void insertNamesThePlaceThenTheFields() {
        refuses(INDEX, TableEdgesTest::full, x -> x.insert(0, 41, 9));
        refuses(INDEX, TableEdgesTest::full, x -> x.insert(2, 0, 0));
        refuses(INDEX, TableEdgesTest::full, x -> x.insert(0, 41, 1));
        refuses(INDEX, TableEdgesTest::full, x -> x.insert(0, -1, 1));
        refuses(ARGUMENT, TableEdgesTest::full, x -> x.insert(0, 40, 9));
        refuses(ARGUMENT, TableEdgesTest::full, x -> x.insert(0, 0, 0));
    }

    // ---- promise 15: put

    @Says(at = "promise 15", it = {"A FIELD becomes the TEXT; behind the last one it is a new FIELD.", "Returns how many FIELDS the ROW has then."})
    static void putIntoAFieldAndBehindTheLastOne() {
        Commadesk x = type(of("a~b/c/"), "x");
        due(2, x.put(0, 0, 0));
        due(2, x.put(0, 0, 1));
        due("x~x/c/", shown(x, 0));
        due(3, x.put(0, 0, 2));
        due(2, type(x, "").put(0, 1, 1));
        due("x~x~x/c~/", shown(x, 0));
        due(1, type(of("", "/"), "y".repeat(300)).put(1, 0, 0));
        x = type(of("a~b~c~d~e~f~g/"), "x");
        due(8, x.put(0, 0, 7));
        due(8, x.put(0, 0, 7));
        due("a~b~c~d~e~f~g~x/", shown(x, 0));
    }

    @Says(at = "promise 15", it = "Throws `IndexOutOfBoundsException` if there is no such TABLE, or ROW of it, "
        + "or column is not 0 to how many FIELDS that has, or not 0 to 7")
    static void putTakesFieldsAndThePlaceBehindThem() {
        takesTables(Trial::busy, (x, n) -> x.put(n, 0, 0));
        takes(INDEX, Trial::busy, 0, 2, (x, n) -> x.put(0, n, 0));
        takes(INDEX, Trial::busy, 0, 2, (x, n) -> x.put(0, 2, n));
        takes(INDEX, () -> of("a~b~c~d~e~f~g/"), 0, 7, (x, n) -> x.put(0, 0, n));
        takes(INDEX, TableEdgesTest::wide, 0, 7, (x, n) -> x.put(0, 39, n));
        refuses(INDEX, TableEdgesTest::wide, x -> x.put(0, 40, 0));
        refuses(INDEX, Commadesk::new, x -> x.put(0, 0, 0));
        refuses(INDEX, () -> of("a/b~c/"), x -> x.put(0, 0, 2));
    }

    // ---- promise 16: drop

    @Says(at = "promise 16", it = {"Drops a ROW.", "Returns how many FIELDS it had."})
    static void dropOfTheFirstTheLastAndTheOnlyRow() {
        Commadesk x = of("a/b~c/d~e~f/", EIGHT + "/");
        due(1, x.drop(0, 0));
        due("b~c/d~e~f/", shown(x, 0));
        due(3, x.drop(0, 1));
        due("b~c/", shown(x, 0));
        due(2, x.drop(0, 0));
        due("", shown(x, 0));
        due(8, x.drop(1, 0));
        due(1, full().drop(0, 39));
    }

    @Says(at = "promise 16", it = "Throws `IndexOutOfBoundsException` if there is no such TABLE, or ROW of it")
    static void dropTakesRowsOfATable() {
        takesTables(Trial::busy, (x, n) -> x.drop(n, 0));
        takes(INDEX, Trial::busy, 0, 2, (x, n) -> x.drop(0, n));
        takes(INDEX, TableEdgesTest::full, 0, 39, (x, n) -> x.drop(0, n));
        refuses(INDEX, Commadesk::new, x -> x.drop(0, 0));
    }

    // ---- promise 17: move

    @Says(at = "promise 17", it = {"Moves a ROW: it is taken out, and put in with another number.",
        "Returns how many ROWS have another number by that (it, too)."})
    static void moveUpDownAndNowhere() {
        Commadesk x = of("a/b/c/d/");
        due(4, x.move(0, 0, 3));
        due("b/c/d/a/", shown(x, 0));
        due(4, x.move(0, 3, 0));
        due("a/b/c/d/", shown(x, 0));
        due(2, x.move(0, 1, 2));
        due("a/c/b/d/", shown(x, 0));
        due(2, x.move(0, 3, 2));
        due("a/c/d/b/", shown(x, 0));
        for (int i = 0; i < 4; i++) due(0, x.move(0, i, i));
        due("a/c/d/b/", shown(x, 0));
        due(40, full().move(0, 0, 39));
        due(40, full().move(0, 39, 0));
        due(0, of("a/").move(0, 0, 0));
        // rows that are alike have other numbers, too
        due(3, of("a/a/a/").move(0, 0, 2));
    }

    @Says(at = "promise 17", it = "Throws `IndexOutOfBoundsException` if there is no such TABLE, or ROW of it, from or to")
    static void moveTakesRowsOfATable() {
        takesTables(Trial::busy, (x, n) -> x.move(n, 0, 1));
        takes(INDEX, Trial::busy, 0, 2, (x, n) -> x.move(0, n, 0));
        takes(INDEX, Trial::busy, 0, 2, (x, n) -> x.move(0, 0, n));
        takes(INDEX, TableEdgesTest::full, 0, 39, (x, n) -> x.move(0, 39, n));
        refuses(INDEX, Trial::busy, x -> x.move(0, 3, 3));
        refuses(INDEX, Commadesk::new, x -> x.move(0, 0, 0));
    }

    // ---- promise 18: dropColumn

    @Says(at = "promise 18", it = {"(the COLUMNS behind it are one less then)", "Returns how many ROWS had it."})
    static void theFirstAndTheLastColumnDropped() {
        Commadesk x = of("a~b~c/d~e/f/");
        due(1, x.dropColumn(0, 2));
        due("a~b/d~e/f/", shown(x, 0));
        due(3, x.dropColumn(0, 0));
        due("b/e//", shown(x, 0));
        Commadesk y = wide();
        due(40, y.dropColumn(0, 7));
        due("a~b~c~d~e~f~g", shown(y, 0).substring(0, 13));
        due(40, y.dropColumn(0, 0));
        due("b~c~d~e~f~g/", shown(y, 0).substring(0, 12));
        due(0, y.dropColumn(0, 7));
        due(0, y.dropColumn(0, 6));
        due(40, y.dropColumn(0, 5));
    }

    @Says(at = "promise 18", it = "a ROW of just one FIELD has an empty one then")
    static void theOnlyFieldOfARowBecomesEmpty() {
        Commadesk x = of("a/b~c//");
        due(3, x.dropColumn(0, 0));
        due("/c//", shown(x, 0));
        due(3, x.dropColumn(0, 0));
        due("///", shown(x, 0));
        due(3, x.dropColumn(0, 0));
        due("///", shown(x, 0));
    }

    @Says(at = "promise 18", it = "Returns how many ROWS had it.")
    static void noRowHasAColumnBehindAll() {
        Commadesk x = of("a~b/c/");
        due(0, x.dropColumn(0, 2));
        due(0, x.dropColumn(0, 7));
        due(0, x.dropColumn(1, 0));
        due("a~b/c/ + ", both(x));
    }

    @Says(at = "promise 18", it = "Throws `IndexOutOfBoundsException` if there is no such TABLE, or column is not 0 to 7")
    static void dropColumnTakesEightColumns() {
        takesTables(Trial::busy, (x, n) -> x.dropColumn(n, 0));
        takes(INDEX, Trial::busy, 0, 7, (x, n) -> x.dropColumn(0, n));
        takes(INDEX, Commadesk::new, 0, 7, (x, n) -> x.dropColumn(1, n));
    }

    // ---- promise 19: copy

    @Says(at = "promise 19", it = {"A TABLE becomes as the OTHER one is.", "Returns how many ROWS it had."})
    static void copyTellsHowManyRowsTheToldTableHad() {
        Commadesk x = of("a/b/c/", "d/");
        due(1, x.copy(1));
        due("a/b/c/ + a/b/c/", both(x));
        due(3, x.copy(1));
        x = of("a/b/c/", "d/");
        due(3, x.copy(0));
        due("d/ + d/", both(x));
        due(40, full().copy(0));
        due(39, full().copy(1));
    }

    @Says(at = "promise 19", it = "A TABLE becomes as the OTHER one is.")
    static void copyOfAnEmptyTable() {
        Commadesk x = of("a/b/");
        due(2, x.copy(0));
        due(" + ", both(x));
        due(0, x.copy(0));
        due(0, x.copy(1));
        x = of("a/b/");
        due(0, x.copy(1));
        due("a/b/ + a/b/", both(x));
    }

    @Says(at = "promise 19", it = "A TABLE becomes as the OTHER one is.")
    static void aCopyGoesItsOwnWay() {
        Commadesk x = type(of("a~b/c/"), "x");
        x.copy(1);
        x.put(0, 0, 0);
        due("x~b/c/ + a~b/c/", both(x));
        x.put(1, 1, 0);
        x.dropColumn(1, 1);
        due("x~b/c/ + a/x/", both(x));
        x.drop(0, 0);
        x.move(1, 0, 1);
        due("c/ + x/a/", both(x));
    }

    @Says(at = "promise 19", it = "Throws `IndexOutOfBoundsException` if there is no such TABLE")
    static void copyTakesTwoTables() { takesTables(Trial::busy, (x, n) -> x.copy(n)); }

    // ---- promise 20: stack

    @Says(at = "promise 20", it = "Puts the ROWS of the OTHER TABLE behind those of a TABLE (they stay there, too).")
    static void stackOfEmptyTables() {
        due(0, new Commadesk().stack(0));
        due(2, of("a/b/").stack(0));
        due("a/b/ + a/b/", both(done(of("a/b/"), x -> x.stack(1))));
        due("a/b/c/ + c/", both(done(of("a/b/", "c/"), x -> x.stack(0))));
    }

    @Says(at = "promise 20", it = "Throws `IllegalStateException` if it would have more than 40")
    static void fortyRowsAreStacked() {
        Commadesk x = of(risingRows(39), "z/");
        due(40, x.stack(0));
        due("z", x.cell(0, 39, 0));
        due("a0", x.cell(0, 0, 0));
        due(40, of(risingRows(20), risingRows(20)).stack(1));
        due(40, of(risingRows(40)).stack(0));
        due(40, of(risingRows(40)).stack(1));
        refuses(STATE, () -> of(risingRows(40), "z/"), y -> y.stack(0));
        refuses(STATE, () -> of(risingRows(40), "z/"), y -> y.stack(1));
        refuses(STATE, () -> of(risingRows(20), risingRows(21)), y -> y.stack(0));
        refuses(STATE, () -> of(risingRows(40), risingRows(40)), y -> y.stack(1));
    }

    @Says(at = "promise 20", it = "Throws `IndexOutOfBoundsException` if there is no such TABLE")
    static void stackTakesTwoTables() { takesTables(Trial::busy, (x, n) -> x.stack(n)); }

    // ---- promise 21: part

    @Says(at = "promise 21", it = {"its ROWS from one on are the OTHER TABLE then (what that had is gone)", "Returns how many go."})
    static void partAheadOfAllAndBehindAll() {
        Commadesk x = of("a/b/c/", "d/");
        due(1, x.part(0, 2));
        due("a/b/ + c/", both(x));
        due(0, x.part(0, 2));
        due("a/b/ + ", both(x));
        due(2, x.part(0, 0));
        due(" + a/b/", both(x));
        due(0, x.part(0, 0));
        due(" + ", both(x));
        due(40, full().part(0, 0));
        due(0, full().part(0, 40));
    }

    @Says(at = "promise 21", it = "Throws `IndexOutOfBoundsException` if there is no such TABLE, or row is not 0 to how many ROWS it has")
    static void partTakesPlacesOfATable() {
        takesTables(Trial::busy, (x, n) -> x.part(n, 1));
        takes(INDEX, Trial::busy, 0, 3, (x, n) -> x.part(0, n));
        takes(INDEX, Commadesk::new, 0, 0, (x, n) -> x.part(1, n));
        takes(INDEX, TableEdgesTest::full, 0, 40, (x, n) -> x.part(0, n));
    }

    // ---- promise 22: turn

    @Says(at = "promise 22", it = {"Turns a TABLE: its COLUMNS are ROWS then, and its ROWS COLUMNS.", "Returns how many ROWS it has then."})
    static void turnOfTheSmallestAndTheGreatestTable() {
        Commadesk x = of("a/");
        due(1, x.turn(0));
        due("a/", shown(x, 0));
        x = of(rows(EIGHT, 8));
        due(8, x.turn(0));
        due("a~a~a~a~a~a~a~a/b~b~b~b~b~b~b~b/", shown(x, 0).substring(0, 32));
        due(8, of(EIGHT + "/").turn(0));
        due(1, of("", rows("a", 8)).turn(1));
        due("a~c/b~d/", shown(done(of("a~b/c~d/"), y -> y.turn(0)), 0));
    }

    @Says(at = "promise 22", it = "Throws `IllegalStateException` if it is not EVEN, or has no ROW, or more than 8")
    static void aTableThatIsNotEvenIsNotTurned() {
        refuses(STATE, () -> of("a~b/c/"), x -> x.turn(0));
        refuses(STATE, () -> of("", "a/b/c/d/e/f/g/h~i/"), x -> x.turn(1));
    }

    @Says(at = "promise 22", it = "Throws `IllegalStateException` if it is not EVEN, or has no ROW, or more than 8")
    static void aTableWithoutRowsIsNotTurned() {
        refuses(STATE, Commadesk::new, x -> x.turn(0));
        refuses(STATE, () -> of("a/"), x -> x.turn(1));
    }

    @Says(at = "promise 22", it = "Throws `IllegalStateException` if it is not EVEN, or has no ROW, or more than 8")
    static void aTableOfMoreThanEightRowsIsNotTurned() {
        accepts(() -> of(rows("a", 8)), x -> x.turn(0));
        refuses(STATE, () -> of(rows("a", 9)), x -> x.turn(0));
        refuses(STATE, TableEdgesTest::wide, x -> x.turn(0));
    }

    @Says(at = "promise 22", it = "Throws `IndexOutOfBoundsException` if there is no such TABLE")
    static void turnTakesTwoTables() { takesTables(Trial::busy, (x, n) -> x.turn(n)); }

    // ---- promise 23: sort

    private static String sorted(String rows, int column, int how, boolean isFalling, int from, int moved) {
        Commadesk x = of(rows);
        due(moved, x.sort(0, column, how, isFalling, from));
        return shown(x, 0);
    }

    @Says(at = "promise 23", it = "like KEYS stay in the sequence in which they were")
    static void likeKeysStayInTheirSequence() {
        due("a~1/a~2/a~3/b~1/b~2/", sorted("b~1/a~1/a~2/b~2/a~3/", 0, 0, false, 0, 5));
        due("b~1/b~2/a~1/a~2/a~3/", sorted("b~1/a~1/a~2/b~2/a~3/", 0, 0, true, 0, 3));
        due("07~1/7~2/007~3/", sorted("07~1/7~2/007~3/", 0, 1, false, 0, 0));
        due("07~1/7~2/007~3/", sorted("07~1/7~2/007~3/", 0, 1, true, 0, 0));
        due("x/y/-1/1/", sorted("x/1/-1/y/", 0, 1, false, 0, 2));
        due("1/-1/x/y/", sorted("x/1/-1/y/", 0, 1, true, 0, 3));
        due("b/a/cd/ab/", sorted("cd/b/ab/a/", 0, 2, false, 0, 4));
        due("cd/ab/b/a/", sorted("cd/b/ab/a/", 0, 2, true, 0, 2));
    }

    @Says(at = "promise 23", it = "those ahead of a ROW aside")
    static void rowsAheadStayAside() {
        due("c/a/b/", sorted("c/b/a/", 0, 0, false, 1, 2));
        due("c/b/a/", sorted("c/b/a/", 0, 0, false, 2, 0));
        due("c/b/a/", sorted("c/b/a/", 0, 0, false, 3, 0));
        due("a/b/c/", sorted("c/b/a/", 0, 0, false, 0, 2));
        due("", sorted("", 0, 0, false, 0, 0));
        due("a/c/b/", sorted("a/b/c/", 0, 0, true, 1, 2));
    }

    @Says(at = "promise 23", it = "Returns how many ROWS have another number then.")
    static void sortCountsRowsThatHaveAnotherNumber() {
        due("a/b/", sorted("a/b/", 0, 0, false, 0, 0));
        due("b/a/", sorted("a/b/", 0, 0, true, 0, 2));
        due("a/a/a/", sorted("a/a/a/", 0, 0, true, 0, 0));
        due("a/b/c/d/", sorted("d/b/c/a/", 0, 0, false, 0, 2));
        due("a/b/c/d/", sorted("b/c/d/a/", 0, 0, false, 0, 4));
        Commadesk x = full();
        due(0, x.sort(0, 0, 0, false, 0));
        due(40, x.sort(0, 0, 0, true, 0));
        due("d9", x.cell(0, 0, 0));
        due("a0", x.cell(0, 39, 0));
        due(38, of(risingRows(39)).sort(0, 0, 0, true, 0));
    }

    @Says(at = "promise 23", it = "`from`: from which ROW on")
    static void sortIntoTheLastRows() {
        Commadesk x = full();
        due(2, x.sort(0, 0, 0, true, 38));
        due("d9", x.cell(0, 38, 0));
        due(0, x.sort(0, 0, 0, false, 39));
        due(0, x.sort(0, 0, 0, false, 40));
    }

    @Says(at = "promise 23", it = "Throws `IndexOutOfBoundsException` if there is no such TABLE, column is not 0 to 7, or from not 0 to how many ROWS it has")
    static void sortTakesColumnsAndPlaces() {
        takesTables(Trial::busy, (x, n) -> x.sort(n, 0, 0, false, 0));
        takes(INDEX, Trial::busy, 0, 7, (x, n) -> x.sort(0, n, 0, false, 0));
        takes(INDEX, Trial::busy, 0, 3, (x, n) -> x.sort(0, 0, 0, true, n));
        takes(INDEX, TableEdgesTest::full, 0, 40, (x, n) -> x.sort(0, 0, 2, true, n));
        takes(INDEX, Commadesk::new, 0, 0, (x, n) -> x.sort(0, 0, 1, true, n));
    }

    @Says(at = "promise 23", it = "Throws `IllegalArgumentException` if how is not 0 to 2")
    static void sortTakesThreeKeys() {
        takes(ARGUMENT, Trial::busy, 0, 2, (x, n) -> x.sort(0, 0, n, false, 0));
        takes(ARGUMENT, Commadesk::new, 0, 2, (x, n) -> x.sort(0, 0, n, true, 0));
    }

    @Says(at = "part 5", it = "If several exceptions apply, the one that is named first is thrown")
    static void sortNamesTablesColumnsAndPlacesFirst() {
        refuses(INDEX, Trial::busy, x -> x.sort(2, 0, 3, false, 0));
        refuses(INDEX, Trial::busy, x -> x.sort(0, 8, 3, false, 0));
        refuses(INDEX, Trial::busy, x -> x.sort(0, 0, -1, false, 4));
    }

    // ---- promise 24: filter

    private static String filtered(String rows, String filter, int from, int dropped) {
        Commadesk x = type(of(rows), filter);
        due(dropped, x.filter(0, from));
        due(filter, x.text());
        return shown(x, 0);
    }

    @Says(at = "promise 24", it = {"Drops all ROWS of a TABLE from one on that do not PASS the FILTER that the TEXT is.", "Returns how many."})
    static void filterDropsAllNoneAndSome() {
        due("a/a/", filtered("a/b/a/", "0=a", 0, 1));
        due("", filtered("a/b/a/", "0=c", 0, 3));
        due("a/b/a/", filtered("a/b/a/", "0:", 0, 0));
        due("", filtered("", "0=a", 0, 0));
        due("a/b/", filtered("a/b/c/", "0=z", 2, 1));
        due("a/b/c/", filtered("a/b/c/", "0=z", 3, 0));
        due("a/c/", filtered("a/b/c/d/", "0=c", 1, 2));
        due("d9/", filtered(risingRows(40), "0=d9", 0, 39));
        due("a0/", filtered(risingRows(40), "0=a0", 0, 39));
    }

    @Says(at = "promise 24", it = "Throws `IndexOutOfBoundsException` if there is no such TABLE, or from is not 0 to how many ROWS it has")
    static void filterTakesPlacesOfATable() {
        takesTables(Trial::busy, (x, n) -> x.filter(n, 0));
        takes(INDEX, Trial::busy, 0, 3, (x, n) -> x.filter(0, n));
        takes(INDEX, () -> typed("0="), 0, 0, (x, n) -> x.filter(1, n));
        takes(INDEX, () -> type(full(), "0="), 0, 40, (x, n) -> x.filter(0, n));
    }

    @Says(at = "promise 24", it = "Throws `IllegalStateException` if the TEXT has a FAULT as a FILTER")
    static void filterNeedsAFilter() {
        for (String text : new String[] {"", "0", "8=a", "0<", "0<x", "0=a&", "0=a!", "0#", "a"}) {
            refuses(STATE, () -> type(of("a/b/", "c/"), text), x -> x.filter(0, 0));
            refuses(STATE, () -> typed(text), x -> x.filter(0, 0));
        }
        refuses(STATE, () -> typed("0=a!1<2147483648"), x -> x.filter(0, 0));
    }

    @Says(at = "part 5", it = "If several exceptions apply, the one that is named first is thrown")
    static void filterNamesThePlaceFirst() {
        refuses(INDEX, () -> typed("x"), x -> x.filter(2, 0));
        refuses(INDEX, () -> typed("x"), x -> x.filter(0, 1));
        refuses(INDEX, Commadesk::new, x -> x.filter(0, -1));
    }

    // ---- promise 25: group

    private static String grouped(String rows, int column, int value) {
        Commadesk x = of(rows, "x/y/z/");
        due(x.group(0, column, value), x.rows(1));
        due(rows, shown(x, 0));
        return shown(x, 1);
    }

    @Says(at = "promise 25", it = "one ROW for each text that is in a COLUMN of it (ROWS without that COLUMN are in none), by rising texts")
    static void groupsByRisingTexts() {
        due("", grouped("", 0, 0));
        due("a~1~0/", grouped("a/", 0, 0));
        due("a~2~0/b~1~0/", grouped("b/a/a/", 0, 1));
        due("~1~0/\n~1~0/a~2~0/ab~1~0/b~1~0/", grouped("b/ab/a/\n//a/", 0, 7));
        due("10~1~10/9~2~18/", grouped("9/10/9/", 0, 0));
    }

    @Says(at = "promise 25", it = "(ROWS without that COLUMN are in none)")
    static void rowsWithoutTheColumnAreInNoGroup() {
        due("~1~0/b~1~0/", grouped("a~b/c/d~/", 1, 2));
        due("", grouped("a~b/c/d~/", 2, 0));
        due("", grouped("a~b/", 7, 0));
        due("h~40~0/", grouped(rows(EIGHT, 40), 7, 0));
    }

    @Says(at = "promise 25", it = "and the sum of all WHOLE FIELDS of another COLUMN in these")
    static void groupSumsWholeFieldsAlone() {
        due("a~6~1/", grouped("a~5/a~-4/a~1.5/a~x/a~/a/", 0, 1));
        due("a~1~0/b~1~0/", grouped("a~-/b~2147483648/", 0, 1));
        due("a~2~-5/b~1~7/", grouped("a~-5/b~007/a~-0/", 0, 1));
        due("a~40~85899345880/", grouped(rows("a~2147483647", 40), 0, 1));
        due("a~40~-85899345920/", grouped(rows("a~-2147483648", 40), 0, 1));
        due("-1~2~-2/0~1~0/", grouped("-1/0/-1/", 0, 0));
    }

    @Says(at = "promise 25", it = "Returns how many ROWS that has then.")
    static void fortyGroups() {
        Commadesk x = full();
        due(40, x.group(0, 0, 0));
        due("d9~1~0/", shown(x, 1).substring(39 * 7));
        due("a0~1~0/", shown(x, 1).substring(0, 7));
        due(1, of(rows("a", 40)).group(0, 0, 0));
    }

    @Says(at = "promise 25", it = "Throws `IndexOutOfBoundsException` if there is no such TABLE, or column or value is not 0 to 7")
    static void groupTakesEightColumns() {
        takesTables(Trial::busy, (x, n) -> x.group(n, 0, 0));
        takes(INDEX, Trial::busy, 0, 7, (x, n) -> x.group(0, n, 0));
        takes(INDEX, Trial::busy, 0, 7, (x, n) -> x.group(0, 0, n));
        takes(INDEX, Commadesk::new, 0, 7, (x, n) -> x.group(1, 7, n));
    }

    // ---- promise 26: join

    private static String joined(String zero, String one, int column, int its) {
        Commadesk x = of(zero, one);
        due(x.join(0, column, its), x.rows(0));
        due(one, shown(x, 1));
        return shown(x, 0);
    }

    @Says(at = "promise 26", it = "those of the first ROW of the OTHER TABLE that has the same text in a COLUMN of that, without this one")
    static void joinTakesTheFirstRowWithTheSameText() {
        due("a~1/", joined("a/", "a~1/a~2/", 0, 0));
        due("a~2/", joined("a/", "b~1/a~2/a~3/", 0, 0));
        due("a~1~3/", joined("a/", "1~a~3/", 0, 1));
        due("a~1~2/", joined("a/", "1~2~a/", 0, 2));
        due("x~a~1/", joined("x~a/", "a~1/", 1, 0));
        due("a/", joined("a/", "a/", 0, 0));
        due("a~1/a~1/", joined("a/a/", "a~1/", 0, 0));
        due("~1/", joined("/", "~1/", 0, 0));
        due("z~d9/", joined("z~d9/", risingRows(40), 1, 0));
    }

    @Says(at = "promise 26", it = "ROWS for which there is none, or that have not that COLUMN, are dropped")
    static void joinDropsRowsWithoutPartner() {
        due("", joined("a/b/", "c/", 0, 0));
        due("", joined("a/b/", "", 0, 0));
        due("", joined("", "a/", 0, 0));
        due("a~b~1/", joined("a~b/b/", "b~1/", 1, 0));
        due("", joined("a/", "a~b/", 7, 0));
        // an empty field is not a column that is not there, in neither table
        due("a~~1/", joined("a~/b/", "~1/", 1, 0));
        due("", joined("~1/", "a/", 0, 1));
        due("~1~a/", joined("~1/", "a~/", 0, 1));
        due("", joined(rows("a", 40), "b/", 0, 0));
        due(rows("a~1", 40), joined(rows("a", 40), "a~1/", 0, 0));
    }

    @Says(at = "promise 26", it = "Throws `IllegalStateException` if a ROW that stays would have more than 8 FIELDS")
    static void joinedRowsHaveUpToEightFields() {
        due(EIGHT + "/", joined("a~b~c~d~e~f~g/", "a~h/", 0, 0));
        due(EIGHT + "/", joined("a/", EIGHT + "/", 0, 0));
        due(EIGHT + "/", joined(EIGHT + "/", "a/", 0, 0));
        refuses(STATE, () -> of(EIGHT + "/", "a~i/"), x -> x.join(0, 0, 0));
        refuses(STATE, () -> of("a~b/", EIGHT + "/"), x -> x.join(0, 0, 0));
        refuses(STATE, () -> of("x/a/a~b/", "x/" + EIGHT + "/"), x -> x.join(0, 0, 0));
        refuses(STATE, () -> of(EIGHT + "/", EIGHT + "/"), x -> x.join(1, 7, 7));
    }

    @Says(at = "promise 26", it = "Throws `IllegalStateException` if a ROW that stays would have more than 8 FIELDS")
    static void aRowThatIsDroppedMayHaveManyFields() {
        due("a~1~2/", joined(EIGHT.replace("a", "x") + "/a~1/", "a~2/", 0, 0));
        due("", joined(EIGHT + "/", "x~" + EIGHT.substring(2) + "/", 0, 0));
        // only the first row with the same text counts
        due(EIGHT + "/", joined(EIGHT + "/", "a/a~b/", 0, 0));
    }

    @Says(at = "promise 26", it = "Throws `IndexOutOfBoundsException` if there is no such TABLE, or column or its is not 0 to 7")
    static void joinTakesEightColumns() {
        takesTables(Trial::busy, (x, n) -> x.join(n, 0, 0));
        takes(INDEX, Trial::busy, 0, 7, (x, n) -> x.join(0, n, 0));
        takes(INDEX, Trial::busy, 0, 7, (x, n) -> x.join(0, 0, n));
        takes(INDEX, Commadesk::new, 0, 7, (x, n) -> x.join(1, n, 7));
    }

    @Says(at = "part 5", it = "If several exceptions apply, the one that is named first is thrown")
    static void joinNamesTablesAndColumnsFirst() {
        refuses(INDEX, () -> of(EIGHT + "/", "a~i/"), x -> x.join(0, 0, 8));
        refuses(INDEX, () -> of(EIGHT + "/", "a~i/"), x -> x.join(0, -1, 0));
        refuses(INDEX, () -> of(EIGHT + "/", "a~i/"), x -> x.join(2, 0, 0));
    }

    @Says(at = "promise 26", it = "Returns how many ROWS it has then.")
    static void whatWasJoinedOrGroupedAheadIsNotThereAgain() {
        Commadesk x = of("a/b/", "a~1/b~2/");
        due(2, x.join(0, 0, 0));
        x.drop(1, 0);
        due(1, x.join(0, 0, 0));
        due("b~2~2/ + b~2/", both(x));
        due(1, x.group(0, 0, 1));
        due(1, x.group(0, 1, 1));
        due("b~2~2/ + 2~1~2/", both(x));
        due(0, x.join(1, 0, 0));
        due(3, x.turn(0));
        due("b/2/2/ + ", both(x));
        due(2, x.group(0, 0, 0));
        due(3, x.turn(1));
        due("b/2/2/ + 2~b/2~1/4~0/", both(x));
    }

    // ---- promise 27: heads

    private static String headsOf(String rows, int changed) {
        Commadesk x = of(rows);
        due(changed, x.heads(0));
        return shown(x, 0);
    }

    @Says(at = "promise 27", it = "of a text that was there already, \"#\" is put behind it, and how many of it there were up to here, with this")
    static void headsAreNumberedFromTheSecondOn() {
        due("a/", headsOf("a/", 0));
        due("a~b/", headsOf("a~b/", 0));
        due("a~a#2/", headsOf("a~a/", 1));
        due("a~b~a#2~a#3~b#2/", headsOf("a~b~a~a~b/", 3));
        due("a~a#2~a#3~a#4~a#5~a#6~a#7~a#8/", headsOf("a~a~a~a~a~a~a~a/", 7));
        due("~#2~#3/", headsOf("~~/", 2));
        due("#~##2/", headsOf("#~#/", 1));
        // only the row 0 has heads
        due("a~b/a~a/c~c/", headsOf("a~b/a~a/c~c/", 0));
    }

    @Says(at = "promise 27", it = "(all by the texts as they were ahead of the call)")
    static void headsGoByTheTextsAsTheyWere() {
        due("a~a#2~a#2/", headsOf("a~a~a#2/", 1));
        due("a#2~a~a#2/", headsOf("a#2~a~a/", 1));
        due("a#2~a~a#2#2~a#2/", headsOf("a#2~a~a#2~a/", 2));
    }

    @Says(at = "promise 27", it = "Throws `IllegalStateException` if it has no ROW")
    static void headsNeedARow() {
        refuses(STATE, Commadesk::new, x -> x.heads(0));
        refuses(STATE, () -> of("a~a/"), x -> x.heads(1));
        accepts(() -> of("/"), x -> x.heads(0));
    }

    @Says(at = "promise 27", it = "Throws `IndexOutOfBoundsException` if there is no such TABLE")
    static void headsTakesTwoTables() {
        takesTables(Trial::busy, (x, n) -> x.heads(n));
        refuses(INDEX, Commadesk::new, x -> x.heads(2));
    }

    // ---- promise 28: sample

    @Says(at = "promise 28", it = "so many times x becomes (75 * x + 74) modulo 65537, and the ROW with the number x modulo how many there are comes to it")
    static void samplesOfTheLeastAndTheGreatestSeed() {
        Commadesk x = of(risingRows(40), "z/z/");
        // 0 becomes 74; 65536 is one less than none, so it becomes -75 + 74, which is 65536 again
        due(1, x.sample(0, 0, 1));
        due("d4/", shown(x, 1));
        due(1, x.sample(0, 65536, 10));
        due(rows("b6", 10), shown(x, 1));
        // 65535 becomes 65461, 874 becomes 87, 74 becomes 5624
        due(1, x.sample(0, 65535, 1));
        due("c1/", shown(x, 1));
        due(1, x.sample(0, 874, 1));
        due("a7/", shown(x, 1));
        due(2, x.sample(0, 0, 2));
        due("d4/c4/", shown(x, 1));
    }

    @Says(at = "promise 28", it = "so many times x becomes (75 * x + 74) modulo 65537, and the ROW with the number x modulo how many there are comes to it")
    static void tenSamplesOfEachSize() {
        for (int size : new int[] {1, 2, 3, 39, 40}) {
            Commadesk x = of("", risingRows(size));
            long seed = 12345;
            StringBuilder want = new StringBuilder();
            java.util.Set<Long> unlike = new java.util.TreeSet<>();
            for (int i = 0; i < 10; i++) {
                seed = (75 * seed + 74) % 65537;
                unlike.add(seed % size);
                want.append((char) ('a' + seed % size / 10)).append(seed % size % 10).append('/');
            }
            due(unlike.size(), x.sample(1, 12345, 10));
            due(want.toString(), shown(x, 0));
            due(10, x.rows(0));
        }
    }

    @Says(at = "promise 28", it = "Returns how many unlike ROWS of the TABLE came to it (by their numbers).")
    static void sampleCountsRowsByTheirNumbers() {
        // 74, 5624, 28652, 51790: by two rows 0, 0, 0, 0; by three 2, 2, 2, 1
        due(1, of("a/b/").sample(0, 0, 4));
        due(2, of("a/b/c/").sample(0, 0, 4));
        due(1, of("a/b/c/").sample(0, 0, 3));
        due(2, of("a/a/a/").sample(0, 0, 4));
        due(1, of("a/").sample(0, 7, 10));
    }

    @Says(at = "promise 28", it = "Throws `IndexOutOfBoundsException` if there is no such TABLE")
    static void sampleTakesTwoTables() { takesTables(Trial::busy, (x, n) -> x.sample(n, 0, 1)); }

    @Says(at = "promise 28", it = "Throws `IllegalArgumentException` if seed is not 0 to 65536, or many not 1 to 10")
    static void sampleTakesSeedsAndOneToTen() {
        for (int bad : new int[] {-1, 65537, MIN, MAX}) refuses(ARGUMENT, Trial::busy, x -> x.sample(0, bad, 1));
        for (int good : new int[] {0, 1, 65535, 65536}) accepts(Trial::busy, x -> x.sample(0, good, 10));
        takes(ARGUMENT, Trial::busy, 1, 10, (x, n) -> x.sample(0, 65536, n));
    }

    @Says(at = "promise 28", it = "Throws `IllegalStateException` if it has no ROW")
    static void sampleNeedsARow() {
        refuses(STATE, Commadesk::new, x -> x.sample(0, 0, 1));
        refuses(STATE, () -> of("a/"), x -> x.sample(1, 65536, 10));
    }

    @Says(at = "part 5", it = "If several exceptions apply, the one that is named first is thrown")
    static void sampleNamesTheTableThenTheNumbers() {
        refuses(INDEX, Trial::busy, x -> x.sample(2, -1, 0));
        refuses(INDEX, Commadesk::new, x -> x.sample(-1, 0, 1));
        refuses(ARGUMENT, Commadesk::new, x -> x.sample(0, -1, 1));
        refuses(ARGUMENT, Commadesk::new, x -> x.sample(1, 0, 11));
    }

    // ---- promise 29: undo

    /** The calls that can be undone; the text is a filter, a reading is under way. */
    private static Map<String, Function<Commadesk, Object>> undoable() {
        Map<String, Function<Commadesk, Object>> calls = new LinkedHashMap<>();
        calls.put("finish", x -> x.finish(0));
        calls.put("read", x -> x.read(1));
        calls.put("readFixed", x -> x.readFixed(0, 2));
        calls.put("insert", x -> x.insert(1, 0, 1));
        calls.put("put", x -> x.put(0, 1, 1));
        calls.put("drop", x -> x.drop(0, 0));
        calls.put("move", x -> x.move(0, 0, 2));
        calls.put("dropColumn", x -> x.dropColumn(0, 0));
        calls.put("copy", x -> x.copy(1));
        calls.put("stack", x -> x.stack(0));
        calls.put("part", x -> x.part(0, 1));
        calls.put("turn", x -> x.turn(0));
        calls.put("sort", x -> x.sort(0, 0, 0, false, 0));
        calls.put("filter", x -> x.filter(0, 0));
        calls.put("group", x -> x.group(0, 0, 1));
        calls.put("join", x -> x.join(0, 0, 0));
        calls.put("heads", x -> x.heads(1));
        calls.put("sample", x -> x.sample(0, 5, 3));
        return calls;
    }

    private static Commadesk ready() {
        Commadesk x = of("b~2/a~1/c~3/", "x~x/a~y/");
        type(x, "0=a").begin();
        x.feed(0, 3);
        return x;
    }

    @Says(at = "promise 29", it = "Both TABLES are as they were ahead of the last call, not undone as yet, of finish(), read(), readFixed(), insert(), put(), "
        + "drop(), move(), dropColumn(), copy(), stack(), part(), turn(), sort(), filter(), group(), join(), heads() or sample()")
    static void eachOfTheEighteenIsUndone() {
        String was = both(ready());
        due(18, undoable().size());
        undoable().forEach((name, call) -> {
            Commadesk x = ready();
            call.apply(x);
            due(name + " does something", false, was.equals(both(x)));
            due(name, 3, x.desk(11));
            due(name, 2, x.undo());
            due(name, was, both(x));
            due(name, 2, x.desk(11));
        });
    }

    @Says(at = "promise 29", it = "(also of one by which nothing became otherwise)")
    static void callsByWhichNothingBecameOtherwiseAreUndoneToo() {
        Map<String, Function<Commadesk, Object>> calls = new LinkedHashMap<>();
        calls.put("finish", x -> { x.begin(); return x.finish(1); });
        calls.put("read", x -> x.read(1));
        calls.put("readFixed", x -> x.readFixed(1, 1));
        calls.put("put", x -> type(x, "a").put(0, 0, 0));
        calls.put("move", x -> x.move(0, 1, 1));
        calls.put("dropColumn", x -> x.dropColumn(0, 7));
        calls.put("copy", x -> { x.copy(1); x.copy(1); return x.undo(); });
        calls.put("stack", x -> x.stack(0));
        calls.put("part", x -> x.part(0, 2));
        calls.put("turn", x -> { x.drop(0, 1); x.turn(0); return x.undo(); });
        calls.put("sort", x -> x.sort(0, 0, 0, false, 0));
        calls.put("filter", x -> type(x, "0:").filter(0, 0));
        calls.put("group", x -> x.group(0, 7, 0));
        calls.put("join", x -> x.join(1, 0, 0));
        calls.put("heads", x -> x.heads(0));
        calls.put("sample", x -> { x.sample(0, 0, 1); x.sample(0, 0, 1); return x.undo(); });
        calls.forEach((name, call) -> {
            Commadesk x = of("a/b/");
            x.insert(0, 2, 1);
            x.drop(0, 2);
            call.apply(x);
            due(name, 4, x.desk(11));
            due(name, 3, x.undo());
            due(name, "a/b/ + ", both(x));
            due(name, 2, x.undo());
            due(name, "a/b// + ", both(x));
        });
    }

    @Says(at = "promise 29", it = "Both TABLES are as they were ahead of the last call, not undone as yet")
    static void whatWasUndoneIsNotUndoneAgain() {
        Commadesk x = of("a/");
        x.insert(0, 1, 1);
        x.insert(0, 2, 2);
        due(2, x.undo());
        due("a//", shown(x, 0));
        due(1, x.undo());
        due("a/", shown(x, 0));
        x.insert(0, 0, 3);
        due(1, x.undo());
        due("a/", shown(x, 0));
        due(0, x.undo());
        due("", shown(x, 0));
    }

    @Says(at = "promise 29", it = "Both TABLES are as they were ahead of the last call, not undone as yet")
    static void onlyTheTablesAreUndone() {
        Commadesk x = of("a/");
        type(mode(x, 17), "a\"|").begin();
        x.feed(0, 3);
        x.insert(1, 0, 2);
        x.knock();
        due("a\"| 1@0,0,1 3 2 0 0 1 1 1 1 3 0 0 2 1 ", x.text() + " " + faults(x) + " " + desk(x));
        x.undo();
        due("a\"| 1@0,0,1 3 2 0 0 1 1 1 1 3 0 0 1 1 ", x.text() + " " + faults(x) + " " + desk(x));
        x.finish(0);
        x.undo();
        due("a/ + ", both(x));
        due("a\"| 1@0,0,1 3 2 0 0 1 2 1 1 3 1 0 1 1 ", x.text() + " " + faults(x) + " " + desk(x));
    }

    @Says(at = "promise 29", it = "the last 15 can be undone, an older one is forgotten for good")
    static void fifteenCallsAreUndone() {
        Commadesk x = new Commadesk();
        for (int i = 1; i <= 15; i++) {
            x.insert(0, 0, 1);
            due(i, x.desk(11));
        }
        for (int i = 14; i >= 0; i--) {
            due(i, x.undo());
            due(i, x.rows(0));
        }
    }

    @Says(at = "promise 29", it = "the last 15 can be undone, an older one is forgotten for good")
    static void theSixteenthCallForgetsTheFirst() {
        Commadesk x = new Commadesk();
        for (int i = 0; i < 16; i++) x.insert(0, 0, 1);
        due(15, x.desk(11));
        for (int i = 14; i >= 0; i--) {
            due(i, x.undo());
            due(i + 1, x.rows(0));
        }
        due(0, x.desk(11));
        due(1, x.rows(0));
        refuses(STATE, () -> {
            Commadesk y = new Commadesk();
            for (int i = 0; i < 16; i++) y.insert(0, 0, 1);
            for (int i = 0; i < 15; i++) y.undo();
            return y;
        }, Commadesk::undo);
    }

    @Says(at = "promise 29", it = "the last 15 can be undone, an older one is forgotten for good")
    static void whatIsForgottenStaysForgotten() {
        Commadesk x = new Commadesk();
        for (int i = 0; i < 40; i++) x.insert(0, 0, 1);
        for (int i = 0; i < 5; i++) x.undo();
        due(10, x.desk(11));
        due(35, x.rows(0));
        for (int i = 0; i < 3; i++) x.drop(0, 0);
        due(13, x.desk(11));
        for (int i = 12; i >= 0; i--) due(i, x.undo());
        due(25, x.rows(0));
        due(0, x.desk(11));
        x.insert(0, 0, 1);
        due(0, x.undo());
        due(25, x.rows(0));
    }

    @Says(at = "promise 29", it = "Throws `IllegalStateException` if none can be undone")
    static void undoNeedsACall() {
        refuses(STATE, Commadesk::new, Commadesk::undo);
        refuses(STATE, () -> { Commadesk x = of("a/"); x.undo(); return x; }, Commadesk::undo);
        refuses(STATE, () -> typed("abc"), Commadesk::undo);
    }

    @Says(at = "promise 29", it = "Returns how many can be undone then.")
    static void noOtherCallCanBeUndone() {
        Commadesk x = of("a/b/");
        mode(x, 9).begin();
        x.type(0);
        x.feed(0, 1);
        x.rub(1);
        x.take(0, 0, 0);
        x.write(0, true);
        x.fix(0);
        x.wipe();
        x.knock();
        x.differences(0);
        x.page(0, 0, 1);
        x.digest();
        due(1, x.desk(11));
        due("a/b/", shown(x, 0));
    }

    // ---- promises 31 to 34

    @Says(at = "promise 31", it = "Returns how many ROWS it has.")
    static void rowsOfEmptyAndFullTables() {
        due(0, new Commadesk().rows(1));
        due(40, full().rows(0));
        due(39, full().rows(1));
    }

    @Says(at = "promise 31", it = "Throws `IndexOutOfBoundsException` if there is no such TABLE")
    static void rowsTakesTwoTables() { takesTables(Trial::busy, (x, n) -> x.rows(n)); }

    @Says(at = "promise 32", it = "Throws `IndexOutOfBoundsException` if there is no such TABLE, or ROW of it")
    static void fieldsTakesRowsOfATable() {
        takesTables(Trial::busy, (x, n) -> x.fields(n, 0));
        takes(INDEX, Trial::busy, 0, 2, (x, n) -> x.fields(0, n));
        takes(INDEX, TableEdgesTest::full, 0, 39, (x, n) -> x.fields(0, n));
        refuses(INDEX, Commadesk::new, x -> x.fields(0, 0));
    }

    @Says(at = "promise 32", it = "Returns how many FIELDS it has.")
    static void fieldsOfTheSmallestAndTheGreatestRow() {
        due(1, of("/").fields(0, 0));
        due(8, wide().fields(0, 39));
    }

    @Says(at = "promise 33", it = "Throws `IndexOutOfBoundsException` if there is no such TABLE, ROW of it, or FIELD of that")
    static void cellTakesFieldsOfARow() {
        takesTables(Trial::busy, (x, n) -> x.cell(n, 0, 0));
        takes(INDEX, Trial::busy, 0, 2, (x, n) -> x.cell(0, n, 1));
        takes(INDEX, Trial::busy, 0, 1, (x, n) -> x.cell(0, 0, n));
        takes(INDEX, TableEdgesTest::wide, 0, 39, (x, n) -> x.cell(0, n, 7));
        takes(INDEX, TableEdgesTest::wide, 0, 7, (x, n) -> x.cell(0, 39, n));
        refuses(INDEX, () -> of("a~b/c/"), x -> x.cell(0, 1, 1));
        refuses(INDEX, Commadesk::new, x -> x.cell(0, 0, 0));
    }

    @Says(at = "promise 33", it = "Returns that FIELD.")
    static void cellOfAnEmptyFieldAndOfALongOne() {
        Commadesk x = of("~a/", "b".repeat(301) + "/");
        due("", x.cell(0, 0, 0));
        due("a", x.cell(0, 0, 1));
        due("b".repeat(301), x.cell(1, 0, 0));
    }

    @Says(at = "promise 34", it = "Throws `IndexOutOfBoundsException` if there is no such TABLE")
    static void isEvenTakesTwoTables() { takesTables(Trial::busy, (x, n) -> x.isEven(n)); }

    public static void main(String[] args) throws Exception { run(TableEdgesTest.class); }
}
