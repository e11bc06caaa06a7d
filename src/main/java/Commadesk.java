/** Two tables of texts, and a text that is typed, read into a table and written out of one. */
public final class Commadesk {
    private static final int NONE = -1;
    private static final int LAST_SIGN = 52;
    private static final int MOST_SIGNS = 300;
    private static final int MOST_ROWS = 40;
    private static final int MOST_FIELDS = 8;
    private static final int MOST_FAULTS = 30;
    private static final int MOST_UNDONE = 15;
    private static final int MOST_WIDTH = 40;
    private static final int MOST_SAMPLES = 10;
    private static final int MODULUS = 65537;
    private static final int ONE_SIGN_CODES = 128;

    private static final char LINE_END = '\n';
    private static final char BACKSLASH = '\\';
    private static final char BLANK = ' ';
    private static final int FIRST_LETTER = 10;
    private static final int FIRST_MARK = 36;
    private static final int FIRST_QUOTE = 40;
    private static final String MARKS = ",;|:\"'\n.-\\ #=<>&!";

    private static final int NOT_BEGUN = 0;
    private static final int BEGUN = 1;
    private static final int ENDED = 2;

    private static final int FIELD_BEGINS = 0;
    private static final int PLAIN = 1;
    private static final int QUOTED = 2;
    private static final int BEHIND = 3;
    private static final int ESCAPING = 4;

    private static final int QUOTE_IN_PLAIN = 1;
    private static final int SIGN_BEHIND_QUOTES = 2;
    private static final int NOTHING_TO_ESCAPE = 3;
    private static final int QUOTES_LEFT_OPEN = 4;
    private static final int OTHER_NUMBER_OF_FIELDS = 5;
    private static final int TOO_MANY_FIELDS = 6;
    private static final int TOO_MANY_ROWS = 7;
    private static final int PARTS_OF_FAULT = 4;

    private static final int EMPTY = 0;
    private static final int WHOLE = 1;
    private static final int DECIMAL = 2;
    private static final int TRUTH = 3;
    private static final int DATE = 4;
    private static final int ANY = 5;
    private static final int DATE_SIGNS = 10;
    private static final long LEAST_WHOLE = -2147483648L;
    private static final long GREATEST_WHOLE = 2147483647L;
    private static final long NOT_WHOLE = -9223372036854775808L;

    private static final int BY_TEXT = 0;
    private static final int BY_NUMBER = 1;
    private static final int BY_LENGTH = 2;

    private static final int LAST_OF_DESK = 12;
    private static final long DIGEST_START = 5404L;
    private static final long DIGEST_FACTOR = 31L;

    private final StringBuilder text = new StringBuilder();
    private final StringBuilder paper = new StringBuilder();
    private final Table first = new Table();
    private final Table second = new Table();
    private final Table spare = new Table();
    private final Table spareTurned = new Table();
    private final int[] order = new int[MOST_ROWS];
    private final History history = new History();
    private final Writer writer = new Writer();
    private final RowReader reader = new RowReader();
    private final Checker checker = new Checker();
    private final Reader guesser = new Reader();
    private final Words words = reader.words;
    private Mode mode = new Mode(0, 0, false, false);
    private String lastAnswer = "";
    private int refused;

    public Commadesk() {
    }

    // ---- the text

    public int type(int sign) throws IllegalArgumentException, IllegalStateException {
        if (sign < 0 || sign > LAST_SIGN) {
            throw new IllegalArgumentException("no such sign");
        }
        if (text.length() >= MOST_SIGNS) {
            throw new IllegalStateException("the text is full");
        }
        text.append(signOf(sign));
        return text.length();
    }

    public int rub(int many) throws IllegalArgumentException {
        if (many < 1 || many > MOST_SIGNS) {
            throw new IllegalArgumentException("many is not 1 to 300");
        }
        text.setLength(Math.max(0, text.length() - many));
        return text.length();
    }

    public int wipe() {
        int had = text.length();
        text.setLength(0);
        return had;
    }

    public int take(int table, int row, int column) throws IndexOutOfBoundsException, IllegalStateException {
        Table it = checkedTable(table);
        checkCell(it, row, column);
        String taken = it.textAt(row, column);
        if (taken.length() > MOST_SIGNS) {
            throw new IllegalStateException("the field is longer than a text");
        }
        text.setLength(0);
        text.append(taken);
        return text.length();
    }

    // ---- mode, reading

    public int mode(int separator, int quote, boolean isEscaped, boolean isStrict) throws IllegalArgumentException {
        if (separator < 0 || separator > 3 || quote < 0 || quote > 1) {
            throw new IllegalArgumentException("no such separator or quote");
        }
        int before = mode.asNumber();
        mode = new Mode(separator, quote, isEscaped, isStrict);
        return before;
    }

    public int begin() {
        int had = reader.stage == NOT_BEGUN ? NONE : reader.kept;
        reader.restartRows(mode);
        return had;
    }

    public int feed(int from, int to) throws IndexOutOfBoundsException, IllegalStateException {
        if (from < 0 || from > text.length() || to < from || to > text.length()) {
            throw new IndexOutOfBoundsException("no such places of the text");
        }
        checkReading();
        stepThroughText(reader, from, to);
        return reader.kept;
    }

    public int finish(int table) throws IndexOutOfBoundsException, IllegalStateException {
        Table it = checkedTable(table);
        checkReading();
        endReadingInto(it);
        return reader.faults;
    }

    public int read(int table) throws IndexOutOfBoundsException {
        Table it = checkedTable(table);
        reader.restartRows(mode);
        stepThroughText(reader, 0, text.length());
        endReadingInto(it);
        return it.size();
    }

    public int write(int table, boolean isAll) throws IndexOutOfBoundsException, IllegalStateException {
        Table it = checkedTable(table);
        int signs = Writer.countOf(it, mode, isAll);
        if (signs > MOST_SIGNS) {
            throw new IllegalStateException("the table is too long for a text");
        }
        text.setLength(0);
        writer.start(it, 0, mode, isAll);
        writer.appendTo(text, signs);
        return text.length();
    }

    public int fix(int table) throws IndexOutOfBoundsException, IllegalStateException {
        Table it = checkedTable(table);
        int[] widths = longestFields(it);
        if (signsInWidths(it, widths) > MOST_SIGNS) {
            throw new IllegalStateException("the table is too long for a text");
        }
        text.setLength(0);
        for (int row = 0; row < it.size(); row++) {
            for (int column = 0; column < it.widthAt(row) && column < widths.length; column++) {
                appendPadded(it.textAt(row, column), widths[column] + 1);
            }
            text.append(LINE_END);
        }
        return text.length();
    }

    public int readFixed(int table, int width) throws IndexOutOfBoundsException, IllegalArgumentException {
        Table it = checkedTable(table);
        if (width < 1 || width > MOST_WIDTH) {
            throw new IllegalArgumentException("width is not 1 to 40");
        }
        spare.clear();
        int begins = 0;
        for (int line = 0; line < MOST_ROWS && begins < text.length(); line++) {
            int ends = endOfLine(begins);
            spare.addRow(rowByWidth(begins, ends, width));
            begins = ends + 1;
        }
        replace(it, spare);
        return it.size();
    }

    // ---- rows and cells

    public int insert(int table, int row, int fields)
            throws IndexOutOfBoundsException, IllegalArgumentException, IllegalStateException {
        Table it = checkedTable(table);
        checkPlace(it, row);
        if (fields < 1 || fields > MOST_FIELDS) {
            throw new IllegalArgumentException("fields is not 1 to 8");
        }
        if (it.size() >= MOST_ROWS) {
            throw new IllegalStateException("the table is full");
        }
        history.keep(first, second);
        Word[] empty = new Word[fields];
        for (int column = 0; column < fields; column++) {
            empty[column] = words.ofNothing();
        }
        it.insertAt(row, new Row(empty));
        return it.size();
    }

    public int put(int table, int row, int column) throws IndexOutOfBoundsException {
        Table it = checkedTable(table);
        checkRow(it, row);
        int width = it.widthAt(row);
        if (column < 0 || column > width || column >= MOST_FIELDS) {
            throw new IndexOutOfBoundsException("no such field");
        }
        history.keep(first, second);
        Word[] changed = new Word[Math.max(width, column + 1)];
        for (int i = 0; i < width; i++) {
            changed[i] = it.wordAt(row, i);
        }
        changed[column] = words.of(text);
        it.setAt(row, new Row(changed));
        return it.widthAt(row);
    }

    public int drop(int table, int row) throws IndexOutOfBoundsException {
        Table it = checkedTable(table);
        checkRow(it, row);
        history.keep(first, second);
        int width = it.widthAt(row);
        it.removeAt(row);
        return width;
    }

    public int move(int table, int from, int to) throws IndexOutOfBoundsException {
        Table it = checkedTable(table);
        checkRow(it, from);
        checkRow(it, to);
        history.keep(first, second);
        Row moved = it.rowAt(from);
        it.removeAt(from);
        it.insertAt(to, moved);
        return from == to ? 0 : Math.abs(from - to) + 1;
    }

    public int dropColumn(int table, int column) throws IndexOutOfBoundsException {
        Table it = checkedTable(table);
        checkColumn(column);
        history.keep(first, second);
        int had = 0;
        for (int row = 0; row < it.size(); row++) {
            if (it.hasCell(row, column)) {
                it.setAt(row, rowWithout(it, row, column));
                had++;
            }
        }
        return had;
    }

    // ---- whole tables

    public int copy(int table) throws IndexOutOfBoundsException {
        Table it = checkedTable(table);
        int had = it.size();
        replace(it, otherThan(table));
        return had;
    }

    public int stack(int table) throws IndexOutOfBoundsException, IllegalStateException {
        Table it = checkedTable(table);
        Table other = otherThan(table);
        if (it.size() + other.size() > MOST_ROWS) {
            throw new IllegalStateException("too many rows");
        }
        history.keep(first, second);
        for (int row = 0; row < other.size(); row++) {
            it.addRow(other.rowAt(row));
        }
        return it.size();
    }

    public int part(int table, int row) throws IndexOutOfBoundsException {
        Table it = checkedTable(table);
        checkPlace(it, row);
        history.keep(first, second);
        Table other = otherThan(table);
        other.clear();
        for (int i = row; i < it.size(); i++) {
            other.addRow(it.rowAt(i));
        }
        it.cutTo(row);
        return other.size();
    }

    public int turn(int table) throws IndexOutOfBoundsException, IllegalStateException {
        Table it = checkedTable(table);
        if (!isTurnable(it)) {
            throw new IllegalStateException("the table can not be turned");
        }
        turnInto(spare, it);
        replace(it, spare);
        return it.size();
    }

    public int sort(int table, int column, int how, boolean isFalling, int from)
            throws IndexOutOfBoundsException, IllegalArgumentException {
        Table it = checkedTable(table);
        checkColumn(column);
        checkPlace(it, from);
        if (how < BY_TEXT || how > BY_LENGTH) {
            throw new IllegalArgumentException("how is not 0 to 2");
        }
        history.keep(first, second);
        findOrder(it, column, how, isFalling, from);
        spare.becomeAs(it);
        int moved = 0;
        for (int row = 0; row < it.size() && row < order.length; row++) {
            it.setAt(row, spare.rowAt(order[row]));
            moved += order[row] == row ? 0 : 1;
        }
        return moved;
    }

    public int filter(int table, int from) throws IndexOutOfBoundsException, IllegalStateException {
        Table it = checkedTable(table);
        checkPlace(it, from);
        Filter condition = checkedFilter();
        history.keep(first, second);
        int had = it.size();
        int stays = from;
        for (int row = from; row < had; row++) {
            Row tested = it.rowAt(row);
            if (condition.isPassedBy(tested)) {
                it.setAt(stays, tested);
                stays++;
            }
        }
        it.cutTo(stays);
        return had - stays;
    }

    public int group(int table, int column, int value) throws IndexOutOfBoundsException {
        Table it = checkedTable(table);
        checkColumn(column);
        checkColumn(value);
        spare.clear();
        int least = leastAbove(it, column, NONE);
        for (int groups = 0; groups < MOST_ROWS && least != NONE; groups++) {
            spare.addRow(groupRow(it, least, column, value));
            least = leastAbove(it, column, least);
        }
        Table other = otherThan(table);
        replace(other, spare);
        return other.size();
    }

    public int join(int table, int column, int its) throws IndexOutOfBoundsException, IllegalStateException {
        Table it = checkedTable(table);
        checkColumn(column);
        checkColumn(its);
        Table other = otherThan(table);
        spare.clear();
        for (int row = 0; row < it.size(); row++) {
            int partner = it.hasCell(row, column) ? firstWith(other, its, it.textAt(row, column), 0) : NONE;
            if (partner != NONE && it.widthAt(row) + other.widthAt(partner) - 1 > MOST_FIELDS) {
                throw new IllegalStateException("a row would have too many fields");
            }
            if (partner != NONE) {
                spare.addRow(joinedRow(it, row, other, partner, its));
            }
        }
        replace(it, spare);
        return it.size();
    }

    public int heads(int table) throws IndexOutOfBoundsException, IllegalStateException {
        Table it = checkedTable(table);
        if (it.size() == 0) {
            throw new IllegalStateException("the table has no row");
        }
        history.keep(first, second);
        int changed = 0;
        Word[] numbered = new Word[it.widthAt(0)];
        for (int column = 0; column < numbered.length; column++) {
            int nth = countOfHead(it, column);
            numbered[column] = nth > 1 ? numberedWord(it.textAt(0, column), nth) : it.wordAt(0, column);
            changed += nth > 1 ? 1 : 0;
        }
        it.setAt(0, new Row(numbered));
        return changed;
    }

    public int sample(int table, int seed, int many)
            throws IndexOutOfBoundsException, IllegalArgumentException, IllegalStateException {
        Table it = checkedTable(table);
        if (seed < 0 || seed >= MODULUS || many < 1 || many > MOST_SAMPLES) {
            throw new IllegalArgumentException("no such seed or so many");
        }
        int size = it.size();
        if (size < 1) {
            throw new IllegalStateException("the table has no row");
        }
        history.keep(first, second);
        Table other = otherThan(table);
        other.clear();
        long seen = 0L;
        int x = seed;
        for (int i = 0; i < many; i++) {
            x = (75 * x + 74) % MODULUS;
            other.addRow(it.rowAt(x % size));
            seen |= 1L << (x % size);
        }
        return Long.bitCount(seen);
    }

    public int undo() throws IllegalStateException {
        if (history.size() == 0) {
            throw new IllegalStateException("nothing can be undone");
        }
        history.giveBack(first, second);
        return history.size();
    }

    // ---- what is asked

    public String text() {
        return text.toString();
    }

    public int rows(int table) throws IndexOutOfBoundsException {
        return checkedTable(table).size();
    }

    public int fields(int table, int row) throws IndexOutOfBoundsException {
        Table it = checkedTable(table);
        checkRow(it, row);
        return it.widthAt(row);
    }

    public String cell(int table, int row, int column) throws IndexOutOfBoundsException {
        Table it = checkedTable(table);
        checkCell(it, row, column);
        return it.textAt(row, column);
    }

    public boolean isEven(int table) throws IndexOutOfBoundsException {
        return checkedTable(table).hasEvenRows();
    }

    public int headed(int table) throws IndexOutOfBoundsException {
        Table it = checkedTable(table);
        String sought = text.toString();
        for (int column = 0; column < it.widthAt(0); column++) {
            if (it.textAt(0, column).equals(sought)) {
                return column;
            }
        }
        return NONE;
    }

    public int find(int table, int column, int from) throws IndexOutOfBoundsException {
        Table it = checkedTable(table);
        checkColumn(column);
        checkPlace(it, from);
        return firstWith(it, column, text.toString(), from);
    }

    public int typeOf(int table, int column, int from) throws IndexOutOfBoundsException {
        Table it = checkedTable(table);
        checkColumn(column);
        checkPlace(it, from);
        return columnType(it, column, from);
    }

    public int wrong(int table, int column, int type) throws IndexOutOfBoundsException, IllegalArgumentException {
        Table it = checkedTable(table);
        checkColumn(column);
        if (type < WHOLE || type > ANY) {
            throw new IllegalArgumentException("type is not 1 to 5");
        }
        return firstNotOf(it, column, type, 0);
    }

    public long total(int table, int column) throws IndexOutOfBoundsException {
        Table it = checkedTable(table);
        checkColumn(column);
        return columnSum(it, column);
    }

    public int written(int table, boolean isAll) throws IndexOutOfBoundsException {
        return Writer.countOf(checkedTable(table), mode, isAll);
    }

    public String page(int table, int page, int size) throws IndexOutOfBoundsException, IllegalArgumentException {
        Table it = checkedTable(table);
        if (page < 0 || page > MOST_ROWS || size < 1 || size > MOST_ROWS) {
            throw new IllegalArgumentException("no such page or size");
        }
        int from = Math.min(page * size, it.size());
        int to = Math.min(from + size, it.size());
        paper.setLength(0);
        writer.start(it, from, mode, false);
        writer.appendTo(paper, Writer.countOfRows(it, from, to, mode, false));
        return answerOnPaper();
    }

    public String differences(int column) throws IndexOutOfBoundsException {
        checkColumn(column);
        paper.setLength(0);
        compareTables(column, true);
        return answerOnPaper();
    }

    public int guess() {
        int best = NONE;
        int most = 1;
        for (int separator = 0; separator < 4; separator++) {
            guesser.restart(new Mode(separator, mode.quote, mode.isEscaped, false));
            stepThroughText(guesser, 0, text.length());
            guesser.end();
            int width = guesser.commonWidth();
            if (width > most) {
                most = width;
                best = separator;
            }
        }
        return best;
    }

    public int filterFault() {
        return new Filter(text.toString()).placeOfFault();
    }

    public boolean passes(int table, int row) throws IndexOutOfBoundsException, IllegalStateException {
        Table it = checkedTable(table);
        checkRow(it, row);
        return checkedFilter().isPassedBy(it.rowAt(row));
    }

    public int fault(int nth, int what) throws IndexOutOfBoundsException, IllegalArgumentException {
        if (nth < 0 || nth >= reader.faultsKept()) {
            throw new IndexOutOfBoundsException("no such fault");
        }
        if (what < 0 || what >= PARTS_OF_FAULT) {
            throw new IllegalArgumentException("what is not 0 to 3");
        }
        return reader.faultPart(nth, what);
    }

    public int desk(int what) throws IllegalArgumentException {
        if (what < 0 || what > LAST_OF_DESK) {
            throw new IllegalArgumentException("what is not 0 to 12");
        }
        return deskValue(what);
    }

    public boolean isSound() {
        return isTableSound(first) && isTableSound(second);
    }

    public int knock() {
        refused++;
        return refused;
    }

    public long digest() {
        long d = DIGEST_START;
        for (int what = 0; what <= LAST_OF_DESK; what++) {
            d = mixed(d, deskValue(what));
        }
        for (int nth = 0; nth < reader.faultsKept(); nth++) {
            for (int what = 0; what < PARTS_OF_FAULT; what++) {
                d = mixed(d, reader.faultPart(nth, what));
            }
        }
        for (int place = 0; place < text.length(); place++) {
            d = mixed(d, numberOf(text.charAt(place)));
        }
        d = mixedWithTable(d, first);
        d = mixedWithTable(d, second);
        d = mixed(d, guess());
        d = mixed(d, filterFault());
        d = mixed(d, compareTables(0, false));
        return mixed(d, isTableSound(first) && isTableSound(second) ? 1 : 0);
    }

    // ---- what is wanted of arguments and state

    private Table checkedTable(int table) {
        if (table < 0 || table > 1) {
            throw new IndexOutOfBoundsException("no such table");
        }
        return table == 0 ? first : second;
    }

    private Table otherThan(int table) {
        return table == 0 ? second : first;
    }

    private static void checkRow(Table table, int row) {
        if (row < 0 || row >= table.size()) {
            throw new IndexOutOfBoundsException("no such row");
        }
    }

    private static void checkPlace(Table table, int row) {
        if (row < 0 || row > table.size()) {
            throw new IndexOutOfBoundsException("no such place for a row");
        }
    }

    private static void checkColumn(int column) {
        if (column < 0 || column >= MOST_FIELDS) {
            throw new IndexOutOfBoundsException("no such column");
        }
    }

    private static void checkCell(Table table, int row, int column) {
        if (!table.hasCell(row, column)) {
            throw new IndexOutOfBoundsException("no such field");
        }
    }

    private void checkReading() {
        if (reader.stage != BEGUN) {
            throw new IllegalStateException("no reading is under way");
        }
    }

    private Filter checkedFilter() {
        Filter condition = new Filter(text.toString());
        if (condition.placeOfFault() != NONE) {
            throw new IllegalStateException("the text is no filter");
        }
        return condition;
    }

    // ---- signs

    private static char signOf(int number) {
        if (number < FIRST_LETTER) {
            return (char) ('0' + number);
        }
        if (number < FIRST_MARK) {
            return (char) ('a' + number - FIRST_LETTER);
        }
        int mark = number - FIRST_MARK;
        return mark < MARKS.length() ? MARKS.charAt(mark) : LINE_END;
    }

    private static int numberOf(char sign) {
        if (sign >= '0' && sign <= '9') {
            return sign - '0';
        }
        if (sign >= 'a' && sign <= 'z') {
            return FIRST_LETTER + sign - 'a';
        }
        return FIRST_MARK + MARKS.indexOf(sign);
    }

    // ---- reading and writing

    private void stepThroughText(Reader steps, int from, int to) {
        for (int place = from; place < to && place < text.length(); place++) {
            steps.step(text.charAt(place));
        }
    }

    private void endReadingInto(Table table) {
        reader.end();
        replace(table, reader.keptRows);
    }

    // Each call that changes tables as a whole goes this way, so that it can be undone.
    private void replace(Table table, Table by) {
        history.keep(first, second);
        table.becomeAs(by);
    }

    private static int[] longestFields(Table table) {
        int[] widths = new int[MOST_FIELDS];
        for (int row = 0; row < table.size(); row++) {
            for (int column = 0; column < table.widthAt(row) && column < widths.length; column++) {
                widths[column] = Math.max(widths[column], table.textAt(row, column).length());
            }
        }
        return widths;
    }

    private static int signsInWidths(Table table, int[] widths) {
        int signs = 0;
        for (int row = 0; row < table.size(); row++) {
            for (int column = 0; column < table.widthAt(row) && column < widths.length; column++) {
                signs += widths[column] + 1;
            }
            signs++;
        }
        return signs;
    }

    private void appendPadded(String field, int width) {
        text.append(field);
        for (int i = field.length(); i < width; i++) {
            text.append(BLANK);
        }
    }

    private int endOfLine(int from) {
        for (int place = from; place < text.length(); place++) {
            if (text.charAt(place) == LINE_END) {
                return place;
            }
        }
        return text.length();
    }

    private Row rowByWidth(int begins, int ends, int width) {
        int fields = width < 1 ? 1 : (ends - begins + width - 1) / width;
        fields = Math.min(Math.max(fields, 1), MOST_FIELDS);
        Word[] cut = new Word[fields];
        for (int column = 0; column < fields; column++) {
            int from = begins + column * width;
            cut[column] = wordWithoutBlanksBehind(from, Math.min(from + width, ends));
        }
        return new Row(cut);
    }

    private Word wordWithoutBlanksBehind(int from, int to) {
        paper.setLength(0);
        int filled = 0;
        for (int place = from; place < to && place < text.length(); place++) {
            paper.append(text.charAt(place));
            filled = text.charAt(place) == BLANK ? filled : paper.length();
        }
        paper.setLength(filled);
        return words.of(paper);
    }

    // The last long answer is kept: who asks the same again gets it without a new text being made.
    private String answerOnPaper() {
        if (!isOnPaper(lastAnswer)) {
            lastAnswer = paper.toString();
        }
        return lastAnswer;
    }

    private boolean isOnPaper(String answer) {
        if (answer.length() != paper.length()) {
            return false;
        }
        for (int place = 0; place < paper.length(); place++) {
            if (paper.charAt(place) != answer.charAt(place)) {
                return false;
            }
        }
        return true;
    }

    // ---- rows made of others

    private Row rowWithout(Table table, int row, int column) {
        int width = table.widthAt(row);
        Word[] left = new Word[Math.max(1, width - 1)];
        left[0] = words.ofNothing();
        int at = 0;
        for (int i = 0; i < width; i++) {
            if (i != column && at < left.length) {
                left[at] = table.wordAt(row, i);
                at++;
            }
        }
        return new Row(left);
    }

    private static Row joinedRow(Table table, int row, Table other, int partner, int its) {
        int width = table.widthAt(row);
        Word[] joined = new Word[Math.max(1, width + other.widthAt(partner) - 1)];
        int at = 0;
        for (int i = 0; i < width && at < joined.length; i++) {
            joined[at] = table.wordAt(row, i);
            at++;
        }
        for (int i = 0; i < other.widthAt(partner) && at < joined.length; i++) {
            if (i != its) {
                joined[at] = other.wordAt(partner, i);
                at++;
            }
        }
        return new Row(joined);
    }

    private Row groupRow(Table table, int row, int column, int value) {
        String key = table.textAt(row, column);
        int many = 0;
        long sum = 0L;
        for (int i = 0; i < table.size(); i++) {
            if (table.hasCell(i, column) && table.textAt(i, column).equals(key)) {
                long number = Word.numberIn(table.textAt(i, value));
                many++;
                sum += number == NOT_WHOLE ? 0L : number;
            }
        }
        Word[] grouped = new Word[3];
        grouped[0] = table.wordAt(row, column);
        grouped[1] = wordOfNumber(many);
        grouped[2] = wordOfNumber(sum);
        return new Row(grouped);
    }

    private Word wordOfNumber(long number) {
        paper.setLength(0);
        long rest = Math.abs(number);
        for (int digits = 0; digits < 20; digits++) {
            paper.append((char) ('0' + (int) (rest % 10L)));
            rest /= 10L;
            if (rest == 0L) {
                break;
            }
        }
        if (number < 0L) {
            paper.append('-');
        }
        paper.reverse();
        return words.of(paper);
    }

    private Word numberedWord(String head, int nth) {
        paper.setLength(0);
        paper.append(head);
        paper.append('#');
        paper.append(nth);
        return words.of(paper);
    }

    private static int countOfHead(Table table, int column) {
        String head = table.textAt(0, column);
        int many = 0;
        for (int i = 0; i <= column; i++) {
            many += table.textAt(0, i).equals(head) ? 1 : 0;
        }
        return many;
    }

    // ---- looking through a table

    private static int firstWith(Table table, int column, String sought, int from) {
        for (int row = from; row < table.size(); row++) {
            if (table.hasCell(row, column) && table.textAt(row, column).equals(sought)) {
                return row;
            }
        }
        return NONE;
    }

    // The first row with the least text above that of a row, or with the least of all if there is no such row.
    private static int leastAbove(Table table, int column, int floor) {
        int least = NONE;
        for (int row = 0; row < table.size(); row++) {
            String field = table.textAt(row, column);
            if (table.hasCell(row, column)
                    && (floor == NONE || Word.compare(field, table.textAt(floor, column)) > 0)
                    && (least == NONE || Word.compare(field, table.textAt(least, column)) < 0)) {
                least = row;
            }
        }
        return least;
    }

    private static int columnType(Table table, int column, int from) {
        for (int type = EMPTY; type <= DATE; type++) {
            if (firstNotOf(table, column, type, from) == NONE) {
                return type;
            }
        }
        return ANY;
    }

    private static int firstNotOf(Table table, int column, int type, int from) {
        for (int row = from; row < table.size(); row++) {
            String field = table.textAt(row, column);
            if (!field.isEmpty() && !Word.isOf(field, type)) {
                return row;
            }
        }
        return NONE;
    }

    private static long columnSum(Table table, int column) {
        long sum = 0L;
        for (int row = 0; row < table.size(); row++) {
            long number = Word.numberIn(table.textAt(row, column));
            sum += number == NOT_WHOLE ? 0L : number;
        }
        return sum;
    }

    // Counts the signs of the differences, and tells them on the paper only if they are wanted.
    private int compareTables(int column, boolean isTold) {
        int signs = 0;
        int mine = leastAbove(first, column, NONE);
        int its = leastAbove(second, column, NONE);
        for (int i = 0; i < 2 * MOST_ROWS && (mine != NONE || its != NONE); i++) {
            int which = whichComesFirst(column, mine, its);
            String key = which <= 0 ? first.textAt(mine, column) : second.textAt(its, column);
            if (which != 0 || !Row.areSame(first.rowAt(mine), second.rowAt(its))) {
                signs += key.length() + 2;
                if (isTold) {
                    paper.append(which < 0 ? '-' : which > 0 ? '+' : '*');
                    paper.append(key);
                    paper.append(LINE_END);
                }
            }
            mine = which <= 0 ? leastAbove(first, column, mine) : mine;
            its = which >= 0 ? leastAbove(second, column, its) : its;
        }
        return signs;
    }

    private int whichComesFirst(int column, int mine, int its) {
        if (mine == NONE || its == NONE) {
            return mine == NONE ? 1 : -1;
        }
        return Word.compare(first.textAt(mine, column), second.textAt(its, column));
    }

    // ---- sorting and turning

    private void findOrder(Table table, int column, int how, boolean isFalling, int from) {
        for (int row = 0; row < order.length; row++) {
            order[row] = row;
        }
        for (int row = from + 1; row < table.size() && row < order.length; row++) {
            for (int place = row; place > from && place > 0; place--) {
                String ahead = table.textAt(order[place - 1], column);
                String behind = table.textAt(order[place], column);
                int compared = compareKeys(ahead, behind, how);
                if (isFalling ? compared >= 0 : compared <= 0) {
                    break;
                }
                int swapped = order[place];
                order[place] = order[place - 1];
                order[place - 1] = swapped;
            }
        }
    }

    private static int compareKeys(String one, String two, int how) {
        if (how == BY_TEXT) {
            return Word.compare(one, two);
        }
        if (how == BY_NUMBER) {
            return Long.compare(Word.numberIn(one), Word.numberIn(two));
        }
        return Integer.compare(one.length(), two.length());
    }

    private static boolean isTurnable(Table table) {
        return table.hasEvenRows() && table.size() > 0 && table.size() <= MOST_FIELDS;
    }

    private static void turnInto(Table turned, Table table) {
        turned.clear();
        for (int column = 0; column < table.widthAt(0); column++) {
            Word[] line = new Word[table.size()];
            for (int row = 0; row < line.length; row++) {
                line[row] = table.wordAt(row, column);
            }
            turned.addRow(new Row(line));
        }
    }

    // ---- soundness, desk, digest

    private boolean isTableSound(Table table) {
        return isReadBack(table, false, false) && isReadBack(table, false, true)
                && isReadBack(table, true, false) && isReadBack(table, true, true)
                && isSortedRightly(table) && isTurnedBack(table);
    }

    // Writes and reads at once: a table can be far longer, written, than any text that could be held.
    private boolean isReadBack(Table table, boolean isAll, boolean isHalved) {
        Mode loose = new Mode(mode.separator, mode.quote, mode.isEscaped, false);
        int signs = Writer.countOf(table, loose, isAll);
        int middle = isHalved ? signs / 2 : signs;
        writer.start(table, 0, loose, isAll);
        checker.restartWith(table, loose);
        for (int place = 0; place < middle; place++) {
            checker.step(writer.nextSign());
        }
        for (int place = middle; place < signs; place++) {
            checker.step(writer.nextSign());
        }
        checker.end();
        return checker.hasReadTheTable();
    }

    private boolean isSortedRightly(Table table) {
        findOrder(table, 0, BY_TEXT, false, 0);
        long seen = 0L;
        for (int row = 0; row < table.size() && row < order.length; row++) {
            seen |= 1L << order[row];
            if (row == 0) {
                continue;
            }
            int compared = Word.compare(table.textAt(order[row - 1], 0), table.textAt(order[row], 0));
            if (compared > 0 || (compared == 0 && order[row - 1] > order[row])) {
                return false;
            }
        }
        return seen == (1L << table.size()) - 1L;
    }

    private boolean isTurnedBack(Table table) {
        if (!isTurnable(table)) {
            return true;
        }
        turnInto(spareTurned, table);
        turnInto(spare, spareTurned);
        return spare.isAs(table);
    }

    private int deskValue(int what) {
        switch (what) {
            case 0: return text.length();
            case 1: return mode.separator;
            case 2: return mode.quote;
            case 3: return mode.isEscaped ? 1 : 0;
            case 4: return mode.isStrict ? 1 : 0;
            case 5: return reader.stage;
            case 6: return reader.faults;
            case 7: return reader.faultsKept();
            case 8: return reader.signsRead;
            case 9: return reader.rowsEnded;
            case 10: return reader.state;
            case 11: return history.size();
            default: return refused;
        }
    }

    private static long mixed(long d, long v) {
        return d * DIGEST_FACTOR + v;
    }

    private long mixedWithTable(long before, Table table) {
        long d = mixed(before, table.size());
        d = mixed(d, table.hasEvenRows() ? 1 : 0);
        d = mixed(d, Writer.countOf(table, mode, false));
        d = mixed(d, Writer.countOf(table, mode, true));
        for (int column = 0; column < MOST_FIELDS; column++) {
            d = mixed(d, columnType(table, column, 0));
            d = mixed(d, columnSum(table, column));
        }
        for (int row = 0; row < table.size(); row++) {
            d = mixed(d, table.widthAt(row));
            for (int column = 0; column < table.widthAt(row); column++) {
                d = mixedWithField(d, table.textAt(row, column));
            }
        }
        return d;
    }

    private static long mixedWithField(long before, String field) {
        long d = mixed(before, field.length());
        for (int place = 0; place < field.length(); place++) {
            d = mixed(d, numberOf(field.charAt(place)));
        }
        return d;
    }

    /** How a text is read and written; it never changes, so a reading can hold on to the one it began with. */
    private static final class Mode {
        final int separator;
        final int quote;
        final boolean isEscaped;
        final boolean isStrict;
        final char separatorSign;
        final char quoteSign;

        Mode(int separator, int quote, boolean isEscaped, boolean isStrict) {
            this.separator = separator;
            this.quote = quote;
            this.isEscaped = isEscaped;
            this.isStrict = isStrict;
            this.separatorSign = signOf(FIRST_MARK + separator);
            this.quoteSign = signOf(FIRST_QUOTE + quote);
        }

        int asNumber() {
            return 8 * separator + 4 * quote + (isEscaped ? 2 : 0) + (isStrict ? 1 : 0);
        }

        boolean needsQuotes(String field) {
            return field.indexOf(separatorSign) >= 0 || field.indexOf(quoteSign) >= 0
                    || field.indexOf(LINE_END) >= 0;
        }

        boolean needsGuard(char sign) {
            return sign == quoteSign || (isEscaped && sign == BACKSLASH);
        }

        char guardSign() {
            return isEscaped ? BACKSLASH : quoteSign;
        }
    }

    /** The text of a field, and what can be told of such a text. */
    private static final class Word {
        final String signs;

        Word(String signs) {
            this.signs = signs;
        }

        static int compare(String one, String two) {
            int shorter = Math.min(one.length(), two.length());
            for (int place = 0; place < shorter; place++) {
                int difference = one.charAt(place) - two.charAt(place);
                if (difference != 0) {
                    return difference;
                }
            }
            return Integer.compare(one.length(), two.length());
        }

        static boolean isAt(String whole, int at, String text, int from, int to) {
            if (at < 0 || from < 0 || to > text.length() || at + (to - from) > whole.length()) {
                return false;
            }
            for (int place = from; place < to; place++) {
                if (whole.charAt(at + place - from) != text.charAt(place)) {
                    return false;
                }
            }
            return true;
        }

        static long numberIn(String text) {
            return numberBetween(text, 0, text.length());
        }

        static long numberBetween(String text, int from, int to) {
            if (from < 0 || from >= to || to > text.length()) {
                return NOT_WHOLE;
            }
            boolean isNegative = text.charAt(from) == '-';
            int digits = isNegative ? from + 1 : from;
            long number = 0L;
            for (int place = digits; place < to; place++) {
                int digit = text.charAt(place) - '0';
                if (digit < 0 || digit > 9) {
                    return NOT_WHOLE;
                }
                // A number that is out of range already stays as it is, so that many digits never wrap around.
                number = number > -LEAST_WHOLE ? number : number * 10L + digit;
            }
            number = isNegative ? -number : number;
            return digits == to || number < LEAST_WHOLE || number > GREATEST_WHOLE ? NOT_WHOLE : number;
        }

        // Those of a type as a column's type counts them: whole ones are decimal too, all are of the last.
        static boolean isOf(String text, int type) {
            switch (type) {
                case EMPTY: return text.isEmpty();
                case WHOLE: return numberIn(text) != NOT_WHOLE;
                case DECIMAL: return isDecimal(text) || numberIn(text) != NOT_WHOLE;
                case TRUTH: return isTruth(text);
                case DATE: return isDate(text);
                default: return true;
            }
        }

        private static boolean isDecimal(String text) {
            int digits = !text.isEmpty() && text.charAt(0) == '-' ? 1 : 0;
            int point = text.indexOf('.');
            return point > digits && point + 1 < text.length()
                    && areDigits(text, digits, point) && areDigits(text, point + 1, text.length());
        }

        private static boolean isTruth(String text) {
            return text.equals("yes") || text.equals("no") || text.equals("true") || text.equals("false");
        }

        private static boolean isDate(String text) {
            if (text.length() != DATE_SIGNS || text.charAt(4) != '-' || text.charAt(7) != '-'
                    || !areDigits(text, 0, 4) || !areDigits(text, 5, 7) || !areDigits(text, 8, DATE_SIGNS)) {
                return false;
            }
            int year = 100 * twoDigits(text, 0) + twoDigits(text, 2);
            int month = twoDigits(text, 5);
            int day = twoDigits(text, 8);
            return year > 0 && month >= 1 && month <= 12 && day >= 1 && day <= daysOf(year, month);
        }

        private static int twoDigits(String text, int at) {
            return at < 0 || at + 1 >= text.length() ? 0 : 10 * (text.charAt(at) - '0') + text.charAt(at + 1) - '0';
        }

        private static int daysOf(int year, int month) {
            if (month == 2) {
                boolean isLeap = (year % 4 == 0 && year % 100 != 0) || year % 400 == 0;
                return isLeap ? 29 : 28;
            }
            return month == 4 || month == 6 || month == 9 || month == 11 ? 30 : 31;
        }

        private static boolean areDigits(String text, int from, int to) {
            if (from < 0 || to > text.length()) {
                return false;
            }
            for (int place = from; place < to; place++) {
                if (text.charAt(place) < '0' || text.charAt(place) > '9') {
                    return false;
                }
            }
            return true;
        }
    }

    /** Hands out words; those of one sign or none are made once and shared, so that readings stay cheap. */
    private static final class Words {
        private final Word nothing = new Word("");
        private final Word[] singles = new Word[ONE_SIGN_CODES];

        Word ofNothing() {
            return nothing;
        }

        Word of(StringBuilder signs) {
            if (signs.length() == 0) {
                return nothing;
            }
            char sign = signs.charAt(0);
            if (signs.length() > 1 || sign >= singles.length) {
                return new Word(signs.toString());
            }
            Word known = singles[sign];
            if (known == null) {
                known = new Word(signs.toString());
                singles[sign] = known;
            }
            return known;
        }
    }

    /** One row of a table; it never changes, so tables and what can be undone share it. */
    private static final class Row {
        private final Word[] cells;

        Row(Word[] cells) {
            this.cells = cells;
        }

        int width() {
            return cells.length;
        }

        Word wordAt(int column) {
            return column < 0 || column >= cells.length ? null : cells[column];
        }

        String textAt(int column) {
            Word word = column < 0 || column >= cells.length ? null : cells[column];
            return word == null ? "" : word.signs;
        }

        static boolean areSame(Row one, Row two) {
            if (one == null || two == null || one.width() != two.width()) {
                return false;
            }
            for (int column = 0; column < one.width(); column++) {
                if (!one.textAt(column).equals(two.textAt(column))) {
                    return false;
                }
            }
            return true;
        }
    }

    /** Up to forty rows. */
    private static final class Table {
        private final Row[] lines = new Row[MOST_ROWS];
        private int count;

        int size() {
            return count;
        }

        Row rowAt(int row) {
            return row < 0 || row >= count || row >= lines.length ? null : lines[row];
        }

        int widthAt(int row) {
            Row line = rowAt(row);
            return line == null ? 0 : line.width();
        }

        boolean hasCell(int row, int column) {
            return column >= 0 && column < widthAt(row);
        }

        Word wordAt(int row, int column) {
            Row line = rowAt(row);
            return line == null ? null : line.wordAt(column);
        }

        String textAt(int row, int column) {
            Row line = rowAt(row);
            return line == null ? "" : line.textAt(column);
        }

        boolean hasEvenRows() {
            for (int row = 1; row < count; row++) {
                if (widthAt(row) != widthAt(0)) {
                    return false;
                }
            }
            return true;
        }

        boolean isAs(Table other) {
            if (count != other.count) {
                return false;
            }
            for (int row = 0; row < count; row++) {
                if (!Row.areSame(rowAt(row), other.rowAt(row))) {
                    return false;
                }
            }
            return true;
        }

        void clear() {
            count = 0;
        }

        void cutTo(int size) {
            count = Math.max(0, Math.min(count, size));
        }

        void addRow(Row row) {
            if (count < lines.length) {
                lines[count] = row;
                count++;
            }
        }

        void setAt(int at, Row row) {
            if (at >= 0 && at < count && at < lines.length) {
                lines[at] = row;
            }
        }

        void insertAt(int at, Row row) {
            if (at < 0 || at > count || count >= lines.length) {
                return;
            }
            for (int i = count; i > at; i--) {
                lines[i] = lines[i - 1];
            }
            lines[at] = row;
            count++;
        }

        void removeAt(int at) {
            if (at < 0 || at >= count) {
                return;
            }
            for (int i = at; i + 1 < count && i + 1 < lines.length; i++) {
                lines[i] = lines[i + 1];
            }
            count--;
        }

        void becomeAs(Table other) {
            count = other.count;
            for (int i = 0; i < count && i < lines.length; i++) {
                lines[i] = other.lines[i];
            }
        }
    }

    /** Goes sign by sign; it tells what becomes of each sign, field and row to those that are made of it. */
    private static class Reader {
        Mode mode = new Mode(0, 0, false, false);
        int stage;
        int state;
        int signsRead;
        int rowsEnded;
        int fieldsEnded;
        int kept;
        int faults;
        private int fieldsOfFirst = NONE;
        private boolean isRowFaulty;
        private final int[] faultParts = new int[MOST_FAULTS * PARTS_OF_FAULT];
        private final int[] keptWidths = new int[MOST_ROWS];

        void signTaken(char sign) {
        }

        void fieldEnded(boolean isKept) {
        }

        void rowEnded(boolean isKept) {
        }

        void restart(Mode by) {
            mode = by;
            stage = BEGUN;
            state = FIELD_BEGINS;
            signsRead = 0;
            rowsEnded = 0;
            fieldsEnded = 0;
            kept = 0;
            faults = 0;
            fieldsOfFirst = NONE;
            isRowFaulty = false;
        }

        void step(char sign) {
            if (state == QUOTED || state == ESCAPING) {
                stepInQuotes(sign);
            } else if (sign == mode.separatorSign) {
                endField();
            } else if (sign == LINE_END) {
                endField();
                endRow();
            } else {
                stepOutsideQuotes(sign);
            }
            signsRead++;
        }

        private void stepInQuotes(char sign) {
            boolean isQuote = sign == mode.quoteSign;
            if (state == ESCAPING) {
                if (!isQuote && sign != BACKSLASH) {
                    markFault(NOTHING_TO_ESCAPE);
                }
                signTaken(sign);
                state = QUOTED;
            } else if (isQuote) {
                state = BEHIND;
            } else if (mode.isEscaped && sign == BACKSLASH) {
                state = ESCAPING;
            } else {
                signTaken(sign);
            }
        }

        private void stepOutsideQuotes(char sign) {
            boolean isQuote = sign == mode.quoteSign;
            if (isQuote && state == FIELD_BEGINS) {
                state = QUOTED;
                return;
            }
            if (isQuote && state == BEHIND && !mode.isEscaped) {
                signTaken(sign);
                state = QUOTED;
                return;
            }
            if (state == BEHIND) {
                markFault(SIGN_BEHIND_QUOTES);
            } else if (isQuote) {
                markFault(QUOTE_IN_PLAIN);
            }
            signTaken(sign);
            state = PLAIN;
        }

        void end() {
            if (state == QUOTED || state == ESCAPING) {
                markFault(QUOTES_LEFT_OPEN);
                if (state == ESCAPING) {
                    signTaken(BACKSLASH);
                }
            }
            if (state != FIELD_BEGINS || fieldsEnded > 0) {
                endField();
                endRow();
            }
            stage = ENDED;
        }

        private void endField() {
            boolean isKept = fieldsEnded < MOST_FIELDS;
            if (!isKept) {
                markFault(TOO_MANY_FIELDS);
            }
            fieldEnded(isKept);
            fieldsEnded++;
            state = FIELD_BEGINS;
        }

        private void endRow() {
            if (fieldsOfFirst == NONE) {
                fieldsOfFirst = fieldsEnded;
            }
            if (fieldsEnded != fieldsOfFirst) {
                markFault(OTHER_NUMBER_OF_FIELDS);
            }
            boolean isRoom = kept < MOST_ROWS && kept < keptWidths.length;
            if (!isRoom) {
                markFault(TOO_MANY_ROWS);
            }
            boolean isKept = isRoom && !(mode.isStrict && isRowFaulty);
            rowEnded(isKept);
            if (isKept) {
                keptWidths[kept] = Math.min(fieldsEnded, MOST_FIELDS);
                kept++;
            }
            rowsEnded++;
            fieldsEnded = 0;
            isRowFaulty = false;
        }

        private void markFault(int kind) {
            int at = faults * PARTS_OF_FAULT;
            if (faults >= 0 && faults < MOST_FAULTS && at + 3 < faultParts.length) {
                faultParts[at] = kind;
                faultParts[at + 1] = rowsEnded;
                faultParts[at + 2] = fieldsEnded;
                faultParts[at + 3] = signsRead;
            }
            faults++;
            isRowFaulty = true;
        }

        int faultsKept() {
            return Math.min(faults, MOST_FAULTS);
        }

        int faultPart(int nth, int what) {
            int at = nth * PARTS_OF_FAULT + what;
            return at < 0 || at >= faultParts.length ? 0 : faultParts[at];
        }

        // How many fields each of the first three kept rows has; none, if they are unlike or there is no row.
        int commonWidth() {
            if (kept == 0) {
                return NONE;
            }
            for (int row = 1; row < kept && row < 3; row++) {
                if (keptWidths[row] != keptWidths[0]) {
                    return NONE;
                }
            }
            return keptWidths[0];
        }
    }

    /** A reader that makes rows of what it reads. */
    private static final class RowReader extends Reader {
        final Table keptRows = new Table();
        final Words words = new Words();
        private final StringBuilder field = new StringBuilder();
        private final Word[] cells = new Word[MOST_FIELDS];

        void restartRows(Mode by) {
            restart(by);
            keptRows.clear();
            field.setLength(0);
        }

        void signTaken(char sign) {
            field.append(sign);
        }

        void fieldEnded(boolean isKept) {
            if (isKept && fieldsEnded >= 0 && fieldsEnded < cells.length) {
                cells[fieldsEnded] = words.of(field);
            }
            field.setLength(0);
        }

        void rowEnded(boolean isKept) {
            if (!isKept) {
                return;
            }
            Word[] line = new Word[Math.max(0, Math.min(fieldsEnded, cells.length))];
            for (int column = 0; column < line.length; column++) {
                line[column] = cells[column];
            }
            keptRows.addRow(new Row(line));
        }
    }

    /** A reader that makes nothing, but compares what it reads with a table. */
    private static final class Checker extends Reader {
        private Table table = new Table();
        private Row line;
        private int length;
        private boolean isSame;

        void restartWith(Table wanted, Mode by) {
            restart(by);
            table = wanted;
            line = wanted.rowAt(0);
            length = 0;
            isSame = true;
        }

        boolean hasReadTheTable() {
            return isSame && kept == table.size();
        }

        void signTaken(char sign) {
            String wanted = line == null ? "" : line.textAt(fieldsEnded);
            if (length >= wanted.length() || wanted.charAt(length) != sign) {
                isSame = false;
            }
            length++;
        }

        void fieldEnded(boolean isKept) {
            if (!isKept || line == null || line.textAt(fieldsEnded).length() != length) {
                isSame = false;
            }
            length = 0;
        }

        void rowEnded(boolean isKept) {
            if (!isKept || line == null || line.width() != fieldsEnded) {
                isSame = false;
            }
            line = table.rowAt(rowsEnded + 1);
        }
    }

    /** Gives a written table sign by sign, so that it need not be held as a whole. */
    private static final class Writer {
        private Table table = new Table();
        private Mode mode = new Mode(0, 0, false, false);
        private boolean isAll;
        private int row;
        private int column;
        private String field = "";
        private int place;
        private boolean isQuoted;
        private boolean isOpened;
        private boolean isClosed;
        private boolean isGuarded;

        static int countOf(Table table, Mode mode, boolean isAll) {
            return countOfRows(table, 0, table.size(), mode, isAll);
        }

        static int countOfRows(Table table, int from, int to, Mode mode, boolean isAll) {
            int signs = 0;
            for (int row = from; row < to; row++) {
                for (int column = 0; column < table.widthAt(row); column++) {
                    signs += countOfField(table.textAt(row, column), mode, isAll) + 1;
                }
            }
            return signs;
        }

        private static int countOfField(String field, Mode mode, boolean isAll) {
            int signs = field.length();
            if (!isAll && !mode.needsQuotes(field)) {
                return signs;
            }
            for (int place = 0; place < field.length(); place++) {
                signs += mode.needsGuard(field.charAt(place)) ? 1 : 0;
            }
            return signs + 2;
        }

        void start(Table written, int fromRow, Mode by, boolean isAllQuoted) {
            table = written;
            mode = by;
            isAll = isAllQuoted;
            row = fromRow;
            column = 0;
            beginField();
        }

        void appendTo(StringBuilder signs, int many) {
            for (int i = 0; i < many; i++) {
                signs.append(nextSign());
            }
        }

        char nextSign() {
            if (isQuoted && !isOpened) {
                isOpened = true;
                return mode.quoteSign;
            }
            if (place < field.length()) {
                return nextOfField(field.charAt(place));
            }
            if (isQuoted && !isClosed) {
                isClosed = true;
                return mode.quoteSign;
            }
            return nextBehindField();
        }

        private char nextOfField(char sign) {
            if (isQuoted && !isGuarded && mode.needsGuard(sign)) {
                isGuarded = true;
                return mode.guardSign();
            }
            isGuarded = false;
            place++;
            return sign;
        }

        private char nextBehindField() {
            boolean isLast = column + 1 >= table.widthAt(row);
            row = isLast ? row + 1 : row;
            column = isLast ? 0 : column + 1;
            beginField();
            return isLast ? LINE_END : mode.separatorSign;
        }

        private void beginField() {
            field = table.textAt(row, column);
            place = 0;
            isQuoted = isAll || mode.needsQuotes(field);
            isOpened = false;
            isClosed = false;
            isGuarded = false;
        }
    }

    /** A text as a filter: groups of terms, of which one group has to hold. */
    private static final class Filter {
        private final String text;

        Filter(String text) {
            this.text = text;
        }

        int placeOfFault() {
            int at = 0;
            for (int term = 0; term <= text.length(); term++) {
                if (!isColumn(at)) {
                    return at;
                }
                if (!isRelation(at + 1)) {
                    return at + 1;
                }
                int end = endOfValue(at + 2);
                if (isOfNumbers(at + 1) && Word.numberBetween(text, at + 2, end) == NOT_WHOLE) {
                    return at + 2;
                }
                if (end >= text.length()) {
                    return NONE;
                }
                at = end + 1;
            }
            return NONE;
        }

        boolean isPassedBy(Row row) {
            int at = 0;
            boolean isGroupHeld = true;
            for (int term = 0; term <= text.length(); term++) {
                int end = endOfValue(at + 2);
                isGroupHeld = isGroupHeld && isTermHeld(row, at, end);
                boolean isLast = end >= text.length();
                if (isLast || text.charAt(end) == '!') {
                    if (isLast || isGroupHeld) {
                        return isGroupHeld;
                    }
                    isGroupHeld = true;
                }
                at = end + 1;
            }
            return false;
        }

        private boolean isTermHeld(Row row, int at, int end) {
            if (row == null || at < 0 || at + 1 >= text.length()) {
                return false;
            }
            String field = row.textAt(text.charAt(at) - '0');
            char relation = text.charAt(at + 1);
            int from = at + 2;
            if (relation == '=') {
                return field.length() == end - from && Word.isAt(field, 0, text, from, end);
            }
            if (relation == ':') {
                return isIn(field, from, end);
            }
            long number = Word.numberIn(field);
            long limit = Word.numberBetween(text, from, end);
            return number != NOT_WHOLE && (relation == '<' ? number < limit : number > limit);
        }

        private boolean isIn(String field, int from, int end) {
            for (int at = 0; at + (end - from) <= field.length(); at++) {
                if (Word.isAt(field, at, text, from, end)) {
                    return true;
                }
            }
            return false;
        }

        private boolean isColumn(int at) {
            return at >= 0 && at < text.length() && text.charAt(at) >= '0' && text.charAt(at) <= '7';
        }

        private boolean isRelation(int at) {
            return isOfNumbers(at)
                    || (at >= 0 && at < text.length() && (text.charAt(at) == '=' || text.charAt(at) == ':'));
        }

        private boolean isOfNumbers(int at) {
            return at >= 0 && at < text.length() && (text.charAt(at) == '<' || text.charAt(at) == '>');
        }

        private int endOfValue(int from) {
            for (int place = Math.max(0, from); place < text.length(); place++) {
                if (text.charAt(place) == '&' || text.charAt(place) == '!') {
                    return place;
                }
            }
            return text.length();
        }
    }

    /** What both tables were ahead of the last calls that can be undone; the oldest one gives way. */
    private static final class History {
        private final Table[] firsts = new Table[MOST_UNDONE];
        private final Table[] seconds = new Table[MOST_UNDONE];
        private int next;
        private int count;

        History() {
            for (int i = 0; i < MOST_UNDONE; i++) {
                firsts[i] = new Table();
                seconds[i] = new Table();
            }
        }

        int size() {
            return count;
        }

        private static Table tableAt(Table[] tables, int at) {
            return at < 0 || at >= tables.length ? null : tables[at];
        }

        void keep(Table first, Table second) {
            Table keptFirst = tableAt(firsts, next);
            Table keptSecond = tableAt(seconds, next);
            if (keptFirst == null || keptSecond == null) {
                return;
            }
            keptFirst.becomeAs(first);
            keptSecond.becomeAs(second);
            next = (next + 1) % MOST_UNDONE;
            count = Math.min(count + 1, MOST_UNDONE);
        }

        void giveBack(Table first, Table second) {
            int last = (next + MOST_UNDONE - 1) % MOST_UNDONE;
            Table keptFirst = tableAt(firsts, last);
            Table keptSecond = tableAt(seconds, last);
            if (count < 1 || keptFirst == null || keptSecond == null) {
                return;
            }
            first.becomeAs(keptFirst);
            second.becomeAs(keptSecond);
            next = last;
            count--;
        }
    }
}
