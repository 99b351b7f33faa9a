import java.util.NoSuchElementException;

/**
 * A terminal with a screen: bytes come in by feed and by keys, what they make of the screen is told cell by cell.
 * The numbered promises that this class keeps stand in DOC.md.
 */
public final class TerminalWeir {
    private static final int MOST_TYPED = 60;
    private static final int MOST_WAITING = 200;
    private static final int MOST_IN_LINE = 40;
    private static final int BACK_ROWS = 30;

    private final Display display = new Display(BACK_ROWS);
    private final Parser parser = new Parser(display);
    private final Flow flow = new Flow();
    private final Painter painter = new Painter();
    private final Picker picker = new Picker();
    private final Bytes typed = new Bytes(MOST_TYPED);
    private final Bytes waiting = new Bytes(MOST_WAITING);
    private final Bytes line = new Bytes(MOST_IN_LINE);
    private boolean echoing = true;
    private boolean held;
    private int signalCount;

    public TerminalWeir() {
    }

    // ---- bytes and keys

    public int feed(int code) throws IllegalArgumentException, IllegalStateException {
        checkByte(code);
        if (held && waiting.count >= MOST_WAITING) {
            throw new IllegalStateException("200 bytes wait");
        }
        hear(code, true);
        return waiting.count;
    }

    public int type(int code) throws IllegalArgumentException, IllegalStateException {
        checkByte(code);
        if (typed.count >= MOST_TYPED) {
            throw new IllegalStateException("60 bytes are typed");
        }
        typed.add(code);
        return typed.count;
    }

    public int wipe() {
        int before = typed.count;
        typed.clear();
        return before;
    }

    public int feedAll() throws IllegalStateException {
        if (held && waiting.count + typed.count > MOST_WAITING) {
            throw new IllegalStateException("more than 200 bytes would wait");
        }
        for (int i = 0; i < typed.count; i++) {
            hear(typed.get(i), true);
        }
        return waiting.count;
    }

    public int key(int code) throws IllegalArgumentException {
        if (code < 1 || code > 127) {
            throw new IllegalArgumentException("no such key");
        }
        switch (code) {
            case 3:
                line.clear();
                signalCount++;
                break;
            case 13:
                sendLine();
                hear(13, echoing);
                hear(10, echoing);
                break;
            case 17:
                letGoOn();
                break;
            case 19:
                held = true;
                break;
            case 21:
                line.clear();
                break;
            case 127:
                if (line.removeLast()) {
                    hear(8, echoing);
                    hear(32, echoing);
                    hear(8, echoing);
                }
                break;
            default:
                if (line.add(code)) {
                    hear(code, echoing);
                } else {
                    display.ringCount++;
                }
                break;
        }
        return line.count;
    }

    public boolean echo(boolean is) {
        boolean before = echoing;
        echoing = is;
        return before;
    }

    public boolean isHeld() {
        return held;
    }

    public int signals() {
        return signalCount;
    }

    public int rings() {
        return display.ringCount;
    }

    public int take() throws NoSuchElementException {
        if (display.outgoing.count == 0) {
            throw new NoSuchElementException("nothing was sent");
        }
        return display.outgoing.removeFirst();
    }

    public int sent() {
        return display.outgoing.count;
    }

    // ---- the screen

    public int size(int width, int height) throws IllegalArgumentException {
        if (width < 2 || width > Row.MOST || height < 1 || height > Grid.MOST) {
            throw new IllegalArgumentException("no such size");
        }
        int before = display.width;
        if (width != display.width || height != display.height) {
            if (display.onSecond) {
                display.cutTo(width, height);
            } else {
                flow.flow(display, width, height);
            }
            display.startSize(width, height);
        }
        return before;
    }

    public int width() {
        return display.width;
    }

    public int height() {
        return display.height;
    }

    public int at(int row, int column) throws IndexOutOfBoundsException {
        return Row.characterOf(cellShown(row, column));
    }

    public int style(int row, int column) throws IndexOutOfBoundsException {
        return Row.styleOf(cellShown(row, column));
    }

    public int mark(int row, int column) throws IndexOutOfBoundsException, NoSuchElementException {
        int mark = Row.markOf(cellShown(row, column));
        if (mark == 0) {
            throw new NoSuchElementException("no mark");
        }
        return mark;
    }

    public boolean isWrapped(int row) throws IndexOutOfBoundsException {
        if (!display.hasRow(row)) {
            throw new IndexOutOfBoundsException("no such row");
        }
        return display.lineAt(row).wrapped;
    }

    public int row() {
        return display.place.row;
    }

    public int column() {
        return display.place.column;
    }

    public boolean isWaiting() {
        return display.place.waits;
    }

    public boolean isShown() {
        return display.cursorShown;
    }

    public boolean isSecond() {
        return display.onSecond;
    }

    public int pen() {
        return display.place.pen;
    }

    public boolean hasTab(int column) throws IndexOutOfBoundsException {
        if (!display.hasColumn(column)) {
            throw new IndexOutOfBoundsException("no such column");
        }
        return display.isTab(column);
    }

    public int region(boolean isTop) {
        return isTop ? display.top : display.bottom;
    }

    public boolean isSet(int mode) throws IllegalArgumentException {
        switch (mode) {
            case 4:
                return display.inserting;
            case 6:
                return display.place.byOrigin;
            case 7:
                return display.wrapping;
            default:
                throw new IllegalArgumentException("no such mode");
        }
    }

    public char title(int index) throws NoSuchElementException {
        if (!parser.title.has(index)) {
            throw new NoSuchElementException("no such character");
        }
        return (char) parser.title.get(index);
    }

    // ---- back pages, selections, output

    public int back() {
        return display.pages.count;
    }

    public int backAt(int row, int column) throws IndexOutOfBoundsException {
        if (row < 0 || row >= display.pages.count || !display.hasColumn(column)) {
            throw new IndexOutOfBoundsException("no such cell");
        }
        return Row.characterOf(display.pages.rowAt(row).cell(column));
    }

    public int select(char kind, int row, int column, int toRow, int toColumn)
            throws IndexOutOfBoundsException, IllegalArgumentException, UnsupportedOperationException {
        if (!display.hasCell(row, column) || !display.hasCell(toRow, toColumn)) {
            throw new IndexOutOfBoundsException("no such cell");
        }
        if (kind != 'w' && kind != 'l' && kind != 'b') {
            throw new IllegalArgumentException("no such kind");
        }
        if (toRow < row || toRow == row && toColumn < column) {
            throw new UnsupportedOperationException("the other cell is ahead");
        }
        return picker.pick(display, kind, row, column, toRow, toColumn);
    }

    public int selected(int index) throws NoSuchElementException {
        if (!picker.chosen.has(index)) {
            throw new NoSuchElementException("no such character");
        }
        return picker.chosen.get(index);
    }

    public long keep() {
        painter.keepScreen(display);
        return display.sum();
    }

    public int output() throws NoSuchElementException, UnsupportedOperationException {
        if (!painter.hasKept) {
            throw new NoSuchElementException("no screen is kept");
        }
        if (!painter.fits(display)) {
            throw new UnsupportedOperationException("the kept screen has another size");
        }
        painter.paint(display);
        return painter.made.count;
    }

    public int outputAt(int index) throws NoSuchElementException {
        if (!painter.made.has(index)) {
            throw new NoSuchElementException("no such byte");
        }
        return painter.made.get(index);
    }

    public int filledBits() {
        return bitsOfShare(display.filled(), display.width * display.height);
    }

    public double meanLength() {
        int sum = 0;
        for (int i = 0; i < display.height; i++) {
            sum += display.lineAt(i).usedOf(display.width);
        }
        return display.height > 0 ? (double) sum / (double) display.height : 0.0;
    }

    public long checksum() {
        long sum = display.sum();
        sum = 31 * sum + display.place.row;
        sum = 31 * sum + display.place.column;
        return 31 * sum + display.pages.count;
    }

    public boolean isSound() {
        if (!display.hasCell(display.place.row, display.place.column) || !display.hasWholeCharacters()) {
            return false;
        }
        return !painter.hasKept || !painter.fits(display) || painter.isTrue(display);
    }

    // ---- what the face rests on

    private static void checkByte(int code) {
        if (code < 0 || code > 255) {
            throw new IllegalArgumentException("no byte");
        }
    }

    private long cellShown(int row, int column) {
        if (!display.hasCell(row, column)) {
            throw new IndexOutOfBoundsException("no such cell");
        }
        return display.lineAt(row).cell(column);
    }

    /** A byte that is fed is heard always, one that comes of a key by echo alone. */
    private void hear(int code, boolean isHeard) {
        if (isHeard && held) {
            waiting.add(code);
        } else if (isHeard) {
            parser.accept(code);
        }
    }

    private void letGoOn() {
        held = false;
        for (int i = 0; i < waiting.count; i++) {
            parser.accept(waiting.get(i));
        }
        waiting.clear();
    }

    private void sendLine() {
        for (int i = 0; i < line.count; i++) {
            display.outgoing.add(line.get(i));
        }
        display.outgoing.add(10);
        line.clear();
    }

    /** The bits of a float from 0 to 1, found by doubling, as the library's own way to them is not at hand. */
    private static int bitsOfShare(int part, int all) {
        if (part <= 0 || all <= 0) {
            return 0;
        }
        float share = (float) part / (float) all;
        int exponent = 127;
        for (int i = 0; i < 126 && share < 1.0f; i++) {
            share = share * 2.0f;
            exponent--;
        }
        return (exponent << 23) + (int) ((share - 1.0f) * 8388608.0f);
    }

    /** A bounded queue of small numbers: what comes when it is full is lost. */
    private static final class Bytes {
        private final int[] ring;
        private int first;
        private int count;

        Bytes(int most) {
            ring = new int[Math.max(most, 0)];
        }

        boolean add(int value) {
            if (count >= ring.length) {
                return false;
            }
            ring[(first + count) % ring.length] = value;
            count++;
            return true;
        }

        boolean has(int index) {
            return index >= 0 && index < count;
        }

        int get(int index) {
            return has(index) && ring.length > 0 ? ring[(first + index) % ring.length] : 0;
        }

        int removeFirst() {
            if (count == 0 || ring.length == 0) {
                return 0;
            }
            int value = ring[first % ring.length];
            first = (first + 1) % ring.length;
            count--;
            return value;
        }

        boolean removeLast() {
            if (count == 0) {
                return false;
            }
            count--;
            return true;
        }

        void clear() {
            first = 0;
            count = 0;
        }

        /** By the origin a row may be told above the region, so its number may be below 1. */
        void addNumber(int number) {
            if (number < 0) {
                add('-');
            }
            int left = Math.abs(number);
            int unit = 1;
            for (int i = 0; i < 8 && left / unit >= 10; i++) {
                unit = unit * 10;
            }
            for (int i = 0; i < 9 && unit > 0; i++) {
                add('0' + left / unit % 10);
                unit = unit / 10;
            }
        }

        void addCharacter(int character) {
            if (character < 128) {
                add(character);
            } else if (character < 2048) {
                add(192 + (character >> 6));
                add(128 + (character & 63));
            } else {
                add(224 + ((character >> 12) & 15));
                add(128 + ((character >> 6) & 63));
                add(128 + (character & 63));
            }
        }
    }

    /** The cells of a row. Those behind the width of the screen are always blank and without style. */
    private static final class Row {
        private static final int MOST = 20;
        private static final long BLANK = 32L;
        private static final int HALF = 0;

        private final long[] cells = new long[MOST];
        private boolean wrapped;

        Row() {
            for (int i = 0; i < cells.length; i++) {
                cells[i] = BLANK;
            }
        }

        static long cellOf(int character, int style, int mark) {
            return ((long) mark << 32) | ((long) style << 16) | (long) character;
        }

        static int characterOf(long cell) {
            return (int) (cell & 65535L);
        }

        static int styleOf(long cell) {
            return (int) ((cell >> 16) & 65535L);
        }

        static int markOf(long cell) {
            return (int) ((cell >> 32) & 65535L);
        }

        static boolean isMark(int character) {
            return character >= 768 && character <= 879;
        }

        static boolean isWide(int character) {
            return character >= 4352 && character <= 4447
                    || character >= 11904 && character <= 40959
                    || character >= 44032 && character <= 55203
                    || character >= 65280 && character <= 65376;
        }

        long cell(int column) {
            return column >= 0 && column < cells.length ? cells[column] : BLANK;
        }

        void put(int column, long cell) {
            if (column >= 0 && column < cells.length) {
                cells[column] = cell;
            }
        }

        boolean isHalf(int column) {
            return characterOf(cell(column)) == HALF;
        }

        boolean isBlank(int column) {
            return characterOf(cell(column)) == 32;
        }

        /** Blank without style; a cell that a mark has joined is not, as its mark would be lost with it. */
        static boolean isPlain(long cell) {
            return cell == BLANK;
        }

        /** Makes both halves of a wide character blank that stands across the left edge of the column. */
        void part(int column) {
            if (column > 0 && column < cells.length && characterOf(cells[column]) == HALF) {
                cells[column - 1] = cellOf(32, styleOf(cells[column - 1]), 0);
                cells[column] = cellOf(32, styleOf(cells[column]), 0);
            }
        }

        void erase(int from, int to, int width, long blank) {
            int end = Math.min(to, width);
            part(from);
            part(end);
            for (int i = from; i < end; i++) {
                put(i, blank);
            }
            if (end == width) {
                wrapped = false;
            }
        }

        void insert(int column, int times, int width, long blank) {
            int by = Math.min(times, width - column);
            part(column);
            part(width - by);
            for (int i = width - 1; i >= column + by; i--) {
                put(i, cell(i - by));
            }
            for (int i = column; i < column + by; i++) {
                put(i, blank);
            }
        }

        void remove(int column, int times, int width, long blank) {
            int by = Math.min(times, width - column);
            part(column);
            part(column + by);
            for (int i = column; i < width - by; i++) {
                put(i, cell(i + by));
            }
            for (int i = width - by; i < width; i++) {
                put(i, blank);
            }
            wrapped = false;
        }

        void clear(int width, long blank) {
            for (int i = 0; i < cells.length; i++) {
                cells[i] = i < width ? blank : BLANK;
            }
            wrapped = false;
        }

        void cutTo(int width) {
            part(width);
            for (int i = Math.max(width, 0); i < cells.length; i++) {
                cells[i] = BLANK;
            }
        }

        void become(Row other) {
            for (int i = 0; i < cells.length && i < other.cells.length; i++) {
                cells[i] = other.cells[i];
            }
            wrapped = other.wrapped;
        }

        /** How many cells there are up to the last one that is not blank. */
        int usedOf(int width) {
            int used = width;
            while (used > 0 && isBlank(used - 1)) {
                used--;
            }
            return used;
        }

        boolean isEmpty(int width) {
            for (int i = 0; i < width; i++) {
                if (!isPlain(cell(i))) {
                    return false;
                }
            }
            return true;
        }
    }

    /** The rows of one screen. Those below its height are always blank. */
    private static final class Grid {
        private static final int MOST = 10;

        private final Row[] rows = new Row[MOST];

        Grid() {
            for (int i = 0; i < rows.length; i++) {
                rows[i] = new Row();
            }
        }

        Row rowAt(int row) {
            return rows[Math.max(0, Math.min(row, rows.length - 1))];
        }

        void moveUp(int from, int to, int width, long blank) {
            if (from < 0 || to >= rows.length || from > to) {
                return;
            }
            Row gone = rows[from];
            for (int i = from; i < to; i++) {
                rows[i] = rows[i + 1];
            }
            rows[to] = gone;
            gone.clear(width, blank);
        }

        void moveDown(int from, int to, int width, long blank) {
            if (from < 0 || to >= rows.length || from > to) {
                return;
            }
            Row gone = rows[to];
            for (int i = to; i > from; i--) {
                rows[i] = rows[i - 1];
            }
            rows[from] = gone;
            gone.clear(width, blank);
        }

        void clear() {
            for (int i = 0; i < rows.length; i++) {
                rows[i].clear(0, Row.BLANK);
            }
        }

        void cutTo(int width, int height) {
            for (int i = 0; i < rows.length; i++) {
                if (i < height) {
                    rows[i].cutTo(width);
                } else {
                    rows[i].clear(0, Row.BLANK);
                }
            }
        }

        void become(Grid other) {
            for (int i = 0; i < rows.length; i++) {
                rows[i].become(other.rowAt(i));
            }
        }
    }

    /** The rows that scrolled out, the oldest one first, in a ring of rows made once. */
    private static final class Pages {
        private final Row[] ring;
        private int first;
        private int count;

        Pages(int most) {
            ring = new Row[Math.max(most, 1)];
            for (int i = 0; i < ring.length; i++) {
                ring[i] = new Row();
            }
        }

        void push(Row row) {
            rowAt(count).become(row);
            if (count < ring.length) {
                count++;
            } else {
                first++;
            }
        }

        /** The caller looks first whether there is such a row; the ring has one at least. */
        Row rowAt(int row) {
            return ring[Math.floorMod(first + row, Math.max(ring.length, 1))];
        }

        void clear() {
            first = 0;
            count = 0;
        }

        void cutTo(int width) {
            for (int i = 0; i < ring.length; i++) {
                ring[i].cutTo(width);
            }
        }
    }

    /** What '7' keeps: the cursor, the pen, the waiting and the origin. */
    private static final class Place {
        private int row;
        private int column;
        private int pen;
        private boolean waits;
        private boolean byOrigin;

        void become(Place other) {
            row = other.row;
            column = other.column;
            pen = other.pen;
            waits = other.waits;
            byOrigin = other.byOrigin;
        }

        void start() {
            row = 0;
            column = 0;
            pen = 0;
            waits = false;
            byOrigin = false;
        }
    }

    /** Both screens, and all that the codes do to them. */
    private static final class Display {
        private static final int NONE = -1;
        private static final int MOST_SENT = 200;
        private static final int FIRST_WIDTH = 12;
        private static final int FIRST_HEIGHT = 4;

        private final Grid firstGrid = new Grid();
        private final Grid secondGrid = new Grid();
        private final Pages pages;
        private final Place place = new Place();
        private final Place kept = new Place();
        private final Place keptAside = new Place();
        private final boolean[] tabs = new boolean[Row.MOST];
        private final Bytes outgoing = new Bytes(MOST_SENT);
        private boolean onSecond;
        private boolean inserting;
        private boolean wrapping = true;
        private boolean cursorShown = true;
        private int width = FIRST_WIDTH;
        private int height = FIRST_HEIGHT;
        private int top;
        private int bottom = FIRST_HEIGHT - 1;
        private int lastRow = NONE;
        private int lastColumn = NONE;
        private int ringCount;

        Display(int backRows) {
            pages = new Pages(backRows);
            startTabs();
        }

        Grid grid() {
            return onSecond ? secondGrid : firstGrid;
        }

        Row lineAt(int row) {
            return grid().rowAt(row);
        }

        boolean hasRow(int row) {
            return row >= 0 && row < height;
        }

        boolean hasColumn(int column) {
            return column >= 0 && column < width;
        }

        boolean hasCell(int row, int column) {
            return hasRow(row) && hasColumn(column);
        }

        boolean isTab(int column) {
            return column >= 0 && column < tabs.length && tabs[column];
        }

        long sum() {
            long sum = 7;
            for (int i = 0; i < height; i++) {
                for (int j = 0; j < width; j++) {
                    long cell = lineAt(i).cell(j);
                    sum = 31 * sum + Row.characterOf(cell);
                    sum = 31 * sum + Row.styleOf(cell);
                }
            }
            return sum;
        }

        int filled() {
            int count = 0;
            for (int i = 0; i < height; i++) {
                for (int j = 0; j < width; j++) {
                    if (!lineAt(i).isBlank(j)) {
                        count++;
                    }
                }
            }
            return count;
        }

        boolean hasWholeCharacters() {
            for (int i = 0; i < height; i++) {
                for (int j = 0; j < width; j++) {
                    Row row = lineAt(i);
                    boolean wide = Row.isWide(Row.characterOf(row.cell(j)));
                    boolean halfBehind = j + 1 < width && row.isHalf(j + 1);
                    if (wide != halfBehind || j == 0 && row.isHalf(0)) {
                        return false;
                    }
                }
            }
            return true;
        }

        // ---- sizes

        void cutTo(int newWidth, int newHeight) {
            firstGrid.cutTo(newWidth, newHeight);
            secondGrid.cutTo(newWidth, newHeight);
            pages.cutTo(newWidth);
        }

        /** The rows have been made fit already; what hangs on the size follows here. */
        void startSize(int newWidth, int newHeight) {
            width = newWidth;
            height = newHeight;
            top = 0;
            bottom = newHeight - 1;
            moveTo(place.row, place.column);
            startTabs();
        }

        void startTabs() {
            for (int i = 0; i < tabs.length; i++) {
                tabs[i] = i % 8 == 0;
            }
        }

        void startAnew() {
            firstGrid.clear();
            secondGrid.clear();
            onSecond = false;
            place.start();
            kept.start();
            keptAside.start();
            inserting = false;
            wrapping = true;
            cursorShown = true;
            top = 0;
            bottom = height - 1;
            startTabs();
            endWaiting();
        }

        // ---- writing

        void write(int character) {
            if (Row.isMark(character)) {
                join(character);
                return;
            }
            int size = Row.isWide(character) ? 2 : 1;
            if (place.waits || place.column + size > width) {
                if (wrapping) {
                    lineAt(place.row).wrapped = true;
                    place.column = 0;
                    newLine();
                } else {
                    place.column = width - size;
                }
            }
            int end = place.column + size;
            Row row = lineAt(place.row);
            if (inserting) {
                row.insert(place.column, size, width, blank());
            }
            row.part(place.column);
            row.part(end);
            row.put(place.column, Row.cellOf(character, place.pen, 0));
            if (size == 2) {
                row.put(place.column + 1, Row.cellOf(Row.HALF, place.pen, 0));
            }
            lastRow = place.row;
            lastColumn = place.column;
            place.waits = end >= width;
            place.column = Math.min(end, width - 1);
        }

        void join(int mark) {
            if (lastRow != NONE) {
                Row row = lineAt(lastRow);
                long cell = row.cell(lastColumn);
                row.put(lastColumn, Row.cellOf(Row.characterOf(cell), Row.styleOf(cell), mark));
            }
        }

        /** What is done here parts a mark from its character too. */
        void endWaiting() {
            place.waits = false;
            lastRow = NONE;
            lastColumn = NONE;
        }

        long blank() {
            return Row.cellOf(32, place.pen & 0xF00, 0);
        }

        // ---- the cursor

        void moveTo(int row, int column) {
            place.row = within(row, 0, height - 1);
            place.column = within(column, 0, width - 1);
            endWaiting();
        }

        /** The row that is told by the origin as that many rows from its first one on. */
        int rowByOrigin(int row) {
            return place.byOrigin ? Math.min(top + row, bottom) : row;
        }

        /** From within the region the cursor stays in it, from outside only the screen bounds it. */
        void moveRows(int by) {
            if (place.row >= top && place.row <= bottom) {
                moveTo(within(place.row + by, top, bottom), place.column);
            } else {
                moveTo(place.row + by, place.column);
            }
        }

        void newLine() {
            endWaiting();
            if (place.row == bottom) {
                scrollUp(top, 1, true);
            } else if (place.row < height - 1) {
                place.row++;
            }
        }

        void goUp() {
            endWaiting();
            if (place.row == top) {
                scrollDown(top, 1);
            } else if (place.row > 0) {
                place.row--;
            }
        }

        int nextTab() {
            int column = place.column + 1;
            while (column < width - 1 && !isTab(column)) {
                column++;
            }
            return column;
        }

        void takeBack(Place from) {
            endWaiting();
            place.become(from);
            place.row = within(from.row, 0, height - 1);
            place.column = within(from.column, 0, width - 1);
            place.waits = from.waits && place.column == width - 1;
        }

        static int within(int value, int least, int most) {
            return Math.max(least, Math.min(value, most));
        }

        // ---- scrolling and erasing

        void scrollUp(int from, int times, boolean keepsRows) {
            int most = Math.min(times, bottom - from + 1);
            for (int i = 0; i < most; i++) {
                if (keepsRows && !onSecond && from == 0) {
                    pages.push(lineAt(0));
                }
                grid().moveUp(from, bottom, width, blank());
            }
        }

        void scrollDown(int from, int times) {
            int most = Math.min(times, bottom - from + 1);
            for (int i = 0; i < most; i++) {
                grid().moveDown(from, bottom, width, blank());
            }
        }

        void eraseScreen(int how) {
            if (how > 2) {
                return;
            }
            endWaiting();
            int from = how == 0 ? place.row : 0;
            int last = how == 1 ? place.row : height - 1;
            for (int i = from; i <= last; i++) {
                boolean isPart = i == place.row;
                int fromColumn = isPart && how == 0 ? place.column : 0;
                int toColumn = isPart && how == 1 ? place.column + 1 : width;
                lineAt(i).erase(fromColumn, toColumn, width, blank());
            }
        }

        void eraseInRow(int how) {
            if (how > 2) {
                return;
            }
            endWaiting();
            int from = how == 0 ? place.column : 0;
            int to = how == 1 ? place.column + 1 : width;
            lineAt(place.row).erase(from, to, width, blank());
        }

        void changeRows(int times, boolean puts) {
            if (place.row < top || place.row > bottom) {
                return;
            }
            endWaiting();
            if (puts) {
                scrollDown(place.row, times);
            } else {
                scrollUp(place.row, times, false);
            }
        }

        void changeCells(int code, int times) {
            endWaiting();
            Row row = lineAt(place.row);
            if (code == '@') {
                row.insert(place.column, times, width, blank());
            } else if (code == 'P') {
                row.remove(place.column, times, width, blank());
            } else {
                row.erase(place.column, place.column + times, width, blank());
            }
        }

        // ---- codes

        void control(int code) {
            switch (code) {
                case 7:
                    ringCount++;
                    break;
                case 8:
                    moveTo(place.row, place.column - 1);
                    break;
                case 9:
                    moveTo(place.row, nextTab());
                    break;
                case 10:
                case 11:
                case 12:
                    newLine();
                    break;
                case 13:
                    moveTo(place.row, 0);
                    break;
                default:
                    break;
            }
        }

        /** A code of one byte behind 27. */
        void shortCode(int code) {
            switch (code) {
                case '7':
                    kept.become(place);
                    endWaiting();
                    break;
                case '8':
                    takeBack(kept);
                    break;
                case 'D':
                    newLine();
                    break;
                case 'E':
                    place.column = 0;
                    newLine();
                    break;
                case 'M':
                    goUp();
                    break;
                case 'H':
                    setTab(place.column, true);
                    break;
                case 'c':
                    startAnew();
                    break;
                default:
                    break;
            }
        }

        /** Codes of numbers that move the cursor. */
        void moveCode(int code, int number, int other) {
            int times = Math.max(number, 1);
            switch (code) {
                case 'A':
                    moveRows(-times);
                    break;
                case 'B':
                    moveRows(times);
                    break;
                case 'C':
                    moveTo(place.row, place.column + times);
                    break;
                case 'D':
                    moveTo(place.row, place.column - times);
                    break;
                case 'G':
                    moveTo(place.row, times - 1);
                    break;
                case 'd':
                    moveTo(rowByOrigin(times - 1), place.column);
                    break;
                case 'H':
                    moveTo(rowByOrigin(times - 1), Math.max(other, 1) - 1);
                    break;
                case 'r':
                    setRegion(times - 1, other);
                    break;
                default:
                    break;
            }
        }

        /** Codes of numbers that change rows, cells or tabs, or ask. */
        void changeCode(int code, int number) {
            int times = Math.max(number, 1);
            switch (code) {
                case 'J':
                    eraseScreen(number);
                    break;
                case 'K':
                    eraseInRow(number);
                    break;
                case '@':
                case 'P':
                case 'X':
                    changeCells(code, times);
                    break;
                case 'L':
                case 'M':
                    changeRows(times, code == 'L');
                    break;
                case 'S':
                    endWaiting();
                    scrollUp(top, times, true);
                    break;
                case 'T':
                    endWaiting();
                    scrollDown(top, times);
                    break;
                case 'g':
                    takeTabs(number);
                    break;
                case 'n':
                    reply(number);
                    break;
                default:
                    break;
            }
        }

        /** Codes that do something for each of their numbers. */
        void eachCode(int code, int number, boolean isAsked) {
            if (code == 'm' && !isAsked) {
                place.pen = styledBy(place.pen, number);
            } else if ((code == 'h' || code == 'l') && isAsked) {
                setAskedMode(number, code == 'h');
            } else if ((code == 'h' || code == 'l') && number == 4) {
                endWaiting();
                inserting = code == 'h';
            }
        }

        static int styledBy(int pen, int number) {
            if (number >= 30 && number <= 37) {
                return (pen & ~0xF0) | ((number - 29) << 4);
            }
            if (number >= 40 && number <= 47) {
                return (pen & ~0xF00) | ((number - 39) << 8);
            }
            switch (number) {
                case 0:
                    return 0;
                case 1:
                    return pen | 1;
                case 4:
                    return pen | 2;
                case 7:
                    return pen | 4;
                case 22:
                    return pen & ~1;
                case 24:
                    return pen & ~2;
                case 27:
                    return pen & ~4;
                case 39:
                    return pen & ~0xF0;
                case 49:
                    return pen & ~0xF00;
                default:
                    return pen;
            }
        }

        void setAskedMode(int mode, boolean is) {
            switch (mode) {
                case 6:
                    place.byOrigin = is;
                    moveTo(rowByOrigin(0), 0);
                    break;
                case 7:
                    endWaiting();
                    wrapping = is;
                    break;
                case 25:
                    endWaiting();
                    cursorShown = is;
                    break;
                case 1049:
                    showSecond(is);
                    break;
                default:
                    break;
            }
        }

        void showSecond(boolean is) {
            if (is == onSecond) {
                return;
            }
            onSecond = is;
            if (is) {
                keptAside.become(place);
                secondGrid.clear();
                endWaiting();
            } else {
                takeBack(keptAside);
            }
        }

        void setRegion(int from, int last) {
            int to = last == 0 || last > height ? height - 1 : last - 1;
            if (to > from) {
                top = from;
                bottom = to;
                moveTo(rowByOrigin(0), 0);
            }
        }

        void setTab(int column, boolean is) {
            if (column >= 0 && column < tabs.length) {
                endWaiting();
                tabs[column] = is;
            }
        }

        void takeTabs(int how) {
            if (how == 0) {
                setTab(place.column, false);
            } else if (how == 3) {
                for (int i = 0; i < tabs.length; i++) {
                    setTab(i, false);
                }
            }
        }

        void reply(int how) {
            if (how != 5 && how != 6) {
                return;
            }
            outgoing.add(27);
            outgoing.add('[');
            if (how == 6) {
                outgoing.addNumber(place.row - (place.byOrigin ? top : 0) + 1);
                outgoing.add(';');
                outgoing.addNumber(place.column + 1);
                outgoing.add('R');
            } else {
                outgoing.add('0');
                outgoing.add('n');
            }
        }
    }

    /** Reads bytes in states and tells the display what they mean. */
    private static final class Parser {
        private static final int PLAIN = 0;
        private static final int BEHIND = 1;
        private static final int NUMBERS = 2;
        private static final int STRING = 3;
        private static final int BROKEN = 65533;
        private static final int MOST_NUMBERS = 8;
        private static final int GREATEST_NUMBER = 9999;
        private static final int MOST_IN_TITLE = 20;

        private final Display display;
        private final int[] numbers = new int[MOST_NUMBERS];
        private final Bytes text = new Bytes(MOST_IN_TITLE + 2);
        private final Bytes title = new Bytes(MOST_IN_TITLE);
        private int state = PLAIN;
        private int numberCount;
        private boolean isAsked;
        private boolean hasBegun;
        private boolean isSpoilt;
        private int bytesWanted;
        private int gathered;
        private int least;

        Parser(Display display) {
            this.display = display;
        }

        void accept(int code) {
            if (bytesWanted > 0 && !goesOn(code)) {
                bytesWanted = 0;
                display.write(BROKEN);
            }
            if (code == 27) {
                endString();
                state = BEHIND;
                return;
            }
            if (code == 24 || code == 26) {
                state = PLAIN;
                return;
            }
            switch (state) {
                case BEHIND:
                    state = PLAIN;
                    if (code == '[') {
                        beginNumbers();
                    } else if (code == ']') {
                        beginString();
                    } else {
                        display.shortCode(code);
                    }
                    break;
                case NUMBERS:
                    if (code < 64 || code > 126) {
                        gatherNumber(code);
                        break;
                    }
                    state = PLAIN;
                    int count = isSpoilt ? 0 : Math.min(numberCount, numbers.length);
                    for (int i = 0; i < count; i++) {
                        display.eachCode(code, numbers[i], isAsked);
                    }
                    if (count > 0 && !isAsked) {
                        display.moveCode(code, numberAt(0), numberAt(1));
                        display.changeCode(code, numberAt(0));
                    }
                    break;
                case STRING:
                    gatherString(code);
                    break;
                default:
                    int character = decode(code);
                    if (character >= 32 && character != 127) {
                        display.write(character);
                    } else {
                        display.control(character);
                    }
                    break;
            }
        }

        static boolean goesOn(int code) {
            return code >= 128 && code <= 191;
        }

        /** The character that the byte ends, or -1 if more bytes are wanted. */
        int decode(int code) {
            if (bytesWanted > 0) {
                gathered = (gathered << 6) | (code & 63);
                bytesWanted--;
                if (bytesWanted > 0) {
                    return -1;
                }
                return gathered < least ? BROKEN : gathered;
            }
            if (code < 128) {
                return code;
            }
            if (code < 194 || code > 239) {
                return BROKEN;
            }
            boolean isLong = code >= 224;
            gathered = isLong ? code & 15 : code & 31;
            bytesWanted = isLong ? 2 : 1;
            least = isLong ? 2048 : 128;
            return -1;
        }

        void beginNumbers() {
            state = NUMBERS;
            for (int i = 0; i < numbers.length; i++) {
                numbers[i] = 0;
            }
            numberCount = 1;
            isAsked = false;
            hasBegun = false;
            isSpoilt = false;
        }

        void gatherNumber(int code) {
            if (code < 32 || code > 126) {
                return;
            }
            if (code >= '0' && code <= '9') {
                addDigit(code - '0');
            } else if (code == ';') {
                numberCount = Math.min(numberCount, MOST_NUMBERS) + 1;
            } else if (code == '?' && !hasBegun) {
                isAsked = true;
            } else {
                isSpoilt = true;
            }
            hasBegun = true;
        }

        void addDigit(int digit) {
            int index = numberCount - 1;
            if (index >= 0 && index < numbers.length) {
                numbers[index] = Math.min(numbers[index] * 10 + digit, GREATEST_NUMBER);
            }
        }

        /** Numbers that were not told are 0. */
        int numberAt(int index) {
            return index >= 0 && index < numbers.length ? numbers[index] : 0;
        }

        void beginString() {
            state = STRING;
            text.clear();
            isSpoilt = false;
        }

        void gatherString(int code) {
            if (code == 7) {
                endString();
                state = PLAIN;
            } else if (code < 32 || code > 126) {
                isSpoilt = true;
            } else {
                text.add(code);
            }
        }

        void endString() {
            boolean isTitle = state == STRING && !isSpoilt && text.count >= 2
                    && (text.get(0) == '0' || text.get(0) == '2') && text.get(1) == ';';
            if (isTitle) {
                title.clear();
                for (int i = 2; i < text.count; i++) {
                    title.add(text.get(i));
                }
            }
        }
    }

    /** Makes the rows of the first screen and its back pages anew for another size. */
    private static final class Flow {
        /** Thirty back rows, ten rows shown, and the rows below the cursor that may go. */
        private static final int MOST_MADE = 50;

        private final Row[] made = new Row[MOST_MADE];
        private int count;
        private int cursorRow;
        private int cursorColumn;

        Flow() {
            for (int i = 0; i < made.length; i++) {
                made[i] = new Row();
            }
        }

        void flow(Display display, int width, int height) {
            int ahead = display.pages.count;
            count = 0;
            if (width == display.width) {
                copyRows(display);
            } else {
                partLines(display, width);
            }
            dropEmptyLines(ahead + height, width);
            giveBack(display, height);
        }

        Row oldRow(Display display, int index) {
            int ahead = display.pages.count;
            return index < ahead ? display.pages.rowAt(index) : display.firstGrid.rowAt(index - ahead);
        }

        /** Older rows than the last fifty could be no back pages any more, so their places are used again. */
        Row nextRow() {
            Row row = madeRow(count);
            row.clear(0, Row.BLANK);
            count++;
            return row;
        }

        Row madeRow(int index) {
            return made[Math.floorMod(index, MOST_MADE)];
        }

        void copyRows(Display display) {
            int all = display.pages.count + display.height;
            for (int i = 0; i < all; i++) {
                nextRow().become(oldRow(display, i));
            }
            cursorRow = display.pages.count + display.place.row;
            cursorColumn = display.place.column;
        }

        void partLines(Display display, int width) {
            int all = display.pages.count + display.height;
            int first = 0;
            while (first < all) {
                int last = first;
                while (last < all - 1 && oldRow(display, last).wrapped) {
                    last++;
                }
                partLine(display, first, lengthOf(display, first, last), cursorIn(display, first, last), width);
                first = last + 1;
            }
        }

        void partLine(Display display, int first, int length, int cursor, int width) {
            int column = 0;
            Row row = nextRow();
            for (int i = 0; i < length; i++) {
                long cell = oldCell(display, first, i);
                int size = i + 1 < length && Row.characterOf(oldCell(display, first, i + 1)) == Row.HALF ? 2 : 1;
                if (column + size > width) {
                    row.wrapped = true;
                    row = nextRow();
                    column = 0;
                }
                row.put(column, cell);
                if (i == cursor) {
                    cursorRow = count - 1;
                    cursorColumn = column;
                }
                column++;
            }
            if (cursor >= length) {
                cursorRow = count - 1;
                cursorColumn = Math.min(column + cursor - length, width - 1);
            }
        }

        long oldCell(Display display, int first, int index) {
            int width = Math.max(display.width, 1);
            return oldRow(display, first + index / width).cell(index % width);
        }

        int lengthOf(Display display, int first, int last) {
            int length = (last - first + 1) * display.width;
            while (length > 0 && Row.isPlain(oldCell(display, first, length - 1))) {
                length--;
            }
            return length;
        }

        /** Where in the line the cursor is, or -1 if it is in another one. */
        int cursorIn(Display display, int first, int last) {
            int row = display.pages.count + display.place.row;
            if (row < first || row > last) {
                return -1;
            }
            return (row - first) * display.width + display.place.column;
        }

        void dropEmptyLines(int most, int width) {
            while (count > most && count - 1 > cursorRow
                    && madeRow(count - 1).isEmpty(width) && !madeRow(count - 2).wrapped) {
                count--;
            }
        }

        void giveBack(Display display, int height) {
            int start = Math.max(0, count - height);
            display.pages.clear();
            for (int i = Math.max(0, start - BACK_ROWS); i < start; i++) {
                display.pages.push(madeRow(i));
            }
            display.firstGrid.clear();
            for (int i = start; i < count; i++) {
                display.firstGrid.rowAt(i - start).become(madeRow(i));
            }
            display.place.row = Math.max(0, cursorRow - start);
            display.place.column = cursorColumn;
        }
    }

    /** Makes the bytes that turn a kept screen into the present one. */
    private static final class Painter {
        /** A cell takes sixteen bytes of style at most, three of a character and two of a mark. */
        private static final int CELL_BYTES = 21;
        private static final int PLACE_BYTES = 8;
        private static final int ROW_BYTES = PLACE_BYTES + Row.MOST * CELL_BYTES;
        private static final int NO_STYLE = -1;

        private final Grid keptGrid = new Grid();
        private final Bytes made = new Bytes(Grid.MOST * ROW_BYTES + PLACE_BYTES);
        private final Bytes tried = new Bytes(ROW_BYTES);
        private final Display probe = new Display(1);
        private final Parser probeParser = new Parser(probe);
        private boolean hasKept;
        private int keptWidth;
        private int keptHeight;
        private int keptRow;
        private int keptColumn;
        private int styleAhead = NO_STYLE;

        void keepScreen(Display display) {
            keptGrid.become(display.grid());
            keptWidth = display.width;
            keptHeight = display.height;
            keptRow = display.place.row;
            keptColumn = display.place.column;
            hasKept = true;
        }

        boolean fits(Display display) {
            return display.width == keptWidth && display.height == keptHeight;
        }

        void paint(Display display) {
            made.clear();
            styleAhead = NO_STYLE;
            for (int i = 0; i < display.height; i++) {
                paintRow(made, display, i);
            }
            paintPlace(made, display.place.row, display.place.column);
        }

        void paintRow(Bytes to, Display display, int row) {
            Row now = display.lineAt(row);
            Row then = keptGrid.rowAt(row);
            int from = 0;
            while (from < display.width && now.cell(from) == then.cell(from)) {
                from++;
            }
            if (from == display.width) {
                return;
            }
            int end = display.width;
            while (end > from && now.cell(end - 1) == then.cell(end - 1)) {
                end--;
            }
            while (from > 0 && (now.isHalf(from) || then.isHalf(from))) {
                from--;
            }
            while (end < display.width && (now.isHalf(end) || then.isHalf(end))) {
                end++;
            }
            paintPlace(to, row, from);
            for (int i = from; i < end; i++) {
                if (!now.isHalf(i)) {
                    paintStyle(to, Row.styleOf(now.cell(i)));
                    paintCharacter(to, now.cell(i));
                }
            }
        }

        static void paintPlace(Bytes to, int row, int column) {
            to.add(27);
            to.add('[');
            to.addNumber(row + 1);
            to.add(';');
            to.addNumber(column + 1);
            to.add('H');
        }

        static void paintCharacter(Bytes to, long cell) {
            to.addCharacter(Row.characterOf(cell));
            if (Row.markOf(cell) != 0) {
                to.addCharacter(Row.markOf(cell));
            }
        }

        void paintStyle(Bytes to, int style) {
            if (style == styleAhead) {
                return;
            }
            styleAhead = style;
            to.add(27);
            to.add('[');
            to.add('0');
            paintPart(to, (style & 1) != 0, 1);
            paintPart(to, (style & 2) != 0, 4);
            paintPart(to, (style & 4) != 0, 7);
            paintPart(to, (style & 0xF0) != 0, 29 + ((style >> 4) & 15));
            paintPart(to, (style & 0xF00) != 0, 39 + ((style >> 8) & 15));
            to.add('m');
        }

        static void paintPart(Bytes to, boolean is, int number) {
            if (is) {
                to.add(';');
                to.addNumber(number);
            }
        }

        /** Plays the output on a screen of its own, row by row, so that the output made last stays. */
        boolean isTrue(Display display) {
            probe.startSize(keptWidth, keptHeight);
            probe.startAnew();
            probe.firstGrid.become(keptGrid);
            probe.moveTo(keptRow, keptColumn);
            probe.wrapping = false;
            styleAhead = NO_STYLE;
            for (int i = 0; i <= display.height; i++) {
                tried.clear();
                if (i < display.height) {
                    paintRow(tried, display, i);
                } else {
                    paintPlace(tried, display.place.row, display.place.column);
                }
                for (int j = 0; j < tried.count; j++) {
                    probeParser.accept(tried.get(j));
                }
            }
            return probe.place.row == display.place.row && probe.place.column == display.place.column
                    && isSame(display);
        }

        boolean isSame(Display display) {
            for (int i = 0; i < display.height; i++) {
                for (int j = 0; j < display.width; j++) {
                    if (display.lineAt(i).cell(j) != probe.lineAt(i).cell(j)) {
                        return false;
                    }
                }
            }
            return true;
        }
    }

    /** Picks parts of the screen, and keeps what was picked last. */
    private static final class Picker {
        /** All cells of the largest screen, and a 10 behind each row but the last. */
        private static final int MOST_CHOSEN = Grid.MOST * (Row.MOST + 1);

        private final Bytes chosen = new Bytes(MOST_CHOSEN);

        int pick(Display display, char kind, int row, int column, int toRow, int toColumn) {
            chosen.clear();
            for (int i = row; i <= toRow; i++) {
                Row line = display.lineAt(i);
                int from = 0;
                int end = display.width;
                if (kind == 'b') {
                    from = Math.min(column, toColumn);
                    end = Math.max(column, toColumn) + 1;
                } else if (kind == 'w') {
                    from = i == row ? wordStart(line, column) : 0;
                    end = i == toRow ? wordEnd(line, toColumn, display.width) : display.width;
                }
                while (kind != 'w' && end > from && line.isBlank(end - 1)) {
                    end--;
                }
                addCells(line, from, end);
                if (i < toRow && (kind == 'b' || !line.wrapped)) {
                    chosen.add(10);
                }
            }
            return chosen.count;
        }

        void addCells(Row line, int from, int end) {
            for (int i = from; i < end; i++) {
                if (!line.isHalf(i)) {
                    chosen.add(Row.characterOf(line.cell(i)));
                }
            }
        }

        static int wordStart(Row line, int column) {
            int start = column;
            while (start > 0 && !line.isBlank(column) && !line.isBlank(start - 1)) {
                start--;
            }
            return start;
        }

        static int wordEnd(Row line, int column, int width) {
            int end = column + 1;
            while (end < width && !line.isBlank(column) && !line.isBlank(end)) {
                end++;
            }
            return end;
        }
    }
}
