import java.util.ArrayDeque;
import java.util.ArrayList;
import java.util.Arrays;
import java.util.List;
import java.util.NoSuchElementException;

/**
 * The document once more, as plainly as it goes, with lists that grow and codes read as whole texts,
 * so that a slip in the program is not likely to be made here in the same way.
 */
final class Model {
    static final class Cell {
        int sign = 32;
        int style;
        int mark;

        Cell(int sign, int style) {
            this.sign = sign;
            this.style = style;
        }

        boolean same(Cell other) {
            return sign == other.sign && style == other.style && mark == other.mark;
        }

        Cell copy() {
            Cell copy = new Cell(sign, style);
            copy.mark = mark;
            return copy;
        }
    }

    static final class Line {
        List<Cell> cells = new ArrayList<>();
        boolean wrapped;

        Line copy() {
            Line copy = new Line();
            cells.forEach(cell -> copy.cells.add(cell.copy()));
            copy.wrapped = wrapped;
            return copy;
        }
    }

    record Place(int row, int column, int pen, boolean waits, boolean origin) {
        static final Place START = new Place(0, 0, 0, false, false);
    }

    int width = 12;
    int height = 4;
    List<Line> first = blankScreen();
    List<Line> second = blankScreen();
    boolean onSecond;
    List<Line> back = new ArrayList<>();
    int row;
    int column;
    int pen;
    boolean waits;
    boolean origin;
    boolean insertion;
    boolean wrapping = true;
    boolean shown = true;
    Place saved = Place.START;
    Place savedAside = Place.START;
    int top;
    int bottom = 3;
    boolean[] tabs = startTabs();
    Cell last;
    String begun = "";
    List<Integer> utf = new ArrayList<>();
    String title = "";
    int rings;
    int signals;
    boolean held;
    boolean echoes = true;
    List<Integer> typed = new ArrayList<>();
    List<Integer> waiting = new ArrayList<>();
    List<Integer> keys = new ArrayList<>();
    ArrayDeque<Integer> sent = new ArrayDeque<>();
    List<Integer> selected = new ArrayList<>();
    List<Integer> made = new ArrayList<>();
    List<Line> keptScreen;
    int keptWidth;

    // ---- bytes and keys

    int feed(int code) {
        check(code >= 0 && code <= 255, new IllegalArgumentException());
        check(!held || waiting.size() < 200, new IllegalStateException());
        hear(code);
        return waiting.size();
    }

    int type(int code) {
        check(code >= 0 && code <= 255, new IllegalArgumentException());
        check(typed.size() < 60, new IllegalStateException());
        typed.add(code);
        return typed.size();
    }

    int wipe() {
        int count = typed.size();
        typed.clear();
        return count;
    }

    int feedAll() {
        check(!held || waiting.size() + typed.size() <= 200, new IllegalStateException());
        typed.forEach(this::hear);
        return waiting.size();
    }

    int key(int code) {
        check(code >= 1 && code <= 127, new IllegalArgumentException());
        if (code == 127) {
            if (!keys.isEmpty()) {
                keys.remove(keys.size() - 1);
                echoed(8, 32, 8);
            }
        } else if (code == 21 || code == 3) {
            keys.clear();
            signals += code == 3 ? 1 : 0;
        } else if (code == 13) {
            keys.forEach(this::send);
            send(10);
            keys.clear();
            echoed(13, 10);
        } else if (code == 19) {
            held = true;
        } else if (code == 17) {
            held = false;
            List<Integer> all = new ArrayList<>(waiting);
            waiting.clear();
            all.forEach(this::accept);
        } else if (keys.size() < 40) {
            keys.add(code);
            echoed(code);
        } else {
            rings++;
        }
        return keys.size();
    }

    void echoed(int... codes) {
        for (int code : codes) {
            if (echoes) {
                hear(code);
            }
        }
    }

    void hear(int code) {
        if (!held) {
            accept(code);
        } else if (waiting.size() < 200) {
            waiting.add(code);
        }
    }

    void send(int code) {
        if (sent.size() < 200) {
            sent.add(code);
        }
    }

    int take() {
        check(!sent.isEmpty(), new NoSuchElementException());
        return sent.poll();
    }

    static void check(boolean is, RuntimeException otherwise) {
        if (!is) {
            throw otherwise;
        }
    }

    // ---- bytes become characters and codes

    void accept(int code) {
        if (!utf.isEmpty() && (code < 128 || code > 191)) {
            utf.clear();
            write(65533);
        }
        if (code == 27) {
            endString();
            begun = "\u001b";
        } else if (code == 24 || code == 26) {
            begun = "";
        } else if (!begun.isEmpty()) {
            begun += (char) code;
            goOn(code);
        } else if (code < 128) {
            if (code < 32) {
                control(code);
            } else if (code != 127) {
                write(code);
            }
        } else {
            acceptHigh(code);
        }
    }

    void acceptHigh(int code) {
        if (utf.isEmpty() && (code < 194 || code > 239)) {
            write(65533);
            return;
        }
        utf.add(code);
        boolean isLong = utf.get(0) >= 224;
        if (utf.size() < (isLong ? 3 : 2)) {
            return;
        }
        int character = isLong ? (utf.get(0) - 224) * 4096 + (utf.get(1) - 128) * 64 + utf.get(2) - 128
                : (utf.get(0) - 192) * 64 + utf.get(1) - 128;
        utf.clear();
        write(isLong && character < 2048 ? 65533 : character);
    }

    void goOn(int code) {
        char kind = begun.charAt(1);
        if (kind == '[') {
            if (begun.length() > 2 && code >= 64 && code <= 126) {
                String body = begun.substring(2, begun.length() - 1);
                begun = "";
                runNumbers(body.replaceAll("[^ -~]", ""), (char) code);
            }
        } else if (kind == ']') {
            if (code == 7) {
                endString();
                begun = "";
            }
        } else {
            begun = "";
            runShort(kind);
        }
    }

    void endString() {
        if (begun.startsWith("\u001b]")) {
            String text = begun.substring(2);
            text = text.endsWith("\u0007") ? text.substring(0, text.length() - 1) : text;
            if (text.matches("[02];[ -~]*")) {
                title = text.substring(2, Math.min(22, text.length()));
            }
        }
    }

    void control(int code) {
        switch (code) {
            case 7 -> rings++;
            case 8 -> go(row, column - 1);
            case 9 -> {
                int next = column + 1;
                while (next < width && !tabs[next]) {
                    next++;
                }
                go(row, next);
            }
            case 10, 11, 12 -> newLine();
            case 13 -> go(row, 0);
            default -> { }
        }
    }

    void done() {
        waits = false;
        last = null;
    }

    void go(int toRow, int toColumn) {
        done();
        row = Math.min(Math.max(toRow, 0), height - 1);
        column = Math.min(Math.max(toColumn, 0), width - 1);
    }

    void home() {
        go(origin ? top : 0, 0);
    }

    void newLine() {
        done();
        if (row == bottom) {
            scroll(top, 1, true);
        } else if (row < height - 1) {
            row++;
        }
    }

    void runShort(char code) {
        switch (code) {
            case '7' -> {
                saved = here();
                done();
            }
            case '8' -> takeBack(saved);
            case 'D' -> newLine();
            case 'E' -> {
                newLine();
                column = 0;
            }
            case 'M' -> {
                done();
                if (row == top) {
                    scrollDown(top, 1);
                } else if (row > 0) {
                    row--;
                }
            }
            case 'H' -> {
                done();
                tabs[column] = true;
            }
            case 'c' -> {
                first = blankScreen();
                second = blankScreen();
                onSecond = false;
                takeBack(Place.START);
                saved = Place.START;
                savedAside = Place.START;
                insertion = false;
                wrapping = true;
                shown = true;
                top = 0;
                bottom = height - 1;
                tabs = startTabs();
            }
            default -> { }
        }
    }

    Place here() {
        return new Place(row, column, pen, waits, origin);
    }

    void takeBack(Place place) {
        go(place.row, place.column);
        pen = place.pen;
        origin = place.origin;
        waits = place.waits && column == width - 1;
    }

    void runNumbers(String body, char code) {
        if (!body.matches("\\??[0-9;]*")) {
            return;
        }
        boolean asked = body.startsWith("?");
        String[] parts = (asked ? body.substring(1) : body).split(";", -1);
        int[] numbers = new int[Math.min(8, parts.length)];
        for (int i = 0; i < numbers.length; i++) {
            String digits = parts[i].replaceFirst("^0+", "");
            numbers[i] = digits.isEmpty() ? 0 : digits.length() > 4 ? 9999 : Integer.parseInt(digits);
        }
        if (asked) {
            if (code == 'h' || code == 'l') {
                Arrays.stream(numbers).forEach(mode -> setMode(mode, code == 'h'));
            }
            return;
        }
        int number = numbers[0];
        int n = number == 0 ? 1 : number;
        int other = numbers.length > 1 ? numbers[1] : 0;
        boolean within = row >= top && row <= bottom;
        switch (code) {
            case 'A' -> go(within ? Math.max(top, row - n) : row - n, column);
            case 'B' -> go(within ? Math.min(bottom, row + n) : row + n, column);
            case 'C' -> go(row, column + n);
            case 'D' -> go(row, column - n);
            case 'G' -> go(row, n - 1);
            case 'd' -> go(origin ? Math.min(bottom, top + n - 1) : n - 1, column);
            case 'H' -> go(origin ? Math.min(bottom, top + n - 1) : n - 1, other == 0 ? 0 : other - 1);
            case 'J' -> eraseFrom(number, 0, height - 1);
            case 'K' -> eraseFrom(number, row, row);
            case 'X' -> {
                done();
                erase(row, column, Math.min(width, column + n));
            }
            case '@' -> {
                done();
                insertCells(n);
            }
            case 'P' -> {
                done();
                takeCells(n);
            }
            case 'L' -> {
                if (within) {
                    done();
                    scrollDown(row, n);
                }
            }
            case 'M' -> {
                if (within) {
                    done();
                    scroll(row, n, false);
                }
            }
            case 'S' -> {
                done();
                scroll(top, n, true);
            }
            case 'T' -> {
                done();
                scrollDown(top, n);
            }
            case 'r' -> {
                int lowest = other == 0 || other > height ? height - 1 : other - 1;
                if (lowest - (n - 1) >= 1) {
                    top = n - 1;
                    bottom = lowest;
                    home();
                }
            }
            case 'g' -> {
                if (number == 0 || number == 3) {
                    done();
                    for (int i = 0; i < 20; i++) {
                        tabs[i] &= number == 0 && i != column;
                    }
                }
            }
            case 'n' -> reply(number);
            case 'm' -> Arrays.stream(numbers).forEach(this::setStyle);
            case 'h', 'l' -> {
                if (Arrays.stream(numbers).anyMatch(mode -> mode == 4)) {
                    done();
                    insertion = code == 'h';
                }
            }
            default -> { }
        }
    }

    void setMode(int mode, boolean is) {
        if (mode == 6) {
            origin = is;
            home();
        } else if (mode == 7) {
            done();
            wrapping = is;
        } else if (mode == 25) {
            done();
            shown = is;
        } else if (mode == 1049 && is != onSecond) {
            onSecond = is;
            if (is) {
                savedAside = here();
                second = blankScreen();
                done();
            } else {
                takeBack(savedAside);
            }
        }
    }

    void setStyle(int number) {
        int flags = pen & 7;
        int colour = pen / 16 % 16;
        int background = pen / 256;
        if (number == 0) {
            flags = 0;
            colour = 0;
            background = 0;
        } else if (number == 1 || number == 22) {
            flags = flags & 6 | (number == 1 ? 1 : 0);
        } else if (number == 4 || number == 24) {
            flags = flags & 5 | (number == 4 ? 2 : 0);
        } else if (number == 7 || number == 27) {
            flags = flags & 3 | (number == 7 ? 4 : 0);
        } else if (number >= 30 && number <= 39 && number != 38) {
            colour = number == 39 ? 0 : number - 29;
        } else if (number >= 40 && number <= 49 && number != 48) {
            background = number == 49 ? 0 : number - 39;
        }
        pen = flags + 16 * colour + 256 * background;
    }

    void reply(int number) {
        if (number == 5 || number == 6) {
            String text = number == 5 ? "\u001b[0n"
                    : "\u001b[" + (row + 1 - (origin ? top : 0)) + ";" + (column + 1) + "R";
            text.chars().forEach(this::send);
        }
    }

    // ---- the screen

    Line blankLine(int style) {
        Line line = new Line();
        for (int i = 0; i < width; i++) {
            line.cells.add(new Cell(32, style));
        }
        return line;
    }

    List<Line> blankScreen() {
        List<Line> lines = new ArrayList<>();
        for (int i = 0; i < height; i++) {
            lines.add(blankLine(0));
        }
        return lines;
    }

    static boolean[] startTabs() {
        boolean[] tabs = new boolean[20];
        tabs[0] = true;
        tabs[8] = true;
        tabs[16] = true;
        return tabs;
    }

    List<Line> screen() {
        return onSecond ? second : first;
    }

    int bare() {
        return pen / 256 * 256;
    }

    static boolean isWide(int c) {
        return c >= 4352 && c <= 4447 || c >= 11904 && c <= 40959 || c >= 44032 && c <= 55203
                || c >= 65280 && c <= 65376;
    }

    /** A first half with no half behind it, or a half with none ahead, is blank. */
    static void mend(Line line) {
        for (int i = 0; i < line.cells.size(); i++) {
            Cell cell = line.cells.get(i);
            boolean lost = isWide(cell.sign) && (i + 1 == line.cells.size() || line.cells.get(i + 1).sign != 0)
                    || cell.sign == 0 && (i == 0 || !isWide(line.cells.get(i - 1).sign));
            if (lost) {
                line.cells.set(i, new Cell(32, cell.style));
            }
        }
    }

    void write(int c) {
        if (c >= 768 && c <= 879) {
            if (last != null) {
                last.mark = c;
            }
            return;
        }
        int size = isWide(c) ? 2 : 1;
        if (wrapping && (waits || column + size > width)) {
            screen().get(row).wrapped = true;
            newLine();
            column = 0;
        } else if (column + size > width) {
            column = width - size;
        } else if (waits) {
            column = width - size;
        }
        if (insertion) {
            insertCells(size);
        }
        Line line = screen().get(row);
        Cell cell = new Cell(c, pen);
        // the halves that are overwritten are told apart by being put in turn
        put(line, column, new Cell(32, pen));
        if (size == 2) {
            put(line, column + 1, new Cell(32, pen));
            line.cells.set(column + 1, new Cell(0, pen));
        }
        line.cells.set(column, cell);
        last = cell;
        waits = column + size >= width;
        column = waits ? width - 1 : column + size;
    }

    static void put(Line line, int column, Cell cell) {
        line.cells.set(column, cell);
        mend(line);
    }

    void eraseFrom(int how, int from, int to) {
        if (how > 2) {
            return;
        }
        done();
        for (int i = from; i <= to; i++) {
            if (how == 2 || how == 0 && i > row || how == 1 && i < row) {
                erase(i, 0, width);
            } else if (i == row) {
                erase(i, how == 0 ? column : 0, how == 0 ? width : column + 1);
            }
        }
    }

    void erase(int at, int from, int to) {
        Line line = screen().get(at);
        for (int i = from; i < to; i++) {
            put(line, i, new Cell(32, bare()));
        }
        if (to == width) {
            line.wrapped = false;
        }
    }

    void insertCells(int n) {
        Line line = screen().get(row);
        List<Cell> right = new ArrayList<>(line.cells.subList(column, width));
        List<Cell> left = new ArrayList<>(line.cells.subList(0, column));
        line.cells = joined(left, right);
        for (int i = 0; i < Math.min(n, width); i++) {
            line.cells.add(column, new Cell(32, bare()));
        }
        line.cells = new ArrayList<>(line.cells.subList(0, width));
        mend(line);
    }

    void takeCells(int n) {
        Line line = screen().get(row);
        int by = Math.min(n, width - column);
        List<Cell> left = new ArrayList<>(line.cells.subList(0, column));
        List<Cell> right = new ArrayList<>(line.cells.subList(column + by, width));
        line.cells = joined(left, right);
        for (int i = 0; i < by; i++) {
            line.cells.add(new Cell(32, bare()));
        }
        line.wrapped = false;
    }

    /** Both parts mended by themselves first, as halves that part do not meet others by it. */
    static List<Cell> joined(List<Cell> left, List<Cell> right) {
        List<Cell> all = new ArrayList<>();
        for (List<Cell> part : List.of(left, right)) {
            Line line = new Line();
            line.cells = part;
            mend(line);
            all.addAll(line.cells);
        }
        return all;
    }

    void scroll(int from, int n, boolean keeps) {
        for (int i = 0; i < Math.min(n, bottom - from + 1); i++) {
            Line line = screen().remove(from);
            screen().add(bottom, blankLine(bare()));
            if (keeps && from == 0 && !onSecond) {
                back.add(line);
                if (back.size() > 30) {
                    back.remove(0);
                }
            }
        }
    }

    void scrollDown(int from, int n) {
        for (int i = 0; i < Math.min(n, bottom - from + 1); i++) {
            screen().remove(bottom);
            screen().add(from, blankLine(bare()));
        }
    }

    // ---- sizes

    int size(int newWidth, int newHeight) {
        check(newWidth >= 2 && newWidth <= 20 && newHeight >= 1 && newHeight <= 10, new IllegalArgumentException());
        int before = width;
        if (newWidth == width && newHeight == height) {
            return before;
        }
        if (onSecond) {
            cut(first, newWidth, newHeight);
            cut(second, newWidth, newHeight);
            cut(back, newWidth, back.size());
        } else {
            flow(newWidth, newHeight);
        }
        width = newWidth;
        height = newHeight;
        if (!onSecond) {
            second = blankScreen();
        }
        go(row, column);
        top = 0;
        bottom = height - 1;
        tabs = startTabs();
        return before;
    }

    static void cut(List<Line> lines, int newWidth, int newHeight) {
        while (lines.size() > newHeight) {
            lines.remove(lines.size() - 1);
        }
        while (lines.size() < newHeight) {
            lines.add(new Line());
        }
        for (Line line : lines) {
            while (line.cells.size() > newWidth) {
                line.cells.remove(line.cells.size() - 1);
            }
            while (line.cells.size() < newWidth) {
                line.cells.add(new Cell(32, 0));
            }
            mend(line);
        }
    }

    static boolean isNothing(Cell cell) {
        return cell.same(new Cell(32, 0));
    }

    void flow(int newWidth, int newHeight) {
        int ahead = back.size();
        List<Line> rows = new ArrayList<>(back);
        rows.addAll(first);
        int cursorRow = ahead + row;
        if (newWidth != width) {
            List<Line> flown = new ArrayList<>();
            int newRow = 0;
            int newColumn = 0;
            for (int i = 0; i < rows.size(); ) {
                List<Cell> line = new ArrayList<>();
                int offset = -1;
                boolean more = true;
                while (more && i < rows.size()) {
                    offset = i == cursorRow ? line.size() + column : offset;
                    line.addAll(rows.get(i).cells);
                    more = rows.get(i).wrapped;
                    i++;
                }
                while (!line.isEmpty() && isNothing(line.get(line.size() - 1))) {
                    line.remove(line.size() - 1);
                }
                flown.add(new Line());
                for (int j = 0; j < line.size(); j++) {
                    Line now = flown.get(flown.size() - 1);
                    if (now.cells.size() + (isWide(line.get(j).sign) ? 2 : 1) > newWidth) {
                        now.wrapped = true;
                        now = new Line();
                        flown.add(now);
                    }
                    if (j == offset) {
                        newRow = flown.size() - 1;
                        newColumn = now.cells.size();
                    }
                    now.cells.add(line.get(j));
                }
                if (offset >= line.size()) {
                    newRow = flown.size() - 1;
                    newColumn = Math.min(newWidth - 1,
                            flown.get(newRow).cells.size() + offset - line.size());
                }
            }
            cut(flown, newWidth, flown.size());
            rows = flown;
            cursorRow = newRow;
            column = newColumn;
        }
        while (rows.size() > ahead + newHeight && rows.size() - 1 > cursorRow
                && rows.get(rows.size() - 1).cells.stream().allMatch(Model::isNothing)
                && !rows.get(rows.size() - 2).wrapped) {
            rows.remove(rows.size() - 1);
        }
        int above = Math.max(0, rows.size() - newHeight);
        back = new ArrayList<>(rows.subList(Math.max(0, above - 30), above));
        first = new ArrayList<>(rows.subList(above, rows.size()));
        cut(first, newWidth, newHeight);
        row = Math.max(0, cursorRow - above);
    }

    // ---- selections and output

    int select(char kind, int fromRow, int fromColumn, int toRow, int toColumn) {
        check(fromRow >= 0 && fromRow < height && fromColumn >= 0 && fromColumn < width && toRow >= 0
                && toRow < height && toColumn >= 0 && toColumn < width, new IndexOutOfBoundsException());
        check("wlb".indexOf(kind) >= 0, new IllegalArgumentException());
        check(toRow * 100 + toColumn >= fromRow * 100 + fromColumn, new UnsupportedOperationException());
        selected.clear();
        for (int i = fromRow; i <= toRow; i++) {
            Line line = screen().get(i);
            int from = 0;
            int to = width - 1;
            if (kind == 'b') {
                from = Math.min(fromColumn, toColumn);
                to = Math.max(fromColumn, toColumn);
            }
            if (kind == 'w' && i == fromRow) {
                from = fromColumn;
                while (line.cells.get(fromColumn).sign != 32 && from > 0 && line.cells.get(from - 1).sign != 32) {
                    from--;
                }
            }
            if (kind == 'w' && i == toRow) {
                to = toColumn;
                while (line.cells.get(toColumn).sign != 32 && to < width - 1 && line.cells.get(to + 1).sign != 32) {
                    to++;
                }
            }
            List<Integer> part = new ArrayList<>();
            for (int j = from; j <= to; j++) {
                part.add(line.cells.get(j).sign);
            }
            while (kind != 'w' && !part.isEmpty() && part.get(part.size() - 1) == 32) {
                part.remove(part.size() - 1);
            }
            part.removeIf(sign -> sign == 0);
            selected.addAll(part);
            if (i < toRow && !(kind != 'b' && line.wrapped)) {
                selected.add(10);
            }
        }
        return selected.size();
    }

    long sum() {
        long sum = 7;
        for (Line line : screen()) {
            for (Cell cell : line.cells) {
                sum = sum * 31 + cell.sign;
                sum = sum * 31 + cell.style;
            }
        }
        return sum;
    }

    long checksum() {
        return ((sum() * 31 + row) * 31 + column) * 31 + back.size();
    }

    long keep() {
        keptScreen = new ArrayList<>();
        screen().forEach(line -> keptScreen.add(line.copy()));
        keptWidth = width;
        return sum();
    }

    int output() {
        check(keptScreen != null, new NoSuchElementException());
        check(keptWidth == width && keptScreen.size() == height, new UnsupportedOperationException());
        StringBuilder text = new StringBuilder();
        int style = -1;
        for (int i = 0; i < height; i++) {
            List<Cell> now = screen().get(i).cells;
            List<Cell> then = keptScreen.get(i).cells;
            int from = 0;
            int to = -1;
            for (int j = width - 1; j >= 0; j--) {
                if (!now.get(j).same(then.get(j))) {
                    from = j;
                    to = Math.max(to, j);
                }
            }
            if (to < 0) {
                continue;
            }
            if (now.get(from).sign == 0 || then.get(from).sign == 0) {
                from--;
            }
            text.append("\u001b[").append(i + 1).append(';').append(from + 1).append('H');
            for (int j = from; j <= to; j++) {
                Cell cell = now.get(j);
                if (cell.sign == 0) {
                    continue;
                }
                if (cell.style != style) {
                    style = cell.style;
                    text.append(styleText(style));
                }
                text.append(Check.bytesOf(cell.sign)).append(cell.mark > 0 ? Check.bytesOf(cell.mark) : "");
            }
        }
        text.append("\u001b[").append(row + 1).append(';').append(column + 1).append('H');
        made.clear();
        text.chars().forEach(made::add);
        return made.size();
    }

    static String styleText(int style) {
        return "\u001b[0" + (style % 2 > 0 ? ";1" : "") + (style / 2 % 2 > 0 ? ";4" : "")
                + (style / 4 % 2 > 0 ? ";7" : "") + (style / 16 % 16 > 0 ? ";" + (29 + style / 16 % 16) : "")
                + (style / 256 > 0 ? ";" + (39 + style / 256) : "") + "m";
    }

    int filledBits() {
        long count = screen().stream().flatMap(line -> line.cells.stream()).filter(cell -> cell.sign != 32).count();
        return Float.floatToIntBits((float) count / (float) (width * height));
    }

    double meanLength() {
        int sum = 0;
        for (Line line : screen()) {
            int length = 0;
            for (int i = 0; i < width; i++) {
                length = line.cells.get(i).sign != 32 ? i + 1 : length;
            }
            sum += length;
        }
        return (double) sum / (double) height;
    }

    // ---- the same text as Check.seen tells of the program

    String seen() {
        StringBuilder text = new StringBuilder();
        appendLines(text, screen(), true);
        text.append('|');
        appendLines(text, back, false);
        text.append('|').append(row).append(',').append(column).append(waits ? " waits" : "");
        for (Line line : screen()) {
            for (Cell cell : line.cells) {
                text.append(' ').append(cell.style).append(':').append(cell.mark == 0 ? "-" : "" + cell.mark);
            }
        }
        for (int i = 0; i < width; i++) {
            text.append(tabs[i] ? 'T' : '-');
        }
        text.append(' ').append(held).append(' ').append(signals).append(' ').append(rings).append(' ')
                .append(sent.size()).append(' ').append(shown).append(' ').append(onSecond).append(' ').append(pen)
                .append(' ').append(top).append(' ').append(bottom).append(' ').append(insertion).append(origin)
                .append(wrapping).append(' ').append(title).append(' ');
        selected.forEach(sign -> text.append((char) (int) sign));
        text.append(' ');
        made.forEach(sign -> text.append((char) (int) sign));
        text.append(' ').append(filledBits()).append(' ').append(meanLength()).append(' ').append(checksum())
                .append(" true");
        return text.toString();
    }

    private static void appendLines(StringBuilder text, List<Line> lines, boolean tellsWrapped) {
        for (int i = 0; i < lines.size(); i++) {
            text.append(i > 0 ? "/" : "");
            for (Cell cell : lines.get(i).cells) {
                text.append(cell.sign == 32 ? '.' : cell.sign == 0 ? '<' : (char) cell.sign);
            }
            text.append(tellsWrapped && lines.get(i).wrapped ? "+" : "");
        }
    }
}
