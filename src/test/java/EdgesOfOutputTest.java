import java.util.NoSuchElementException;

/** Boundary cases that "Output" and promises 16 to 40 name, each told by the document's own words. */
public final class EdgesOfOutputTest {
    private static final String ESC = Check.ESC + "";
    private static final String WIDE = "\u4e00";
    private static final String OTHER = "\u4e01";
    private static final String MARK = "\u0301";
    private static final int LEAST = Integer.MIN_VALUE;
    private static final int MOST = Integer.MAX_VALUE;

    private EdgesOfOutputTest() {
    }

    public static void main(String[] arguments) {
        noSuchCell();
        noSuchMode();
        selectRefused();
        words();
        lines();
        boxes();
        tenBehindRows();
        halvesSelected();
        blanksSelected();
        blanksWithMarks();
        selectedLast();
        sums();
        outputRefused();
        outputAgain();
        nothingDiffers();
        runs();
        stylesOfTheOutput();
        wideRuns();
        marksOfTheOutput();
        cornersOfTheOutput();
        asIfWithoutModes();
        shares();
        lengths();
        checksums();
        sound();
        Check.end();
    }

    private static void noSuchCell() {
        TerminalWeir t = Check.sized(4, 3, "abcd\r\nefgh\r\nijkl\r\n");
        int[][] places = {{-1, 0}, {3, 0}, {0, -1}, {0, 4}, {-1, -1}, {3, 4}, {LEAST, 0}, {MOST, 0}, {0, LEAST},
                {0, MOST}};
        for (int[] place : places) {
            String what = "'if there is no such row or column' " + place[0] + " " + place[1];
            Check.refused("at: " + what, t, IndexOutOfBoundsException.class, () -> t.at(place[0], place[1]));
            Check.refused("style: " + what, t, IndexOutOfBoundsException.class, () -> t.style(place[0], place[1]));
            Check.refused("mark: " + what, t, IndexOutOfBoundsException.class, () -> t.mark(place[0], place[1]));
            Check.refused("backAt: " + what, t, IndexOutOfBoundsException.class, () -> t.backAt(place[0], place[1]));
        }
        for (int index : new int[] {-1, 4, LEAST, MOST}) {
            Check.refused("hasTab: 'if there is no such column' " + index, t, IndexOutOfBoundsException.class,
                    () -> t.hasTab(index));
        }
        for (int index : new int[] {-1, 3, LEAST, MOST}) {
            Check.refused("isWrapped: 'if there is no such row' " + index, t, IndexOutOfBoundsException.class,
                    () -> t.isWrapped(index));
        }
        Check.refused("backAt: one row alone", t, IndexOutOfBoundsException.class, () -> t.backAt(1, 0));
        Check.due("backAt: it", t.back() + " " + t.backAt(0, 0) + " " + t.backAt(0, 3), "1 97 100");
        Check.refused("mark: 'if there is none'", t, NoSuchElementException.class, () -> t.mark(2, 3));
    }

    private static void noSuchMode() {
        TerminalWeir t = new TerminalWeir();
        for (int mode : new int[] {0, -4, -6, 1, 3, 5, 8, 25, 1049, LEAST, MOST}) {
            Check.refused("isSet: 'if there is no such mode' " + mode, t, IllegalArgumentException.class,
                    () -> t.isSet(mode));
        }
    }

    private static void selectRefused() {
        TerminalWeir t = Check.sized(4, 3, "abcd");
        t.select('l', 0, 0, 0, 0);
        int[][] outside = {{-1, 0, 0, 0}, {3, 0, 3, 0}, {0, -1, 0, 0}, {0, 4, 1, 0}, {0, 0, -1, 0}, {0, 0, 3, 0},
                {0, 0, 0, -1},
            {0, 0, 0, 4}, {LEAST, 0, 0, 0}, {0, 0, MOST, 0}, {0, 0, 0, MOST}, {0, LEAST, 0, 0}};
        for (int[] p : outside) {
            for (char kind : new char[] {'w', 'l', 'b', 'x'}) {
                Check.refused("select: 'no such row or column, for either' " + kind, t, IndexOutOfBoundsException.class,
                        () -> t.select(kind, p[0], p[1], p[2], p[3]));
            }
        }
        for (char kind : new char[] {0, 'a', 'W', 'L', 'B', 'v', 'x', 'k', 'm', 'c', 65535}) {
            Check.refused("select: 'no such kind' " + (int) kind, t, IllegalArgumentException.class,
                    () -> t.select(kind, 0, 0, 1, 1));
            Check.refused("select: 'no such kind', and ahead", t, IllegalArgumentException.class,
                    () -> t.select(kind, 1, 1, 0, 0));
        }
        for (char kind : new char[] {'w', 'l', 'b'}) {
            Check.refused("select: 'if the other one is ahead', a column", t, UnsupportedOperationException.class,
                    () -> t.select(kind, 1, 1, 1, 0));
            Check.refused("select: 'if the other one is ahead', a row", t, UnsupportedOperationException.class,
                    () -> t.select(kind, 1, 0, 0, 3));
        }
    }

    private static String pick(TerminalWeir t, char kind, int row, int column, int toRow, int toColumn) {
        int count = t.select(kind, row, column, toRow, toColumn);
        String chosen = Check.chosen(t);
        return chosen.replace('\n', '/').replace(WIDE, "W") + (chosen.length() == count ? "" : " but told as " + count);
    }

    private static void words() {
        TerminalWeir t = Check.sized(6, 3, "ab cd\r\n efg\r\n    hi");
        String what = "'from the beginning of the word of the first one to the end of that of the other one' ";
        Check.due(what + "at the first column", pick(t, 'w', 0, 0, 0, 0) + "|" + pick(t, 'w', 0, 1, 0, 1), "ab|ab");
        Check.due(what + "at the last column", pick(t, 'w', 2, 5, 2, 5) + "|" + pick(t, 'w', 2, 4, 2, 4), "hi|hi");
        Check.due(what + "'a blank one being itself'", pick(t, 'w', 0, 2, 0, 2) + "|" + pick(t, 'w', 0, 5, 0, 5),
                " | ");
        Check.due(what + "from a blank to a blank", pick(t, 'w', 0, 2, 0, 5), " cd ");
        Check.due(what + "from a blank to a word", pick(t, 'w', 0, 2, 0, 3), " cd");
        Check.due(what + "to another row", pick(t, 'w', 0, 4, 1, 1), "cd / efg");
        Check.due(what + "to a blank in another row", pick(t, 'w', 0, 4, 1, 0), "cd / ");
        Check.due(what + "rows between are whole", pick(t, 'w', 0, 5, 2, 0), " / efg  / ");
        Check.due(what + "all", pick(t, 'w', 0, 0, 2, 5), "ab cd / efg  /    hi");
        TerminalWeir wrapped = Check.sized(4, 2, "abcdefgh");
        Check.due("'in their rows', a wrapped word too",
                pick(wrapped, 'w', 0, 3, 0, 3) + "|" + pick(wrapped, 'w', 1, 0, 1, 0), "abcd|efgh");
        Check.due("'in their rows', both", pick(wrapped, 'w', 0, 3, 1, 0), "abcdefgh");
        Check.due("a blank with a style is blank", pick(Check.sized(4, 1, "a" + ESC + "[7m b"), 'w', 0, 0, 0, 0), "a");
    }

    private static void lines() {
        TerminalWeir t = Check.sized(4, 4, " ab\r\n\r\ncdef\r\n ");
        Check.due("'by 'l' whole rows'", pick(t, 'l', 0, 3, 2, 0), " ab//cdef");
        Check.due("'by 'l' whole rows', one", pick(t, 'l', 0, 1, 0, 1), " ab");
        Check.due("'blanks at the end of rows left out', all",
                pick(t, 'l', 1, 0, 1, 3) + "|" + pick(t, 'l', 3, 0, 3, 0), "|");
        Check.due("'blanks at the end of rows left out', but the 10s", pick(t, 'l', 0, 0, 3, 3), " ab//cdef/");
        Check.due("a new object", pick(new TerminalWeir(), 'l', 0, 0, 3, 11), "///");
    }

    private static void boxes() {
        TerminalWeir t = Check.sized(4, 3, "abcd\r\ne  h\r\n  kl");
        String what = "'the box of both columns, whichever is the lesser' ";
        Check.due(what, pick(t, 'b', 0, 1, 2, 2), "bc// k");
        Check.due(what + "turned round", pick(t, 'b', 0, 2, 2, 1), "bc// k");
        Check.due(what + "one column", pick(t, 'b', 0, 0, 2, 0), "a/e/");
        Check.due(what + "the last column", pick(t, 'b', 0, 3, 2, 3), "d/h/l");
        Check.due(what + "one row", pick(t, 'b', 1, 0, 1, 3), "e  h");
        Check.due(what + "one cell", pick(t, 'b', 1, 3, 1, 3) + "|" + pick(t, 'b', 1, 2, 1, 2), "h|");
        Check.due(what + "all", pick(t, 'b', 0, 3, 2, 0), "abcd/e  h/  kl");
        TerminalWeir largest = Check.sized(20, 10, "");
        for (int i = 1; i <= 10; i++) {
            Check.code(largest, i + ";20Hx");
        }
        Check.due(what + "the largest", largest.select('b', 0, 0, 9, 19), 209);
        Check.due(what + "the largest by 'w'", largest.select('w', 0, 0, 9, 19), 209);
    }

    private static void tenBehindRows() {
        TerminalWeir t = Check.sized(4, 3, "abcdefghij");
        Check.due("'10 behind each row .. unless it is told as wrapped, by 'w''", pick(t, 'w', 0, 0, 2, 1),
                "abcdefghij");
        Check.due("'10 behind each row .. unless it is told as wrapped, by .. 'l''", pick(t, 'l', 0, 0, 2, 1),
                "abcdefghij");
        Check.due("'10 behind each row', by 'b' told as wrapped or not", pick(t, 'b', 0, 0, 2, 3), "abcd/efgh/ij");
        Check.due("'each row that is not the last one', told as wrapped",
                pick(t, 'l', 0, 0, 1, 1) + "|" + pick(t, 'w', 0, 0, 0, 3), "abcdefgh|abcd");
        t = Check.sized(4, 2, "ab  c");
        Check.due("blanks at the end of a row told as wrapped, by 'l' and 'w'", pick(t, 'l', 0, 0, 1, 0) + "|"
                + pick(t, 'w', 0, 0, 1, 0),
                "abc|ab  c");
    }

    private static void halvesSelected() {
        TerminalWeir t = Check.written(6, 2, "a" + WIDE + "b" + WIDE + WIDE);
        Check.due("'halves not counted'", pick(t, 'l', 0, 0, 0, 0), "aWbW");
        Check.due("a wide one that wrapped", pick(t, 'l', 0, 0, 1, 0), "aWbWW");
        Check.due("'halves not counted', from a half", pick(t, 'w', 0, 2, 0, 2), "aWbW");
        Check.due("'halves not counted', a box from a half", pick(t, 'b', 0, 2, 0, 3), "b");
        Check.due("'halves not counted', a box to a first half", pick(t, 'b', 0, 0, 0, 4), "aWbW");
        Check.due("'halves not counted', a box of halves", pick(t, 'b', 0, 5, 0, 5), "");
        Check.due("marks are no characters", pick(Check.written(4, 1, "a" + MARK + "b"), 'l', 0, 0, 0, 0), "ab");
    }

    private static void blanksSelected() {
        TerminalWeir t = Check.written(4, 1, "a" + ESC + "[41m " + ESC + "[m");
        Check.due("a blank at the end with a style is left out",
                pick(t, 'l', 0, 0, 0, 0) + "|" + pick(t, 'b', 0, 0, 0, 3), "a|a");
        Check.due("blanks at the end by 'w' stay", pick(t, 'w', 0, 0, 0, 3), "a   ");
    }

    /** A mark is no character, so it does not make a cell of the character 32 another one than blank. */
    private static void blanksWithMarks() {
        String what = "'a character, 32 if it is blank', with a mark too: ";
        TerminalWeir t = Check.written(6, 2, "a b" + MARK + " " + MARK);
        Check.due(what + "the mark is there", Check.marks(t), "0,2:769 0,3:769");
        Check.due(what + "left out at the end of rows", pick(t, 'l', 0, 0, 0, 0) + "|" + pick(t, 'b', 0, 0, 0, 3),
                "a b|a b");
        Check.due(what + "it ends a word", pick(t, 'w', 0, 2, 0, 2) + "|" + pick(t, 'w', 0, 3, 0, 3), "b| ");
        Check.due(what + "meanLength", t.meanLength(), 1.5);
        Check.due(what + "filledBits", t.filledBits(), Float.floatToIntBits(2f / 12f));
        TerminalWeir parts = Check.written(6, 1, "ab" + ESC + "[1;2H " + MARK + "c");
        Check.due(what + "it parts words", pick(parts, 'w', 0, 0, 0, 0) + "|" + pick(parts, 'w', 0, 2, 0, 2), "a|c");
        Check.due(what + "within a row it stays", pick(parts, 'l', 0, 0, 0, 0), "a c");
        TerminalWeir alone = Check.written(2, 1, " " + MARK);
        Check.due(what + "it alone", alone.filledBits() + " " + alone.meanLength() + pick(alone, 'l', 0, 0, 0, 0),
                "0 0.0");
    }

    private static void selectedLast() {
        TerminalWeir t = Check.sized(4, 2, "ab\r\ncd");
        for (int index : new int[] {0, -1, LEAST, MOST}) {
            Check.refused("selected: none yet " + index, t, NoSuchElementException.class, () -> t.selected(index));
        }
        t.select('l', 0, 0, 1, 0);
        Check.due("selected: 'from 0'", t.selected(0) + " " + t.selected(2) + " " + t.selected(4), "97 10 100");
        for (int index : new int[] {5, -1, LEAST, MOST}) {
            Check.refused("selected: 'if there is none' " + index, t, NoSuchElementException.class,
                    () -> t.selected(index));
        }
        Check.feed(t, ESC + "c" + ESC + "[?1049h");
        t.size(20, 1);
        Check.due("'whatever was told since'", Check.chosen(t), "ab\ncd");
        Check.refused("a refused one leaves it", t, UnsupportedOperationException.class,
                () -> t.select('l', 0, 1, 0, 0));
        t.select('b', 0, 0, 0, 0);
        Check.refused("'what was selected last', nothing", t, NoSuchElementException.class, () -> t.selected(0));
    }

    private static void sums() {
        Check.due("keep: the least", Check.sized(2, 1, "").keep(), 31L * (31L * (31L * (31L * 7 + 32)) + 32));
        TerminalWeir t = Check.written(2, 1, ESC + "[1;41m" + WIDE + MARK);
        Check.due("keep: a wide one, its half, their style, no mark", t.keep(),
                31L * (31L * (31L * (31L * 7 + 0x4e00) + 513)) + 513);
        t = Check.sized(20, 10, ESC + "[47m" + ESC + "[2J");
        long sum = 7;
        for (int i = 0; i < 200; i++) {
            sum = 31 * (31 * sum + 32) + 2048;
        }
        Check.due("keep: the largest, with a wrap-around", t.keep(), sum);
        Check.due("keep: twice", t.keep(), sum);
        TerminalWeir second = Check.sized(2, 1, "ab" + ESC + "[?1049h");
        Check.due("keep: 'the screen that is shown'", second.keep(), Check.sized(2, 1, "").keep());
    }

    private static void outputRefused() {
        TerminalWeir t = Check.sized(4, 2, "ab");
        Check.refused("output: 'if none is kept'", t, NoSuchElementException.class, t::output);
        for (int index : new int[] {0, -1, LEAST, MOST}) {
            Check.refused("outputAt: none yet " + index, t, NoSuchElementException.class, () -> t.outputAt(index));
        }
        t.keep();
        t.size(5, 2);
        Check.refused("output: 'another size', wider", t, UnsupportedOperationException.class, t::output);
        t.size(3, 2);
        Check.refused("output: 'another size', narrower", t, UnsupportedOperationException.class, t::output);
        t.size(4, 3);
        Check.refused("output: 'another size', higher", t, UnsupportedOperationException.class, t::output);
        t.size(4, 1);
        Check.refused("output: 'another size', lower", t, UnsupportedOperationException.class, t::output);
        t.size(2, 4);
        Check.refused("output: 'another size', turned round", t, UnsupportedOperationException.class, t::output);
        t.size(4, 2);
        Check.due("output: the size again", t.output(), 6);
        for (int index : new int[] {6, -1, LEAST, MOST}) {
            Check.refused("outputAt: 'if there is none' " + index, t, NoSuchElementException.class,
                    () -> t.outputAt(index));
        }
        Check.due("outputAt: the first and the last", t.outputAt(0) + " " + t.outputAt(5), "27 72");
        t.size(4, 3);
        t.keep();
        Check.due("output: kept anew in another size", t.output(), 6);
    }

    private static String made(TerminalWeir t) {
        int count = t.output();
        String output = Check.output(t);
        return output.replace(ESC, "^") + (output.length() == count ? "" : " but told as " + count);
    }

    private static void outputAgain() {
        TerminalWeir t = Check.sized(4, 2, "");
        t.keep();
        Check.feed(t, "a");
        Check.due("output: made", made(t), "^[1;1H^[0ma^[1;2H");
        Check.due("output: made again", made(t), "^[1;1H^[0ma^[1;2H");
        Check.feed(t, "b");
        t.isSound();
        t.checksum();
        Check.due("outputAt: 'the output made last', not the present one", Check.output(t).replace(ESC, "^"),
                "^[1;1H^[0ma^[1;2H");
        Check.due("output: from the kept one still", made(t), "^[1;1H^[0mab^[1;3H");
        t.size(5, 2);
        Check.refused("output: refused, it leaves the one made last", t, UnsupportedOperationException.class,
                t::output);
        t.keep();
        Check.due("keep leaves it", Check.output(t).replace(ESC, "^"), "^[1;1H^[0mab^[1;3H");
        Check.due("output: nothing differs from the one kept now", made(t), "^[1;3H");
    }

    /** The output from the first to the second, which must turn a terminal that was told the first into that. */
    private static String turned(int width, int height, String then, String since) {
        TerminalWeir t = Check.written(width, height, then);
        t.keep();
        Check.write(t, since);
        String made = made(t);
        TerminalWeir replay = Check.written(width, height, then + ESC + "[?7l" + ESC + "[4l" + ESC + "[?6l");
        for (int i = 0; i < t.output(); i++) {
            replay.feed(t.outputAt(i));
        }
        boolean same = looks(replay).equals(looks(t));
        return made.replace(Check.bytesOf(WIDE.charAt(0)), "W").replace(Check.bytesOf(OTHER.charAt(0)), "V")
                .replace(Check.bytesOf(MARK.charAt(0)), "'") + (same && t.isSound() ? "" : " not the same");
    }

    private static String looks(TerminalWeir t) {
        StringBuilder text = new StringBuilder(Check.marks(t)).append(t.row()).append(',').append(t.column());
        for (int i = 0; i < t.height(); i++) {
            text.append(Check.line(t, i)).append(Check.styles(t, i));
        }
        return text.toString();
    }

    private static void nothingDiffers() {
        Check.due("'at last the place of the cursor', alone", turned(4, 2, "ab", ""), "^[1;3H");
        Check.due("'at last the place of the cursor', as a wrap waits", turned(4, 2, "abcd", ""), "^[1;4H");
        Check.due("'at last the place of the cursor', moved", turned(4, 2, "ab", ESC + "[2;4H"), "^[2;4H");
        Check.due("wrapped rows do not differ", turned(4, 2, "abcd\r\ne", ESC + "[H" + "abcde"), "^[2;2H");
        Check.due("the same written again", turned(4, 2, "abcd", "\rabcd"), "^[1;4H");
        Check.due("the pen does not differ", turned(4, 2, "ab", ESC + "[1m"), "^[1;3H");
        Check.due("the largest", turned(20, 10, "", ESC + "[99;99H"), "^[10;20H");
    }

    private static void runs() {
        String what = "'from the first to the last one of the row' ";
        Check.due(what + "the first cell", turned(4, 2, "abcd", "\rx"), "^[1;1H^[0mx^[1;2H");
        Check.due(what + "the last cell", turned(4, 2, "abcd", "\b" + ESC + "[Cx"), "^[1;4H^[0mx^[1;4H");
        Check.due(what + "both", turned(4, 2, "abcd", "\rx" + ESC + "[1;4Hy"), "^[1;1H^[0mxbcy^[1;4H");
        Check.due(what + "all", turned(4, 2, "abcd", "\rwxyz"), "^[1;1H^[0mwxyz^[1;4H");
        Check.due("'row by row'", turned(4, 3, "a\r\nb\r\nc", ESC + "[1;2Hx" + ESC + "[3;1Hz" + ESC + "[2d"),
                "^[1;2H^[0mx^[3;1Hz^[2;2H");
        Check.due("'its character, or 32', blanks between", turned(4, 1, "", "a" + ESC + "[1;4Hb"),
                "^[1;1H^[0ma  b^[1;4H");
        Check.due("'its character, or 32', erased ones", turned(4, 1, "abcd", ESC + "[2K"), "^[1;1H^[0m    ^[1;4H");
        Check.due("'in bytes' of one, two and three", turned(4, 1, "", "~\u0080\u07ff"),
                "^[1;1H^[0m~\u00c2\u0080\u00df\u00bf^[1;4H");
        Check.due("'in bytes' of three", turned(4, 1, "", "\u0800\uffff\ud800"),
                "^[1;1H^[0m\u00e0\u00a0\u0080\u00ef\u00bf\u00bf\u00ed\u00a0\u0080^[1;4H");
    }

    private static void stylesOfTheOutput() {
        String what = "'a style .. if it is another one than that of the cell ahead in this output, or the first one' ";
        Check.due(what + "the first one, 0", turned(4, 1, "", "a"), "^[1;1H^[0ma^[1;2H");
        Check.due(what + "the same", turned(4, 1, "", ESC + "[1mab"), "^[1;1H^[0;1mab^[1;3H");
        Check.due(what + "another", turned(4, 1, "", ESC + "[1ma" + ESC + "[mb"), "^[1;1H^[0;1ma^[0mb^[1;3H");
        Check.due(what + "of a row ahead", turned(4, 2, "", ESC + "[1ma\r\nb"), "^[1;1H^[0;1ma^[2;1Hb^[2;2H");
        Check.due(what + "each output anew", turned(4, 1, ESC + "[1ma", "b"), "^[1;2H^[0;1mb^[1;3H");
        Check.due(what + "of a wide one", turned(6, 1, "", ESC + "[4m" + WIDE + "b"), "^[1;1H^[0;4mWb^[1;4H");
        Check.due("'for each part'", turned(4, 1, "", ESC + "[1;4;7;30;40ma"), "^[1;1H^[0;1;4;7;30;40ma^[1;2H");
        Check.due("'for each part', the greatest", turned(4, 1, "", ESC + "[37ma" + ESC + "[m" + ESC + "[47mb"),
                "^[1;1H^[0;37ma^[0;47mb^[1;3H");
        Check.due("a style alone differs", turned(4, 1, "abc", ESC + "[1;2H" + ESC + "[7mb"), "^[1;2H^[0;7mb^[1;3H");
        Check.due("a blank's style alone differs", turned(4, 1, "", ESC + "[42m" + ESC + "[2K"),
                "^[1;1H^[0;42m    ^[1;1H");
    }

    private static void wideRuns() {
        String what = "'widened so as not to cut wide characters of either' ";
        Check.due(what + "another one in its place", turned(6, 1, "a" + WIDE + "b", ESC + "[1;2H" + OTHER),
                "^[1;2H^[0mV^[1;4H");
        Check.due(what + "of the present one", turned(6, 1, "abcd", ESC + "[1;2H" + WIDE), "^[1;2H^[0mW^[1;4H");
        Check.due(what + "of the kept one", turned(6, 1, "a" + WIDE + "d", ESC + "[1;2Hb"), "^[1;2H^[0mb ^[1;3H");
        Check.due(what + "of the kept one, its half", turned(6, 1, "a" + WIDE + "d", ESC + "[1;3Hc"),
                "^[1;2H^[0m c^[1;4H");
        Check.due(what + "of both, moved by one", turned(6, 1, WIDE + "c", ESC + "[1;1Ha" + OTHER),
                "^[1;1H^[0maV^[1;4H");
        Check.due(what + "its mark alone differs", turned(6, 1, "a" + WIDE + "b", ESC + "[1;2H" + WIDE + MARK),
                "^[1;2H^[0mW'^[1;4H");
        Check.due(what + "at the first column", turned(4, 1, WIDE + "c", ESC + "[1;1H" + OTHER), "^[1;1H^[0mV^[1;3H");
        Check.due(what + "at the last column", turned(4, 1, "ab" + WIDE, ESC + "[1;3H" + OTHER), "^[1;3H^[0mV^[1;4H");
        Check.due(what + "at the last column, by a letter", turned(4, 1, "ab" + WIDE, ESC + "[1;4Hx"),
                "^[1;3H^[0m x^[1;4H");
        Check.due(what + "two wide", turned(2, 1, WIDE, ESC + "[1;1H" + OTHER), "^[1;1H^[0mV^[1;2H");
    }

    private static void marksOfTheOutput() {
        Check.due("'and its mark'", turned(4, 1, "", "a" + MARK), "^[1;1H^[0ma'^[1;2H");
        Check.due("'and its mark', it alone differs", turned(4, 1, "a", "\ra" + MARK), "^[1;1H^[0ma'^[1;2H");
        Check.due("'and its mark', it went", turned(4, 1, "a" + MARK, "\ra"), "^[1;1H^[0ma^[1;2H");
        Check.due("'and its mark', another one", turned(4, 1, "a" + MARK, "\ra\u036f"),
                "^[1;1H^[0ma\u00cd\u00af^[1;2H");
        Check.due("'and its mark', of a blank", turned(4, 1, "", " " + MARK), "^[1;1H^[0m '^[1;2H");
        Check.due("'and its mark', in the last column", turned(4, 1, "", "abcd" + MARK), "^[1;1H^[0mabcd'^[1;4H");
        Check.due("'and its mark', of a wide one there", turned(4, 1, "", "ab" + WIDE + MARK), "^[1;1H^[0mabW'^[1;4H");
    }

    private static void cornersOfTheOutput() {
        Check.due("the first and the last cell of all", turned(20, 10, "", "a" + ESC + "[10;20Hb"),
                "^[1;1H^[0ma^[10;20Hb^[10;20H");
        Check.due("numbers of one and two digits", turned(20, 10, "", ESC + "[9;9Ha" + ESC + "[10;10Hb"),
                "^[9;9H^[0ma^[10;10Hb^[10;11H");
        Check.due("the least", turned(2, 1, "", "ab"), "^[1;1H^[0mab^[1;2H");
        Check.due("the second screen", turned(4, 1, "abcd", ESC + "[?1049h"), "^[1;1H^[0m    ^[1;4H");
        Check.due("the first one again", turned(4, 1, "abcd" + ESC + "[?1049h", ESC + "[?1049l"),
                "^[1;1H^[0mabcd^[1;4H");
        Check.due("scrolled", turned(2, 2, "ab\r\ncd", "\n"), "^[1;1H^[0mcd^[2;1H  ^[2;2H");
    }

    private static void asIfWithoutModes() {
        String what = "'as if wrapping were off, insertion and origin off' ";
        Check.due(what + "wrapping on", turned(4, 2, "", "abcdefgh"), "^[1;1H^[0mabcd^[2;1Hefgh^[2;4H");
        Check.due(what + "insertion on", turned(4, 1, "abcd", ESC + "[4h\rx"), "^[1;1H^[0mxabc^[1;2H");
        Check.due(what + "origin on", turned(4, 4, "", ESC + "[2;3r" + ESC + "[?6hx" + ESC + "[2;1H"),
                "^[2;1H^[0mx^[3;1H");
    }

    private static void shares() {
        Check.due("filledBits: none", Check.sized(2, 1, "").filledBits(), 0);
        Check.due("filledBits: all", Check.sized(2, 1, "ab").filledBits(), 0x3f800000);
        Check.due("filledBits: a half", Check.sized(2, 1, "a").filledBits(), 0x3f000000);
        Check.due("filledBits: 'other halves too'", Check.written(4, 1, WIDE).filledBits(), 0x3f000000);
        Check.due("filledBits: blanks that were written, with a style",
                Check.sized(2, 1, ESC + "[1;41m  ").filledBits(), 0);
        Check.due("filledBits: one of the largest", Check.sized(20, 10, "a").filledBits(),
                Float.floatToIntBits(1f / 200f));
        Check.due("filledBits: of the screen that is shown", Check.sized(2, 1, "ab" + ESC + "[?1049h").filledBits(), 0);
        for (int height = 1; height <= 10; height++) {
            for (int width = 2; width <= 20; width += 3) {
                TerminalWeir t = Check.sized(width, height, "ab" + ESC + "[" + height + ";2Hc");
                int count = height == 1 ? 2 : 3;
                Check.due("filledBits: of " + width + " and " + height, t.filledBits(),
                        Float.floatToIntBits((float) count / (float) (width * height)));
            }
        }
    }

    private static void lengths() {
        Check.due("meanLength: none", Check.sized(2, 1, "").meanLength(), 0.0);
        Check.due("meanLength: the greatest", Check.sized(20, 1, "a".repeat(20)).meanLength(), 20.0);
        Check.due("meanLength: the last cell alone", Check.sized(20, 3, ESC + "[2;20Ha").meanLength(), 20.0 / 3.0);
        Check.due("meanLength: the first cell alone", Check.sized(20, 7, "a").meanLength(), 1.0 / 7.0);
        Check.due("meanLength: an other half at the end", Check.written(4, 3, "a" + WIDE).meanLength(), 1.0);
        Check.due("meanLength: blanks that were written, with a style",
                Check.sized(4, 2, "a" + ESC + "[41m  ").meanLength(), 0.5);
        Check.due("meanLength: 'of rows shown'", Check.sized(4, 1, "ab\r\nc").meanLength(), 1.0);
    }

    private static void checksums() {
        TerminalWeir t = Check.sized(4, 2, "ab\r\ncd\r\nefg");
        long kept = t.keep();
        Check.due("checksum: row, column and rows of back pages", t.checksum(), 31 * (31 * (31 * kept + 1) + 3) + 1);
        TerminalWeir waits = Check.sized(4, 2, "abcd");
        long sum = waits.checksum();
        Check.feed(waits, ESC + "[4G");
        Check.due("checksum: not the waiting", waits.checksum(), sum);
        TerminalWeir none = Check.sized(4, 2, "");
        none.checksum();
        Check.refused("checksum: it keeps nothing", none, NoSuchElementException.class, none::output);
    }

    private static void sound() {
        String[] texts = {"", "abcd", WIDE, "a" + WIDE, "abc" + WIDE, WIDE + WIDE + WIDE + MARK, ESC + "[?7labc" + WIDE
                + "d",
            ESC + "[4habcd\r" + WIDE, ESC + "[1;2r" + ESC + "[4;1Habc" + WIDE, "a" + WIDE + ESC + "[1;2Hx", "a" + WIDE
                    + ESC + "[1;3Hx",
            ESC + "[?6h" + ESC + "7" + ESC + "[2;3r" + ESC + "8", ESC + "[?1049h" + WIDE + WIDE, ESC + "[41m" + ESC
                    + "[2J" + MARK};
        for (String then : texts) {
            for (String since : texts) {
                TerminalWeir t = Check.written(4, 4, then);
                boolean ahead = t.isSound();
                t.keep();
                Check.write(t, since);
                boolean behind = t.isSound();
                t.size(3, 4);
                boolean narrower = t.isSound();
                t.size(2, 1);
                Check.due("isSound: " + then + " and " + since, "" + ahead + behind + narrower + t.isSound(),
                        "truetruetruetrue");
            }
        }
    }
}
