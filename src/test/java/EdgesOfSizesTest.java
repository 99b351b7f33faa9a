/** Boundary cases that "Sizes" and promise 13 name, each told by the document's own words. */
public final class EdgesOfSizesTest {
    private static final String ESC = Check.ESC + "";
    private static final String WIDE = "\u4e00";
    private static final String MARK = "\u0301";
    private static final String SECOND = ESC + "[?1049h";
    private static final String FIRST = ESC + "[?1049l";

    private EdgesOfSizesTest() {
    }

    public static void main(String[] arguments) {
        leastAndMost();
        outOfRange();
        anotherOne();
        notAnotherOne();
        secondCut();
        secondAdded();
        nothingBehindTheWidth();
        firstWhileSecond();
        backPagesWhileSecond();
        joined();
        blanksAtTheEnd();
        partedAnew();
        widePartedAnew();
        cursorAtItsCell();
        cursorBehindTheEnd();
        lowestToldAsWrapped();
        emptyLinesGo();
        emptyLinesStay();
        noEmptyLines();
        thirtyBackPages();
        cursorAbove();
        missingRows();
        sameWidth();
        Check.end();
    }

    private static String told(TerminalWeir t) {
        String told = Check.screen(t).replace(WIDE, "W") + " " + Check.cursor(t);
        return told + (t.back() > 0 ? " " + Check.backPages(t).replace(WIDE, "W") : "")
                + (t.isSound() ? "" : " not sound");
    }

    private static String flown(int width, int height, String text, int... sizes) {
        TerminalWeir t = Check.written(width, height, text);
        for (int i = 0; i + 1 < sizes.length; i += 2) {
            t.size(sizes[i], sizes[i + 1]);
        }
        return told(t);
    }

    private static void leastAndMost() {
        TerminalWeir t = new TerminalWeir();
        int before = 12;
        for (int width : new int[] {2, 20, 3, 19, 2}) {
            for (int height : new int[] {1, 10, 2, 9}) {
                Check.due("'width: 2 to 20', 'height: 1 to 10', 'returns the width before'", t.size(width, height),
                        before);
                Check.due("promises 14 and 15", t.width() + " " + t.height() + " " + Check.region(t),
                        width + " " + height + " 0-" + (height - 1));
                before = width;
            }
        }
    }

    private static void outOfRange() {
        TerminalWeir t = Check.sized(4, 3, "abcde" + ESC + "[2;3r" + ESC + "[3g");
        int least = Integer.MIN_VALUE;
        int most = Integer.MAX_VALUE;
        int[][] sizes = {{1, 3}, {0, 3}, {-1, 3}, {21, 3}, {least, 3}, {most, 3}, {4, 0}, {4, -1}, {4, 11}, {4, least},
                {4, most},
            {1, 0}, {21, 11}, {least, least}, {most, most}};
        for (int[] size : sizes) {
            Check.refused("'if a number is out of range' " + size[0] + " " + size[1], t, IllegalArgumentException.class,
                    () -> t.size(size[0], size[1]));
        }
    }

    private static void anotherOne() {
        for (String screen : new String[] {"", SECOND}) {
            for (int[] size : new int[][] {{17, 4}, {16, 5}, {16, 3}, {15, 4}}) {
                TerminalWeir t = Check.sized(16, 4, screen + ESC + "[2;3r" + ESC + "[3g" + ESC + "[1;3H" + ESC + "H"
                        + ESC + "[1;1Habcdefghijklmnop");
                t.size(size[0], size[1]);
                String tabs = "T-------T-------T---".substring(0, size[0]);
                Check.due("'waiting ends, the region is the screen, tabs are as at first' " + size[0] + " " + size[1],
                        t.isWaiting() + Check.region(t) + Check.tabs(t), "false0-" + (size[1] - 1) + tabs);
            }
        }
        TerminalWeir t = Check.sized(4, 4, ESC + "[2;3r");
        t.size(5, 4);
        t.size(4, 4);
        Check.due("'the region is the screen', there and back", Check.region(t), "0-3");
    }

    private static void notAnotherOne() {
        for (String screen : new String[] {"", SECOND}) {
            TerminalWeir t = Check.sized(4, 4, screen + ESC + "[2;3r" + ESC + "[3g" + "abcd");
            String before = Check.seen(t);
            Check.due("the same size answers the width", t.size(4, 4), 4);
            Check.due("'as the size becomes another one', not with the same", Check.seen(t), before);
            Check.write(t, MARK);
            Check.due("a mark joins behind the same size", Check.marks(t), "0,3:769");
        }
        Check.due("lines do not flow anew", flown(4, 2, "ab  \r\n" + ESC + "[1;2r" + ESC + "[H", 4, 2),
                "ab../.... 0,0");
    }

    private static void secondCut() {
        String what = "'rows and cells are cut .. at the right and below' ";
        Check.due(what, flown(4, 3, SECOND + "abcdefghijkl", 3, 2), "abc+/efg+ 1,2");
        Check.due(what + "to the least", flown(4, 3, SECOND + "abcdefghijkl", 2, 1), "ab+ 0,1");
        Check.due(what + "the cursor above stays", flown(4, 3, SECOND + "abcdefghijkl" + ESC + "[1;2H", 3, 2),
                "abc+/efg+ 0,1");
        Check.due(what + "no rows go to the back pages", flown(4, 3, SECOND + "abcdefghijkl", 4, 1), "abcd+ 0,3");
        Check.due(what + "a wide one whole", flown(4, 1, SECOND + "a" + WIDE + "d", 3, 1), "aW< 0,2");
        Check.due(what + "a wide one in the middle", flown(4, 1, SECOND + "a" + WIDE + "d", 2, 1), "a. 0,1");
        TerminalWeir t = Check.written(4, 1, SECOND + "a" + ESC + "[7m" + WIDE + MARK);
        t.size(2, 1);
        Check.due(what + "its other half blank, with its style, without its mark", Check.styles(t, 0) + Check.marks(t),
                "0,4");
    }

    private static void secondAdded() {
        String what = "'rows and cells are .. added blank, at the right and below' ";
        Check.due(what, flown(3, 2, SECOND + "abcdef", 5, 3), "abc..+/def../..... 1,2");
        Check.due(what + "what was cut is gone", flown(4, 2, SECOND + "abcdefgh", 2, 1, 4, 2), "ab..+/.... 0,1");
        TerminalWeir t = Check.sized(3, 1, SECOND + ESC + "[1;41mabc");
        t.size(5, 2);
        Check.due(what + "without style", Check.styles(t, 0) + " " + Check.styles(t, 1), "513,513,513,0,0 0,0,0,0,0");
        Check.due(what + "no back pages come", flown(2, 2, "ab\r\ncd\r\nef" + SECOND, 2, 4), "../../../.. 1,1 ab");
    }

    private static String behindTheWidth(String bytes) {
        TerminalWeir t = Check.sized(4, 2, SECOND + "abcdefgh" + ESC + "[1;44m" + ESC + "[H" + bytes);
        t.size(7, 4);
        StringBuilder added = new StringBuilder();
        for (int i = 0; i < 4; i++) {
            for (int j = i < 2 ? 4 : 0; j < 7; j++) {
                boolean isBlank = t.at(i, j) == 32 && t.style(i, j) == 0;
                added.append(isBlank ? "" : i + "," + j + " ");
            }
        }
        return added.toString();
    }

    /** What was moved, erased or scrolled beyond the last column or row may not come again with a larger size. */
    private static void nothingBehindTheWidth() {
        for (String bytes : new String[] {"[@", "[2@", "[9@", "[P", "[2P", "[9P", "[X", "[9X", "[K", "[1K", "[2K", "[J",
                "[1J", "[2J",
            "[S", "[9S", "[T", "[9T", "[L", "[9L", "[M", "[9M", "M", "[2;1H" + ESC + "D", "[2;1H" + ESC + "[J", "[4hx",
                    "[?7l"}) {
            Check.due("'added blank' behind " + bytes, behindTheWidth(ESC + bytes), "");
        }
        Check.due("'added blank' behind a wide one", behindTheWidth(ESC + "[?7l" + ESC + "[1;4H\u00e4\u00b8\u0080"),
                "");
    }

    private static void firstWhileSecond() {
        String what = "'of the first one .. while the second is shown' ";
        Check.due(what + "cut", firstAgain(4, 3, "abcdefgh\r\nij", 3, 2), "abc+/efg 1,2");
        Check.due(what + "cut and added, not flown", firstAgain(4, 3, "abcdef", 3, 3, 6, 3),
                "abc...+/ef..../...... 1,2");
        Check.due(what + "rows cut are gone", firstAgain(4, 3, "abcdefghij", 4, 1, 4, 3), "abcd+/..../.... 2,2");
        Check.due(what + "a wide one in the middle", firstAgain(4, 1, "a" + WIDE, 2, 1), "a. 0,1");
        Check.due(what + "shown again, it flows anew", firstThenFlown(4, 3, "abcdef", 6, 3),
                "abcdef/....../...... 0,5");
    }

    private static String firstAgain(int width, int height, String text, int... sizes) {
        TerminalWeir t = Check.written(width, height, text + SECOND);
        for (int i = 0; i + 1 < sizes.length; i += 2) {
            t.size(sizes[i], sizes[i + 1]);
        }
        Check.feed(t, FIRST);
        return told(t);
    }

    private static String firstThenFlown(int width, int height, String text, int toWidth, int toHeight) {
        TerminalWeir t = Check.written(width, height, text + SECOND + FIRST);
        t.size(toWidth, toHeight);
        return told(t);
    }

    private static void backPagesWhileSecond() {
        String what = "'and the back pages while the second is shown' ";
        Check.due(what + "cut", flown(4, 1, "abcd\r\nefgh\r\n" + SECOND, 2, 1), ".. 0,0 ab/ef");
        Check.due(what + "cut and added", flown(4, 1, "abcd\r\nefgh\r\n" + SECOND, 2, 1, 5, 1),
                "..... 0,0 ab.../ef...");
        Check.due(what + "a wide one in the middle", flown(4, 1, "a" + WIDE + "\r\n" + SECOND, 2, 1), ".. 0,0 a.");
        Check.due(what + "with the height alone", flown(4, 2, "abcd\r\nefgh\r\n" + SECOND, 4, 1), ".... 0,0 abcd");
        Check.due(what + "still told as wrapped", cutThenJoined(), "abcef./....../...... 0,5");
    }

    /** "abcd", told as wrapped in the back pages, is cut to "abc", and then joined with the screen's "ef". */
    private static String cutThenJoined() {
        TerminalWeir t = Check.sized(4, 1, "abcdef" + SECOND);
        t.size(3, 3);
        Check.feed(t, FIRST);
        t.size(6, 3);
        return told(t);
    }

    private static void joined() {
        String what = "'rows of back pages and screen that are told as wrapped are one line with the next' ";
        Check.due(what + "two", flown(4, 2, "abcdef", 8, 2), "abcdef../........ 0,6");
        Check.due(what + "not three", flown(4, 3, "abcdef\r\ngh", 8, 3), "abcdef../gh....../........ 1,2");
        Check.due(what + "of back pages", flown(4, 1, "abcdefghij\r\n", 10, 1), ".......... 0,0 abcdefghij");
        Check.due(what + "of back pages and screen", flown(4, 1, "abcdef", 8, 1), "abcdef.. 0,6");
        Check.due(what + "the last of the back pages alone is not", flown(4, 1, "ab\r\ncd", 8, 1),
                "cd...... 0,2 ab......");
        Check.due(what + "a row that was erased since is one", flown(4, 2, "abcdef\r" + ESC + "[K", 8, 2),
                "abcd..../........ 0,4");
        Check.due(what + "a row that scrolled away leaves its place",
                flown(4, 3, "abcdef\r\ngh" + ESC + "[2;1H" + ESC + "[M", 8, 3), "abcdgh../......../........ 0,4");
    }

    private static void blanksAtTheEnd() {
        String what = "'of each line blanks without style at its end go' ";
        Check.due(what + "all of a row", flown(4, 2, "    \r\nab", 2, 2), "../ab 1,1");
        Check.due(what + "of two rows", flown(4, 3, "ab      \r\ncd", 2, 3), "ab/cd/.. 1,1");
        Check.due(what + "but one with a style", flown(4, 3, "a" + ESC + "[4m  " + ESC + "[m \r\nb", 2, 3),
                "a.+/../b. 2,1");
        Check.due(what + "but one with a background, erased",
                flown(4, 3, "a" + ESC + "[41m" + ESC + "[K" + ESC + "[m\r\nb", 2, 3), "a.+/../b. 2,1");
        Check.due(what + "but one with a mark", flown(4, 3, "a  " + MARK + "\r\nb", 2, 3), "a.+/../b. 2,1");
        Check.due(what + "not those ahead of it", flown(4, 3, "  a\r\nb", 2, 3), "..+/a./b. 2,1");
    }

    private static void partedAnew() {
        String what = "'it is parted anew into rows as wide as told', 'each row but its last told as wrapped' ";
        Check.due(what + "one less", flown(8, 4, "abc\r\nx", 4, 4), "abc./x.../..../.... 1,1");
        Check.due(what + "just one row", flown(8, 4, "abcd\r\nx", 4, 4), "abcd/x.../..../.... 1,1");
        Check.due(what + "one more", flown(8, 4, "abcde\r\nx", 4, 4), "abcd+/e.../x.../.... 2,1");
        Check.due(what + "just two rows", flown(8, 4, "abcdefgh\r\nx", 4, 4), "abcd+/efgh/x.../.... 2,1");
        Check.due(what + "the widest to the least", flown(20, 10, "abcdefghijklmnopqrst", 2, 10),
                "ab+/cd+/ef+/gh+/ij+/kl+/mn+/op+/qr+/st 9,1");
        Check.due(what + "the least to the widest", flown(2, 10, "abcdefghijklmnopqrst", 20, 1),
                "abcdefghijklmnopqrst 0,19");
        Check.due(what + "there and back", flown(4, 3, "abcdefghij", 3, 3, 4, 3), "abcd+/efgh+/ij.. 2,2");
        Check.due(what + "by one column", flown(4, 4, "abcdefghij", 3, 4, 2, 4, 3, 4, 4, 4, 5, 4),
                "abcde+/fghij/...../..... 1,4");
    }

    private static void widePartedAnew() {
        String what = "'a wide character that does not fit beginning the next one, blank cells filling up' ";
        Check.due(what + "in the last column", flown(8, 3, "abc" + WIDE + "d", 4, 3), "abc.+/W<d./.... 1,3");
        Check.due(what + "one that fits", flown(8, 3, "ab" + WIDE + "d", 4, 3), "abW<+/d.../.... 1,1");
        Check.due(what + "several in two", flown(8, 4, "a" + WIDE + WIDE, 2, 4), "a.+/W<+/W</.. 2,1");
        Check.due(what + "several in three", flown(8, 4, WIDE + WIDE + WIDE, 3, 4), "W<.+/W<.+/W<./... 2,2");
        Check.due(what + "what was filled up is of the line", flown(8, 4, WIDE + WIDE + "a", 3, 4, 8, 4),
                "W<.W<a../......../......../........ 0,5");
        Check.due(what + "at the end of a line", flown(6, 2, "abcd" + WIDE, 5, 2), "abcd.+/W<... 1,1");
        TerminalWeir t = Check.written(8, 3, ESC + "[41mabc" + WIDE + ESC + "[m");
        t.size(4, 3);
        Check.due(what + "without style", Check.styles(t, 0), "512,512,512,0");
    }

    private static void cursorAtItsCell() {
        String what = "'the cursor stays at its cell of the line' ";
        Check.due(what + "the first", flown(8, 3, "abcdefgh" + ESC + "[1;1H", 4, 3), "abcd+/efgh/.... 0,0");
        Check.due(what + "the last of a row", flown(8, 3, "abcdefgh" + ESC + "[1;4H", 4, 3), "abcd+/efgh/.... 0,3");
        Check.due(what + "the first of the next", flown(8, 3, "abcdefgh" + ESC + "[1;5H", 4, 3), "abcd+/efgh/.... 1,0");
        Check.due(what + "the last of all", flown(8, 3, "abcdefgh" + ESC + "[1;8H", 4, 3), "abcd+/efgh/.... 1,3");
        Check.due(what + "as a wrap waits", flown(8, 3, "abcdefgh", 4, 3), "abcd+/efgh/.... 1,3");
        Check.due(what + "a blank between", flown(8, 3, "abc   gh" + ESC + "[1;6H", 4, 3), "abc.+/..gh/.... 1,1");
        Check.due(what + "a wide one that moves", flown(8, 3, "abc" + WIDE + ESC + "[1;4H", 4, 3),
                "abc.+/W<../.... 1,0");
        Check.due(what + "its other half", flown(8, 3, "abc" + WIDE + ESC + "[1;5H", 4, 3), "abc.+/W<../.... 1,1");
        Check.due(what + "what was filled up", flown(4, 3, "abc" + WIDE + ESC + "[1;4H", 8, 3),
                "abc.W<../......../........ 0,3");
        Check.due(what + "joined with back pages", flown(4, 1, "abcdefgh", 8, 1), "abcdefgh 0,7");
    }

    private static void cursorBehindTheEnd() {
        String what = "'or as far behind its end, within the width, in its last row' ";
        Check.due(what + "at the end", flown(8, 3, "abc", 6, 3), "abc.../....../...... 0,3");
        Check.due(what + "farther", flown(8, 3, "abc" + ESC + "[1;6H", 6, 3), "abc.../....../...... 0,5");
        Check.due(what + "too far", flown(8, 3, "abc" + ESC + "[1;8H", 6, 3), "abc.../....../...... 0,5");
        Check.due(what + "of two rows", flown(8, 3, "abcdef" + ESC + "[1;8H", 4, 3), "abcd+/ef../.... 1,3");
        Check.due(what + "of a full row", flown(8, 3, "abcd", 4, 3), "abcd/..../.... 0,3");
        Check.due(what + "of a full row, farther", flown(8, 3, "abcd" + ESC + "[1;7H", 4, 3), "abcd/..../.... 0,3");
        Check.due(what + "of an empty line", flown(8, 3, "\n" + ESC + "[2;8H", 4, 3), "..../..../.... 1,3");
        Check.due(what + "of an empty line, wider", flown(4, 3, "\n" + ESC + "[2;4H", 8, 3),
                "......../......../........ 1,3");
        Check.due(what + "of a line whose blanks went, in its second row",
                flown(4, 3, "ab      " + ESC + "[2;2H", 8, 3), "ab....../......../........ 0,5");
        Check.due(what + "the same, narrower", flown(4, 3, "ab      " + ESC + "[2;2H", 3, 3), "ab./.../... 0,2");
    }

    private static void lowestToldAsWrapped() {
        String wraps = ESC + "[1;2r" + ESC + "[10;1Habcdef";
        String what = "the lowest row is told as wrapped, it has no next ";
        TerminalWeir t = Check.sized(4, 10, wraps);
        Check.due(what + "at first", t.isWrapped(9) + Check.line(t, 9), "trueefcd");
        t.size(6, 10);
        Check.due(what + "'each row but its last told as wrapped'", t.isWrapped(9) + Check.line(t, 9) + Check.cursor(t),
                "falseefcd..9,2");
        t = Check.sized(4, 10, wraps);
        t.size(4, 9);
        Check.due(what + "with the width the same it stays so", t.isWrapped(8) + Check.line(t, 8) + t.back(),
                "trueefcd1");
    }

    /** Back pages "ab" and "cd", then "ef", "gh" and two empty rows, the cursor at "gh". */
    private static String lowered(String rest, int width, int height) {
        return flown(2, 4, "ab\r\ncd\r\nef\r\ngh\n\n" + ESC + "[2;1H" + rest, width, height);
    }

    private static void emptyLinesGo() {
        String what = "'as long as there are more rows in all than back pages ahead had and the height' ";
        Check.due(what + "one", lowered("", 2, 3), "ef/gh/.. 1,0 ab/cd");
        Check.due(what + "two", lowered("", 2, 2), "ef/gh 1,0 ab/cd");
        Check.due(what + "'if it is below the cursor's'", lowered("", 2, 1), "gh 0,0 ab/cd/ef");
        Check.due(what + "not the cursor's", lowered(ESC + "[4;1H", 2, 2), "../.. 1,0 ab/cd/ef/gh");
        Check.due(what + "not above the cursor's", lowered(ESC + "[3;1H", 2, 2), "gh/.. 1,0 ab/cd/ef");
        Check.due(what + "none with a greater height", lowered("", 2, 5), "cd/ef/gh/../.. 2,0 ab");
        Check.due(what + "none with all of them", lowered("", 2, 6), "ab/cd/ef/gh/../.. 3,0");
        Check.due(what + "missing ones come below", lowered("", 2, 7), "ab/cd/ef/gh/../../.. 3,0");
        Check.due(what + "none with a greater width", lowered("", 3, 4), "ef./gh./.../... 1,0 ab./cd.");
        Check.due(what + "with a greater width, less height", lowered("", 3, 3), "ef./gh./... 1,0 ab./cd.");
        Check.due(what + "as lines are parted", flown(4, 3, "abcd\r\nef" + ESC + "[1;1H", 2, 3), "ab+/cd/ef 0,0");
        Check.due(what + "as lines are parted, with back pages",
                flown(4, 3, "abcd\r\nefgh\r\ni\n" + ESC + "[2;1H", 2, 3), "ef+/gh/i. 2,0 ab/cd");
    }

    private static void emptyLinesStay() {
        String what = "'and an empty line' ";
        Check.due(what + "a filled one stays", lowered(ESC + "[4;1Hx" + ESC + "[2;1H", 2, 3), "gh/../x. 0,0 ab/cd/ef");
        Check.due(what + "those above a filled one stay", lowered(ESC + "[3;1Hx" + ESC + "[2;1H", 2, 2),
                "gh/x. 0,0 ab/cd/ef");
        Check.due(what + "blanks that were written", flown(2, 3, "ab\r\n \r\n " + ESC + "[1;1H", 2, 1), "ab 0,0");
        Check.due(what + "the end of a line is none", flown(2, 3, "abcd" + ESC + "[2K" + ESC + "[1;1H", 2, 1),
                ".. 0,0 ab");
    }

    private static void noEmptyLines() {
        String what = "no 'empty line' is ";
        Check.due(what + "one with a background",
                flown(2, 3, "ab" + ESC + "[3;1H" + ESC + "[41m" + ESC + "[K" + ESC + "[1;1H", 2, 2), "../.. 0,0 ab");
        Check.due(what + "one with a styled blank at its end",
                flown(2, 3, "ab" + ESC + "[3;2H" + ESC + "[1m " + ESC + "[1;1H", 2, 2), "../.. 0,0 ab");
        Check.due(what + "one with a mark", flown(2, 3, "ab" + ESC + "[3;2H " + MARK + ESC + "[1;1H", 2, 2),
                "../.. 0,0 ab");
        Check.due(what + "one with a mark, wider", flown(2, 3, "ab" + ESC + "[3;2H " + MARK + ESC + "[1;1H", 4, 2),
                "..../.... 0,0 ab..");
    }

    private static void thirtyBackPages() {
        StringBuilder rows = new StringBuilder();
        for (int i = 0; i < 30; i++) {
            rows.append((char) ('A' + i)).append((char) ('A' + i)).append("\r\n");
        }
        String what = "'the last rows, as many as the height, are the screen, what is above is back pages' ";
        TerminalWeir t = Check.sized(4, 10, rows.toString() + "aabb\r\nccdd");
        Check.due(what + "ahead", t.back() + Check.backLine(t, 0) + Check.line(t, 0) + Check.line(t, 9),
                "22AA..WW..ccdd");
        t.size(4, 1);
        Check.due(what + "one row", t.back() + Check.backLine(t, 0) + Check.backLine(t, 29) + Check.line(t, 0),
                "30BB..aabbccdd");
        t.size(2, 1);
        Check.due(what + "parted", t.back() + Check.backLine(t, 0) + Check.backLine(t, 29) + Check.line(t, 0),
                "30DDccdd");
        t.size(4, 10);
        Check.due(what + "joined", t.back() + Check.backLine(t, 0) + Check.line(t, 0) + Check.line(t, 9),
                "19DD..WW..ccdd");
        t = Check.sized(20, 10, "");
        for (int i = 0; i < 10; i++) {
            Check.feed(t, (i > 0 ? "\r\n" : "") + ("" + (char) ('a' + i)).repeat(20));
        }
        t.size(2, 1);
        Check.due(what + "a hundred rows", t.back() + Check.backPages(t).replace("/", "") + Check.line(t, 0),
                "30gg" + "h".repeat(20) + "i".repeat(20) + "j".repeat(20));
    }

    private static void cursorAbove() {
        String what = "'the cursor's row is the first one if it would be above' ";
        Check.due(what, flown(2, 3, "ab\r\ncd\r\nef" + ESC + "[1;2H", 2, 2), "cd/ef 0,1 ab");
        Check.due(what + "not if it would not", flown(2, 3, "ab\r\ncd\r\nef" + ESC + "[2;2H", 2, 2), "cd/ef 0,1 ab");
        Check.due(what + "by two", flown(2, 3, "ab\r\ncd\r\nef" + ESC + "[1;1H", 2, 1), "ef 0,0 ab/cd");
        Check.due(what + "its column is that of its cell", flown(4, 2, "abcd\r\nefgh" + ESC + "[1;4H", 2, 2),
                "ef+/gh 0,1 ab/cd");
        Check.due(what + "far above", flown(20, 2, "abcdefghijklmnopqrstuvwx" + ESC + "[1;4H", 2, 2), "uv+/wx 0,1 "
                + "ab/cd/ef/gh/ij/kl/mn/op/qr/st");
    }

    private static void missingRows() {
        String what = "'missing rows are added blank below' ";
        Check.due(what, flown(2, 1, "ab", 2, 3), "ab/../.. 0,1");
        Check.due(what + "ten", flown(2, 1, "ab", 2, 10), "ab/../../../../../../../../.. 0,1");
        Check.due(what + "as lines are joined", flown(2, 4, "abcdefgh", 8, 4),
                "abcdefgh/......../......../........ 0,7");
        Check.due(what + "nothing of rows that were there", flown(20, 3, "abcdefghijklmnopqrst", 2, 10, 20, 10),
                "abcdefghijklmnopqrst" + "/....................".repeat(9) + " 0,19");
        TerminalWeir t = Check.sized(2, 1, ESC + "[41ma");
        t.size(2, 2);
        Check.due(what + "without style", Check.styles(t, 1), "0,0");
        t = Check.sized(20, 3, ESC + "[41mabcdefghijklmnopqrst\r\nuvw");
        t.size(2, 10);
        t.size(20, 10);
        Check.due(what + "without style, as lines are joined", Check.styles(t, 2) + t.isWrapped(2),
                "0,0,0,0,0,0,0,0,0,0,0,0,0,0,0,0,0,0,0,0false");
    }

    private static void sameWidth() {
        String what = "'with the width the same, only the last two steps are done' ";
        Check.due(what + "rows stay as told", flown(4, 3, "abcdef" + ESC + "[1;2H" + ESC + "[2@", 4, 4),
                "a..b+/ef../..../.... 0,1");
        Check.due(what + "blanks stay", flown(4, 3, "a      h" + ESC + "[1;3H", 4, 2), "a...+/...h 0,2");
        Check.due(what + "the cursor behind the end stays", flown(4, 3, "ab" + ESC + "[1;4H", 4, 2), "ab../.... 0,3");
        Check.due(what + "styles, marks and halves stay", styledAndLower(), "0,2,2,0 0,1:769");
        Check.due(what + "back pages told as wrapped stay so", flown(2, 1, "abcd", 2, 2), "ab+/cd 1,1");
    }

    private static String styledAndLower() {
        TerminalWeir t = Check.written(4, 3, "a" + ESC + "[4m" + WIDE + MARK + ESC + "[m" + ESC + "[1;1H");
        t.size(4, 1);
        return Check.styles(t, 0) + " " + Check.marks(t);
    }
}
