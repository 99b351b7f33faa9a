/** Boundary cases that "Codes" names, each told by the document's own words. */
public final class EdgesOfCodesTest {
    private static final String ESC = Check.ESC + "";
    private static final String ROWS = "abcd\r\nefgh\r\nijkl\r\nmnop";

    private EdgesOfCodesTest() {
    }

    public static void main(String[] arguments) {
        belowThirtyTwo();
        tabs();
        cancelling();
        begunAnew();
        newLines();
        goingUp();
        savedWithin();
        savedAtFirst();
        otherBytesBehind();
        eightNumbers();
        greatNumbers();
        emptyNumbers();
        spoiling();
        endingARow();
        otherBytesThere();
        askedRows();
        noneOrZero();
        movesFromWithin();
        movesWithin();
        movesByOrigin();
        erasingEdges();
        erasingRows();
        cellsAtTheEnd();
        rowsInTheRegion();
        scrolling();
        regions();
        takingTabs();
        startingAnew();
        Check.end();
    }

    private static String cursor(int width, int height, String bytes) {
        return Check.cursor(Check.sized(width, height, bytes));
    }

    private static String told(int width, int height, String bytes) {
        TerminalWeir t = Check.sized(width, height, bytes);
        return Check.screen(t) + " " + Check.cursor(t);
    }

    /** Four rows of four, then this. */
    private static String behindRows(String bytes) {
        return told(4, 4, ROWS + bytes);
    }

    /** Four rows of four, all but the last told as wrapped, then this. */
    private static String behindWrapped(String bytes) {
        return told(4, 4, "abcdefghijklmnop" + bytes);
    }

    private static void belowThirtyTwo() {
        Check.due("'7 rings'", Check.fed("\u0007".repeat(9)).rings(), 9);
        Check.due("'8 goes back a column', at 0", cursor(4, 2, "\b\b"), "0,0");
        Check.due("'8 goes back a column', from the last one", cursor(4, 2, "abcd\b"), "0,2");
        Check.due("'13 goes to the column 0', at 0", cursor(4, 2, "\n\r\r"), "1,0");
        for (int code = 0; code < 128; code++) {
            if (code < 7 || code > 13 && code < 27 || code > 27 && code < 32 || code == 127) {
                TerminalWeir t = Check.sized(4, 2, "abcd");
                String before = Check.seen(t);
                t.feed(code);
                Check.due("'others, and 127, do nothing' " + code, Check.seen(t), before);
            }
        }
    }

    private static void tabs() {
        String what = "'9 goes to the next tab, or the last column' ";
        Check.due(what + "none left", cursor(12, 2, ESC + "[1;9H\t"), "0,11");
        Check.due(what + "at the last column", cursor(12, 2, ESC + "[1;12H\t"), "0,11");
        Check.due(what + "behind the width", cursor(16, 2, "\t\t\t"), "0,15");
        Check.due(what + "in the last column", cursor(17, 2, "\t\t\t"), "0,16");
        Check.due(what + "all taken", cursor(20, 2, ESC + "[3g\t"), "0,19");
        Check.due(what + "in the very next column", cursor(20, 2, ESC + "[1;5H" + ESC + "H" + ESC + "[1;4H\t"), "0,4");
        Check.due(what + "not the one it is at", cursor(20, 2, ESC + "[1;9H\t"), "0,16");
        Check.due(what + "two columns", cursor(2, 1, "\t"), "0,1");
        Check.due("'at first, at 0, 8 and 16'", Check.tabs(Check.sized(20, 2, "")), "T-------T-------T---");
        Check.due("'H' sets a tab at the column', the last", Check.tabs(Check.sized(5, 2, ESC + "[1;5H" + ESC + "H")),
                "T---T");
        Check.due("'H' sets a tab at the column', as a wrap waits", Check.tabs(Check.sized(5, 2, "abcde" + ESC + "H")),
                "T---T");
        Check.due("'H' sets a tab at the column', twice", Check.tabs(Check.sized(5, 2, " " + ESC + "H" + ESC + "H")),
                "TT---");
    }

    private static void cancelling() {
        for (String cancel : new String[] {"\u0018", "\u001a"}) {
            String what = "'24 and 26 cancel a code or a string' ";
            Check.due(what + "behind 27", told(6, 1, ESC + cancel + "[2C"), "[2C... 0,3");
            Check.due(what + "behind '['", told(6, 1, ESC + "[" + cancel + "2C"), "2C.... 0,2");
            Check.due(what + "in a number", told(6, 1, ESC + "[2" + cancel + "C"), "C..... 0,1");
            Check.due(what + "in a spoilt row", told(6, 1, ESC + "[ " + cancel + "C"), "C..... 0,1");
            TerminalWeir t = Check.sized(6, 1, ESC + "]0;a\u0007" + ESC + "]0;b" + cancel + "c\u0007");
            Check.due(what + "in a string", Check.line(t, 0) + Check.title(t) + t.rings(), "c.....a1");
            Check.due(what + "nothing begun", told(6, 1, "a" + cancel + "b"), "ab.... 0,2");
        }
    }

    private static void begunAnew() {
        String what = "'27 begins a code, ending what was begun' ";
        Check.due(what + "a code", told(6, 1, ESC + ESC + "[2C"), "...... 0,2");
        Check.due(what + "thrice", told(6, 1, ESC + ESC + ESC + "[2Cx"), "..x... 0,3");
        Check.due(what + "a row of numbers", told(6, 1, ESC + "[3" + ESC + "[2Cx"), "..x... 0,3");
        Check.due(what + "a spoilt one", told(6, 1, ESC + "[3 ;" + ESC + "[2Cx"), "..x... 0,3");
        Check.due(what + "one with '?'", Check.sized(6, 1, ESC + "[?" + ESC + "[4h").isSet(4), true);
        TerminalWeir t = Check.sized(6, 3, ESC + "]0;ab" + ESC + "D");
        Check.due(what + "a string, the byte behind it a code", Check.title(t) + Check.cursor(t), "ab1,0");
        t = Check.sized(6, 3, ESC + "]0;ab" + ESC + ESC + "[2C");
        Check.due(what + "a string, twice", Check.title(t) + Check.cursor(t), "ab0,2");
        t = Check.sized(6, 3, ESC + "]0;ab" + ESC + "]2;c\u0007");
        Check.due(what + "a string by a string", Check.title(t), "c");
    }

    private static void newLines() {
        for (String line : new String[] {"\n", "\u000b", "\f", ESC + "D", ESC + "E"}) {
            String column = line.equals(ESC + "E") ? "0" : "2";
            String what = "'a new line goes down a row' " + line;
            Check.due(what, behindRows(ESC + "[1;3H" + line), "abcd/efgh/ijkl/mnop 1," + column);
            Check.due(what + "'at the lowest row of the region by scrolling it up'", behindRows(ESC + "[4;3H" + line),
                    "efgh/ijkl/mnop/.... 3," + column);
            Check.due(what + "of a region that ends above", behindRows(ESC + "[2;3r" + ESC + "[3;3H" + line),
                    "abcd/ijkl/..../mnop 2," + column);
            Check.due(what + "down to the lowest of the region", behindRows(ESC + "[2;3r" + ESC + "[2;3H" + line),
                    "abcd/efgh/ijkl/mnop 2," + column);
            Check.due(what + "below the region", behindRows(ESC + "[1;2r" + ESC + "[3;3H" + line),
                    "abcd/efgh/ijkl/mnop 3," + column);
            Check.due(what + "'at the lowest of all, below the region, not at all'",
                    behindRows(ESC + "[1;2r" + ESC + "[4;3H" + line), "abcd/efgh/ijkl/mnop 3," + column);
            Check.due(what + "of one row", told(4, 1, "abcd" + ESC + "[1;3H" + line), ".... 0," + column);
            Check.due(what + "of ten rows", cursor(4, 10, "\n\n\n\n\n\n\n\n\nab" + line), "9," + column);
        }
    }

    private static void goingUp() {
        String up = ESC + "M";
        String what = "'M' goes up a row, at the highest row of the region by scrolling it down' ";
        Check.due(what, behindRows(ESC + "[2;3H" + up), "abcd/efgh/ijkl/mnop 0,2");
        Check.due(what + "of all", behindRows(ESC + "[1;3H" + up), "..../abcd/efgh/ijkl 0,2");
        Check.due(what + "of a region", behindRows(ESC + "[2;3r" + ESC + "[2;3H" + up), "abcd/..../efgh/mnop 1,2");
        Check.due(what + "above the region, at the highest of all", behindRows(ESC + "[2;3r" + ESC + "[1;3H" + up),
                "abcd/efgh/ijkl/mnop 0,2");
        Check.due(what + "above the region", behindRows(ESC + "[3;4r" + ESC + "[2;3H" + up), "abcd/efgh/ijkl/mnop 0,2");
        Check.due(what + "below the region", behindRows(ESC + "[1;2r" + ESC + "[3;3H" + up), "abcd/efgh/ijkl/mnop 1,2");
        Check.due(what + "of one row", told(4, 1, "abcd" + up), ".... 0,3");
        Check.due(what + "no back pages", Check.sized(4, 4, ROWS + ESC + "[H" + up).back(), 0);
    }

    private static String savedThenSized(String bytes, int width, int height) {
        TerminalWeir t = Check.sized(4, 4, bytes + ESC + "7" + ESC + "[H");
        t.size(width, height);
        Check.feed(t, ESC + "8");
        return Check.cursor(t);
    }

    private static void savedWithin() {
        String what = "'8' takes them again, within the screen' ";
        Check.due(what + "smaller", savedThenSized(ESC + "[4;4H", 3, 2), "1,2");
        Check.due(what + "smallest", savedThenSized(ESC + "[4;4H", 2, 1), "0,1");
        Check.due(what + "larger", savedThenSized(ESC + "[4;4H", 20, 10), "3,3");
        what = "'the waiting in its last column alone' ";
        Check.due(what + "still", savedThenSized("abcd", 4, 3), "0,3 waits");
        Check.due(what + "wider", savedThenSized("abcd", 5, 4), "0,3");
        Check.due(what + "narrower", savedThenSized("abcd", 3, 4), "0,2 waits");
        Check.due(what + "not kept", savedThenSized(ESC + "[1;4H", 4, 3), "0,3");
        TerminalWeir t = Check.sized(4, 4, ESC + "[2;3r" + ESC + "[?6h" + ESC + "[1;31m" + ESC + "[2;3H" + ESC + "7");
        Check.feed(t, ESC + "[?6l" + ESC + "[m" + ESC + "[4h" + ESC + "[?7l" + ESC + "[1;4r" + ESC + "8");
        Check.due("'7' keeps the cursor, the pen .. and the origin', nothing else",
                Check.cursor(t) + " " + t.pen() + t.isSet(6) + t.isSet(4) + t.isSet(7) + Check.region(t),
                        "2,2 33truetruefalse0-3");
        t = Check.sized(4, 4, ESC + "[?6h" + ESC + "7" + ESC + "[2;3r" + ESC + "8");
        Check.due("taken again by the origin, but outside of the region", Check.cursor(t) + t.isSet(6), "0,0true");
        t = Check.sized(4, 4, "ab" + ESC + "7" + "c\n" + ESC + "8" + ESC + "[H" + ESC + "8");
        Check.due("'8' takes them again' twice", Check.cursor(t), "0,2");
        t = Check.sized(4, 4, "a" + ESC + "7b" + ESC + "7\r" + ESC + "8");
        Check.due("'7' keeps' the last one", Check.cursor(t), "0,2");
    }

    private static void savedAtFirst() {
        TerminalWeir t = Check.sized(4, 4, ESC + "[?6h" + ESC + "[1;41mabcd" + ESC + "8");
        Check.due("'at first as at the beginning'", Check.cursor(t) + " " + t.pen() + t.isSet(6), "0,0 0false");
        t = Check.sized(4, 4, "ab" + ESC + "7" + ESC + "c" + "abc" + ESC + "8");
        Check.due("'c' makes all of the .. cursors .. as at first', the kept one", Check.cursor(t), "0,0");
    }

    private static void otherBytesBehind() {
        for (int code = 0; code < 256; code++) {
            if (code == 24 || code == 26 || code == 27 || "78DEMHc[]".indexOf(code) >= 0) {
                continue;
            }
            TerminalWeir t = Check.fed("ab" + ESC + (char) code);
            String after = Check.screen(t) + Check.cursor(t) + t.rings() + t.sent() + Check.title(t) + Check.tabs(t);
            Check.due("'all other bytes, those below 32 too, nothing' " + code, after,
                    "ab........../............/............/............0,200T-------T---");
            Check.feed(t, "x");
            Check.due("'and the code is over' " + code, Check.line(t, 0), "abx.........");
        }
    }

    private static int pen(String numbers) {
        return Check.fed(ESC + "[" + numbers + "m").pen();
    }

    private static void eightNumbers() {
        String what = "'at most 8 numbers are kept' ";
        Check.due(what + "the eighth", pen("1;1;1;1;1;1;1;4"), 3);
        Check.due(what + "the ninth", pen("1;1;1;1;1;1;1;1;4"), 1);
        Check.due(what + "the ninth does not go on with the eighth", pen("0;0;0;0;0;0;0;4;7"), 2);
        Check.due(what + "far more", pen("1;".repeat(40) + "4"), 1);
        Check.due(what + "eight empty ones", pen("1;;;;;;;;4"), 0);
        Check.due(what + "and eight of modes", "" + Check.fed(ESC + "[0;0;0;0;0;0;0;4h").isSet(4)
                + Check.fed(ESC + "[0;0;0;0;0;0;0;0;4h").isSet(4), "truefalse");
        Check.due(what + "others are told by the first ones", cursor(12, 4, ESC + "[2;3;4;5;6;7;8;9;10;11H"), "1,2");
    }

    private static void greatNumbers() {
        String what = "'each at most 9999' ";
        for (String number : new String[] {"9999", "10000", "65536", "2147483647", "2147483648", "4294967296",
                "4294967297",
            "99999999999999999999"}) {
            Check.due(what + number, cursor(12, 4, ESC + "[" + number + ";" + number + "H"), "3,11");
            Check.due(what + "no mode by " + number, Check.fed(ESC + "[" + number + "h").isSet(4), false);
            Check.due(what + "no style by " + number, Check.fed(ESC + "[1m" + ESC + "[" + number + "m").pen(), 1);
        }
        Check.due(what + "10491049 is no 1049", Check.fed(ESC + "[?10491049h").isSecond(), false);
        Check.due(what + "zeros ahead", cursor(12, 4, ESC + "[000000000002;00003H"), "1,2");
        Check.due(what + "zeros alone", cursor(12, 4, "abc\n" + ESC + "[00000000000000H"), "0,0");
    }

    private static void emptyNumbers() {
        String what = "'an empty one is 0' ";
        Check.due(what + "the first", cursor(12, 4, ESC + "[;3H"), "0,2");
        Check.due(what + "the second", cursor(12, 4, ESC + "[3;H"), "2,0");
        Check.due(what + "both", cursor(12, 4, "ab\n" + ESC + "[;H"), "0,0");
        Check.due(what + "of a style, at the end", pen("1;"), 0);
        Check.due(what + "of a style, ahead", pen("1m" + ESC + "[;4"), 2);
        Check.due(what + "of a style, alone", pen("1m" + ESC + "["), 0);
    }

    private static void spoiling() {
        StringBuilder signs = new StringBuilder(":<=>");
        for (char sign = 32; sign < 48; sign++) {
            signs.append(sign);
        }
        for (char sign : signs.toString().toCharArray()) {
            String what = "'spoils it' by " + sign;
            Check.due(what + " ahead", told(6, 2, ESC + "[" + sign + "2;3Hx"), "x...../...... 0,1");
            Check.due(what + " between", told(6, 2, ESC + "[2" + sign + ";3Hx"), "x...../...... 0,1");
            Check.due(what + " at the end", told(6, 2, ESC + "[2;3" + sign + "Hx"), "x...../...... 0,1");
            Check.due(what + " behind '?'", Check.fed(ESC + "[?" + sign + "1049h").isSecond(), false);
            Check.due(what + ", the next one is not", cursor(6, 2, ESC + "[" + sign + "H" + ESC + "[2;3H"), "1,2");
        }
        String what = "'or a '?' not ahead' ";
        Check.due(what + "behind '?'", Check.fed(ESC + "[??25l").isShown(), true);
        Check.due(what + "behind a number", Check.fed(ESC + "[25?l").isShown(), true);
        Check.due(what + "behind ';'", Check.fed(ESC + "[;?25l").isShown(), true);
        Check.due(what + "behind what spoils", Check.fed(ESC + "[ ?25l").isShown(), true);
        Check.due(what + "behind ten numbers", Check.fed(ESC + "[1;1;1;1;1;1;1;1;1;1?H\u0007").rings(), 1);
    }

    private static void endingARow() {
        for (char last = 64; last < 127; last++) {
            String what = "'a byte from 64 to 126 ends it' " + last;
            Check.due(what, Check.screen(Check.fed(ESC + "[" + last + "xyz")).contains("xyz"), true);
            Check.due(what + ", spoilt", Check.line(Check.fed(ESC + "[1 2" + last + "xyz"), 0), "xyz.........");
            Check.due(what + ", with '?'", Check.screen(Check.fed(ESC + "[?7" + last + "xyz")).contains("xyz"), true);
        }
        for (char last = 64; last < 127; last++) {
            if ("ABCDGdHJKX@PLMSTrgmnhl".indexOf(last) < 0) {
                TerminalWeir t = Check.sized(4, 4, ROWS + ESC + "[2;2H" + ESC + "[41m");
                String before = Check.seen(t);
                Check.code(t, "2;3" + last);
                Check.due("'does what it tells', nothing by " + last, Check.seen(t), before);
            }
        }
    }

    private static void otherBytesThere() {
        for (int code = 0; code < 256; code++) {
            boolean isOther = code < 32 && code != 24 && code != 26 && code != 27 || code > 126;
            if (isOther) {
                char other = (char) code;
                String what = "'other bytes do nothing there' " + code;
                TerminalWeir t = Check.fed("ab" + ESC + "[" + other + "2" + other + ";" + other + "3" + other + "H");
                Check.due(what, Check.line(t, 0) + Check.cursor(t) + t.rings(), "ab..........1,20");
                Check.due(what + ", a '?' behind it is ahead", Check.fed(ESC + "[" + other + "?25l").isShown(), false);
                Check.due(what + ", digits go on", Check.fed(ESC + "[?2" + other + "5l").isShown(), false);
            }
        }
    }

    private static void askedRows() {
        for (char last = 64; last < 127; last++) {
            if (last != 'h' && last != 'l') {
                for (String numbers : new String[] {"", "0", "1", "2", "3", "4", "5", "6", "2;3"}) {
                    TerminalWeir t = Check.sized(4, 4, ROWS + ESC + "[2;2H" + ESC + "[41m");
                    String before = Check.screen(t) + Check.cursor(t) + t.sent() + t.pen() + Check.region(t)
                            + Check.tabs(t);
                    Check.code(t, "?" + numbers + last);
                    Check.due("'with '?' only 'h' and 'l'', not " + numbers + last,
                            Check.screen(t) + Check.cursor(t) + t.sent() + t.pen() + Check.region(t) + Check.tabs(t),
                                    before);
                }
            }
        }
    }

    private static void noneOrZero() {
        for (char last : "ABCDGdHX@PLMST".toCharArray()) {
            String one = behindWrapped(ESC + "[3;3H" + ESC + "[1" + last);
            for (String number : new String[] {"", "0", ";", "0;0", "00"}) {
                Check.due("'n is the first number, or 1 if that is 0 or none' " + number + last,
                        behindWrapped(ESC + "[3;3H" + ESC + "[" + number + last), one);
            }
        }
        for (String number : new String[] {"", "0", ";", "0;2"}) {
            Check.due("'with the number 0 or none' J", behindWrapped(ESC + "[3;3H" + ESC + "[" + number + "J"),
                    "abcd+/efgh+/ij../.... 2,2");
            Check.due("'with the number 0 or none' K", behindWrapped(ESC + "[3;3H" + ESC + "[" + number + "K"),
                    "abcd+/efgh+/ij../mnop 2,2");
        }
    }

    private static void movesFromWithin() {
        String region = ESC + "[2;3r";
        String what = "'not beyond the region from within, nor the screen' ";
        Check.due(what + "A to the highest", cursor(4, 4, region + ESC + "[3;2H" + ESC + "[A"), "1,1");
        Check.due(what + "A beyond", cursor(4, 4, region + ESC + "[3;2H" + ESC + "[2A"), "1,1");
        Check.due(what + "A at the highest", cursor(4, 4, region + ESC + "[2;2H" + ESC + "[A"), "1,1");
        Check.due(what + "B to the lowest", cursor(4, 4, region + ESC + "[2;2H" + ESC + "[B"), "2,1");
        Check.due(what + "B beyond", cursor(4, 4, region + ESC + "[2;2H" + ESC + "[2B"), "2,1");
        Check.due(what + "B at the lowest", cursor(4, 4, region + ESC + "[3;2H" + ESC + "[B"), "2,1");
        Check.due(what + "A from below, through it", cursor(4, 4, region + ESC + "[4;2H" + ESC + "[3A"), "0,1");
        Check.due(what + "B from above, through it", cursor(4, 4, region + ESC + "[1;2H" + ESC + "[3B"), "3,1");
        Check.due(what + "A from below, into it", cursor(4, 4, region + ESC + "[4;2H" + ESC + "[A"), "2,1");
        Check.due(what + "A from above", cursor(4, 4, region + ESC + "[1;2H" + ESC + "[A"), "0,1");
        Check.due(what + "B from below", cursor(4, 4, region + ESC + "[4;2H" + ESC + "[B"), "3,1");
        Check.due(what + "C to the last", cursor(4, 4, region + ESC + "[3C"), "0,3");
        Check.due(what + "C beyond", cursor(4, 4, region + ESC + "[4C"), "0,3");
        Check.due(what + "D to the first", cursor(4, 4, region + "ab" + ESC + "[2D"), "0,0");
        Check.due(what + "D beyond", cursor(4, 4, region + "ab" + ESC + "[3D"), "0,0");
        Check.due(what + "D as a wrap waits", cursor(4, 4, region + "abcd" + ESC + "[D"), "0,2");
    }

    private static void movesWithin() {
        String what = "'from 1, within the screen' ";
        Check.due(what + "G of the first two", cursor(4, 4, "abc" + ESC + "[1G") + cursor(4, 4, "abc" + ESC + "[2G"),
                "0,00,1");
        Check.due(what + "G", cursor(4, 4, ESC + "[4G") + cursor(4, 4, ESC + "[5G"), "0,30,3");
        Check.due(what + "d", cursor(4, 4, ESC + "[4d") + cursor(4, 4, ESC + "[5d"), "3,03,0");
        Check.due(what + "H", cursor(4, 4, ESC + "[4;4H") + cursor(4, 4, ESC + "[5;5H"), "3,33,3");
        Check.due(what + "H of the first", cursor(4, 4, ESC + "[1;1H") + cursor(4, 4, ESC + "[0;0H"), "0,00,0");
        Check.due(what + "H without a second", cursor(4, 4, "ab" + ESC + "[3H"), "2,0");
        Check.due(what + "not by the region alone", cursor(4, 4, ESC + "[2;3r" + ESC + "[4;2H"), "3,1");
        Check.due(what + "d not by the region alone", cursor(4, 4, ESC + "[2;3r" + ESC + "[4d"), "3,0");
        Check.due(what + "H of the largest", cursor(20, 10, ESC + "[10;20H") + cursor(20, 10, ESC + "[11;21H"),
                "9,199,19");
    }

    private static void movesByOrigin() {
        String origin = ESC + "[2;3r" + ESC + "[?6h";
        String what = "'by the origin within the region, rows counted from its top, for 'd' and 'H'' ";
        Check.due(what + "H of the first", cursor(4, 4, origin + ESC + "[1;1H"), "1,0");
        Check.due(what + "H of the last", cursor(4, 4, origin + ESC + "[2;4H"), "2,3");
        Check.due(what + "H beyond", cursor(4, 4, origin + ESC + "[3;5H"), "2,3");
        Check.due(what + "d of the last", cursor(4, 4, origin + ESC + "[2d"), "2,0");
        Check.due(what + "d beyond", cursor(4, 4, origin + ESC + "[3d"), "2,0");
        Check.due(what + "d beyond far", cursor(4, 4, origin + ESC + "[9999d"), "2,0");
        Check.due(what + "G stays in its row", cursor(4, 4, origin + ESC + "[4G"), "1,3");
        Check.due(what + "A and B from within", cursor(4, 4, origin + ESC + "[9B") + cursor(4, 4, origin + ESC + "[9A"),
                "2,01,0");
        Check.due(what + "the whole screen", cursor(4, 4, ESC + "[?6h" + ESC + "[4;4H"), "3,3");
    }

    private static void erasingEdges() {
        String what = "'from the cursor to the end' ";
        Check.due(what + "J in the last cell", behindWrapped(ESC + "[4;4H" + ESC + "[J"), "abcd+/efgh+/ijkl+/mno. 3,3");
        Check.due(what + "J in the first cell", behindWrapped(ESC + "[1;1H" + ESC + "[J"), "..../..../..../.... 0,0");
        Check.due(what + "K in the last cell", behindWrapped(ESC + "[2;4H" + ESC + "[K"), "abcd+/efg./ijkl+/mnop 1,3");
        Check.due(what + "K in the first cell", behindWrapped(ESC + "[2;1H" + ESC + "[K"), "abcd+/..../ijkl+/mnop 1,0");
        what = "'from the beginning to the cursor, it included' ";
        Check.due(what + "1J in the first cell", behindWrapped(ESC + "[1;1H" + ESC + "[1J"),
                ".bcd+/efgh+/ijkl+/mnop 0,0");
        Check.due(what + "1J in the last cell", behindWrapped(ESC + "[4;4H" + ESC + "[1J"), "..../..../..../.... 3,3");
        Check.due(what + "1J in the last cell of a row", behindWrapped(ESC + "[2;4H" + ESC + "[1J"),
                "..../..../ijkl+/mnop 1,3");
        Check.due(what + "1J ahead of it", behindWrapped(ESC + "[2;3H" + ESC + "[1J"), "..../...h+/ijkl+/mnop 1,2");
        Check.due(what + "1K in the first cell", behindWrapped(ESC + "[2;1H" + ESC + "[1K"),
                "abcd+/.fgh+/ijkl+/mnop 1,0");
        Check.due(what + "1K in the last cell", behindWrapped(ESC + "[2;4H" + ESC + "[1K"),
                "abcd+/..../ijkl+/mnop 1,3");
        Check.due("'all with 2' J", behindWrapped(ESC + "[2;2H" + ESC + "[2J"), "..../..../..../.... 1,1");
        Check.due("'all with 2' K", behindWrapped(ESC + "[2;2H" + ESC + "[2K"), "abcd+/..../ijkl+/mnop 1,1");
        for (String number : new String[] {"3", "4", "9999"}) {
            Check.due("no such number " + number,
                    behindWrapped(ESC + "[2;2H" + ESC + "[" + number + "J" + ESC + "[" + number + "K"),
                    "abcd+/efgh+/ijkl+/mnop 1,1");
        }
        what = "'X' n cells from the cursor on' ";
        Check.due(what + "one less than the row", behindWrapped(ESC + "[2;1H" + ESC + "[3X"),
                "abcd+/...h+/ijkl+/mnop 1,0");
        Check.due(what + "the row", behindWrapped(ESC + "[2;1H" + ESC + "[4X"), "abcd+/..../ijkl+/mnop 1,0");
        Check.due(what + "beyond the row", behindWrapped(ESC + "[2;4H" + ESC + "[5X"), "abcd+/efg./ijkl+/mnop 1,3");
        Check.due(what + "by the waiting cursor", told(4, 1, "abcd" + ESC + "[X"), "abc. 0,3");
    }

    private static void erasingRows() {
        String pen = ESC + "[1;4;7;31;43m";
        String what = "'blank, with the background of the pen alone' ";
        for (String code : new String[] {"[2J", "[2K", "[4X", "[4@", "[4P", "[L", "[S" + ESC + "[S", "[T"}) {
            TerminalWeir t = Check.sized(4, 2, "abcdefgh" + pen + ESC + "[1;1H" + ESC + code);
            Check.due(what + code, Check.line(t, 0) + Check.styles(t, 0), "....1024,1024,1024,1024");
        }
        for (String code : new String[] {"[M", "[S", "D", "E"}) {
            TerminalWeir t = Check.sized(4, 2, "abcdefgh" + pen + ESC + "[2;1H" + ESC + code);
            Check.due(what + code, Check.line(t, 1) + Check.styles(t, 1), "....1024,1024,1024,1024");
        }
        TerminalWeir t = Check.sized(4, 2, "abcdefgh" + pen + ESC + "[1;1H" + ESC + "M");
        Check.due(what + "M", Check.line(t, 0) + Check.styles(t, 0), "....1024,1024,1024,1024");
        t = Check.sized(4, 1, "abc" + pen + "de");
        Check.due(what + "by wrapping", Check.line(t, 0) + Check.styles(t, 0), "e...1063,1024,1024,1024");
        t = Check.sized(4, 1, "abc" + ESC + "[1;47;31m" + ESC + "[49m" + ESC + "[2K");
        Check.due(what + "none", Check.styles(t, 0), "0,0,0,0");
        t = Check.sized(4, 1, ESC + "[47m" + ESC + "[2K");
        Check.due(what + "the greatest", Check.styles(t, 0), "2048,2048,2048,2048");
        what = "'that comes blank, is not told as wrapped' ";
        Check.due(what + "L", behindWrapped(ESC + "[2;1H" + ESC + "[L"), "abcd+/..../efgh+/ijkl+ 1,0");
        Check.due(what + "M", behindWrapped(ESC + "[1;1H" + ESC + "[3M"), "mnop/..../..../.... 0,0");
        Check.due(what + "S", behindWrapped(ESC + "[S"), "efgh+/ijkl+/mnop/.... 3,3");
        Check.due(what + "T", behindWrapped(ESC + "[T"), "..../abcd+/efgh+/ijkl+ 3,3");
        Check.due(what + "a region", behindWrapped(ESC + "[1;2r" + ESC + "[S"), "efgh+/..../ijkl+/mnop 0,0");
    }

    private static void cellsAtTheEnd() {
        String what = "'@' moves cells from the cursor on by n to the right' ";
        Check.due(what + "in the last cell", behindWrapped(ESC + "[2;4H" + ESC + "[@"), "abcd+/efg.+/ijkl+/mnop 1,3");
        Check.due(what + "one less than the rest", behindWrapped(ESC + "[2;2H" + ESC + "[2@"),
                "abcd+/e..f+/ijkl+/mnop 1,1");
        Check.due(what + "the rest", behindWrapped(ESC + "[2;2H" + ESC + "[3@"), "abcd+/e...+/ijkl+/mnop 1,1");
        Check.due(what + "beyond", behindWrapped(ESC + "[2;2H" + ESC + "[4@"), "abcd+/e...+/ijkl+/mnop 1,1");
        Check.due(what + "the row, told as wrapped as it was", behindWrapped(ESC + "[2;1H" + ESC + "[9999@"),
                "abcd+/....+/ijkl+/mnop 1,0");
        what = "'P' takes n away, those behind coming up, blanks behind' ";
        Check.due(what + "in the last cell", behindWrapped(ESC + "[2;4H" + ESC + "[P"), "abcd+/efg./ijkl+/mnop 1,3");
        Check.due(what + "one less than the rest", behindWrapped(ESC + "[2;2H" + ESC + "[2P"),
                "abcd+/eh../ijkl+/mnop 1,1");
        Check.due(what + "the rest", behindWrapped(ESC + "[2;2H" + ESC + "[3P"), "abcd+/e.../ijkl+/mnop 1,1");
        Check.due(what + "beyond", behindWrapped(ESC + "[2;2H" + ESC + "[9999P"), "abcd+/e.../ijkl+/mnop 1,1");
        Check.due(what + "the row", behindWrapped(ESC + "[2;1H" + ESC + "[4P"), "abcd+/..../ijkl+/mnop 1,0");
        Check.due("'@' and 'P' as a wrap waits", told(4, 1, "abcd" + ESC + "[@") + told(4, 1, "abcd" + ESC + "[P"),
                "abc. 0,3abc. 0,3");
        Check.due("'@' and 'P' of the widest", told(20, 1, "a" + "b".repeat(19) + ESC + "[H" + ESC + "[19@")
                + told(20, 1, "a" + "b".repeat(19) + ESC + "[H" + ESC + "[19P"), ".".repeat(19) + "a 0,0b"
                        + ".".repeat(19) + " 0,0");
    }

    private static void rowsInTheRegion() {
        String what = "'L' puts n blank rows at that of the cursor' ";
        Check.due(what + "at the lowest", behindRows(ESC + "[4;2H" + ESC + "[L"), "abcd/efgh/ijkl/.... 3,1");
        Check.due(what + "at the highest", behindRows(ESC + "[1;2H" + ESC + "[L"), "..../abcd/efgh/ijkl 0,1");
        Check.due(what + "as many as there are", behindRows(ESC + "[2;2H" + ESC + "[3L"), "abcd/..../..../.... 1,1");
        Check.due(what + "one less", behindRows(ESC + "[2;2H" + ESC + "[2L"), "abcd/..../..../efgh 1,1");
        Check.due(what + "more", behindRows(ESC + "[2;2H" + ESC + "[9999L"), "abcd/..../..../.... 1,1");
        what = "'M' takes n away, in the region, from the cursor's row down' ";
        Check.due(what + "at the lowest", behindRows(ESC + "[4;2H" + ESC + "[M"), "abcd/efgh/ijkl/.... 3,1");
        Check.due(what + "as many as there are", behindRows(ESC + "[2;2H" + ESC + "[3M"), "abcd/..../..../.... 1,1");
        Check.due(what + "one less", behindRows(ESC + "[2;2H" + ESC + "[2M"), "abcd/mnop/..../.... 1,1");
        Check.due(what + "more", behindRows(ESC + "[2;2H" + ESC + "[9999M"), "abcd/..../..../.... 1,1");
        String region = ESC + "[2;3r";
        what = "'if the cursor is within it' ";
        Check.due(what + "L at its highest", behindRows(region + ESC + "[2;2H" + ESC + "[L"),
                "abcd/..../efgh/mnop 1,1");
        Check.due(what + "L at its lowest", behindRows(region + ESC + "[3;2H" + ESC + "[9L"),
                "abcd/efgh/..../mnop 2,1");
        Check.due(what + "M at its highest", behindRows(region + ESC + "[2;2H" + ESC + "[M"),
                "abcd/ijkl/..../mnop 1,1");
        Check.due(what + "M at its lowest", behindRows(region + ESC + "[3;2H" + ESC + "[9M"),
                "abcd/efgh/..../mnop 2,1");
        for (String code : new String[] {"[L", "[M"}) {
            Check.due(what + "above it " + code, behindRows(region + ESC + "[1;2H" + ESC + code),
                    "abcd/efgh/ijkl/mnop 0,1");
            Check.due(what + "below it " + code, behindRows(region + ESC + "[4;2H" + ESC + code),
                    "abcd/efgh/ijkl/mnop 3,1");
        }
        Check.due("'L' and 'M' of one row", told(4, 1, "abcd" + ESC + "[L") + told(4, 1, "abcd" + ESC + "[M"),
                ".... 0,3.... 0,3");
    }

    private static void scrolling() {
        String what = "'S', 'T' scroll the region up or down by n' ";
        Check.due(what + "one less than all", behindRows(ESC + "[2;2H" + ESC + "[3S"), "mnop/..../..../.... 1,1");
        Check.due(what + "all", behindRows(ESC + "[2;2H" + ESC + "[4S"), "..../..../..../.... 1,1");
        Check.due(what + "more", behindRows(ESC + "[2;2H" + ESC + "[5S"), "..../..../..../.... 1,1");
        Check.due(what + "down, one less than all", behindRows(ESC + "[2;2H" + ESC + "[3T"), "..../..../..../abcd 1,1");
        Check.due(what + "down, all", behindRows(ESC + "[2;2H" + ESC + "[4T"), "..../..../..../.... 1,1");
        Check.due(what + "down, more", behindRows(ESC + "[2;2H" + ESC + "[9999T"), "..../..../..../.... 1,1");
        String region = ESC + "[2;3r";
        Check.due(what + "a region, all of it", behindRows(region + ESC + "[2S"), "abcd/..../..../mnop 0,0");
        Check.due(what + "a region, more", behindRows(region + ESC + "[9S"), "abcd/..../..../mnop 0,0");
        Check.due(what + "a region, down", behindRows(region + ESC + "[T"), "abcd/..../efgh/mnop 0,0");
        Check.due(what + "with the cursor outside", behindRows(region + ESC + "[4;4H" + ESC + "[S"),
                "abcd/ijkl/..../mnop 3,3");
        Check.due(what + "of one row", told(4, 1, "ab" + ESC + "[S") + told(4, 1, "ab" + ESC + "[T"),
                ".... 0,2.... 0,2");
        String ten = "a\r\nb\r\nc\r\nd\r\ne\r\nf\r\ng\r\nh\r\ni\r\nj";
        Check.due(what + "of ten rows", told(2, 10, ten + ESC + "[S"), "b./c./d./e./f./g./h./i./j./.. 9,1");
        Check.due(what + "of ten rows, down", told(2, 10, ten + ESC + "[T"), "../a./b./c./d./e./f./g./h./i. 9,1");
    }

    private static String region(int height, String numbers) {
        TerminalWeir t = Check.sized(4, height, ESC + "[" + height + ";3H" + ESC + "[" + numbers + "r");
        return Check.region(t) + " " + Check.cursor(t);
    }

    private static void regions() {
        String what = "'the last row if that is 0, none or beyond' ";
        for (String numbers : new String[] {"2", "2;", "2;0", "2;4", "2;5", "2;9999"}) {
            Check.due(what + numbers, region(4, numbers), "1-3 0,0");
        }
        for (String numbers : new String[] {"", "0", ";", "0;0", "1", "1;4", ";9"}) {
            Check.due(what + numbers, region(4, numbers), "0-3 0,0");
        }
        what = "'if it has two rows at least' ";
        Check.due(what + "just two", region(4, "1;2") + " " + region(4, "3;4") + " " + region(4, "3"),
                "0-1 0,0 2-3 0,0 2-3 0,0");
        for (String numbers : new String[] {"1;1", "0;1", ";1", "2;2", "4", "4;4", "4;9", "5", "5;6", "9999", "3;2",
                "4;1"}) {
            Check.due(what + "not " + numbers, region(4, numbers), "0-3 3,2");
        }
        Check.due(what + "of two rows", region(2, "1;2") + " " + region(2, "2"), "0-1 0,0 0-1 1,2");
        Check.due(what + "of one row", region(1, "") + " " + region(1, "1;1"), "0-0 0,2 0-0 0,2");
        Check.due(what + "of ten rows", region(10, "9;10") + " " + region(10, "10"), "8-9 0,0 0-9 9,2");
        Check.due(what + "else the one made ahead stays", region(4, "2;3r" + ESC + "[3;3"), "1-2 0,0");
        what = "'the cursor goes to its place 0 and 0' ";
        Check.due(what + "by the origin", cursor(4, 4, ESC + "[?6h" + ESC + "[3;4r"), "2,0");
        Check.due(what + "without it", cursor(4, 4, "ab\n" + ESC + "[3;4r"), "0,0");
    }

    private static void takingTabs() {
        String tabs = "\t" + ESC + "[g";
        Check.due("'g' takes the tab at the column away with 0'", Check.tabs(Check.sized(12, 1, tabs)), "T-----------");
        Check.due("'at the column', none there", Check.tabs(Check.sized(12, 1, "a" + ESC + "[g")), "T-------T---");
        Check.due("'at the column', the first", Check.tabs(Check.sized(12, 1, ESC + "[0g")), "--------T---");
        Check.due("'at the column', the last", Check.tabs(Check.sized(9, 1, "\t" + ESC + "[g")), "T--------");
        Check.due("'all with 3'", Check.tabs(Check.sized(20, 1, ESC + "[3g")), "--------------------");
        Check.due("'all with 3', none there", Check.tabs(Check.sized(20, 1, ESC + "[3g" + ESC + "[3g")),
                "--------------------");
        for (String number : new String[] {"1", "2", "4", "9999"}) {
            Check.due("not with " + number, Check.tabs(Check.sized(12, 1, ESC + "[" + number + "g")), "T-------T---");
        }
    }

    private static void startingAnew() {
        String what = "'makes all .. as at first, the back pages staying' ";
        TerminalWeir t = Check.sized(20, 10, "\n\n\n\n\n\n\n\n\n\n\n" + ESC + "[3g" + ESC + "[2;3r" + ESC + "c");
        Check.due(what, Check.tabs(t) + Check.region(t) + " " + t.back() + " " + Check.cursor(t),
                "T-------T-------T---0-9 2 0,0");
        t = Check.written(4, 2, ESC + "[?1049hab" + ESC + "c\u0301");
        Check.due(what + "the second screen went", t.isSecond() + Check.screen(t) + Check.marks(t), "false..../....");
        Check.feed(t, ESC + "[?1049h");
        Check.due(what + "it is blank as it comes", Check.screen(t), "..../....");
        t = Check.written(4, 2, "a" + ESC + "c\u0301");
        Check.due(what + "no character was written last", Check.marks(t), "");
        t = Check.sized(4, 2, ESC + "[?6h" + ESC + "[1;47m" + "ab" + ESC + "7" + ESC + "[4h" + ESC + "[?7;25l" + ESC
                + "c");
        Check.due(what + "modes and pen", "" + t.isSet(4) + t.isSet(6) + t.isSet(7) + t.isShown() + t.pen(),
                "falsefalsetruetrue0");
        Check.feed(t, "cd" + ESC + "8");
        Check.due(what + "the cursor kept", Check.cursor(t) + t.pen() + t.isSet(6), "0,00false");
        t = Check.sized(4, 2, "abcde" + ESC + "c");
        Check.due(what + "no row is told as wrapped", Check.screen(t), "..../....");
    }
}
