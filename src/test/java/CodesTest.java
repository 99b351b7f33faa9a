/** Promises 2, 10, 11, 16 to 29 in what the terms Codes, Styles, Modes and Replies say. */
public final class CodesTest {
    private static final String ESC = Check.ESC + "";

    private CodesTest() {
    }

    public static void main(String[] arguments) {
        controls();
        tabs();
        cancelling();
        shortCodes();
        savedCursor();
        rowsOfNumbers();
        spoilt();
        moves();
        movesByOrigin();
        erasing();
        erasingHalves();
        movingCells();
        styles();
        modes();
        replies();
        titles();
        startingAnew();
        Check.end();
    }

    private static String cursor(String bytes) {
        return Check.cursor(Check.fed(bytes));
    }

    private static void controls() {
        Check.due("10 rings", Check.fed("\u0007\u0007").rings(), 2);
        Check.due("21 back", cursor("ab\b"), "0,1");
        Check.due("21 back no further", cursor("\b"), "0,0");
        Check.due("20 new line", cursor("ab\n"), "1,2");
        Check.due("20 11", cursor("ab\u000b"), "1,2");
        Check.due("20 12", cursor("ab\f"), "1,2");
        Check.due("21 13", cursor("ab\r"), "0,0");
        for (int i = 0; i < 32; i++) {
            if (i < 7 || i > 13 && i != 27) {
                TerminalWeir t = Check.fed("ab");
                t.feed(i);
                Check.due("2 nothing by " + i, Check.screen(t) + Check.cursor(t),
                        "ab........../............/............/............0,2");
            }
        }
    }

    private static void tabs() {
        Check.due("26 next", cursor("\t"), "0,8");
        Check.due("26 from a tab on", cursor("\t\t"), "0,11");
        Check.due("26 last column", cursor("\t\t\t"), "0,11");
        TerminalWeir t = Check.sized(20, 4, "\t\t");
        Check.due("26 at 16", Check.cursor(t), "0,16");
        t = Check.fed(ESC + "[1;4H" + ESC + "H\r\t");
        Check.due("26 set", Check.cursor(t) + t.hasTab(3), "0,3true");
        Check.code(t, "g");
        Check.due("26 taken", t.hasTab(3), false);
        Check.code(t, "1;9H");
        Check.code(t, "1g");
        Check.code(t, "2g");
        Check.due("26 1 and 2 do nothing", t.hasTab(8), true);
        Check.code(t, "0g");
        Check.due("26 taken by 0", t.hasTab(8), false);
        Check.due("26 others stay", t.hasTab(0), true);
        Check.code(t, "3g");
        Check.due("26 all taken", t.hasTab(0), false);
        Check.feed(t, "\r\t");
        Check.due("26 none is left", Check.cursor(t), "0,11");
        t.size(20, 4);
        Check.due("26 as at first with a size", "" + t.hasTab(0) + t.hasTab(8) + t.hasTab(16), "truetruetrue");
    }

    private static void cancelling() {
        Check.due("2 24 behind 27", cursor(ESC + "\u0018D"), "0,1");
        Check.due("2 26 in numbers", Check.line(Check.fed(ESC + "[2;2\u001aH"), 0), "H...........");
        Check.due("2 24 in a string", Check.title(Check.fed(ESC + "]0;ab\u0018\u0007")), "");
        Check.due("2 24 in a string, then bytes", Check.line(Check.fed(ESC + "]0;ab\u0018cd"), 0), "cd..........");
        Check.due("2 27 in numbers", cursor(ESC + "[2;2" + ESC + "[3;3H"), "2,2");
        Check.due("2 27 behind 27", cursor(ESC + ESC + "[3;3H"), "2,2");
        Check.due("2 27 behind 27, then plain", cursor(ESC + ESC + "Dx"), "1,1");
    }

    private static void shortCodes() {
        Check.due("20 D", cursor("ab" + ESC + "D"), "1,2");
        Check.due("20 E", cursor("ab" + ESC + "E"), "1,0");
        Check.due("20 M", cursor("\nab" + ESC + "M"), "0,2");
        Check.due("2 over behind one byte", Check.line(Check.fed(ESC + "zab"), 0), "ab..........");
        Check.due("2 a byte below 32 is of the code", cursor(ESC + "\nab"), "0,2");
        Check.due("2 7 there does not ring", Check.fed(ESC + "\u0007").rings(), 0);
        Check.due("2 a byte from 128 on too", Check.line(Check.fed(ESC + "\u00c3a"), 0), "a...........");
        Check.due("2 a backslash", Check.line(Check.fed(ESC + "\\a"), 0), "a...........");
    }

    private static void savedCursor() {
        TerminalWeir t = Check.fed("\nab" + ESC + "[1;33m" + ESC + "7" + ESC + "[4;5H" + ESC + "[m" + ESC + "8");
        Check.due("20 taken again", Check.cursor(t) + " " + t.pen(), "1,2 65");
        Check.due("25 twice", Check.cursor(Check.fed("ab" + ESC + "7\n\n" + ESC + "8\n" + ESC + "8")), "0,2");
        t = Check.fed("abc" + ESC + "[7m" + ESC + "[?6h\nab" + ESC + "8");
        Check.due("20 at first as at the beginning", Check.cursor(t) + t.pen() + t.isSet(6), "0,00false");
        t = Check.fed("abcdefghijkl" + ESC + "7" + ESC + "[3;3H" + ESC + "8");
        Check.due("22 the waiting", Check.cursor(t), "0,11 waits");
        t.size(20, 4);
        Check.feed(t, ESC + "8");
        Check.due("22 in its last column alone", Check.cursor(t), "0,11");
        t.size(6, 4);
        Check.feed(t, ESC + "8");
        Check.due("22 within the screen", Check.cursor(t), "0,5 waits");
        t = Check.fed(ESC + "[4;12H" + ESC + "7");
        t.size(5, 2);
        Check.feed(t, ESC + "8");
        Check.due("20 within the screen", Check.cursor(t), "1,4");
        t = Check.fed(ESC + "[2;4r" + ESC + "[?6h" + ESC + "7" + ESC + "[?6l" + ESC + "8");
        Check.due("28 the origin", Check.cursor(t) + t.isSet(6), "1,0true");
        t = Check.fed("a" + ESC + "7" + ESC + "8");
        Check.write(t, "\u0301");
        TerminalWeir again = t;
        Check.refused("18 no mark behind it", t, java.util.NoSuchElementException.class, () -> again.mark(0, 0));
    }

    private static void rowsOfNumbers() {
        Check.due("2 none", cursor("\n\nab" + ESC + "[H"), "0,0");
        Check.due("2 one", cursor(ESC + "[3H"), "2,0");
        Check.due("2 the second alone", cursor(ESC + "[;3H"), "0,2");
        Check.due("2 zeros", cursor("\n\nab" + ESC + "[0;0H"), "0,0");
        Check.due("2 zeros ahead", cursor(ESC + "[0003;04H"), "2,3");
        Check.due("2 beyond", cursor(ESC + "[99999999999;99999999999H"), "3,11");
        Check.due("2 eight numbers", Check.fed(ESC + "[0;0;0;0;0;0;0;1m").pen(), 1);
        Check.due("2 no ninth", Check.fed(ESC + "[0;0;0;0;0;0;0;0;1m").pen(), 0);
        Check.due("2 the eighth is not gone on with", Check.fed(ESC + "[0;0;0;0;0;0;0;1;4;4m").pen(), 1);
        Check.due("2 9999 at most", Check.fed(ESC + "[?10491049h").isSecond(), false);
        Check.due("2 bytes below 32", cursor(ESC + "[2\n\r\u0007;3H"), "1,2");
        Check.due("2 31", cursor(ESC + "[2\u001f;3H"), "1,2");
        Check.due("10 no ring there", Check.fed(ESC + "[2\u0007;3H").rings(), 0);
        Check.due("2 127 and beyond", cursor(ESC + "[2\u007f\u00c3\u0080;\u00ff3H"), "1,2");
        Check.due("2 126 ends it", Check.line(Check.fed(ESC + "[2~3H"), 0), "3H..........");
        Check.due("2 64 ends it", Check.line(Check.fed("ab\b\b" + ESC + "[@3"), 0), "3ab.........");
    }

    private static void spoilt() {
        for (String sign : new String[] {" ", "!", "/", "+", ":", "<", "=", ">"}) {
            Check.due("2 spoilt by " + sign, cursor(ESC + "[" + sign + "2;3H"), "0,0");
            Check.due("2 spoilt behind a number by " + sign, cursor(ESC + "[2;3" + sign + "H"), "0,0");
        }
        Check.due("2 over then", Check.line(Check.fed(ESC + "[2 Hx"), 0), "x...........");
        Check.due("2 '?' not ahead", Check.fed(ESC + "[1049?h").isSecond(), false);
        Check.due("2 '?' twice", Check.fed(ESC + "[??1049h").isSecond(), false);
        Check.due("2 '?' behind ';'", Check.fed(ESC + "[;?1049h").isSecond(), false);
        Check.due("2 '?' ahead", Check.fed(ESC + "[?1049h").isSecond(), true);
        Check.due("2 with '?' no 'H'", cursor(ESC + "[?2;3H"), "0,0");
        Check.due("2 with '?' no 'm'", Check.fed(ESC + "[?1m").pen(), 0);
        Check.due("2 with '?' no 'n'", Check.fed(ESC + "[?6n").sent(), 0);
        Check.due("2 with '?' no 'J'", Check.line(Check.fed("ab" + ESC + "[?2J"), 0), "ab..........");
        Check.due("2 the next one is not spoilt", cursor(ESC + "[ H" + ESC + "[2;2H"), "1,1");
        Check.due("2 nor asked", cursor(ESC + "[?H" + ESC + "[2;2H"), "1,1");
    }

    private static void moves() {
        Check.due("20 A", cursor(ESC + "[4;5H" + ESC + "[2A"), "1,4");
        Check.due("20 A with 0", cursor(ESC + "[4;5H" + ESC + "[0A"), "2,4");
        Check.due("20 A at the top", cursor(ESC + "[2;5H" + ESC + "[9A"), "0,4");
        Check.due("20 B", cursor(ESC + "[2B"), "2,0");
        Check.due("20 B without", cursor(ESC + "[B"), "1,0");
        Check.due("20 B at the bottom", cursor(ESC + "[9999B"), "3,0");
        Check.due("21 C", cursor(ESC + "[3C"), "0,3");
        Check.due("21 C at the end", cursor(ESC + "[9999C"), "0,11");
        Check.due("21 D", cursor(ESC + "[1;9H" + ESC + "[3D"), "0,5");
        Check.due("21 D at the beginning", cursor(ESC + "[1;9H" + ESC + "[9999D"), "0,0");
        Check.due("21 G", cursor("\n" + ESC + "[5G"), "1,4");
        Check.due("21 G beyond", cursor("\n" + ESC + "[13G"), "1,11");
        Check.due("21 G without", cursor("\nabc" + ESC + "[G"), "1,0");
        Check.due("20 d", cursor("abc" + ESC + "[3d"), "2,3");
        Check.due("20 d beyond", cursor("abc" + ESC + "[5d"), "3,3");
        Check.due("20 H beyond", cursor(ESC + "[5;13H"), "3,11");
        String region = ESC + "[2;3r";
        Check.due("20 A from within", cursor(region + ESC + "[3;1H" + ESC + "[9A"), "1,0");
        Check.due("20 B from within", cursor(region + ESC + "[2;1H" + ESC + "[9B"), "2,0");
        Check.due("20 A from below", cursor(region + ESC + "[4;1H" + ESC + "[9A"), "0,0");
        Check.due("20 B from above", cursor(region + ESC + "[1;1H" + ESC + "[9B"), "3,0");
        Check.due("20 A from above", cursor(region + ESC + "[1;1H" + ESC + "[9A"), "0,0");
        Check.due("20 B from below", cursor(region + ESC + "[4;1H" + ESC + "[9B"), "3,0");
    }

    private static void movesByOrigin() {
        String origin = ESC + "[2;3r" + ESC + "[?6h";
        Check.due("20 at its place", cursor(origin), "1,0");
        Check.due("20 H", cursor(origin + ESC + "[2;4H"), "2,3");
        Check.due("20 H beyond", cursor(origin + ESC + "[3;4H"), "2,3");
        Check.due("20 d", cursor(origin + ESC + "[2d"), "2,0");
        Check.due("20 d beyond", cursor(origin + ESC + "[9d"), "2,0");
        Check.due("20 d without", cursor(origin + "\n" + ESC + "[d"), "1,0");
        Check.due("20 without the origin", cursor(origin + "\nab" + ESC + "[?6l"), "0,0");
        Check.due("20 r goes to its place", cursor(origin + ESC + "[3;4r"), "2,0");
        Check.due("20 set again, it goes there again", cursor(origin + "\nab" + ESC + "[?6h"), "1,0");
    }

    private static TerminalWeir filled() {
        return Check.sized(4, 4, "abcdefghijklmnop" + ESC + "[2;2H" + ESC + "[45;31m");
    }

    private static String afterFilled(String rest) {
        TerminalWeir t = filled();
        Check.code(t, rest);
        return Check.screen(t) + " " + Check.cursor(t);
    }

    private static void erasing() {
        Check.due("16 J", afterFilled("J"), "abcd+/e.../..../.... 1,1");
        Check.due("16 0J", afterFilled("0J"), "abcd+/e.../..../.... 1,1");
        Check.due("16 1J", afterFilled("1J"), "..../..gh+/ijkl+/mnop 1,1");
        Check.due("16 2J", afterFilled("2J"), "..../..../..../.... 1,1");
        Check.due("16 3J", afterFilled("3J"), "abcd+/efgh+/ijkl+/mnop 1,1");
        Check.due("16 K", afterFilled("K"), "abcd+/e.../ijkl+/mnop 1,1");
        Check.due("16 1K", afterFilled("1K"), "abcd+/..gh+/ijkl+/mnop 1,1");
        Check.due("16 2K", afterFilled("2K"), "abcd+/..../ijkl+/mnop 1,1");
        Check.due("16 3K", afterFilled("3K"), "abcd+/efgh+/ijkl+/mnop 1,1");
        Check.due("16 X", afterFilled("X"), "abcd+/e.gh+/ijkl+/mnop 1,1");
        Check.due("16 2X", afterFilled("2X"), "abcd+/e..h+/ijkl+/mnop 1,1");
        Check.due("16 3X", afterFilled("3X"), "abcd+/e.../ijkl+/mnop 1,1");
        Check.due("16 9999X", afterFilled("9999X"), "abcd+/e.../ijkl+/mnop 1,1");
        TerminalWeir t = filled();
        Check.code(t, "X");
        Check.due("17 the background alone", Check.styles(t, 1), "0,1536,0,0");
        Check.code(t, "2J");
        Check.due("17 in all", Check.styles(t, 3), "1536,1536,1536,1536");
        t = filled();
        Check.code(t, "2;4H");
        Check.code(t, "1J");
        Check.due("19 to the last cell", Check.screen(t), "..../..../ijkl+/mnop");
        t = filled();
        Check.code(t, "2;4H");
        Check.code(t, "1K");
        Check.due("19 in the row to the last cell", Check.screen(t), "abcd+/..../ijkl+/mnop");
    }

    private static String wideRow(String rest) {
        TerminalWeir t = new TerminalWeir();
        Check.write(t, "a\u4e00b\u4e01c");
        Check.code(t, rest);
        return Check.line(t, 0);
    }

    private static void erasingHalves() {
        Check.due("16 X of a first half", wideRow("1;2H" + ESC + "[X"), "a..b\u4e01<c.....");
        Check.due("16 X of a second half", wideRow("1;3H" + ESC + "[X"), "a..b\u4e01<c.....");
        Check.due("16 X across", wideRow("1;3H" + ESC + "[3X"), "a.....c.....");
        Check.due("16 K behind", wideRow("1;6H" + ESC + "[K"), "a\u4e00<b........");
        Check.due("16 1K ahead", wideRow("1;2H" + ESC + "[1K"), "...b\u4e01<c.....");
        Check.due("16 @ between halves", wideRow("1;3H" + ESC + "[@"), "a...b\u4e01<c....");
        Check.due("16 @ ahead", wideRow("1;2H" + ESC + "[@"), "a.\u4e00<b\u4e01<c....");
        Check.due("16 P of a first half", wideRow("1;2H" + ESC + "[P"), "a.b\u4e01<c......");
        Check.due("16 P of a second half", wideRow("1;3H" + ESC + "[P"), "a.b\u4e01<c......");
        Check.due("16 P to between halves", wideRow("1;4H" + ESC + "[2P"), "a\u4e00<.c.......");
        Check.due("16 @ over the edge", wideRow("1;1H" + ESC + "[7@"), ".......a\u4e00<b.");
        Check.due("16 P of all", wideRow("1;1H" + ESC + "[9999P"), "............");
        Check.due("16 @ of all", wideRow("1;1H" + ESC + "[9999@"), "............");
    }

    private static void movingCells() {
        Check.due("16 @", afterFilled("@"), "abcd+/e.fg+/ijkl+/mnop 1,1");
        Check.due("16 2@", afterFilled("2@"), "abcd+/e..f+/ijkl+/mnop 1,1");
        Check.due("16 9@", afterFilled("9@"), "abcd+/e...+/ijkl+/mnop 1,1");
        Check.due("16 P", afterFilled("P"), "abcd+/egh./ijkl+/mnop 1,1");
        Check.due("16 9P", afterFilled("9P"), "abcd+/e.../ijkl+/mnop 1,1");
        TerminalWeir t = filled();
        Check.code(t, "@");
        Check.due("17 @", Check.styles(t, 1), "0,1536,0,0");
        t = filled();
        Check.code(t, "2P");
        Check.due("17 P", Check.styles(t, 1), "0,0,1536,1536");
        Check.due("19 P", t.isWrapped(1), false);
    }

    private static int pen(String numbers) {
        return Check.fed(ESC + "[" + numbers + "m").pen();
    }

    private static void styles() {
        Check.due("25 bold", pen("1"), 1);
        Check.due("25 line", pen("4"), 2);
        Check.due("25 turned", pen("7"), 4);
        Check.due("25 not bold", pen("1;4;7;22"), 6);
        Check.due("25 no line", pen("1;4;7;24"), 5);
        Check.due("25 not turned", pen("1;4;7;27"), 3);
        for (int i = 0; i < 8; i++) {
            Check.due("25 colour " + i, pen("" + (30 + i)), 16 * (i + 1));
            Check.due("25 background " + i, pen("" + (40 + i)), 256 * (i + 1));
        }
        Check.due("25 all", pen("1;4;7;37;47"), 7 + 16 * 8 + 256 * 8);
        Check.due("25 no colour", pen("1;37;47;39"), 1 + 256 * 8);
        Check.due("25 no background", pen("1;37;47;49"), 1 + 16 * 8);
        Check.due("25 another colour", pen("37;30"), 16);
        Check.due("25 another background", pen("47;40"), 256);
        Check.due("25 0", pen("1;31;0"), 0);
        Check.due("25 an empty one", pen("1;31;"), 0);
        Check.due("25 in turn", pen("1;0;4"), 2);
        Check.due("25 none", Check.fed(ESC + "[1;31m" + ESC + "[m").pen(), 0);
        Check.due("25 unknown ones beside a colour", pen("31;41;28;29;38;48;50;107;9999"), 16 * 2 + 256 * 2);
        Check.due("25 unknown ones", pen("1;2;3;5;6;8;38;48;90;100"), 1);
    }

    private static void modes() {
        TerminalWeir t = Check.fed(ESC + "[4;6;7h");
        Check.due("28 without '?' 4 alone", "" + t.isSet(4) + t.isSet(6), "truefalse");
        Check.code(t, "?4l");
        Check.due("28 with '?' not 4", t.isSet(4), true);
        Check.code(t, "?25;7;6l");
        Check.due("28 each number", "" + t.isShown() + t.isSet(7), "falsefalse");
        Check.code(t, "4;4l");
        Check.due("28 ended", t.isSet(4), false);
        Check.code(t, "?7;6;25h");
        Check.due("28 set", "" + t.isShown() + t.isSet(7) + t.isSet(6), "truetruetrue");
    }

    private static String sent(String bytes) {
        return Check.taken(Check.fed(bytes));
    }

    private static void replies() {
        Check.due("11 5n", sent(ESC + "[5n"), ESC + "[0n");
        Check.due("11 6n", sent(ESC + "[3;12H" + ESC + "[6n"), ESC + "[3;12R");
        Check.due("11 as a wrap waits", sent("abcdefghijkl" + ESC + "[6n"), ESC + "[1;12R");
        Check.due("11 by the origin", sent(ESC + "[2;4r" + ESC + "[?6h\n" + ESC + "[6n"), ESC + "[2;1R");
        Check.due("11 without the origin", sent(ESC + "[2;4r\n" + ESC + "[6n"), ESC + "[2;1R");
        Check.due("11 others", sent(ESC + "[n" + ESC + "[1n" + ESC + "[7n"), "");
        Check.due("11 the first number alone", sent(ESC + "[5;6n"), ESC + "[0n");
        Check.due("11 by the origin, above the region", sent(ESC + "[?6h" + ESC + "7" + ESC + "[3;4r" + ESC + "8" + ESC
                + "[6n"), ESC + "[-1;1R");
        Check.due("11 by the origin, just above it", sent(ESC + "[?6h" + ESC + "7" + ESC + "[2;4r" + ESC + "8" + ESC
                + "[6n"), ESC + "[0;1R");
        TerminalWeir t = Check.sized(20, 10, ESC + "[10;20H" + ESC + "[6n");
        Check.due("11 the last place", Check.taken(t), ESC + "[10;20R");
    }

    private static String title(String bytes) {
        return Check.title(Check.fed(bytes));
    }

    private static void titles() {
        String twenty = "abcdefghijklmnopqrst";
        Check.due("29 by 7", title(ESC + "]0;ab\u0007"), "ab");
        Check.due("10 it does not ring", Check.fed(ESC + "]0;ab\u0007").rings(), 0);
        Check.due("29 by 27", title(ESC + "]2;ab" + ESC + "\\"), "ab");
        Check.due("29 the code behind it", cursor(ESC + "]2;ab" + ESC + "[3;3H"), "2,2");
        Check.due("29 not yet", title(ESC + "]0;ab"), "");
        Check.due("29 twenty", title(ESC + "]0;" + twenty + "\u0007"), twenty);
        Check.due("29 twenty at most", title(ESC + "]0;" + twenty + "uv\u0007"), twenty);
        Check.due("29 empty", title(ESC + "]0;ab\u0007" + ESC + "]0;\u0007"), "");
        Check.due("29 another one", title(ESC + "]0;abc\u0007" + ESC + "]2;d\u0007"), "d");
        Check.due("29 not 1", title(ESC + "]1;ab\u0007"), "");
        Check.due("29 not 00", title(ESC + "]00;ab\u0007"), "");
        Check.due("29 no ';'", title(ESC + "]0ab\u0007"), "");
        Check.due("29 nothing", title(ESC + "]0;ab\u0007" + ESC + "]\u0007" + ESC + "]0\u0007"), "ab");
        Check.due("29 32 and 126", title(ESC + "]0; ~;\u0007"), " ~;");
        Check.due("29 not 31", title(ESC + "]0;a\u001fb\u0007"), "");
        Check.due("29 not 127", title(ESC + "]0;a\u007fb\u0007"), "");
        Check.due("29 not 128", title(ESC + "]0;a\u0080b\u0007"), "");
        Check.due("29 not 10 behind twenty", title(ESC + "]0;" + twenty + "\n\u0007"), "");
        Check.due("16 nothing is written", Check.line(Check.fed(ESC + "]0;ab\u0007c"), 0), "c...........");
    }

    private static void startingAnew() {
        TerminalWeir t = Check.fed("ab\n\n\n\n\n" + ESC + "]0;t\u0007" + ESC + "[2;3r" + ESC + "[?6h" + ESC + "[4h"
                + ESC + "[?7l" + ESC + "[?25l" + ESC + "[1;41mxyz" + ESC + "7" + ESC + "H" + ESC + "[?1049h\u0007q");
        Check.feed(t, ESC + "c");
        Check.due("16 blank", Check.screen(t), "............/............/............/............");
        Check.due("17 no style", Check.styles(t, 0), "0,0,0,0,0,0,0,0,0,0,0,0");
        Check.due("20 cursor", Check.cursor(t), "0,0");
        Check.due("24 first", t.isSecond(), false);
        Check.due("23 shown", t.isShown(), true);
        Check.due("25 pen", t.pen(), 0);
        Check.due("27 region", t.region(true) + " " + t.region(false), "0 3");
        Check.due("28 modes", "" + t.isSet(4) + t.isSet(6) + t.isSet(7), "falsefalsetrue");
        Check.due("26 tabs", "" + t.hasTab(3) + t.hasTab(8), "falsetrue");
        Check.due("30 back pages stay", t.back() + Check.backLine(t, 0), "2ab..........");
        Check.due("29 the title stays", Check.title(t), "t");
        Check.due("10 rings stay", t.rings(), 1);
        Check.feed(t, "abc" + ESC + "8");
        Check.due("20 nothing is kept", Check.cursor(t), "0,0");
        t = Check.sized(5, 3, "ab" + ESC + "c");
        Check.due("14 the size stays", t.width() + " " + t.height() + " " + t.region(false), "5 3 2");
    }
}
