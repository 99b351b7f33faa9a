import java.util.NoSuchElementException;

/** Boundary cases that "Styles", "Modes", "Replies" and "Back pages" name, each told by the document's own words. */
public final class EdgesOfModesTest {
    private static final String ESC = Check.ESC + "";
    private static final String SECOND = ESC + "[?1049h";
    private static final String FIRST = ESC + "[?1049l";

    private EdgesOfModesTest() {
    }

    public static void main(String[] arguments) {
        everyStyle();
        stylesSummed();
        modesAtFirst();
        otherModes();
        originsPlace();
        setAgain();
        secondComes();
        firstComesAgain();
        keptForThisAlone();
        replies();
        repliesFull();
        titleLengths();
        titleTexts();
        titleEnds();
        whatGoesToBackPages();
        whatDoesNot();
        thirtyRows();
        Check.end();
    }

    /** What the document says of one number, one part of the pen after the other. */
    private static int styled(int bold, int line, int turned, int colour, int background, int number) {
        if (number == 0) {
            return 0;
        }
        int nowBold = number == 1 ? 1 : number == 22 ? 0 : bold;
        int nowLine = number == 4 ? 1 : number == 24 ? 0 : line;
        int nowTurned = number == 7 ? 1 : number == 27 ? 0 : turned;
        int nowColour = number >= 30 && number <= 37 ? number - 29 : number == 39 ? 0 : colour;
        int nowBackground = number >= 40 && number <= 47 ? number - 39 : number == 49 ? 0 : background;
        return nowBold + 2 * nowLine + 4 * nowTurned + 16 * nowColour + 256 * nowBackground;
    }

    private static void everyStyle() {
        for (int number = 0; number <= 120; number++) {
            Check.due("'each number' " + number, Check.fed(ESC + "[" + number + "m").pen(),
                    styled(0, 0, 0, 0, 0, number));
            Check.due("'each number', all ahead " + number, Check.fed(ESC + "[1;4;7;35;42;" + number + "m").pen(),
                    styled(1, 1, 1, 6, 3, number));
        }
        for (int number : new int[] {256, 1000, 1049, 9999}) {
            Check.due("'each number' " + number, Check.fed(ESC + "[1;30;47m" + ESC + "[" + number + "m").pen(),
                    1 + 16 + 8 * 256);
        }
    }

    private static void stylesSummed() {
        Check.due("'summed', the greatest", Check.fed(ESC + "[1;4;7;37;47m").pen(), 7 + 16 * 8 + 256 * 8);
        Check.due("'summed', twice the same", Check.fed(ESC + "[1;1;4;4;7;7;37;37;47;47m").pen(), 7 + 16 * 8);
        Check.due("'without' what is not there", Check.fed(ESC + "[22;24;27;39;49m").pen(), 0);
        Check.due("a row that is spoilt styles nothing", Check.fed(ESC + "[1m" + ESC + "[0:m").pen(), 1);
        Check.due("the pen's style is that of cells from then on",
                Check.styles(Check.sized(4, 1, "a" + ESC + "[7mb" + ESC + "[mc"), 0), "0,4,0,0");
    }

    private static String modes(TerminalWeir t) {
        return "" + t.isSet(4) + t.isSet(6) + t.isSet(7) + t.isShown() + t.isSecond();
    }

    private static void modesAtFirst() {
        Check.due("'wrapping, on at first', 'the cursor is shown, at first'", modes(new TerminalWeir()),
                "falsefalsetruetruefalse");
        Check.due("all the other way",
                modes(Check.fed(ESC + "[4h" + ESC + "[?6h" + ESC + "[?7l" + ESC + "[?25l" + SECOND)),
                "truetruefalsefalsetrue");
        Check.due("and again", modes(Check.fed(ESC + "[4h" + ESC + "[?6;1049h" + ESC + "[?7;25l" + ESC + "[4l"
                + ESC + "[?7;25h" + ESC + "[?1049;6l")), "falsefalsetruetruefalse");
    }

    private static void otherModes() {
        for (int mode : new int[] {0, 1, 2, 3, 4, 5, 8, 24, 26, 47, 1047, 1048, 1050, 9999}) {
            for (String end : new String[] {"h", "l"}) {
                TerminalWeir t = Check.sized(4, 2, "abcd");
                String before = Check.seen(t);
                Check.code(t, "?" + mode + end);
                Check.due("no such mode with '?' " + mode + end, Check.seen(t), before);
            }
        }
        for (int mode : new int[] {0, 1, 2, 3, 5, 6, 7, 8, 20, 25, 1049, 9999}) {
            for (String insertion : new String[] {ESC + "[4h", ""}) {
                TerminalWeir t = Check.sized(4, 2, insertion + "abcd");
                String before = Check.seen(t);
                Check.code(t, mode + "h");
                Check.code(t, mode + "l");
                Check.due("no such mode " + mode, Check.seen(t), before);
            }
        }
        TerminalWeir t = Check.sized(4, 2, ESC + "[4habcd" + ESC + "[4n" + ESC + "[4m");
        Check.due("'4 insertion', by 'h' and 'l' alone", t.isSet(4) + Check.cursor(t), "true0,3 waits");
    }

    private static void originsPlace() {
        String what = "'the origin, by which and without which the cursor goes to its place 0 and 0' ";
        String region = ESC + "[2;3r" + ESC + "[4;3H";
        Check.due(what + "set", Check.cursor(Check.sized(4, 4, region + ESC + "[?6h")), "1,0");
        Check.due(what + "ended", Check.cursor(Check.sized(4, 4, region + ESC + "[?6h\n" + ESC + "[?6l")), "0,0");
        Check.due(what + "set again", Check.cursor(Check.sized(4, 4, region + ESC + "[?6h\nab" + ESC + "[?6h")), "1,0");
        Check.due(what + "ended already", Check.cursor(Check.sized(4, 4, region + ESC + "[?6l")), "0,0");
        Check.due(what + "of the whole screen", Check.cursor(Check.sized(4, 4, ESC + "[4;4H" + ESC + "[?6h")), "0,0");
        TerminalWeir t = Check.sized(4, 4, region + ESC + "[?6h");
        t.size(4, 3);
        Check.due("the origin stays with another size, the region is the screen", t.isSet(6) + Check.region(t),
                "true0-2");
    }

    private static void setAgain() {
        String what = "'being set already, or ended, nothing' ";
        TerminalWeir t = Check.sized(4, 3, "ab" + SECOND + "cd" + ESC + "[1;31m" + ESC + "[2;2Hx");
        String before = Check.seen(t);
        Check.feed(t, SECOND);
        Check.due(what + "set", Check.seen(t), before);
        Check.feed(t, FIRST);
        Check.due(what + "the cursor kept is that of the first time", Check.cursor(t) + " " + t.pen() + Check.screen(t),
                "0,2 0ab../..../....");
        Check.feed(t, ESC + "[3;3H" + ESC + "[1m");
        before = Check.seen(t);
        Check.feed(t, FIRST);
        Check.due(what + "ended", Check.seen(t), before);
        t = Check.sized(4, 3, "ab" + FIRST);
        Check.due(what + "never set", Check.cursor(t) + Check.screen(t), "0,2ab../..../....");
    }

    private static void secondComes() {
        TerminalWeir t = Check.sized(4, 3, "abcde" + ESC + "[4h" + ESC + "[?6h" + ESC + "[?7;25l" + ESC + "[3g" + ESC
                + "[2;3r"
                + ESC + "[1;42m\n" + SECOND);
        Check.due("'comes, blank without style'", Check.screen(t) + Check.styles(t, 0) + Check.styles(t, 2),
                "..../..../....0,0,0,00,0,0,0");
        Check.due("'with the cursor, the region and all else as they are'",
                Check.cursor(t) + " " + t.pen() + Check.region(t) + Check.tabs(t) + modes(t),
                        "2,0 7691-2----truetruefalsefalsetrue");
        t = Check.sized(4, 3, SECOND + "abcd" + FIRST + SECOND);
        Check.due("'comes, blank', what was there is gone", Check.screen(t), "..../..../....");
        t = Check.sized(4, 2, "abcd" + SECOND);
        Check.due("a wrap waits no longer", Check.cursor(t), "0,3");
        Check.feed(t, "x");
        Check.due("it is written to the last column", Check.screen(t), "...x/....");
    }

    private static void firstComesAgain() {
        String what = "'the first one comes again, with the cursor kept' ";
        TerminalWeir t = Check.sized(4, 3, "abcde" + ESC + "[1;4H" + ESC + "[31m" + SECOND + ESC + "[m" + ESC
                + "[2Jxyz\r\n\n\n\n" + FIRST);
        Check.due(what, Check.screen(t) + " " + Check.cursor(t) + " " + t.pen() + " " + t.back(),
                "abcd+/e.../.... 0,3 32 0");
        t = Check.sized(4, 3, "abcd" + SECOND + "\r" + FIRST + "x");
        Check.due(what + "its waiting", Check.screen(t), "abcd+/x.../....");
        t = Check.sized(4, 3, ESC + "[?6h" + SECOND + ESC + "[?6l" + FIRST);
        Check.due(what + "its origin", t.isSet(6), true);
        t = Check.sized(4, 3, ESC + "[3;4H" + SECOND);
        t.size(2, 2);
        Check.feed(t, FIRST);
        Check.due(what + "within the screen", Check.cursor(t), "1,1");
        t = Check.sized(4, 3, SECOND + ESC + "[4h" + ESC + "[?7l" + ESC + "[2;3r" + ESC + "[3g" + FIRST);
        Check.due(what + "all else as it is", modes(t) + Check.region(t) + Check.tabs(t),
                "truefalsefalsetruefalse1-2----");
    }

    private static void keptForThisAlone() {
        String what = "'kept as by '7', for this alone' ";
        TerminalWeir t = Check.sized(4, 3, "a" + ESC + "7b" + SECOND + "\n" + ESC + "8");
        Check.due(what + "'8' takes what '7' kept", Check.cursor(t), "0,1");
        t = Check.sized(4, 3, "ab" + SECOND + "\n" + ESC + "7" + FIRST);
        Check.due(what + "'7' does not keep for it", Check.cursor(t), "0,2");
        t = Check.sized(4, 3, "ab" + SECOND + FIRST + "\n" + ESC + "8");
        Check.due(what + "it does not keep for '8'", Check.cursor(t), "0,0");
        t = Check.sized(4, 3, "ab" + SECOND + FIRST + ESC + "[3;3H" + SECOND + "\r" + FIRST);
        Check.due(what + "each time anew", Check.cursor(t), "2,2");
    }

    private static String sent(int width, int height, String bytes) {
        return Check.taken(Check.sized(width, height, bytes)).replace(ESC, "^");
    }

    private static void replies() {
        String what = "''n' with 6', 'from 1' ";
        Check.due(what + "the first place", sent(20, 10, ESC + "[6n"), "^[1;1R");
        Check.due(what + "the last place", sent(20, 10, ESC + "[99;99H" + ESC + "[6n"), "^[10;20R");
        Check.due(what + "9 and 9, 10 and 10",
                sent(20, 10, ESC + "[9;9H" + ESC + "[6n" + ESC + "[10;10H" + ESC + "[6n"), "^[9;9R^[10;10R");
        Check.due(what + "as a wrap waits", sent(2, 1, "ab" + ESC + "[6n"), "^[1;2R");
        what = "'by the origin from the region' ";
        Check.due(what + "its first row", sent(4, 4, ESC + "[2;3r" + ESC + "[?6h" + ESC + "[6n"), "^[1;1R");
        Check.due(what + "its last row", sent(4, 4, ESC + "[2;3r" + ESC + "[?6h" + ESC + "[9;9H" + ESC + "[6n"),
                "^[2;4R");
        Check.due(what + "the row above it",
                sent(4, 4, ESC + "[?6h" + ESC + "7" + ESC + "[2;3r" + ESC + "8" + ESC + "[6n"), "^[0;1R");
        Check.due(what + "two rows above it",
                sent(4, 4, ESC + "[?6h" + ESC + "7" + ESC + "[3;4r" + ESC + "8" + ESC + "[6n"), "^[-1;1R");
        Check.due("'with 5'", sent(4, 4, "ab" + ESC + "[5n"), "^[0n");
        for (String number : new String[] {"", "0", "1", "4", "7", "9999", "0;6", ";5", "?5", "?6", "5 ", "6:"}) {
            Check.due("no reply with " + number, sent(4, 4, ESC + "[" + number + "n"), "");
        }
        TerminalWeir t = Check.sized(4, 4, "");
        t.key('k');
        Check.code(t, "5n");
        t.key(13);
        Check.due("replies and lines in turn", Check.taken(t).replace(ESC, "^"), "^[0nk\n");
    }

    private static void repliesFull() {
        TerminalWeir t = new TerminalWeir();
        Check.feed(t, (ESC + "[5n").repeat(49));
        Check.code(t, "6n");
        Check.due("'at most 200 are kept, further ones are lost', a reply in part", t.sent(), 200);
        Check.code(t, "5n");
        Check.due("further ones are lost", t.sent(), 200);
        t.take();
        t.take();
        Check.code(t, "5n");
        Check.due("as many as there is place for", t.sent(), 200);
        String all = Check.taken(t).replace(ESC, "^");
        Check.due("the first ones stay", all.substring(194), "^[1;^[");
    }

    private static String title(String text) {
        return Check.title(Check.fed(ESC + "]" + text + "\u0007"));
    }

    private static void titleLengths() {
        String twenty = "abcdefghijklmnopqrst";
        String what = "'the first 20 characters of the text, or fewer, are the title' ";
        Check.due(what + "none", title("0;a\u0007" + ESC + "]2;"), "");
        Check.due(what + "one", title("0;x"), "x");
        Check.due(what + 19, title("0;" + twenty.substring(1)), twenty.substring(1));
        Check.due(what + 20, title("2;" + twenty), twenty);
        Check.due(what + 21, title("2;" + twenty + "u"), twenty);
        Check.due(what + 70, title("2;" + twenty + "-".repeat(50)), twenty);
        TerminalWeir t = Check.fed(ESC + "]0;" + twenty + "u\u0007");
        Check.due("title(19)", t.title(19), 't');
        Check.refused("title(20)", t, NoSuchElementException.class, () -> t.title(20));
        Check.refused("title(-1)", t, NoSuchElementException.class, () -> t.title(-1));
        Check.refused("title of the least", t, NoSuchElementException.class, () -> t.title(Integer.MIN_VALUE));
        Check.refused("title of the greatest", t, NoSuchElementException.class, () -> t.title(Integer.MAX_VALUE));
        TerminalWeir none = new TerminalWeir();
        Check.refused("title(0) at first", none, NoSuchElementException.class, () -> none.title(0));
    }

    private static void titleTexts() {
        String ahead = "0;a\u0007" + ESC + "]";
        String what = "'of \"0;\" or \"2;\" and a text all from 32 to 126', 'others do nothing' ";
        Check.due(what + "32 and 126", title(ahead + "0; ~ "), " ~ ");
        Check.due(what + "';'", title(ahead + "2;;;"), ";;");
        for (String text : new String[] {"", "0", "2", ";", ";b", "1;b", "3;b", "00;b", "02;b", " 0;b", "0 ;b", "0:b",
                "2b;", "?2;b",
            "0;b\u001f", "0;\u0000b", "0;b\n", "\u00010;b", "0\u0008;b", "0;b\u007f", "0;b\u0080", "0;\u00c3\u00a9",
                    "2;b\u00ff",
            "0;abcdefghijklmnopqrst\u001f", "0;abcdefghijklmnopqrstu\u0080v"}) {
            Check.due(what + text, title(ahead + text), "a");
        }
        Check.due(what + "the next one is not spoilt", title("0;\nb\u0007" + ESC + "]0;c"), "c");
        Check.due(what + "not by a row of numbers ahead", title("0;a\u0007" + ESC + "[1 m" + ESC + "]0;c"), "c");
        Check.due("a row of numbers is not spoilt by a string",
                Check.cursor(Check.fed(ESC + "]0;\n\u0007" + ESC + "[2;3H")), "1,2");
    }

    private static void titleEnds() {
        TerminalWeir t = Check.fed("ab" + ESC + "]0;t\u0007c");
        Check.due("'a string ends by 7'", Check.title(t) + Check.line(t, 0) + t.rings(), "tabc.........0");
        t = Check.fed("ab" + ESC + "]0;t" + ESC + "\\c");
        Check.due("'or by 27', ''\\' doing nothing'", Check.title(t) + Check.line(t, 0), "tabc.........");
        t = Check.fed("ab" + ESC + "]0;t" + ESC + "Ec");
        Check.due("'the byte behind which begins a code as usual'", Check.title(t) + Check.screen(t).substring(0, 15),
                "tab........../c.");
        t = Check.fed("ab" + ESC + "]0;t" + ESC);
        Check.due("'or by 27', at once", Check.title(t), "t");
        t = Check.fed("ab" + ESC + "]0;t" + ESC + "\u0007c");
        Check.due("27, then 7 does nothing", Check.title(t) + Check.line(t, 0) + t.rings(), "tabc.........0");
        t = Check.fed("ab" + ESC + "]0;t" + ESC + "\u0018c");
        Check.due("27, then 24 cancels what is over", Check.title(t) + Check.line(t, 0), "tabc.........");
        t = Check.fed("ab" + ESC + "]0;t\u0018c\u0007");
        Check.due("24 ahead cancels it", Check.title(t) + Check.line(t, 0) + t.rings(), "abc.........1");
    }

    private static String backPages(int width, int height, String bytes) {
        TerminalWeir t = Check.sized(width, height, bytes);
        return t.back() + " " + Check.backPages(t);
    }

    private static void whatGoesToBackPages() {
        String what = "'a row that scrolls out at the top of the first screen' ";
        String two = "ab\r\ncd" + ESC + "[2;1H";
        for (String line : new String[] {"\n", "\u000b", "\f", ESC + "D", ESC + "E", ESC + "[S", ESC + "[0S",
                ESC + "[2;2Hxy"}) {
            Check.due(what + line, backPages(2, 2, two + line), "1 ab");
        }
        Check.due(what + "two by 'S'", backPages(2, 2, two + ESC + "[2S"), "2 ab/cd");
        Check.due(what + "no more than there are by 'S'", backPages(2, 2, two + ESC + "[9999S"), "2 ab/cd");
        Check.due(what + "of one row", backPages(2, 1, "ab\r\ncd\n"), "2 ab/cd");
        String four = "ab\r\ncd\r\nef\r\ngh";
        what = "'the region beginning at 0' ";
        Check.due(what + "a part", backPages(2, 4, four + ESC + "[1;2r" + ESC + "[2;1H\n"), "1 ab");
        Check.due(what + "a part, by 'S'", backPages(2, 4, four + ESC + "[1;3r" + ESC + "[9S"), "3 ab/cd/ef");
        Check.due(what + "from the cursor outside, by 'S'",
                backPages(2, 4, four + ESC + "[1;2r" + ESC + "[4;1H" + ESC + "[S"), "1 ab");
        Check.due(what + "not at 1", backPages(2, 4, four + ESC + "[2;4r" + ESC + "[4;1H\n" + ESC + "[9S"), "0 ");
        Check.due(what + "not below it", backPages(2, 4, four + ESC + "[1;2r" + ESC + "[4;1H\n"), "0 ");
    }

    private static void whatDoesNot() {
        String four = "ab\r\ncd\r\nef\r\ngh";
        String what = "'but not by 'M' behind a row of numbers' ";
        Check.due(what, backPages(2, 4, four + ESC + "[H" + ESC + "[M"), "0 ");
        Check.due(what + "all", backPages(2, 4, four + ESC + "[H" + ESC + "[9M"), "0 ");
        for (String code : new String[] {"[H" + ESC + "M", "[T", "[9T", "[H" + ESC + "[L", "[2J", "[1J", "[H" + ESC
                + "[J"}) {
            Check.due("nor by " + code, backPages(2, 4, four + ESC + code), "0 ");
        }
        Check.due("'of the first screen', not of the second", backPages(2, 4, four + SECOND + "\n\n" + ESC + "[3S"),
                "0 ");
        Check.due("'of the first screen', told on the second too", backPages(2, 4, four + "\n" + SECOND + "\n\n"),
                "1 ab");
        Check.due("'the back pages staying'", backPages(2, 4, four + "\n" + ESC + "c"), "1 ab");
    }

    private static void thirtyRows() {
        StringBuilder rows = new StringBuilder();
        for (int i = 0; i < 30; i++) {
            rows.append((char) ('A' + i)).append("\r\n");
        }
        String what = "'30 rows at most, the oldest going first' ";
        TerminalWeir t = Check.sized(2, 1, rows.substring(0, 29 * 3));
        Check.due(what + 29, t.back() + Check.backLine(t, 0) + Check.backLine(t, 28), "29A.].");
        t = Check.sized(2, 1, rows.toString());
        Check.due(what + 30, t.back() + Check.backLine(t, 0) + Check.backLine(t, 29), "30A.^.");
        Check.feed(t, "x\r\n");
        Check.due(what + 31, t.back() + Check.backLine(t, 0) + Check.backLine(t, 28) + Check.backLine(t, 29),
                "30B.^.x.");
        TerminalWeir full = t;
        Check.due("backAt(29, 1)", full.backAt(29, 1), 32);
        Check.refused("backAt(30, 0)", full, IndexOutOfBoundsException.class, () -> full.backAt(30, 0));
        Check.refused("backAt(29, 2)", full, IndexOutOfBoundsException.class, () -> full.backAt(29, 2));
        Check.refused("backAt(-1, 0)", full, IndexOutOfBoundsException.class, () -> full.backAt(-1, 0));
        Check.refused("backAt(0, -1)", full, IndexOutOfBoundsException.class, () -> full.backAt(0, -1));
        t = Check.sized(2, 10, rows.substring(0, 30 * 3) + ESC + "[10S");
        Check.due(what + "ten at once", t.back() + Check.backLine(t, 0) + Check.backLine(t, 28) + Check.backLine(t, 29),
                "30B.^...");
    }
}
