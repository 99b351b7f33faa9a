/** Promises 13 to 15, and 16 to 31 as the size becomes another one. */
public final class SizeTest {
    private static final String ESC = Check.ESC + "";
    private static final String WIDE = "\u4e00";

    private SizeTest() {
    }

    public static void main(String[] arguments) {
        answers();
        sameSize();
        whatFollows();
        wider();
        narrower();
        wideCharacters();
        blanksAndStyles();
        cursorBehindTheEnd();
        cursorInALine();
        higher();
        lower();
        emptyLines();
        markedBlanks();
        markedRows();
        backPagesFlow();
        cursorAbove();
        secondScreen();
        Check.end();
    }

    private static void answers() {
        TerminalWeir t = new TerminalWeir();
        Check.due("13 before", t.size(20, 10), 12);
        Check.due("13 before that", t.size(2, 1), 20);
        Check.due("14 lowest", t.width() + " " + t.height(), "2 1");
        Check.due("13 the same", t.size(2, 1), 2);
        Check.refused("13 1", t, IllegalArgumentException.class, () -> t.size(1, 5));
        Check.refused("13 21", t, IllegalArgumentException.class, () -> t.size(21, 5));
        Check.refused("13 0 high", t, IllegalArgumentException.class, () -> t.size(5, 0));
        Check.refused("13 11 high", t, IllegalArgumentException.class, () -> t.size(5, 11));
        Check.refused("13 far", t, IllegalArgumentException.class,
                () -> t.size(Integer.MIN_VALUE, Integer.MAX_VALUE));
    }

    private static void sameSize() {
        TerminalWeir t = Check.fed(ESC + "[2;3r" + ESC + "[3g" + "abcdefghijkl");
        String before = Check.seen(t);
        t.size(12, 4);
        Check.due("13 the same size changes nothing", Check.seen(t), before);
        Check.write(t, "\u0301");
        Check.due("18 not even for a mark", t.mark(0, 11), 0x301);
    }

    private static void whatFollows() {
        TerminalWeir t = Check.fed(ESC + "[2;3r" + ESC + "[?6h" + ESC + "[3g" + ESC + "[4h" + ESC + "[31mab");
        t.size(12, 5);
        Check.due("27 the region", t.region(true) + " " + t.region(false), "0 4");
        Check.due("26 tabs", "" + t.hasTab(0) + t.hasTab(1) + t.hasTab(8), "truefalsetrue");
        Check.due("28 modes stay", "" + t.isSet(4) + t.isSet(6), "truetrue");
        Check.due("25 the pen stays", t.pen(), 32);
        Check.due("17 added rows are without style", Check.styles(t, 4), "0,0,0,0,0,0,0,0,0,0,0,0");
    }

    private static String flown(String bytes, int width, int height, int newWidth, int newHeight) {
        TerminalWeir t = Check.sized(width, height, bytes);
        t.size(newWidth, newHeight);
        return Check.screen(t) + " " + Check.cursor(t) + (t.back() > 0 ? " " + Check.backPages(t) : "");
    }

    private static void wider() {
        Check.due("16 joined", flown("abcdef", 4, 3, 6, 3), "abcdef/....../...... 0,5");
        Check.due("16 in part", flown("abcdefghij", 4, 3, 6, 3), "abcdef+/ghij../...... 1,4");
        Check.due("16 not joined", flown("abcd\r\nef", 4, 3, 6, 3), "abcd../ef..../...... 1,2");
        Check.due("16 erased, not joined", flown("abcdef" + ESC + "[1;4H" + ESC + "[X" + ESC + "[2;3H", 4, 3, 6, 3),
                "abc.../ef..../...... 1,2");
        Check.due("19 the last row told as wrapped", flown(ESC + "[1;2r" + ESC + "[4;1Habcdef", 4, 4, 6, 4),
                "....../....../....../efcd.. 3,2");
    }

    private static void narrower() {
        Check.due("16 parted", flown("abcdef", 6, 3, 4, 3), "abcd+/ef../.... 1,1");
        Check.due("16 thrice", flown("abcdef", 6, 3, 2, 3), "ab+/cd+/ef 2,1");
        Check.due("16 exactly", flown("abcd\r\nx", 6, 3, 4, 3), "abcd/x.../.... 1,1");
        Check.due("30 to the back pages", flown("abcdef\r\nghi", 6, 2, 2, 2), "gh+/i. 1,1 ab/cd/ef");
        Check.due("16 there and back", flownBack("abcdef\r\nghi"), "abcdef/ghi... 1,3");
    }

    private static String flownBack(String bytes) {
        TerminalWeir t = Check.sized(6, 2, bytes);
        t.size(2, 2);
        t.size(6, 2);
        return Check.screen(t) + " " + Check.cursor(t);
    }

    private static String flownWide(String text, int width, int height, int newWidth, int newHeight) {
        TerminalWeir t = new TerminalWeir();
        t.size(width, height);
        Check.write(t, text);
        t.size(newWidth, newHeight);
        return Check.screen(t) + " " + Check.cursor(t) + (t.back() > 0 ? " " + Check.backPages(t) : "")
                + (t.isSound() ? "" : " not sound");
    }

    private static void wideCharacters() {
        Check.due("16 does not fit", flownWide("ab" + WIDE + "c", 6, 3, 3, 3), "ab.+/" + WIDE + "<c/... 1,2");
        Check.due("16 the filling stays", flownWide("ab" + WIDE + "c", 3, 3, 6, 3),
                "ab." + WIDE + "<c/....../...... 0,5");
        Check.due("16 fits", flownWide("ab" + WIDE, 6, 2, 4, 2), "ab" + WIDE + "</.... 0,3");
        Check.due("16 as wide as the screen", flownWide("a" + WIDE + "b", 6, 3, 2, 3),
                "a.+/" + WIDE + "<+/b. 2,1");
        TerminalWeir t = new TerminalWeir();
        Check.write(t, "ab" + WIDE + "\u0301");
        Check.code(t, "1;4H");
        t.size(3, 4);
        Check.due("21 at a half", Check.cursor(t), "1,1");
        Check.due("18 the mark stays", t.mark(1, 0), 0x301);
    }

    private static void blanksAndStyles() {
        Check.due("16 blanks at the end go", flown("ab    ", 6, 3, 4, 3), "ab../..../.... 0,3");
        Check.due("16 blanks between stay", flown("a    b", 6, 3, 4, 3), "a...+/.b../.... 1,1");
        TerminalWeir t = Check.sized(6, 3, "ab" + ESC + "[41m" + ESC + "[K" + ESC + "[2;1H");
        t.size(4, 3);
        Check.due("17 blanks with a style stay", Check.screen(t), "ab..+/..../....");
        Check.due("17 as they were", Check.styles(t, 0) + " " + Check.styles(t, 1), "0,0,512,512 512,512,0,0");
        Check.due("20 the cursor below", Check.cursor(t), "2,0");
        t = Check.sized(6, 2, ESC + "[1mabcdef");
        t.size(4, 2);
        Check.due("17 styles go with their cells", Check.styles(t, 1), "1,1,0,0");
        Check.due("17 filling has none", t.pen(), 1);
    }

    private static void cursorBehindTheEnd() {
        Check.due("21 behind the end", flown("ab" + ESC + "[1;5H", 6, 2, 8, 2), "ab....../........ 0,4");
        Check.due("21 within the width", flown("ab" + ESC + "[1;6H", 6, 2, 4, 2), "ab../.... 0,3");
        Check.due("21 in its last row", flown("abcde" + ESC + "[1;6H", 6, 3, 4, 3), "abcd+/e.../.... 1,1");
        Check.due("21 behind a full row", flown("abcd" + ESC + "[1;6H", 6, 3, 4, 3), "abcd/..../.... 0,3");
        Check.due("21 in an empty line", flown(ESC + "[2;6H", 6, 3, 4, 3), "..../..../.... 1,3");
        Check.due("21 behind a wrapped row", flown("abcdef" + ESC + "[2;4H", 4, 3, 8, 3), "abcdef../......../........ 0,7");
    }

    private static void cursorInALine() {
        Check.due("21 at its cell", flown("abcdef" + ESC + "[1;2H", 6, 3, 4, 3), "abcd+/ef../.... 0,1");
        Check.due("21 at its cell below", flown("abcdef" + ESC + "[1;6H", 6, 3, 4, 3), "abcd+/ef../.... 1,1");
        Check.due("20 at its cell joined", flown("abcdef" + ESC + "[2;2H", 4, 3, 6, 3), "abcdef/....../...... 0,5");
        Check.due("22 the waiting ends", flown("abcd", 4, 3, 6, 3), "abcd../....../...... 0,3");
    }

    private static void higher() {
        Check.due("16 added below", flown("ab\r\ncd", 2, 2, 2, 4), "ab/cd/../.. 1,1");
        Check.due("30 back pages come", flown("ab\r\ncd\r\nef\r\ngh", 2, 2, 2, 3), "cd/ef/gh 2,1 ab");
        Check.due("30 all come", flown("ab\r\ncd\r\nef\r\ngh", 2, 2, 2, 6), "ab/cd/ef/gh/../.. 3,1");
        Check.due("30 with the width another", flown("ab\r\ncd\r\nef\r\ngh", 2, 2, 3, 3), "cd./ef./gh. 2,1 ab.");
    }

    private static void lower() {
        Check.due("30 rows go to the back pages", flown("ab\r\ncd\r\nef\r\ngh", 2, 4, 2, 2), "ef/gh 1,1 ab/cd");
        Check.due("16 empty lines go first", flown("ab\r\ncd", 2, 4, 2, 2), "ab/cd 1,1");
        Check.due("16 as many as go", flown("ab\r\ncd", 2, 4, 2, 3), "ab/cd/.. 1,1");
        Check.due("16 to the cursor", flown("ab\r\n\n", 2, 4, 2, 1), ".. 0,0 ab/..");
        Check.due("30 down to one", flown("ab\r\ncd\r\n", 2, 4, 2, 1), ".. 0,0 ab/cd");
    }

    private static void emptyLines() {
        Check.due("16 not one with a style", flown("ab" + ESC + "[3;1H" + ESC + "[41m" + ESC + "[K" + ESC + "[1;1H",
                2, 3, 2, 2), "../.. 0,0 ab");
        Check.due("16 not above a filled one", flown("ab\r\n\n\ncd" + ESC + "[1;1H", 2, 4, 2, 2), "../cd 0,0 ab/..");
        Check.due("16 not the end of a line", flown("abc" + ESC + "[2;1H" + ESC + "[K" + ESC + "[1;1H", 2, 2, 2, 1),
                ".. 0,0 ab");
        Check.due("16 with the width another", flown("abcd\r\nef", 4, 4, 2, 4), "ab+/cd/ef/.. 2,1");
        Check.due("16 one goes", flown("abcd\r\nef\r\ngh\r\n" + ESC + "[1;1H", 4, 4, 2, 4), "ab+/cd/ef/gh 0,0");
    }

    /** Where the mark is, by rows, then columns. */
    private static String marked(String text, int width, int height, int newWidth, int newHeight) {
        TerminalWeir t = Check.sized(width, height, text);
        t.size(newWidth, newHeight);
        StringBuilder places = new StringBuilder();
        for (int i = 0; i < newHeight; i++) {
            for (int j = 0; j < newWidth; j++) {
                places.append(hasMark(t, i, j) ? " " + i + "," + j : "");
            }
        }
        return Check.screen(t) + " " + Check.cursor(t) + " " + t.back() + " at" + places;
    }

    private static boolean hasMark(TerminalWeir t, int row, int column) {
        try {
            return t.mark(row, column) > 0;
        } catch (java.util.NoSuchElementException none) {
            return false;
        }
    }

    private static void markedBlanks() {
        String mark = Check.bytesOf(0x301);
        Check.due("16 a marked blank at the end stays", marked("abcd  " + mark, 6, 3, 4, 3),
                "abcd+/..../.... 1,1 0 at 1,1");
        Check.due("16 without the mark it goes", marked("abcd  ", 6, 3, 4, 3), "abcd/..../.... 0,3 0 at");
        Check.due("16 blanks behind it go", marked("ab " + mark + "   ", 6, 3, 3, 3), "ab./.../... 0,2 0 at 0,2");
        Check.due("21 the cursor behind it", marked("a " + mark + ESC + "[1;6H", 6, 2, 8, 2),
                "a......./........ 0,5 0 at 0,1");
        Check.due("21 at it", marked("ab " + mark + ESC + "[1;3H", 6, 3, 2, 3), "ab+/../.. 1,0 0 at 1,0");
        Check.due("16 joined, between", marked("abc " + mark + "ef", 4, 3, 8, 3),
                "abc.ef../......../........ 0,6 0 at 0,3");
        Check.due("16 erased with its mark it goes", marked("abcd  " + mark + ESC + "[1;5H" + ESC + "[K", 6, 3, 4, 3),
                "abcd/..../.... 0,3 0 at");
        Check.due("16 written over it goes", marked("abcd  " + mark + ESC + "[1;6H ", 6, 3, 4, 3),
                "abcd/..../.... 0,3 0 at");
        Check.due("16 through the back pages and again", markedAndAgain("abcd " + mark + "\r\nx\r\ny"),
                "abcd../x...../y..... at 0,4");
    }

    private static String markedAndAgain(String text) {
        TerminalWeir t = Check.sized(6, 3, text);
        t.size(4, 1);
        t.size(6, 3);
        return Check.screen(t) + " at" + (hasMark(t, 0, 4) ? " 0,4" : "");
    }

    private static void markedRows() {
        String mark = Check.bytesOf(0x301);
        String home = ESC + "[H";
        Check.due("30 a marked row is no empty line", marked("\n\n " + mark + home, 4, 4, 4, 2),
                "..../.... 0,0 1 at 1,0");
        Check.due("30 without the mark it is", marked("\n\n " + home, 4, 4, 4, 2), "..../.... 0,0 0 at");
        Check.due("30 marked in its last cell", marked("\n\n    " + mark + home, 4, 4, 4, 2),
                "..../.... 0,0 1 at 1,3");
        Check.due("30 with the width another", marked("\n\n " + mark + home, 4, 4, 5, 2),
                "...../..... 0,0 1 at 1,0");
        Check.due("30 erased it is again", marked("\n\n " + mark + ESC + "[2K" + home, 4, 4, 4, 2),
                "..../.... 0,0 0 at");
    }

    private static void backPagesFlow() {
        Check.due("30 joined with the screen", flown("abcdefgh", 2, 2, 4, 2), "abcd+/efgh 1,3");
        Check.due("30 parted", flown("abcd\r\nefgh\r\nij", 4, 2, 2, 2), "gh/ij 1,1 ab/cd/ef");
        TerminalWeir t = Check.sized(4, 2, "");
        for (int i = 0; i < 31; i++) {
            Check.feed(t, "r" + (char) ('A' + i) + "st\r\n");
        }
        Check.due("30 thirty", t.back() + Check.backLine(t, 0), "30rAst");
        t.size(2, 2);
        Check.due("30 thirty at most", t.back(), 30);
        Check.due("31 the last of them", Check.backLine(t, 29) + Check.line(t, 0), "r" + (char) ('A' + 30) + "st");
        Check.due("31 the first of them", Check.backLine(t, 0), "st");
        t.size(4, 2);
        Check.due("31 the parted line has lost its beginning", Check.backLine(t, 0), "st..");
        Check.due("30 fewer", t.back(), 15);
    }

    private static void cursorAbove() {
        Check.due("20 the first row", flown("abcd\r\nefgh\r\nijkl" + ESC + "[1;3H", 4, 3, 2, 2), "ij+/kl 0,0 ab/cd/ef/gh");
        TerminalWeir t = Check.sized(2, 3, "ab\r\ncd\r\nef" + ESC + "[1;2H");
        t.size(2, 2);
        Check.due("21 its column stays", Check.cursor(t), "0,1");
    }

    private static void secondScreen() {
        TerminalWeir t = Check.sized(4, 3, "abcd\r\nefgh\r\nijkl\r\nmnop");
        Check.feed(t, ESC + "[?1049h" + ESC + "[1;1Hqrstuv" + ESC + "[3;4H");
        t.size(3, 2);
        Check.due("16 cut", Check.screen(t) + " " + Check.cursor(t), "qrs+/uv. 1,2");
        Check.due("31 back pages are cut", t.back() + Check.backLine(t, 0), "1abc");
        t.size(5, 4);
        Check.due("16 added", Check.screen(t), "qrs..+/uv.../...../.....");
        Check.due("31 added", Check.backLine(t, 0), "abc..");
        Check.feed(t, ESC + "[?1049l");
        Check.due("16 the first one too", Check.screen(t) + " " + Check.cursor(t), "efg../ijk../...../..... 2,3");
        t = new TerminalWeir();
        Check.write(t, "a" + WIDE + "b");
        Check.feed(t, ESC + "[?1049h");
        Check.code(t, "41m");
        Check.code(t, "1;1H");
        Check.write(t, "c" + WIDE);
        t.size(2, 4);
        Check.due("16 a half cut", Check.line(t, 0) + Check.styles(t, 0), "c.512,512");
        Check.feed(t, ESC + "[?1049l");
        Check.due("16 of the first one too", Check.line(t, 0) + t.isSound(), "a.true");
        t = Check.sized(4, 3, "ab");
        Check.feed(t, ESC + "[?1049h");
        t.size(4, 1);
        Check.due("30 no rows go", t.back() + " " + t.region(false), "0 0");
    }
}
