/** Promises 19, 20, 24, 27, 30 and 31: regions, scrolling, back pages and the second screen. */
public final class ScrollingTest {
    private static final String ESC = Check.ESC + "";

    private ScrollingTest() {
    }

    public static void main(String[] arguments) {
        newLines();
        regions();
        regionCodes();
        scrollCodes();
        rowCodes();
        backPages();
        backPagesOfRegions();
        secondScreen();
        Check.end();
    }

    /** Rows 'aa', 'bb', 'cc', 'dd' of two cells. */
    private static TerminalWeir rows(String bytes) {
        TerminalWeir t = Check.sized(2, 4, "aa\r\nbb\r\ncc\r\ndd" + ESC + "[1;1H");
        Check.feed(t, bytes);
        return t;
    }

    private static String screen(String bytes) {
        TerminalWeir t = rows(bytes);
        return Check.screen(t) + " " + t.row();
    }

    private static void newLines() {
        Check.due("20 down", screen("\n"), "aa/bb/cc/dd 1");
        Check.due("20 scrolls up", screen("\n\n\n\n"), "bb/cc/dd/.. 3");
        Check.due("20 up", screen("\n" + ESC + "M"), "aa/bb/cc/dd 0");
        Check.due("20 scrolls down", screen(ESC + "M"), "../aa/bb/cc 0");
        TerminalWeir t = rows(ESC + "[42;1m\n\n\n\n");
        Check.due("17 background alone", Check.styles(t, 3), "768,768");
        t = rows(ESC + "[43;7m" + ESC + "M");
        Check.due("17 background alone above", Check.styles(t, 0), "1024,1024");
    }

    private static void regions() {
        String region = ESC + "[2;3r";
        Check.due("20 at its lowest row", screen(region + ESC + "[3;1H\n"), "aa/cc/../dd 2");
        Check.due("20 by D", screen(region + ESC + "[3;1H" + ESC + "D"), "aa/cc/../dd 2");
        Check.due("20 by E", screen(region + ESC + "[3;2H" + ESC + "E"), "aa/cc/../dd 2");
        Check.due("20 at its highest row", screen(region + ESC + "[2;1H" + ESC + "M"), "aa/../bb/dd 1");
        Check.due("20 below it", screen(region + ESC + "[4;1H\n"), "aa/bb/cc/dd 3");
        Check.due("20 above it", screen(region + ESC + "M"), "aa/bb/cc/dd 0");
        Check.due("20 into it", screen(region + "\n"), "aa/bb/cc/dd 1");
        Check.due("20 out of it", screen(region + ESC + "[4;1H" + ESC + "M"), "aa/bb/cc/dd 2");
        Check.due("20 by wrapping", screen(region + ESC + "[3;1Hxyz"), "aa/xy+/z./dd 2");
    }

    private static String region(String bytes) {
        TerminalWeir t = rows("\n\n" + bytes);
        return t.region(true) + " " + t.region(false) + " " + t.row();
    }

    private static void regionCodes() {
        Check.due("27 both", region(ESC + "[2;3r"), "1 2 0");
        Check.due("27 none", region(ESC + "[2;3r\n" + ESC + "[r"), "0 3 0");
        Check.due("27 one", region(ESC + "[3r"), "2 3 0");
        Check.due("27 0", region(ESC + "[0;2r"), "0 1 0");
        Check.due("27 second 0", region(ESC + "[2;0r"), "1 3 0");
        Check.due("27 second beyond", region(ESC + "[2;5r"), "1 3 0");
        Check.due("27 the last one", region(ESC + "[2;4r"), "1 3 0");
        Check.due("27 one row", region(ESC + "[2;2r"), "0 3 2");
        Check.due("27 the last row alone", region(ESC + "[4r"), "0 3 2");
        Check.due("27 beyond", region(ESC + "[5;6r"), "0 3 2");
        Check.due("27 turned round", region(ESC + "[3;2r"), "0 3 2");
        Check.due("27 stays as it was", region(ESC + "[2;3r\n" + ESC + "[3;2r"), "1 2 1");
        TerminalWeir t = Check.sized(5, 1, ESC + "[1;1r");
        Check.due("27 of one row", t.region(true) + " " + t.region(false), "0 0");
    }

    private static void scrollCodes() {
        Check.due("16 S", screen("\n" + ESC + "[S"), "bb/cc/dd/.. 1");
        Check.due("16 2S", screen(ESC + "[2S"), "cc/dd/../.. 0");
        Check.due("16 9999S", screen(ESC + "[9999S"), "../../../.. 0");
        Check.due("16 T", screen("\n" + ESC + "[T"), "../aa/bb/cc 1");
        Check.due("16 3T", screen(ESC + "[3T"), "../../../aa 0");
        Check.due("16 9999T", screen(ESC + "[9999T"), "../../../.. 0");
        Check.due("16 S in a region", screen(ESC + "[2;3r" + ESC + "[S"), "aa/cc/../dd 0");
        Check.due("16 T in a region", screen(ESC + "[2;3r" + ESC + "[T"), "aa/../bb/dd 0");
        TerminalWeir t = rows(ESC + "[42;1m" + ESC + "[2S");
        Check.due("17 S", Check.styles(t, 2), "768,768");
        Check.due("30 S", t.back() + Check.backPages(t), "2aa/bb");
        Check.due("30 T", rows(ESC + "[2T").back(), 0);
        Check.due("30 9S", rows(ESC + "[9S").back(), 4);
    }

    private static void rowCodes() {
        Check.due("16 L", screen("\n" + ESC + "[L"), "aa/../bb/cc 1");
        Check.due("16 2L", screen("\n" + ESC + "[2L"), "aa/../../bb 1");
        Check.due("16 9L", screen("\n" + ESC + "[9L"), "aa/../../.. 1");
        Check.due("16 M", screen("\n" + ESC + "[M"), "aa/cc/dd/.. 1");
        Check.due("16 2M", screen("\n" + ESC + "[2M"), "aa/dd/../.. 1");
        Check.due("16 9M", screen("\n" + ESC + "[9M"), "aa/../../.. 1");
        String region = ESC + "[2;3r";
        Check.due("16 L in a region", screen(region + ESC + "[2;2H" + ESC + "[L"), "aa/../bb/dd 1");
        Check.due("16 M in a region", screen(region + ESC + "[2;2H" + ESC + "[M"), "aa/cc/../dd 1");
        Check.due("16 L above it", screen(region + ESC + "[L"), "aa/bb/cc/dd 0");
        Check.due("16 M below it", screen(region + ESC + "[4;1H" + ESC + "[M"), "aa/bb/cc/dd 3");
        TerminalWeir t = rows(ESC + "[2;2H" + ESC + "[44;1m" + ESC + "[L");
        Check.due("21 the column stays", t.column() + Check.styles(t, 1), "11280,1280");
        t = rows(ESC + "[1;2H" + ESC + "[M");
        Check.due("30 not by M", t.back() + " " + t.column(), "0 1");
        t = Check.sized(2, 3, "aabbcc" + ESC + "[1;1H" + ESC + "[L");
        Check.due("19 rows stay wrapped", Check.screen(t), "../aa+/bb+");
        Check.code(t, "2M");
        Check.due("19 blank ones are not", Check.screen(t), "bb+/../..");
    }

    private static void backPages() {
        TerminalWeir t = Check.sized(3, 2, "");
        for (int i = 0; i < 40; i++) {
            Check.feed(t, "r" + (char) ('A' + i) + "\r\n");
            Check.due("30 after " + i, t.back(), Math.min(30, i));
        }
        Check.due("31 the oldest went", Check.backLine(t, 0), "rJ.");
        Check.due("31 the last", Check.backLine(t, 29), "r" + (char) ('A' + 38) + ".");
        t = Check.sized(2, 1, "abcde");
        Check.due("30 by wrapping", Check.backPages(t), "ab/cd");
        t.size(4, 1);
        Check.due("19 told as wrapped there too", Check.screen(t) + " " + Check.backPages(t), "e... abcd");
    }

    private static void backPagesOfRegions() {
        Check.due("30 a region from 0 on", Check.backPages(rows(ESC + "[1;2r\n\n")), "aa");
        Check.due("30 a region below", rows(ESC + "[2;3r\n\n\n").back(), 0);
        Check.due("30 S of a region from 0 on", Check.backPages(rows(ESC + "[1;3r" + ESC + "[2S")), "aa/bb");
        Check.due("30 S of a region below", rows(ESC + "[2;4r" + ESC + "[2S").back(), 0);
        Check.due("30 not on the second screen", rows(ESC + "[?1049h\n\n\n\n\n" + ESC + "[2S").back(), 0);
        Check.due("30 nor erased", rows(ESC + "[2J").back(), 0);
    }

    private static void secondScreen() {
        TerminalWeir t = rows(ESC + "[2;2H" + ESC + "[41m" + ESC + "[2;3r" + ESC + "[3;1H" + ESC + "[?1049h");
        Check.due("24 blank", Check.screen(t) + Check.styles(t, 0), "../../../..0,0");
        Check.due("20 the cursor as it is", Check.cursor(t), "2,0");
        Check.due("25 the pen as it is", t.pen(), 512);
        Check.due("27 the region as it is", t.region(true) + " " + t.region(false), "1 2");
        Check.feed(t, "x" + ESC + "[1m" + ESC + "[1;1Hy" + ESC + "[?1049h");
        Check.due("24 set already", Check.screen(t) + Check.cursor(t), "y./../x./..0,1");
        Check.feed(t, ESC + "[?1049l");
        Check.due("24 the first one again", Check.screen(t), "aa/bb/cc/dd");
        Check.due("20 the cursor kept", Check.cursor(t) + " " + t.pen(), "2,0 512");
        Check.feed(t, "\r" + ESC + "[1;2H" + ESC + "[?1049l");
        Check.due("24 ended already", Check.cursor(t), "0,1");
        Check.feed(t, ESC + "[?1049h");
        Check.due("24 blank again", Check.screen(t), "../../../..");
        t = rows("ab" + ESC + "[?1049h" + ESC + "[3;1H" + ESC + "[?1049l");
        Check.due("22 the waiting", Check.cursor(t), "0,1 waits");
        t = rows(ESC + "[2;2H" + ESC + "7" + ESC + "[3;1H" + ESC + "[?1049h" + ESC + "8");
        Check.due("20 what '7' kept is another", Check.cursor(t), "1,1");
        Check.feed(t, ESC + "[4;2H" + ESC + "7" + ESC + "[?1049l");
        Check.due("20 what 1049 kept", Check.cursor(t), "2,0");
        Check.feed(t, ESC + "8");
        Check.due("20 what '7' kept", Check.cursor(t), "3,1");
        t = rows(ESC + "[?6h" + ESC + "[?1049h" + ESC + "[?6l" + ESC + "[?1049l");
        Check.due("28 the origin", t.isSet(6), true);
    }
}
