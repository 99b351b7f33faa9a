/** Promises 1, 14 to 31: a new object, and what the calls that only look tell of it. */
public final class FaceTest {
    private FaceTest() {
    }

    public static void main(String[] arguments) {
        newObject();
        cells();
        marks();
        rowsAndColumns();
        modes();
        titles();
        backRows();
        Check.end();
    }

    private static void newObject() {
        TerminalWeir t = new TerminalWeir();
        Check.due("1 width", t.width(), 12);
        Check.due("1 height", t.height(), 4);
        Check.due("1 screen", Check.screen(t), "............/............/............/............");
        Check.due("1 styles", Check.styles(t, 3), "0,0,0,0,0,0,0,0,0,0,0,0");
        Check.due("1 cursor", Check.cursor(t), "0,0");
        Check.due("1 shown", t.isShown(), true);
        Check.due("1 second", t.isSecond(), false);
        Check.due("1 pen", t.pen(), 0);
        Check.due("1 held", t.isHeld(), false);
        Check.due("1 signals", t.signals(), 0);
        Check.due("1 rings", t.rings(), 0);
        Check.due("1 sent", t.sent(), 0);
        Check.due("1 back", t.back(), 0);
        Check.due("1 region", t.region(true) + " " + t.region(false), "0 3");
        Check.due("1 tabs", "" + t.hasTab(0) + t.hasTab(1) + t.hasTab(7) + t.hasTab(8) + t.hasTab(11),
                "truefalsefalsetruefalse");
        Check.due("1 echo", t.echo(true), true);
        Check.due("1 typed", t.wipe(), 0);
        Check.due("1 title", Check.title(t), "");
        Check.due("1 sound", t.isSound(), true);
    }

    private static void cells() {
        TerminalWeir t = Check.fed("a" + Check.ESC + "[1;31;44mb");
        Check.write(t, "\u4e00");
        Check.due("16 a", t.at(0, 0), 97);
        Check.due("16 wide", t.at(0, 2), 0x4e00);
        Check.due("16 half", t.at(0, 3), 0);
        Check.due("16 blank", t.at(3, 11), 32);
        Check.due("17 none", t.style(0, 0), 0);
        Check.due("17 some", t.style(0, 1), 1 + 16 * 2 + 256 * 5);
        Check.due("17 half", t.style(0, 3), 1 + 16 * 2 + 256 * 5);
        Check.refused("16 row -1", t, IndexOutOfBoundsException.class, () -> t.at(-1, 0));
        Check.refused("16 row 4", t, IndexOutOfBoundsException.class, () -> t.at(4, 0));
        Check.refused("16 column -1", t, IndexOutOfBoundsException.class, () -> t.at(0, -1));
        Check.refused("16 column 12", t, IndexOutOfBoundsException.class, () -> t.at(0, 12));
        Check.refused("16 far", t, IndexOutOfBoundsException.class,
                () -> t.at(Integer.MAX_VALUE, Integer.MIN_VALUE));
        Check.refused("17 row -1", t, IndexOutOfBoundsException.class, () -> t.style(-1, 0));
        Check.refused("17 row 4", t, IndexOutOfBoundsException.class, () -> t.style(4, 0));
        Check.refused("17 column -1", t, IndexOutOfBoundsException.class, () -> t.style(0, -1));
        Check.refused("17 column 12", t, IndexOutOfBoundsException.class, () -> t.style(0, 12));
    }

    private static void marks() {
        TerminalWeir t = new TerminalWeir();
        Check.write(t, "e\u0301x");
        Check.due("18 mark", t.mark(0, 0), 0x301);
        Check.due("18 at", t.at(0, 0), 101);
        Check.refused("18 none", t, java.util.NoSuchElementException.class, () -> t.mark(0, 1));
        Check.refused("18 row -1", t, IndexOutOfBoundsException.class, () -> t.mark(-1, 0));
        Check.refused("18 row 4", t, IndexOutOfBoundsException.class, () -> t.mark(4, 0));
        Check.refused("18 column -1", t, IndexOutOfBoundsException.class, () -> t.mark(0, -1));
        Check.refused("18 column 12", t, IndexOutOfBoundsException.class, () -> t.mark(0, 12));
    }

    private static void rowsAndColumns() {
        TerminalWeir t = Check.fed("abcdefghijklm");
        Check.due("19 wrapped", t.isWrapped(0), true);
        Check.due("19 not wrapped", t.isWrapped(1), false);
        Check.refused("19 -1", t, IndexOutOfBoundsException.class, () -> t.isWrapped(-1));
        Check.refused("19 4", t, IndexOutOfBoundsException.class, () -> t.isWrapped(4));
        Check.due("20 row", t.row(), 1);
        Check.due("21 column", t.column(), 1);
        Check.due("22 not waiting", t.isWaiting(), false);
        Check.feed(t, "nopqrstuvwx");
        Check.due("22 waiting", t.isWaiting(), true);
        Check.due("21 last column", t.column(), 11);
        Check.due("26 none at 1", t.hasTab(1), false);
        Check.due("26 at 8", t.hasTab(8), true);
        Check.refused("26 -1", t, IndexOutOfBoundsException.class, () -> t.hasTab(-1));
        Check.refused("26 12", t, IndexOutOfBoundsException.class, () -> t.hasTab(12));
        t.size(20, 10);
        Check.due("26 at 16", t.hasTab(16), true);
        Check.due("14 width", t.width(), 20);
        Check.due("15 height", t.height(), 10);
        Check.due("27 top", t.region(true), 0);
        Check.due("27 bottom", t.region(false), 9);
        Check.code(t, "3;7r");
        Check.due("27 top set", t.region(true), 2);
        Check.due("27 bottom set", t.region(false), 6);
        Check.refused("26 20", t, IndexOutOfBoundsException.class, () -> t.hasTab(20));
    }

    private static void modes() {
        TerminalWeir t = new TerminalWeir();
        Check.due("28 at first", "" + t.isSet(4) + t.isSet(6) + t.isSet(7), "falsefalsetrue");
        Check.code(t, "4h");
        Check.code(t, "?6h");
        Check.code(t, "?7l");
        Check.due("28 changed", "" + t.isSet(4) + t.isSet(6) + t.isSet(7), "truetruefalse");
        Check.code(t, "4l");
        Check.code(t, "?6l");
        Check.code(t, "?7h");
        Check.due("28 changed again", "" + t.isSet(4) + t.isSet(6) + t.isSet(7), "falsefalsetrue");
        for (int mode : new int[] {-1, 0, 3, 5, 8, 25, 1049, Integer.MIN_VALUE}) {
            Check.refused("28 mode " + mode, t, IllegalArgumentException.class, () -> t.isSet(mode));
        }
        Check.code(t, "?25l");
        Check.due("23 hidden", t.isShown(), false);
        Check.code(t, "?25h");
        Check.due("23 shown", t.isShown(), true);
        Check.code(t, "?1049h");
        Check.due("24 second", t.isSecond(), true);
        Check.code(t, "?1049l");
        Check.due("24 first", t.isSecond(), false);
        Check.code(t, "7m");
        Check.due("25 pen", t.pen(), 4);
    }

    private static void titles() {
        TerminalWeir t = Check.fed(Check.ESC + "]0;Hi!\u0007");
        Check.due("29 first", t.title(0), 'H');
        Check.due("29 last", t.title(2), '!');
        Check.refused("29 -1", t, java.util.NoSuchElementException.class, () -> t.title(-1));
        Check.refused("29 3", t, java.util.NoSuchElementException.class, () -> t.title(3));
    }

    private static void backRows() {
        TerminalWeir t = Check.fed("ab\r\ncd\r\n\n\n\n");
        Check.write(t, "\u4e00");
        Check.due("30 two", t.back(), 2);
        Check.due("31 oldest", t.backAt(0, 0), 97);
        Check.due("31 next", t.backAt(1, 1), 100);
        Check.due("31 blank", t.backAt(1, 11), 32);
        Check.refused("31 row -1", t, IndexOutOfBoundsException.class, () -> t.backAt(-1, 0));
        Check.refused("31 row 2", t, IndexOutOfBoundsException.class, () -> t.backAt(2, 0));
        Check.refused("31 column -1", t, IndexOutOfBoundsException.class, () -> t.backAt(0, -1));
        Check.refused("31 column 12", t, IndexOutOfBoundsException.class, () -> t.backAt(0, 12));
        TerminalWeir none = new TerminalWeir();
        Check.refused("31 none", none, IndexOutOfBoundsException.class, () -> none.backAt(0, 0));
    }
}
