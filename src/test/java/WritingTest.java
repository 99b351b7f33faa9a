/** Promises 2, 16 to 22 in what the terms Characters, Cells and Writing say. */
public final class WritingTest {
    private static final String WIDE = "\u4e00";

    private WritingTest() {
    }

    public static void main(String[] arguments) {
        characters();
        broken();
        interrupted();
        widths();
        halves();
        waiting();
        waitingEnds();
        withoutWrapping();
        wideAtTheEdge();
        marks();
        insertion();
        Check.end();
    }

    private static int first(String bytes) {
        return Check.fed(bytes).at(0, 0);
    }

    private static void characters() {
        Check.due("16 ascii", first("A"), 65);
        Check.due("16 lowest", Check.cursor(Check.fed(" ")), "0,1");
        Check.due("16 126", first("~"), 126);
        Check.due("2 127 does nothing", Check.cursor(Check.fed("\u007f")), "0,0");
        Check.due("16 two bytes, lowest", first("\u00c2\u0080"), 128);
        Check.due("16 two bytes", first("\u00c3\u00a9"), 233);
        Check.due("16 two bytes, highest", first("\u00df\u00bf"), 2047);
        Check.due("16 three bytes, lowest", first("\u00e0\u00a0\u0080"), 2048);
        Check.due("16 three bytes", first("\u00e2\u0082\u00ac"), 0x20ac);
        Check.due("16 three bytes, highest", first("\u00ef\u00bf\u00bf"), 65535);
        Check.due("16 55296", first("\u00ed\u00a0\u0080"), 55296);
        Check.due("16 nothing yet", Check.cursor(Check.fed("\u00e2\u0082")), "0,0");
    }

    private static String told(String bytes) {
        return Check.line(Check.fed(bytes), 0);
    }

    private static void broken() {
        String b = "\ufffd";
        Check.due("16 lone 128", told("\u0080x"), b + "x..........");
        Check.due("16 lone 191", told("\u00bfx"), b + "x..........");
        Check.due("16 192 by itself", told("\u00c0x"), b + "x..........");
        Check.due("16 192 and what follows", told("\u00c0\u0080x"), b + b + "x.........");
        Check.due("16 193 and what follows", told("\u00c1\u00bfx"), b + b + "x.........");
        Check.due("16 below 2048", told("\u00e0\u009f\u00bfx"), b + "x..........");
        Check.due("16 0 by three", told("\u00e0\u0080\u0080x"), b + "x..........");
        Check.due("16 240", told("\u00f0\u0090x"), b + b + "x.........");
        Check.due("16 255", told("\u00ffx"), b + "x..........");
    }

    private static void interrupted() {
        String b = "\ufffd";
        Check.due("16 two, then a letter", told("\u00c3x"), b + "x..........");
        Check.due("16 three, then a letter", told("\u00e2\u0082x"), b + "x..........");
        Check.due("16 begun anew", told("\u00e2\u0082\u00c3\u00a9x"), b + "\u00e9x.........");
        Check.due("16 then 192", told("\u00e2\u00c0x"), b + b + "x.........");
        Check.due("16 then broken", told("\u00e2\u00f0x"), b + b + "x.........");
        Check.due("16 then a new line", Check.cursor(Check.fed("\u00c3\n")), "1,1");
        Check.due("16 then a code", Check.cursor(Check.fed("\u00c3" + Check.ESC + "[3;3H")), "2,2");
        Check.due("16 it was written", told("\u00c3" + Check.ESC + "[3;3H"), b + "...........");
        Check.due("16 then 127", told("\u00c3\u007f\u00a9"), b + b + "..........");
    }

    private static void widths() {
        int[] wide = {4352, 4447, 11904, 40959, 44032, 55203, 65280, 65376};
        for (int character : wide) {
            Check.due("16 wide " + character, Check.cursor(Check.fed(Check.bytesOf(character))), "0,2");
        }
        int[] narrow = {767, 880, 4351, 4448, 11903, 40960, 44031, 55204, 55296, 57343, 65279, 65377, 65535};
        for (int character : narrow) {
            Check.due("16 narrow " + character, Check.cursor(Check.fed(Check.bytesOf(character))), "0,1");
        }
        for (int mark : new int[] {768, 879}) {
            TerminalWeir t = Check.fed("a" + Check.bytesOf(mark));
            Check.due("16 mark " + mark, Check.cursor(t) + " " + t.mark(0, 0), "0,1 " + mark);
        }
    }

    private static TerminalWeir styledWide() {
        TerminalWeir t = new TerminalWeir();
        Check.code(t, "41;1m");
        Check.write(t, "a" + WIDE + "b");
        Check.code(t, "m");
        return t;
    }

    private static void halves() {
        TerminalWeir t = styledWide();
        Check.due("16 both halves", Check.line(t, 0), "a" + WIDE + "<b........");
        Check.code(t, "1;2Hx");
        Check.due("16 first half overwritten", Check.line(t, 0), "ax.b........");
        Check.due("17 its other half keeps its style", Check.styles(t, 0), "513,0,513,513,0,0,0,0,0,0,0,0");
        t = styledWide();
        Check.code(t, "1;3Hx");
        Check.due("16 second half overwritten", Check.line(t, 0), "a.xb........");
        Check.due("17 its first half keeps its style", Check.styles(t, 0), "513,513,0,513,0,0,0,0,0,0,0,0");
        t = styledWide();
        Check.code(t, "1;2H");
        Check.write(t, "\u4e01");
        Check.due("16 both overwritten", Check.line(t, 0), "a\u4e01<b........");
        t = styledWide();
        Check.code(t, "1;1H");
        Check.write(t, "\u4e01");
        Check.due("16 wide over a first half", Check.line(t, 0), "\u4e01<.b........");
        t = styledWide();
        Check.code(t, "1;3H");
        Check.write(t, "\u4e01");
        Check.due("16 wide over a second half", Check.line(t, 0), "a.\u4e01<........");
        t = new TerminalWeir();
        Check.write(t, WIDE + "\u0301");
        Check.code(t, "1;2Hx");
        TerminalWeir marked = t;
        Check.refused("18 a blank half has no mark", t, java.util.NoSuchElementException.class,
                () -> marked.mark(0, 0));
        Check.due("39 sound", t.isSound(), true);
    }

    private static void waiting() {
        TerminalWeir t = Check.fed("abcdefghijkl");
        Check.due("22 waits", Check.cursor(t), "0,11 waits");
        Check.due("19 not wrapped yet", t.isWrapped(0), false);
        Check.feed(t, "m");
        Check.due("22 wrapped", Check.screen(t), "abcdefghijkl+/m.........../............/............");
        Check.due("22 goes on", Check.cursor(t), "1,1");
        t = Check.fed("\n\n\nabcdefghijklm");
        Check.due("19 wrapped by scrolling", Check.screen(t),
                "............/............/abcdefghijkl+/m...........");
        Check.due("30 one row went", t.back(), 1);
        t = Check.sized(4, 4, Check.ESC + "[1;2r" + Check.ESC + "[4;1Habcdef");
        Check.due("19 at the lowest row below the region", Check.screen(t), "..../..../..../efcd+");
        Check.due("22 the same row", Check.cursor(t), "3,2");
    }

    private static String afterWaiting(String bytes) {
        TerminalWeir t = Check.fed("abcdefghijkl");
        Check.feed(t, bytes);
        return Check.cursor(t);
    }

    private static void waitingEnds() {
        String esc = Check.ESC + "";
        String[] keeping = {"\u0007", esc + "[1m", esc + "[5n", esc + "[6n", esc + "]0;a\u0007", esc + "]2;b" + esc + "\\",
            "\u0000", "\u007f", "\u0018", esc + "[1\u0018", esc + "z", esc + "[1z", esc + "[ A", Check.bytesOf(769)};
        for (String bytes : keeping) {
            Check.due("22 stays " + bytes, afterWaiting(bytes), "0,11 waits");
        }
        String[][] ending = {{"\b", "0,10"}, {"\t", "0,11"}, {"\n", "1,11"}, {"\r", "0,0"}, {esc + "7", "0,11"},
            {esc + "8", "0,0"}, {esc + "H", "0,11"}, {esc + "M", "0,11"}, {esc + "[A", "0,11"}, {esc + "[C", "0,11"},
            {esc + "[K", "0,11"}, {esc + "[1J", "0,11"}, {esc + "[X", "0,11"}, {esc + "[@", "0,11"},
            {esc + "[P", "0,11"}, {esc + "[L", "0,11"}, {esc + "[S", "0,11"}, {esc + "[T", "0,11"},
            {esc + "[g", "0,11"}, {esc + "[4h", "0,11"}, {esc + "[?7h", "0,11"}, {esc + "[?25l", "0,11"},
            {esc + "[?6l", "0,0"}, {esc + "[?1049h", "0,11"}, {esc + "c", "0,0"}, {esc + "[1;3r", "0,0"}};
        for (String[] pair : ending) {
            Check.due("22 ends " + pair[0], afterWaiting(pair[0]), pair[1]);
        }
        TerminalWeir t = Check.fed("abcdefghijkl");
        t.size(13, 4);
        Check.due("22 ends with a size", Check.cursor(t), "0,11");
        t = Check.fed("abcdefghijkl");
        t.size(12, 4);
        Check.due("22 stays with the same size", Check.cursor(t), "0,11 waits");
    }

    private static void withoutWrapping() {
        TerminalWeir t = Check.fed(Check.ESC + "[?7labcdefghijkl");
        Check.due("22 waits too", Check.cursor(t), "0,11 waits");
        Check.feed(t, "mn");
        Check.due("16 the last column", Check.screen(t), "abcdefghijkn/............/............/............");
        Check.due("22 still", Check.cursor(t), "0,11 waits");
        Check.write(t, WIDE);
        Check.due("16 the last two", Check.line(t, 0), "abcdefghij" + WIDE + "<");
        Check.write(t, "z");
        Check.due("16 over the half", Check.line(t, 0), "abcdefghij.z");
        Check.code(t, "1;12H");
        Check.write(t, WIDE);
        Check.due("16 the last two from the last", Check.line(t, 0), "abcdefghij" + WIDE + "<");
        Check.code(t, "?7h");
        Check.write(t, "y");
        Check.due("16 the waiting ended with the mode", Check.line(t, 0), "abcdefghij.y");
        Check.write(t, "x");
        Check.due("16 wraps again", Check.line(t, 1), "x...........");
    }

    private static void wideAtTheEdge() {
        TerminalWeir t = Check.fed("abcdefghijk");
        Check.write(t, WIDE);
        Check.due("16 wraps first", Check.screen(t),
                "abcdefghijk.+/" + WIDE + "<........../............/............");
        t = Check.fed("abcdefghijkl" + Check.ESC + "[1;12H");
        Check.write(t, WIDE);
        Check.due("16 leaves the cell as it is", Check.line(t, 0), "abcdefghijkl");
        t = Check.fed("abcdefghij");
        Check.write(t, WIDE);
        Check.due("22 waits behind a wide one", Check.cursor(t), "0,11 waits");
        Check.write(t, WIDE);
        Check.due("16 the next row", Check.line(t, 1), WIDE + "<..........");
        t = Check.sized(2, 1, "");
        Check.write(t, WIDE + WIDE);
        Check.due("16 two wide", Check.screen(t) + Check.backPages(t), WIDE + "<" + WIDE + "<");
        Check.due("22 waits in two", Check.cursor(t), "0,1 waits");
    }

    private static void marks() {
        TerminalWeir t = new TerminalWeir();
        Check.write(t, "\u0301a\u0300\u0301b");
        Check.due("18 takes the place", t.mark(0, 0), 0x301);
        Check.due("18 a mark ahead is lost", Check.cursor(t), "0,2");
        Check.write(t, WIDE + "\u0302");
        Check.due("18 of a wide one", t.mark(0, 2), 0x302);
        TerminalWeir wide = t;
        Check.refused("18 not of its half", t, java.util.NoSuchElementException.class, () -> wide.mark(0, 3));
        t = Check.fed("abcdefghijkl");
        Check.write(t, "\u0301");
        Check.due("18 as a wrap waits", t.mark(0, 11) + " " + Check.cursor(t), 0x301 + " 0,11 waits");
        t = Check.fed("a" + Check.ESC + "[1m\u0007" + Check.ESC + "[5n" + Check.ESC + "]0;t\u0007" + Check.ESC + "[z");
        Check.write(t, "\u0301");
        Check.due("18 behind what does not end it", t.mark(0, 0), 0x301);
        t = Check.fed("ab\b");
        Check.write(t, "\u0301");
        TerminalWeir moved = t;
        Check.refused("18 lost behind a move", t, java.util.NoSuchElementException.class, () -> moved.mark(0, 1));
        t = Check.fed("a");
        t.size(10, 4);
        Check.write(t, "\u0301");
        TerminalWeir sized = t;
        Check.refused("18 lost behind a size", t, java.util.NoSuchElementException.class, () -> sized.mark(0, 0));
        t = new TerminalWeir();
        Check.write(t, "a\u0301");
        Check.code(t, "1;1Hb");
        TerminalWeir over = t;
        Check.refused("18 goes with its character", t, java.util.NoSuchElementException.class,
                () -> over.mark(0, 0));
        Check.write(t, "\u0302");
        Check.code(t, "1;1H");
        Check.code(t, "X");
        TerminalWeir erased = t;
        Check.refused("18 erased", t, java.util.NoSuchElementException.class, () -> erased.mark(0, 0));
    }

    private static void insertion() {
        TerminalWeir t = Check.fed("abcdefghijklm" + Check.ESC + "[4h" + Check.ESC + "[1;3Hxy");
        Check.due("19 moved right", Check.screen(t), "abxycdefghij+/m.........../............/............");
        Check.write(t, WIDE);
        Check.due("16 by the width", Check.line(t, 0), "abxy" + WIDE + "<cdefgh");
        Check.code(t, "1;6Hz");
        Check.due("16 between halves", Check.line(t, 0), "abxy.z.cdefg");
        t = new TerminalWeir();
        Check.write(t, "abcdefghij" + WIDE);
        Check.code(t, "4h");
        Check.code(t, "1;1Hz");
        Check.due("16 a half lost at the edge", Check.line(t, 0), "zabcdefghij.");
        Check.code(t, "1;12Hy");
        Check.due("16 at the edge", Check.line(t, 0) + Check.cursor(t), "zabcdefghijy0,11 waits");
        Check.write(t, "x");
        Check.due("16 wraps first", Check.line(t, 1), "x...........");
        Check.due("28 sound", t.isSound(), true);
    }
}
