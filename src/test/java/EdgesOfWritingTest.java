import java.util.NoSuchElementException;

/** Boundary cases that "Cells", "Characters" and "Writing" name, each told by the document's own words. */
public final class EdgesOfWritingTest {
    private static final String ESC = Check.ESC + "";
    private static final String WIDE = "\u4e00";
    private static final String OTHER = "\u4e01";
    private static final String MARK = "\u0301";
    private static final char BROKEN = 65533;

    private EdgesOfWritingTest() {
    }

    public static void main(String[] arguments) {
        rowsAndColumns();
        halvesOverwritten();
        halvesErased();
        halvesMovedAway();
        halvesHaveNoMark();
        bytesOfCharacters();
        brokenBytes();
        whatDoesNotGoOn();
        begunStays();
        widths();
        goingOn();
        wrappingOnto();
        wrappingInRegions();
        wideWraps();
        withoutWrapping();
        waitingTakenAgain();
        keepingTheWaiting();
        endingTheWaiting();
        marks();
        insertion();
        insertionAtTheEnd();
        Check.end();
    }

    private static String line(TerminalWeir t) {
        return Check.line(t, 0);
    }

    private static void rowsAndColumns() {
        for (int width : new int[] {2, 3, 19, 20}) {
            for (int height : new int[] {1, 2, 9, 10}) {
                String what = "'rows from 0 on, each with as many cells as the width tells' " + width + " " + height;
                TerminalWeir t = Check.sized(width, height, "");
                Check.due(what, t.at(0, 0) + " " + t.at(height - 1, width - 1), "32 32");
                Check.refused(what, t, IndexOutOfBoundsException.class, () -> t.at(height, 0));
                Check.refused(what, t, IndexOutOfBoundsException.class, () -> t.at(0, width));
                Check.refused(what, t, IndexOutOfBoundsException.class, () -> t.style(height, width - 1));
                Check.refused(what, t, IndexOutOfBoundsException.class, () -> t.mark(height - 1, width));
                Check.refused(what, t, IndexOutOfBoundsException.class, () -> t.isWrapped(height));
                Check.refused(what, t, IndexOutOfBoundsException.class, () -> t.hasTab(width));
            }
        }
    }

    /** A row of six, "aW<V<b", in a style of its own, and then this with the pen as at first. */
    private static String halves(String rest) {
        TerminalWeir t = Check.written(6, 2, ESC + "[1;41ma" + WIDE + OTHER + "b" + ESC + "[m" + rest);
        String told = line(t).replace(WIDE, "W").replace(OTHER, "V") + " " + Check.styles(t, 0);
        return told.replace("513", "s") + (t.isSound() ? "" : " not sound");
    }

    private static void halvesOverwritten() {
        String what = "'overwrites one half makes the other one blank, with the style that it had' ";
        Check.due(what + "first", halves(ESC + "[1;2Hx"), "ax.V<b s,0,s,s,s,s");
        Check.due(what + "second", halves(ESC + "[1;3Hx"), "a.xV<b s,s,0,s,s,s");
        Check.due(what + "first by a wide one", halves(ESC + "[1;1H" + WIDE), "W<.V<b 0,0,s,s,s,s");
        Check.due(what + "second and first", halves(ESC + "[1;3H" + WIDE), "a.W<.b s,s,0,0,s,s");
        Check.due(what + "second by a wide one", halves(ESC + "[1;5H" + WIDE), "aW<.W< s,s,s,s,0,0");
        Check.due(what + "both at once", halves(ESC + "[1;2H" + OTHER), "aV<V<b s,0,0,s,s,s");
        Check.due(what + "at both edges", Check.line(Check.written(2, 1, WIDE + ESC + "[1;2Hx"), 0), ".x");
        Check.due(what + "at both edges, first", Check.line(Check.written(2, 1, WIDE + ESC + "[1;1Hx"), 0), "x.");
    }

    private static void halvesErased() {
        String what = "'erases one half makes the other one blank, with the style that it had' ";
        Check.due(what + "X first", halves(ESC + "[1;2H" + ESC + "[X"), "a..V<b s,0,s,s,s,s");
        Check.due(what + "X second", halves(ESC + "[1;3H" + ESC + "[X"), "a..V<b s,s,0,s,s,s");
        Check.due(what + "X second and first", halves(ESC + "[1;3H" + ESC + "[2X"), "a....b s,s,0,0,s,s");
        Check.due(what + "X both", halves(ESC + "[1;2H" + ESC + "[2X"), "a..V<b s,0,0,s,s,s");
        Check.due(what + "K", halves(ESC + "[1;3H" + ESC + "[K"), "a..... s,s,0,0,0,0");
        Check.due(what + "1K", halves(ESC + "[1;2H" + ESC + "[1K"), "...V<b 0,0,s,s,s,s");
        Check.due(what + "J", halves(ESC + "[1;5H" + ESC + "[J"), "aW<... s,s,s,s,0,0");
        Check.due(what + "1J", halves(ESC + "[1;4H" + ESC + "[1J"), ".....b 0,0,0,0,s,s");
    }

    private static void halvesMovedAway() {
        String what = "'moves away one half makes the other one blank, with the style that it had' ";
        Check.due(what + "@ between", halves(ESC + "[1;3H" + ESC + "[@"), "a...V< s,s,0,s,s,s");
        Check.due(what + "@ over the end", halves(ESC + "[1;1H" + ESC + "[2@"), "..aW<. 0,0,s,s,s,s");
        Check.due(what + "insertion between", halves(ESC + "[4h" + ESC + "[1;3Hx"), "a.x.V< s,s,0,s,s,s");
        Check.due(what + "insertion over the end", halves(ESC + "[4h" + ESC + "[1;1Hxy"), "xyaW<. 0,0,s,s,s,s");
        Check.due(what + "P first", halves(ESC + "[1;2H" + ESC + "[P"), "a.V<b. s,s,s,s,s,0");
        Check.due(what + "P second", halves(ESC + "[1;3H" + ESC + "[P"), "a.V<b. s,s,s,s,s,0");
        Check.due(what + "P second and first", halves(ESC + "[1;3H" + ESC + "[2P"), "a..b.. s,s,s,s,0,0");
        Check.due(what + "cut", halvesCut(5) + " " + halvesCut(4) + " " + halvesCut(2),
                "aW<V< s,s,s,s,s aW<. s,s,s,s a. s,s");
    }

    private static String halvesCut(int width) {
        TerminalWeir t = Check.written(6, 2, ESC + "[?1049h" + ESC + "[1;41ma" + WIDE + OTHER + "b");
        t.size(width, 2);
        return line(t).replace(WIDE, "W").replace(OTHER, "V") + " " + Check.styles(t, 0).replace("513", "s");
    }

    private static void halvesHaveNoMark() {
        String what = "'the other one blank', so without its mark ";
        String marked = "a" + WIDE + MARK;
        Check.due(what + "kept", Check.marks(Check.written(6, 2, marked)), "0,1:769");
        for (String rest : new String[] {"[1;2Hx", "[1;3Hx", "[1;2H" + ESC + "[X", "[1;3H" + ESC + "[X", "[1;3H" + ESC
                + "[@",
            "[1;2H" + ESC + "[P", "[1;3H" + ESC + "[P", "[1;3H" + ESC + "[K", "[1;2H" + ESC + "[1K"}) {
            Check.due(what + rest, Check.marks(Check.written(6, 2, marked + ESC + rest)), "");
        }
        TerminalWeir t = Check.written(4, 1, "ab" + WIDE + MARK + ESC + "[1;1H" + ESC + "[@");
        Check.due(what + "moved over the end", line(t) + Check.marks(t), ".ab.");
    }

    private static void bytesOfCharacters() {
        int[] ends = {128, 191};
        for (int lead : new int[] {194, 195, 203, 206, 222, 223}) {
            for (int next : ends) {
                TerminalWeir t = Check.fed("" + (char) lead + (char) next);
                Check.due("'192 to 223 begin one of two bytes' " + lead + " " + next, t.at(0, 0),
                        (lead - 192) * 64 + next - 128);
            }
        }
        for (int lead : new int[] {225, 231, 237, 238, 239}) {
            for (int next : ends) {
                TerminalWeir t = Check.fed("" + (char) lead + (char) next + (char) (319 - next));
                Check.due("'224 to 239 one of three', 'the higher ones first' " + lead + " " + next, t.at(0, 0),
                        (lead - 224) * 4096 + (next - 128) * 64 + 191 - next);
            }
        }
        Check.due("'bytes below 128 are characters themselves'", line(Check.fed(" !/09@AZ[`az")), ".!/09@AZ[`az");
        Check.due("'bytes below 128 are characters themselves' 123 to 126", line(Check.fed("{|}~")), "{|}~........");
    }

    private static String broken(String bytes) {
        return line(Check.fed(bytes)).replace(BROKEN, '#').replace(".", "");
    }

    private static void brokenBytes() {
        String what = "'192 and 193 by themselves' ";
        Check.due(what + 192, broken("\u00c0") + " " + broken("\u00c0\u0080") + " " + broken("\u00c0\u00c0"),
                "# ## ##");
        Check.due(what + 193, broken("\u00c1") + " " + broken("\u00c1\u00bf") + " " + broken("\u00c1a"), "# ## #a");
        what = "'a character below 2048 by three bytes' ";
        Check.due(what + 2047, broken("\u00e0\u009f\u00bfa"), "#a");
        Check.due(what + 2048, broken("\u00e0\u00a0\u0080a"), "\u0800a");
        Check.due(what + "0, 65, 127, 768 and 7", broken("\u00e0\u0080\u0080\u00e0\u0081\u0081\u00e0\u0081\u00bf"
                + "\u00e0\u008c\u0080\u00e0\u0080\u0087"), "#####");
        Check.due("'and one from 240 on'", broken("\u00f0\u00f7\u00f8\u00fe\u00ff"), "#####");
        Check.due("'and one from 240 on', what follows it follows nothing", broken("\u00f4\u0090\u0080\u0080a"),
                "####a");
        Check.due("'and one from 240 on', at once", broken("\u00f0") + broken("\u00f0\u0090\u0080a")
                + broken("\u00f8\u0090a"), "####a##a");
        Check.due("'a byte from 128 to 191 that follows nothing'", broken("\u0080\u00bf\u009f\u00a0a"), "####a");
        Check.due("'that follows nothing', behind a whole one", broken("\u00c3\u00a9\u00a9"), "\u00e9#");
    }

    private static void whatDoesNotGoOn() {
        String what = "'what was begun is one 65533, and the byte is looked at as the first one of another' ";
        String[] begun = {"\u00c2", "\u00df", "\u00e0", "\u00e0\u00a0", "\u00ef", "\u00ef\u00bf"};
        for (String bytes : begun) {
            Check.due(what + "a letter", broken(bytes + "a"), "#a");
            Check.due(what + "two bytes", broken(bytes + "\u00c3\u00a9a"), "#\u00e9a");
            Check.due(what + "three bytes", broken(bytes + "\u00e2\u0082\u00aca"), "#\u20aca");
            Check.due(what + "192", broken(bytes + "\u00c0a"), "##a");
            Check.due(what + "240", broken(bytes + "\u00f0a"), "##a");
            Check.due(what + "127", broken(bytes + "\u007fa"), "#a");
            Check.due(what + "0", broken(bytes + "\u0000a"), "#a");
            Check.due(what + "24", broken(bytes + "\u0018a"), "#a");
            Check.due(what + "26", broken(bytes + "\u001aa"), "#a");
            Check.due(what + "8", broken(bytes + "\ba"), "a");
            Check.due(what + "a code", broken(bytes + ESC + "[Ca"), "#a");
            Check.due(what + "a string", broken(bytes + ESC + "]0;t\u0007a"), "#a");
            Check.due(what + "a ring", Check.fed(bytes + "\u0007").rings(), 1);
        }
        Check.due(what + "over the end of a row", Check.screen(Check.fed("abcdefghijkl\u00e2\u0082x")),
                "abcdefghijkl+/\ufffdx........../............/............");
        Check.due(what + "ahead of a new line, as a wrap waits", Check.cursor(Check.fed("abcdefghijkl\u00c3\n")),
                "2,1");
    }

    private static void begunStays() {
        String what = "what was begun goes on behind other calls ";
        TerminalWeir t = Check.fed("\u00e2");
        t.size(5, 3);
        t.type(0x82);
        t.feedAll();
        t.keep();
        Check.due(what + "not yet", line(t), ".....");
        t.feed(0xac);
        Check.due(what + "whole", line(t), "\u20ac....");
        t = Check.fed("\u00c3");
        t.key(19);
        t.feed(0xa9);
        Check.due(what + "held", line(t), "............");
        t.key(17);
        Check.due(what + "let go on", line(t), "\u00e9...........");
        t = Check.fed("\u00c3");
        t.key('k');
        Check.due(what + "but not behind an echo", line(t), BROKEN + "k..........");
    }

    private static void widths() {
        for (int character : new int[] {4352, 4447, 11904, 40959, 44032, 55203, 65280, 65376}) {
            TerminalWeir t = Check.written(3, 2, "ab" + (char) character);
            Check.due("'are wide' " + character, Check.cursor(t) + t.isWrapped(0) + t.at(1, 1), "1,2true0");
        }
        for (int character : new int[] {128, 767, 880, 4351, 4448, 11903, 40960, 44031, 55204, 55296, 57343, 65279,
                65377}) {
            TerminalWeir t = Check.written(3, 2, "ab" + (char) character);
            Check.due("'are narrow' " + character, Check.cursor(t) + t.isWrapped(0) + t.at(0, 2), "0,2 waitsfalse"
                    + character);
        }
        for (int character : new int[] {768, 879}) {
            TerminalWeir t = Check.written(3, 2, "ab" + (char) character);
            Check.due("'from 768 to 879 are marks' " + character, Check.cursor(t) + " " + Check.marks(t), "0,2 0,1:"
                    + character);
        }
    }

    private static void goingOn() {
        for (String mode : new String[] {"", ESC + "[?7l"}) {
            String what = "'if it would be beyond the last column, it stays at the last column, and a wrap waits' "
                    + mode;
            Check.due(what + "at first", Check.cursor(Check.written(4, 2, mode)), "0,0");
            Check.due(what + "to the last column", Check.cursor(Check.written(4, 2, mode + "abc")), "0,3");
            Check.due(what + "beyond it", Check.cursor(Check.written(4, 2, mode + "abcd")), "0,3 waits");
            Check.due(what + "a wide one to it", Check.cursor(Check.written(4, 2, mode + "a" + WIDE)), "0,3");
            Check.due(what + "a wide one beyond it", Check.cursor(Check.written(4, 2, mode + "ab" + WIDE)),
                    "0,3 waits");
            Check.due(what + "two columns", Check.cursor(Check.written(2, 1, mode + "a")), "0,1");
            Check.due(what + "two columns full", Check.cursor(Check.written(2, 1, mode + "ab")), "0,1 waits");
            Check.due(what + "two columns by a wide one", Check.cursor(Check.written(2, 1, mode + WIDE)), "0,1 waits");
            Check.due(what + "twenty columns", Check.cursor(Check.written(20, 10, mode + "a".repeat(20))),
                    "0,19 waits");
        }
    }

    private static String told(int width, int height, String text) {
        TerminalWeir t = Check.written(width, height, text);
        return Check.screen(t).replace(WIDE, "W").replace(OTHER, "V") + " " + Check.cursor(t) + " " + t.back();
    }

    private static void wrappingOnto() {
        String what = "'the row is told as wrapped, and the cursor goes to the first column of the next row' ";
        Check.due(what + "between", told(4, 3, "abcde"), "abcd+/e.../.... 1,1 0");
        Check.due(what + "at the lowest row", told(4, 2, "\nabcde"), "abcd+/e... 1,1 1");
        Check.due(what + "of one row", told(4, 1, "abcde"), "e... 0,1 1");
        Check.due(what + "of ten rows", told(2, 10, "abcdefghijklmnopqrstu"),
                "cd+/ef+/gh+/ij+/kl+/mn+/op+/qr+/st+/u. 9,1 1");
        Check.due(what + "by a wide one", told(4, 2, "abcd" + WIDE), "abcd+/W<.. 1,2 0");
        Check.due(what + "by a blank", told(4, 2, "abcd "), "abcd+/.... 1,1 0");
        Check.due(what + "by what is broken", Check.screen(Check.sized(4, 2, "abcd\u0080")), "abcd+/" + BROKEN + "...");
        Check.due(what + "not by a mark", told(4, 2, "abcd" + MARK), "abcd/.... 0,3 waits 0");
        Check.due(what + "over what stands there", told(4, 2, "\nwxyz" + ESC + "[1;1Habcde"), "abcd+/exyz 1,1 0");
    }

    private static void wrappingInRegions() {
        String what = "'as by a new line', ";
        Check.due(what + "at the lowest row of the region", told(4, 4, ESC + "[2;3r" + ESC + "[3;1Habcde"),
                "..../abcd+/e.../.... 2,1 0");
        Check.due(what + "of a region from 0 on", told(4, 4, ESC + "[1;2r" + ESC + "[2;1Habcde"),
                "abcd+/e.../..../.... 1,1 1");
        Check.due(what + "into the region", told(4, 4, ESC + "[2;3rabcde"), "abcd+/e.../..../.... 1,1 0");
        Check.due(what + "below the region", told(4, 4, ESC + "[1;2r" + ESC + "[3;1Habcde"),
                "..../..../abcd+/e... 3,1 0");
        Check.due(what + "'at the lowest of all, below the region, not at all'",
                told(4, 4, ESC + "[1;2r" + ESC + "[4;1Habcde"), "..../..../..../ebcd+ 3,1 0");
        Check.due(what + "not at all, a wide one", told(4, 4, ESC + "[1;2r" + ESC + "[4;1Habcd" + WIDE),
                "..../..../..../W<cd+ 3,2 0");
        Check.due(what + "on the second screen", told(4, 2, ESC + "[?1049h" + ESC + "[2;1Habcde"), "abcd+/e... 1,1 0");
    }

    private static void wideWraps() {
        String what = "'for which a single column is left wraps first likewise, leaving that cell as it is' ";
        Check.due(what + "blank", told(4, 2, "abc" + WIDE), "abc.+/W<.. 1,2 0");
        Check.due(what + "filled", told(4, 2, "abcd" + ESC + "[1;4H" + WIDE), "abcd+/W<.. 1,2 0");
        Check.due(what + "two are left", told(4, 2, "ab" + WIDE), "abW</.... 0,3 waits 0");
        Check.due(what + "at the lowest row", told(4, 2, "\nabc" + WIDE), "abc.+/W<.. 1,2 1");
        Check.due(what + "at the lowest of all", told(4, 3, ESC + "[1;2r" + ESC + "[3;1Habcd" + ESC + "[3;4H" + WIDE),
                "..../..../W<cd+ 2,2 0");
        Check.due(what + "two columns", told(2, 2, "a" + WIDE), "a.+/W< 1,1 waits 0");
        TerminalWeir t = Check.written(4, 2, "abc" + ESC + "[4;31md" + MARK + ESC + "[m" + ESC + "[1;4H" + WIDE);
        Check.due(what + "its style and mark", t.style(0, 3) + " " + Check.marks(t), "34 0,3:769");
        t = Check.written(4, 2, "a" + ESC + "[1;3H" + OTHER + ESC + "[1;4H" + WIDE);
        Check.due(what + "an other half", Check.screen(t), "a." + OTHER + "<+/" + WIDE + "<..");
    }

    private static void withoutWrapping() {
        String off = ESC + "[?7l";
        String what = "'with wrapping off, the character goes to the last column' ";
        Check.due(what, told(4, 2, off + "abcde"), "abce/.... 0,3 waits 0");
        Check.due(what + "again", told(4, 2, off + "abcdefg"), "abcg/.... 0,3 waits 0");
        Check.due(what + "over a half", told(4, 2, off + "ab" + WIDE + "x"), "ab.x/.... 0,3 waits 0");
        Check.due(what + "at the lowest row", told(4, 2, off + "\nabcde"), "..../abce 1,3 waits 0");
        what = "'a wide one to the last two' ";
        Check.due(what, told(4, 2, off + "abcd" + WIDE), "abW</.... 0,3 waits 0");
        Check.due(what + "again", told(4, 2, off + "ab" + WIDE + OTHER), "abV</.... 0,3 waits 0");
        Check.due(what + "over a half", told(4, 2, off + "a" + WIDE + "d" + OTHER), "a.V</.... 0,3 waits 0");
        Check.due(what + "of two", told(2, 1, off + "ab" + WIDE), "W< 0,1 waits 0");
        what = "'with wrapping off, it goes to the last two' ";
        Check.due(what, told(4, 2, off + "abc" + WIDE), "abW</.... 0,3 waits 0");
        Check.due(what + "where it fits", told(4, 2, off + "a" + WIDE), "aW<./.... 0,3 0");
        Check.due(what + "of two", told(2, 1, off + "a" + WIDE), "W< 0,1 waits 0");
    }

    private static void waitingTakenAgain() {
        String what = "'if a wrap waits as a character comes', taken again by '8', ";
        Check.due(what + "wrapping on", told(4, 2, "abcd" + ESC + "7\r" + ESC + "8x"), "abcd+/x... 1,1 0");
        Check.due(what + "wrapping off since", told(4, 2, "abcd" + ESC + "7" + ESC + "[?7l" + ESC + "8x"),
                "abcx/.... 0,3 waits 0");
        Check.due(what + "wrapping on since", told(4, 2, ESC + "[?7labcd" + ESC + "7" + ESC + "[?7h" + ESC + "8x"),
                "abcd+/x... 1,1 0");
        Check.due(what + "a wide one", told(4, 2, "abcd" + ESC + "7\r" + ESC + "8" + WIDE), "abcd+/W<.. 1,2 0");
        Check.due(what + "onto another row", told(4, 3, "abcd" + ESC + "7" + ESC + "[1;2r" + ESC + "8x"),
                "abcd+/x.../.... 1,1 0");
    }

    /** A full row, then these bytes, then a mark: where the cursor is, and where the mark is. */
    private static String waitingBehind(String bytes) {
        TerminalWeir t = Check.written(4, 3, "abcd");
        Check.feed(t, bytes);
        String cursor = Check.cursor(t);
        Check.write(t, MARK);
        return cursor + " " + Check.marks(t);
    }

    private static void keepingTheWaiting() {
        String what = "'but a character, a mark, a style, a ring, a reply, or a title' ";
        String[] kept = {"", Check.bytesOf(768), ESC + "[m", ESC + "[1;41m", ESC + "[999m", "\u0007", ESC + "[5n",
                ESC + "[6n",
            ESC + "]0;a\u0007", ESC + "]2;\u0007", ESC + "]0;a" + ESC + "\\"};
        for (String bytes : kept) {
            Check.due(what + bytes, waitingBehind(bytes), "0,3 waits 0,3:769");
        }
        what = "nothing is done ";
        String[] nothing = {"\u0000", "\u000e", "\u001f", "\u007f", "\u0018", "\u001a", ESC + "\u0018",
                ESC + "[5\u001a",
            ESC + "]0;a\u0018", ESC + "z", ESC + "\\", ESC + "\n", ESC + "\u00ff", ESC + "[z", ESC + "[3J", ESC + "[3K",
            ESC + "[1n", ESC + "[1g", ESC + "[2g", ESC + "[2;2r", ESC + "[3;2r", ESC + "[4r", ESC + "[ A", ESC + "[:A",
            ESC + "[1?A", ESC + "[?A", ESC + "[?J", ESC + "[?4h", ESC + "[?1h", ESC + "[h", ESC + "[6h", ESC + "[25l",
            ESC + "[?1049l", ESC + "]1;a\u0007", ESC + "]\u0007"};
        for (String bytes : nothing) {
            Check.due(what + bytes, waitingBehind(bytes), "0,3 waits 0,3:769");
        }
        TerminalWeir t = Check.written(4, 3, ESC + "[2;3r" + "abcd" + ESC + "[L" + ESC + "[M" + MARK);
        Check.due(what + "'if the cursor is within it'", Check.cursor(t) + " " + Check.marks(t), "0,3 waits 0,3:769");
        t = Check.written(4, 3, ESC + "[?1049h" + "abcd" + ESC + "[?1049h" + MARK);
        Check.due(what + "'being set already'", Check.cursor(t) + " " + Check.marks(t), "0,3 waits 0,3:769");
    }

    private static void endingTheWaiting() {
        String what = "'whatever is done .. ends the waiting', and a mark behind it 'is lost' ";
        String[] ending = {"\b", "\t", "\n", "\u000b", "\f", "\r", ESC + "7", ESC + "8", ESC + "D", ESC + "E",
                ESC + "M",
            ESC + "H", ESC + "c", ESC + "[A", ESC + "[B", ESC + "[C", ESC + "[D", ESC + "[G", ESC + "[4G", ESC + "[d",
            ESC + "[H", ESC + "[1;4H", ESC + "[J", ESC + "[1J", ESC + "[2J", ESC + "[K", ESC + "[1K", ESC + "[2K",
                    ESC + "[X",
            ESC + "[@", ESC + "[P", ESC + "[L", ESC + "[M", ESC + "[S", ESC + "[T", ESC + "[r", ESC + "[1;2r",
                    ESC + "[g",
            ESC + "[3g", ESC + "[4h", ESC + "[4l", ESC + "[?6h", ESC + "[?6l", ESC + "[?7h", ESC + "[?7l",
                    ESC + "[?25h",
            ESC + "[?25l", ESC + "[?1049h", ESC + "[1;4H" + ESC + "[4G"};
        for (String bytes : ending) {
            String told = waitingBehind(bytes);
            Check.due(what + bytes, told.contains("waits") || told.contains(":"), false);
        }
        TerminalWeir t = Check.written(4, 3, ESC + "7" + ESC + "[?1049habcd" + ESC + "[?1049l" + MARK);
        Check.due(what + "the first screen again", Check.cursor(t) + Check.marks(t), "0,0");
        t = Check.written(4, 3, ESC + "7a" + ESC + "8" + MARK);
        Check.due(what + "the cursor kept ahead of it", Check.cursor(t) + Check.marks(t), "0,0");
        t = Check.written(4, 3, ESC + "[1;2r" + ESC + "[3;1Habcd\n" + MARK);
        Check.due(what + "a new line 'not at all'", Check.cursor(t) + Check.marks(t), "2,3");
        t = Check.written(4, 3, "abcd");
        t.size(4, 2);
        Check.write(t, MARK);
        Check.due("'as the size becomes another one, waiting ends'", Check.cursor(t) + Check.marks(t), "0,3");
    }

    private static void marks() {
        String what = "'a mark joins the character last written' ";
        Check.due(what + "none yet", Check.marks(Check.written(4, 2, MARK)) + Check.cursor(Check.written(4, 2, MARK)),
                "0,0");
        Check.due(what + "the next one is not joined", Check.marks(Check.written(4, 2, MARK + "a")), "");
        Check.due(what + "the last alone", Check.marks(Check.written(4, 2, "ab" + MARK)), "0,1:769");
        Check.due(what + "a blank", Check.marks(Check.written(4, 2, " " + MARK)), "0,0:769");
        Check.due(what + "a broken one", Check.marks(Check.fed("\u0080\u00cc\u0081")), "0,0:769");
        Check.due(what + "a broken one that the mark's first byte ended", Check.marks(Check.fed("\u00e2\u00cc\u0081")),
                "0,0:769");
        Check.due(what + "a wide one at the end", Check.marks(Check.written(4, 2, "ab" + WIDE + MARK)), "0,2:769");
        Check.due(what + "behind a wrap", Check.marks(Check.written(4, 2, "abcde" + MARK)), "1,0:769");
        Check.due(what + "behind a wrap at the lowest row", Check.marks(Check.written(4, 1, "abcde" + MARK)),
                "0,0:769");
        Check.due(what + "with wrapping off", Check.marks(Check.written(4, 1, ESC + "[?7labcde" + MARK)), "0,3:769");
        Check.due(what + "as it moved by insertion", Check.marks(Check.written(4, 1, ESC + "[4hab\r" + "c" + MARK)),
                "0,0:769");
        what = "'it takes the place of a mark that is there' ";
        TerminalWeir t = Check.written(4, 2, "a" + MARK + "\u0300\u036f");
        Check.due(what, Check.marks(t) + " " + Check.cursor(t), "0,0:879 0,1");
        Check.due(what + "behind a style", Check.marks(Check.written(4, 2, "a" + MARK + ESC + "[1m\u0300")), "0,0:768");
        TerminalWeir none = Check.written(4, 2, "a" + MARK + "\ra");
        Check.refused("its mark is overwritten with it", none, NoSuchElementException.class, () -> none.mark(0, 0));
        Check.due("a mark is moved with its character",
                Check.marks(Check.written(4, 2, "a" + MARK + "\r" + ESC + "[2@")), "0,2:769");
        Check.due("a mark comes up with its character",
                Check.marks(Check.written(4, 2, "abc" + MARK + "\r" + ESC + "[P")), "0,1:769");
        Check.due("a mark is lost with its character",
                Check.marks(Check.written(4, 2, "abcd" + MARK + "\r" + ESC + "[@")), "");
    }

    private static void insertion() {
        String on = ESC + "[4h";
        String what = "'the cells from the cursor on move to the right by the width first' ";
        Check.due(what + "at the first column", told(4, 2, "abcd" + on + "\rx"), "xabc/.... 0,1 0");
        Check.due(what + "by two", told(4, 2, "abcd" + on + "\r" + WIDE), "W<ab/.... 0,2 0");
        Check.due(what + "a mark moves none", told(4, 2, "abcd" + on + "\rx" + MARK), "xabc/.... 0,1 0");
        Check.due("'those beyond the last column being lost', at the last column",
                told(4, 2, "abcd" + on + ESC + "[1;4Hx"), "abcx/.... 0,3 waits 0");
        Check.due("'those beyond the last column being lost', a wide one at the last two",
                told(4, 2, "abcd" + on + ESC + "[1;3H" + WIDE), "abW</.... 0,3 waits 0");
        Check.due("a wide one wraps first, then moves them", told(4, 2, "abc\r\nwxyz" + on + ESC + "[1;4H" + WIDE),
                "abc.+/W<wx 1,2 0");
        Check.due("what waits wraps first, then moves them", told(4, 2, on + "\r\nwxyz" + ESC + "[1;1Habcde"),
                "abcd+/ewxy 1,1 0");
    }

    private static void insertionAtTheEnd() {
        String on = ESC + "[4h";
        String what = "'the row is told as wrapped as it was' ";
        Check.due(what + "it was", told(4, 2, "abcde" + on + ESC + "[1;2Hx"), "axbc+/e... 0,2 0");
        Check.due(what + "it was, at the last column", told(4, 2, "abcde" + on + ESC + "[1;4Hx"),
                "abcx+/e... 0,3 waits 0");
        Check.due(what + "it was not", told(4, 2, "abcd" + on + ESC + "[1;2Hx"), "axbc/.... 0,2 0");
        what = "insertion with wrapping off ";
        Check.due(what, told(4, 2, on + ESC + "[?7labcde"), "abce/.... 0,3 waits 0");
        Check.due(what + "a wide one", told(4, 2, on + ESC + "[?7labcd" + WIDE), "abW</.... 0,3 waits 0");
        Check.due(what + "a wide one over a half", told(4, 2, on + ESC + "[?7la" + WIDE + "d" + OTHER),
                "a.V</.... 0,3 waits 0");
    }
}
