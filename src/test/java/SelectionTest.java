/** Promises 32 and 33: select and selected. */
public final class SelectionTest {
    private static final String ESC = Check.ESC + "";

    private SelectionTest() {
    }

    public static void main(String[] arguments) {
        words();
        lines();
        boxes();
        wrappedRows();
        halves();
        whatStays();
        refused();
        Check.end();
    }

    private static String pick(TerminalWeir t, char kind, int row, int column, int toRow, int toColumn) {
        int count = t.select(kind, row, column, toRow, toColumn);
        String chosen = Check.chosen(t);
        return chosen.replace('\n', '/') + (chosen.length() == count ? "" : " but told as " + count);
    }

    private static TerminalWeir text() {
        return Check.fed("ab cde f\r\n gh\r\n\r\nijkl mn");
    }

    private static void words() {
        TerminalWeir t = text();
        Check.due("32 one word", pick(t, 'w', 0, 4, 0, 4), "cde");
        Check.due("32 from its ends", pick(t, 'w', 0, 3, 0, 5), "cde");
        Check.due("32 two words", pick(t, 'w', 0, 1, 0, 4), "ab cde");
        Check.due("32 at the beginning", pick(t, 'w', 0, 0, 0, 0), "ab");
        Check.due("32 a blank", pick(t, 'w', 0, 2, 0, 2), " ");
        Check.due("32 from a blank", pick(t, 'w', 0, 2, 0, 3), " cde");
        Check.due("32 to a blank", pick(t, 'w', 0, 3, 0, 6), "cde ");
        Check.due("32 blanks at the end stay", pick(t, 'w', 0, 7, 0, 9), "f  ");
        Check.due("32 to another row", pick(t, 'w', 0, 4, 1, 1), "cde f    / gh");
        Check.due("32 over three", pick(t, 'w', 1, 2, 3, 1), "gh         /            /ijkl");
        TerminalWeir full = Check.fed("abcdefghijkl");
        Check.due("32 a whole row", pick(full, 'w', 0, 5, 0, 5), "abcdefghijkl");
        TerminalWeir joined = Check.fed("abcdefghijklmn");
        Check.due("32 in its row alone", pick(joined, 'w', 1, 1, 1, 1), "mn");
        Check.due("32 a styled blank is blank", pick(Check.fed("a" + ESC + "[41m b"), 'w', 0, 0, 0, 0), "a");
    }

    private static void lines() {
        TerminalWeir t = text();
        Check.due("32 a line", pick(t, 'l', 0, 5, 0, 5), "ab cde f");
        Check.due("32 all", pick(t, 'l', 0, 11, 3, 0), "ab cde f/ gh//ijkl mn");
        Check.due("32 an empty one", pick(t, 'l', 2, 0, 2, 11), "");
        Check.due("32 the last one empty", pick(t, 'l', 1, 0, 2, 0), " gh/");
    }

    private static void boxes() {
        TerminalWeir t = text();
        Check.due("32 a box", pick(t, 'b', 0, 1, 3, 4), "b cd/gh//jkl");
        Check.due("32 turned round", pick(t, 'b', 0, 4, 3, 1), "b cd/gh//jkl");
        Check.due("32 a column", pick(t, 'b', 0, 2, 1, 2), "/h");
        Check.due("32 a cell", pick(t, 'b', 0, 3, 0, 3), "c");
        Check.due("32 a blank cell", pick(t, 'b', 0, 2, 0, 2), "");
        Check.due("32 in one row", pick(t, 'b', 0, 0, 0, 5), "ab cde");
        Check.due("32 to the edge", pick(t, 'b', 0, 6, 1, 11), " f/");
    }

    private static void wrappedRows() {
        TerminalWeir t = Check.fed("abcdefghij  kl");
        Check.due("19 wrapped", t.isWrapped(0), true);
        Check.due("32 no 10 by w", pick(t, 'w', 0, 0, 1, 0), "abcdefghij  kl");
        Check.due("32 no 10 by l", pick(t, 'l', 0, 0, 1, 0), "abcdefghijkl");
        Check.due("32 10 by b", pick(t, 'b', 0, 0, 1, 11), "abcdefghij/kl");
    }

    private static void halves() {
        TerminalWeir t = new TerminalWeir();
        Check.write(t, "a\u4e00 \u4e01b\u0301");
        Check.due("32 a half is of the word", pick(t, 'w', 0, 2, 0, 2), "a\u4e00");
        Check.due("32 halves are not counted", t.select('l', 0, 0, 0, 0), 5);
        Check.due("33 nor marks", Check.chosen(t), "a\u4e00 \u4e01b");
        Check.due("32 a box of a second half", pick(t, 'b', 0, 2, 0, 4), " \u4e01");
        Check.due("32 a half alone", pick(t, 'b', 0, 5, 0, 5), "");
    }

    private static void whatStays() {
        TerminalWeir t = Check.fed("abc");
        Check.refused("33 none at first", t, java.util.NoSuchElementException.class, () -> t.selected(0));
        t.select('l', 0, 0, 0, 0);
        Check.feed(t, ESC + "[2J");
        t.size(20, 2);
        Check.due("33 whatever was told since", Check.chosen(t), "abc");
        Check.due("33 last", t.selected(2), 99);
        Check.refused("33 behind it", t, java.util.NoSuchElementException.class, () -> t.selected(3));
        Check.refused("33 -1", t, java.util.NoSuchElementException.class, () -> t.selected(-1));
        t.select('l', 0, 0, 0, 0);
        Check.due("33 empty", Check.chosen(t), "");
        TerminalWeir full = Check.sized(20, 10, "a".repeat(20));
        Check.feed(full, (ESC + "E" + "b".repeat(20)).repeat(9));
        Check.due("32 the most there can be", full.select('b', 0, 0, 9, 19), 209);
    }

    private static void refused() {
        TerminalWeir t = text();
        t.select('w', 0, 0, 0, 0);
        int[][] outside = {{-1, 0, 0, 0}, {4, 0, 4, 0}, {0, -1, 0, 0}, {0, 12, 1, 0}, {0, 0, -1, 0}, {0, 0, 4, 0},
            {0, 0, 0, -1}, {0, 0, 1, 12}};
        for (int[] c : outside) {
            Check.refused("32 outside", t, IndexOutOfBoundsException.class,
                    () -> t.select('w', c[0], c[1], c[2], c[3]));
            Check.refused("32 outside, no kind", t, IndexOutOfBoundsException.class,
                    () -> t.select('x', c[0], c[1], c[2], c[3]));
        }
        for (char kind : new char[] {'x', 'W', 0, 65535}) {
            Check.refused("32 no kind", t, IllegalArgumentException.class, () -> t.select(kind, 0, 0, 1, 1));
            Check.refused("32 no kind, ahead", t, IllegalArgumentException.class, () -> t.select(kind, 1, 0, 0, 1));
        }
        for (char kind : new char[] {'w', 'l', 'b'}) {
            Check.refused("32 a row ahead", t, UnsupportedOperationException.class,
                    () -> t.select(kind, 1, 0, 0, 5));
            Check.refused("32 a column ahead", t, UnsupportedOperationException.class,
                    () -> t.select(kind, 1, 5, 1, 4));
        }
    }
}
