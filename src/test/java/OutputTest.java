/** Promises 34 to 40: keep, output, outputAt, filledBits, meanLength, checksum and isSound. */
public final class OutputTest {
    private static final String ESC = Check.ESC + "";
    private static final String WIDE = "\u4e00";

    private OutputTest() {
    }

    public static void main(String[] arguments) {
        sums();
        keeping();
        runs();
        styles();
        wideRuns();
        marks();
        lastColumn();
        refused();
        played();
        shares();
        lengths();
        sound();
        Check.end();
    }

    private static long sumOver(TerminalWeir t) {
        long sum = 7;
        for (int i = 0; i < t.height(); i++) {
            for (int j = 0; j < t.width(); j++) {
                sum = 31 * (31 * sum + t.at(i, j)) + t.style(i, j);
            }
        }
        return sum;
    }

    private static void sums() {
        TerminalWeir t = new TerminalWeir();
        Check.due("34 blank", t.keep(), sumOver(t));
        Check.due("39 blank", t.checksum(), 3613146586960824473L);
        Check.due("34 blank by number", t.keep(), 3870773399729628679L);
        Check.feed(t, "ab" + ESC + "[1;41mc");
        Check.write(t, WIDE);
        Check.feed(t, "\n\n\n\n\n");
        Check.due("34 filled", t.keep(), sumOver(t));
        Check.due("39 filled", t.checksum(), 31 * (31 * (31 * sumOver(t) + 3) + 5) + 2);
        TerminalWeir small = Check.sized(2, 1, "a");
        Check.due("34 two cells", small.keep(), 31 * (31 * (31 * (31 * 7L + 97)) + 32));
    }

    private static String made(TerminalWeir t) {
        int count = t.output();
        String output = Check.output(t);
        return output.replace(ESC, "^") + (output.length() == count ? "" : " but told as " + count);
    }

    private static void keeping() {
        TerminalWeir t = Check.fed("ab");
        t.keep();
        Check.due("35 nothing differs", made(t), "^[1;3H");
        Check.due("36 first", t.outputAt(0), 27);
        Check.feed(t, "cd");
        Check.due("36 that made last", t.outputAt(4), (int) '3');
        Check.due("35 two cells", made(t), "^[1;3H^[0mcd^[1;5H");
        t.checksum();
        Check.due("39 keeps nothing", made(t), "^[1;3H^[0mcd^[1;5H");
        t.isSound();
        Check.due("40 leaves the output", Check.output(t).replace(ESC, "^"), "^[1;3H^[0mcd^[1;5H");
        t.keep();
        Check.due("34 kept anew", made(t), "^[1;5H");
    }

    private static String since(String kept, String since) {
        TerminalWeir t = Check.fed(kept);
        t.keep();
        Check.feed(t, since);
        String made = made(t);
        return t.isSound() ? made : made + " not sound";
    }

    private static void runs() {
        Check.due("35 from the first to the last", since("abcdef", ESC + "[1;2Hx" + ESC + "[1;5Hy"),
                "^[1;2H^[0mxcdy^[1;6H");
        Check.due("35 row by row", since("", "a\r\nb\r\n\r\n c"), "^[1;1H^[0ma^[2;1Hb^[4;2Hc^[4;3H");
        Check.due("35 blanks", since("abc", ESC + "[2J"), "^[1;1H^[0m   ^[1;4H");
        Check.due("35 the cursor alone", since("abc", "\n"), "^[2;4H");
        Check.due("35 the same again", since("abc", ESC + "[1;1Habc"), "^[1;4H");
        Check.due("35 the second screen", since("abc", ESC + "[?1049h"), "^[1;1H^[0m   ^[1;4H");
        Check.due("35 not by the origin", since("", ESC + "[2;3r" + ESC + "[?6hx"), "^[2;1H^[0mx^[2;2H");
        Check.due("36 characters in bytes", since("", "\u00c3\u00a9\u00e2\u0082\u00ac\u00f0"),
                "^[1;1H^[0m\u00c3\u00a9\u00e2\u0082\u00ac\u00ef\u00bf\u00bd^[1;4H");
        for (int character : new int[] {126, 128, 2047, 2048, 55296, 65535}) {
            String bytes = Check.bytesOf(character);
            Check.due("36 character " + character, since("", bytes), "^[1;1H^[0m" + bytes + "^[1;2H");
        }
        TerminalWeir t = Check.sized(20, 10, "");
        t.keep();
        Check.code(t, "10;20Hz");
        Check.due("36 numbers of two digits", made(t), "^[10;20H^[0mz^[10;20H");
    }

    private static void styles() {
        Check.due("35 all parts", since("", ESC + "[1;4;7;31;47ma"), "^[1;1H^[0;1;4;7;31;47ma^[1;2H");
        Check.due("35 line and colour", since("", ESC + "[4;30ma"), "^[1;1H^[0;4;30ma^[1;2H");
        Check.due("35 background", since("", ESC + "[40ma"), "^[1;1H^[0;40ma^[1;2H");
        Check.due("35 another one alone", since("", "a" + ESC + "[1mbc" + ESC + "[md"),
                "^[1;1H^[0ma^[0;1mbc^[0md^[1;5H");
        Check.due("35 of the cell ahead in the output", since("", ESC + "[1ma\r\nb"),
                "^[1;1H^[0;1ma^[2;1Hb^[2;2H");
        Check.due("35 a style alone differs", since("a", "\r" + ESC + "[7ma"), "^[1;1H^[0;7ma^[1;2H");
        Check.due("35 a blank with a style", since("", ESC + "[41m" + ESC + "[X"), "^[1;1H^[0;41m ^[1;1H");
    }

    private static String sinceWide(String kept, String since) {
        TerminalWeir t = new TerminalWeir();
        Check.write(t, kept);
        t.keep();
        Check.write(t, since);
        int count = t.output();
        String output = Check.output(t);
        TerminalWeir replay = new TerminalWeir();
        Check.write(replay, kept);
        Check.feed(replay, ESC + "[?7l");
        for (int i = 0; i < count; i++) {
            replay.feed(t.outputAt(i));
        }
        return output.replace(ESC, "^").replace(Check.bytesOf(0x4e00), WIDE).replace(Check.bytesOf(0x301), "\u0301")
                + (t.isSound() ? "" : " not sound")
                + (Check.screen(replay).equals(Check.screen(t)) ? "" : " not turned into the same");
    }

    private static void wideRuns() {
        Check.due("35 a wide one comes", sinceWide("abcd", ESC + "[1;2H" + WIDE), "^[1;2H^[0m" + WIDE + "^[1;4H");
        Check.due("35 a wide one goes", sinceWide("a" + WIDE + "d", ESC + "[1;2Hbc"), "^[1;2H^[0mbc^[1;4H");
        Check.due("35 its first half stays as a letter", sinceWide("a" + WIDE + "d", ESC + "[1;3Hx"),
                "^[1;2H^[0m x^[1;4H");
        Check.due("35 it moves by one", sinceWide("a" + WIDE + "b", ESC + "[1;2Hx" + WIDE),
                "^[1;2H^[0mx" + WIDE + "^[1;5H");
        Check.due("35 a mark alone differs", sinceWide("a" + WIDE + "b", ESC + "[1;2H" + WIDE + "\u0301"),
                "^[1;2H^[0m" + WIDE + "\u0301^[1;4H");
    }

    private static void marks() {
        Check.due("35 a mark", sinceWide("", "e\u0301x"), "^[1;1H^[0me\u0301x^[1;3H");
        Check.due("35 a mark that goes", sinceWide("e\u0301x", ESC + "[1;1He"), "^[1;1H^[0me^[1;2H");
        Check.due("35 of a blank", sinceWide("", " \u0301"), "^[1;1H^[0m \u0301^[1;2H");
    }

    private static void lastColumn() {
        Check.due("35 a full row", since("", "abcdefghijkl"), "^[1;1H^[0mabcdefghijkl^[1;12H");
        Check.due("35 two full rows", since("", "abcdefghijklmnopqrstuvwx"),
                "^[1;1H^[0mabcdefghijkl^[2;1Hmnopqrstuvwx^[2;12H");
        Check.due("35 a wide one at the end", sinceWide("", "abcdefghij" + WIDE),
                "^[1;1H^[0mabcdefghij" + WIDE + "^[1;12H");
    }

    private static void refused() {
        TerminalWeir t = new TerminalWeir();
        Check.refused("35 none kept", t, java.util.NoSuchElementException.class, t::output);
        Check.refused("36 none made", t, java.util.NoSuchElementException.class, () -> t.outputAt(0));
        t.keep();
        Check.refused("36 none made by keep", t, java.util.NoSuchElementException.class, () -> t.outputAt(0));
        Check.feed(t, "a");
        int count = t.output();
        Check.refused("36 behind it", t, java.util.NoSuchElementException.class, () -> t.outputAt(count));
        Check.refused("36 -1", t, java.util.NoSuchElementException.class, () -> t.outputAt(-1));
        t.size(12, 5);
        Check.refused("35 another height", t, UnsupportedOperationException.class, t::output);
        t.size(11, 4);
        Check.refused("35 another width", t, UnsupportedOperationException.class, t::output);
        Check.due("36 the one made ahead stays", Check.output(t).replace(ESC, "^"), "^[1;1H^[0ma^[1;2H");
        t.size(12, 4);
        Check.due("35 the size again", made(t), "^[1;1H^[0ma^[1;2H");
    }

    private static void played() {
        TerminalWeir t = Check.sized(20, 10, "");
        t.keep();
        for (int i = 0; i < 10; i++) {
            for (int j = 0; j < 20; j++) {
                Check.code(t, (i + 1) + ";" + (j + 1) + "H" + ESC + "[" + (j % 2 == 0 ? "1;4;7;37;47" : "1;4;7;36;46") + "m");
                Check.write(t, "\u20ac\u0301");
            }
        }
        Check.due("35 the longest there can be", t.output(), 9 * 6 + 7 + 200 * (16 + 3 + 2) + 8);
        TerminalWeir replay = Check.sized(20, 10, ESC + "[?7l");
        for (int i = 0; i < 4269 && i < t.output(); i++) {
            replay.feed(t.outputAt(i));
        }
        Check.due("40 turns the one into the other", t.isSound() + " " + Check.screen(replay).equals(Check.screen(t)),
                "true true");
        Check.due("17 with its styles", Check.styles(replay, 9), Check.styles(t, 9));
    }

    private static void shares() {
        TerminalWeir t = new TerminalWeir();
        Check.due("37 none", t.filledBits(), 0);
        for (int i = 1; i <= 47; i++) {
            Check.feed(t, "x");
            Check.due("37 of " + i, t.filledBits(), Float.floatToIntBits((float) i / (float) 48));
        }
        TerminalWeir wide = new TerminalWeir();
        Check.write(wide, WIDE);
        Check.due("37 other halves too", wide.filledBits(), Float.floatToIntBits(2f / 48f));
        TerminalWeir blank = Check.fed(ESC + "[41m  ");
        Check.due("37 a blank with a style is blank", blank.filledBits(), 0);
        for (int width = 2; width <= 20; width++) {
            for (int height = 1; height <= 10; height++) {
                TerminalWeir full = Check.sized(width, height, "");
                for (int i = 0; i < height; i++) {
                    Check.feed(full, ESC + "[" + (i + 1) + ";1H" + "y".repeat(width - (i == 0 ? 1 : 0)));
                }
                Check.due("37 all but one of " + width + " and " + height, full.filledBits(),
                        Float.floatToIntBits((float) (width * height - 1) / (float) (width * height)));
                Check.feed(full, ESC + "[1;" + width + "Hz");
                Check.due("37 all of " + width + " and " + height, full.filledBits(), Float.floatToIntBits(1f));
            }
        }
    }

    private static void lengths() {
        TerminalWeir t = new TerminalWeir();
        Check.due("38 none", t.meanLength(), 0.0);
        Check.feed(t, "abc\r\n  d\r\n" + ESC + "[41m   ");
        Check.due("38 to the last that is not blank", t.meanLength(), 6.0 / 4.0);
        TerminalWeir wide = Check.sized(12, 3, "");
        Check.write(wide, "a" + WIDE);
        Check.due("38 a half too", wide.meanLength(), 3.0 / 3.0);
        TerminalWeir third = Check.sized(12, 3, "a");
        Check.due("38 a third", third.meanLength(), 1.0 / 3.0);
    }

    private static void sound() {
        TerminalWeir t = new TerminalWeir();
        Check.due("40 new", t.isSound(), true);
        t.keep();
        Check.due("40 kept", t.isSound(), true);
        Check.write(t, "a" + WIDE + "\u0301" + ESC + "[1;41mbcdefghi" + WIDE + WIDE);
        Check.due("40 changed", t.isSound(), true);
        t.size(7, 3);
        Check.due("40 another size", t.isSound(), true);
        t.keep();
        Check.feed(t, ESC + "[2;2r" + ESC + "[?6h" + ESC + "[4h" + ESC + "[1;2Hxyz" + ESC + "[?7l");
        Check.due("40 with modes", t.isSound(), true);
    }
}
