import java.util.Objects;

/** What all tests share: answers that are due, exceptions that are due, and a look at all that an object tells. */
final class Check {
    static final char ESC = 27;

    private static int passed;
    private static int failed;

    private Check() {
    }

    static void due(String what, Object answer, Object due) {
        if (Objects.equals(answer, due)) {
            passed++;
        } else {
            failed++;
            System.out.println(what + ": answered " + answer + ", due is " + due);
        }
    }

    /** The call must throw just this exception, and nothing that the object tells may change by it. */
    static void refused(String what, TerminalWeir terminal, Class<? extends RuntimeException> due, Runnable call) {
        String before = seen(terminal);
        Object answer = "no exception";
        try {
            call.run();
        } catch (RuntimeException thrown) {
            answer = thrown.getClass();
        }
        due(what, answer, due);
        due(what + " changes nothing", seen(terminal), before);
    }

    static void end() {
        System.out.println(passed + " answers as due, " + failed + " not");
        if (failed > 0) {
            System.exit(1);
        }
    }

    /** Feeds each character of the text as a byte. */
    static void feed(TerminalWeir terminal, String bytes) {
        for (int i = 0; i < bytes.length(); i++) {
            terminal.feed(bytes.charAt(i));
        }
    }

    /** Feeds a code of numbers: "2;3H" is 27, '[', and these. */
    static void code(TerminalWeir terminal, String rest) {
        feed(terminal, ESC + "[" + rest);
    }

    /** Feeds characters beyond 127 in the bytes that they are told by. */
    static void write(TerminalWeir terminal, String text) {
        for (int i = 0; i < text.length(); i++) {
            feed(terminal, bytesOf(text.charAt(i)));
        }
    }

    static String bytesOf(int character) {
        if (character < 128) {
            return "" + (char) character;
        }
        if (character < 2048) {
            return "" + (char) (192 + character / 64) + (char) (128 + character % 64);
        }
        return "" + (char) (224 + character / 4096) + (char) (128 + character / 64 % 64)
                + (char) (128 + character % 64);
    }

    static TerminalWeir fed(String bytes) {
        TerminalWeir terminal = new TerminalWeir();
        feed(terminal, bytes);
        return terminal;
    }

    /** An object of this size into which the bytes were fed. */
    static TerminalWeir sized(int width, int height, String bytes) {
        TerminalWeir terminal = new TerminalWeir();
        terminal.size(width, height);
        feed(terminal, bytes);
        return terminal;
    }

    /** An object of this size into which the text was written, what is beyond 127 in its bytes. */
    static TerminalWeir written(int width, int height, String text) {
        TerminalWeir terminal = sized(width, height, "");
        write(terminal, text);
        return terminal;
    }

    /** A row as text: '.' for a blank cell, '<' for an other half. */
    static String line(TerminalWeir terminal, int row) {
        StringBuilder text = new StringBuilder();
        for (int i = 0; i < terminal.width(); i++) {
            text.append(sign(terminal.at(row, i)));
        }
        return text.toString();
    }

    static String backLine(TerminalWeir terminal, int row) {
        StringBuilder text = new StringBuilder();
        for (int i = 0; i < terminal.width(); i++) {
            text.append(sign(terminal.backAt(row, i)));
        }
        return text.toString();
    }

    private static char sign(int character) {
        return character == 32 ? '.' : character == 0 ? '<' : (char) character;
    }

    /** All rows, '/' between, and '+' behind those that are told as wrapped. */
    static String screen(TerminalWeir terminal) {
        StringBuilder text = new StringBuilder();
        for (int i = 0; i < terminal.height(); i++) {
            text.append(i > 0 ? "/" : "").append(line(terminal, i)).append(terminal.isWrapped(i) ? "+" : "");
        }
        return text.toString();
    }

    static String backPages(TerminalWeir terminal) {
        StringBuilder text = new StringBuilder();
        for (int i = 0; i < terminal.back(); i++) {
            text.append(i > 0 ? "/" : "").append(backLine(terminal, i));
        }
        return text.toString();
    }

    static String styles(TerminalWeir terminal, int row) {
        StringBuilder text = new StringBuilder();
        for (int i = 0; i < terminal.width(); i++) {
            text.append(i > 0 ? "," : "").append(terminal.style(row, i));
        }
        return text.toString();
    }

    /** Where marks are and which, by rows, then columns: "0,1:769 2,3:768". */
    static String marks(TerminalWeir terminal) {
        StringBuilder text = new StringBuilder();
        for (int i = 0; i < terminal.height(); i++) {
            for (int j = 0; j < terminal.width(); j++) {
                String mark = markOf(terminal, i, j);
                if (!mark.equals("-")) {
                    text.append(text.length() > 0 ? " " : "").append(i + "," + j + ":" + mark);
                }
            }
        }
        return text.toString();
    }

    static String tabs(TerminalWeir terminal) {
        StringBuilder text = new StringBuilder();
        for (int i = 0; i < terminal.width(); i++) {
            text.append(terminal.hasTab(i) ? 'T' : '-');
        }
        return text.toString();
    }

    static String region(TerminalWeir terminal) {
        return terminal.region(true) + "-" + terminal.region(false);
    }

    static String cursor(TerminalWeir terminal) {
        return terminal.row() + "," + terminal.column() + (terminal.isWaiting() ? " waits" : "");
    }

    static String title(TerminalWeir terminal) {
        return read(terminal::title);
    }

    static String chosen(TerminalWeir terminal) {
        return read(terminal::selected);
    }

    static String output(TerminalWeir terminal) {
        return read(terminal::outputAt);
    }

    /** Takes all that was sent. */
    static String taken(TerminalWeir terminal) {
        StringBuilder text = new StringBuilder();
        while (terminal.sent() > 0) {
            text.append((char) terminal.take());
        }
        return text.toString();
    }

    private interface Told {
        int at(int index);
    }

    private static String read(Told told) {
        StringBuilder text = new StringBuilder();
        try {
            for (int i = 0; i < 100000; i++) {
                text.append((char) told.at(i));
            }
        } catch (java.util.NoSuchElementException end) {
            return text.toString();
        }
        return text + " without an end";
    }

    private static String markOf(TerminalWeir terminal, int row, int column) {
        try {
            return "" + terminal.mark(row, column);
        } catch (java.util.NoSuchElementException none) {
            return "-";
        }
    }

    /** All that an object tells without being changed by it; take() alone cannot be looked at so. */
    static String seen(TerminalWeir terminal) {
        StringBuilder text = new StringBuilder();
        text.append(screen(terminal)).append('|').append(backPages(terminal)).append('|').append(cursor(terminal));
        for (int i = 0; i < terminal.height(); i++) {
            for (int j = 0; j < terminal.width(); j++) {
                text.append(' ').append(terminal.style(i, j)).append(':').append(markOf(terminal, i, j));
            }
        }
        text.append(tabs(terminal)).append(' ').append(terminal.isHeld()).append(' ').append(terminal.signals())
                .append(' ').append(terminal.rings()).append(' ').append(terminal.sent())
                .append(' ').append(terminal.isShown()).append(' ').append(terminal.isSecond())
                .append(' ').append(terminal.pen()).append(' ').append(terminal.region(true))
                .append(' ').append(terminal.region(false)).append(' ')
                .append(terminal.isSet(4)).append(terminal.isSet(6)).append(terminal.isSet(7)).append(' ')
                .append(title(terminal)).append(' ').append(chosen(terminal)).append(' ').append(output(terminal))
                .append(' ').append(terminal.filledBits()).append(' ').append(terminal.meanLength()).append(' ')
                .append(terminal.checksum()).append(' ').append(terminal.isSound());
        return text.toString();
    }
}
