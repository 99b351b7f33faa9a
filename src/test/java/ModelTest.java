import java.util.Random;
import java.util.function.Supplier;

/** All promises at once: long runs of calls, drawn by numbers that are always the same, against the model. */
public final class ModelTest {
    private static final String ESC = Check.ESC + "";
    private static final int RUNS = 400;
    private static final int CALLS = 512;

    private final Random random;
    private final TerminalWeir terminal = new TerminalWeir();
    private final Model model = new Model();
    private final StringBuilder told = new StringBuilder();

    private ModelTest(int seed) {
        random = new Random(seed);
    }

    public static void main(String[] arguments) {
        int runs = arguments.length > 0 ? Integer.parseInt(arguments[0]) : RUNS;
        for (int seed = 0; seed < runs; seed++) {
            String difference = new ModelTest(seed).run(seed % 4);
            Check.due("run " + seed, difference, "none");
        }
        Check.end();
    }

    /** Four ways: bytes above all, typed rows of bytes above all, sizes above all, or all calls alike. */
    private String run(int way) {
        for (int i = 0; i < CALLS; i++) {
            String difference = step(way);
            if (difference != null) {
                return difference + " behind " + tail(told.toString());
            }
            String is = Check.seen(terminal);
            String due = model.seen();
            if (!is.equals(due)) {
                return "seen " + is + "\n      due  " + due + "\n      behind " + tail(told.toString());
            }
        }
        return "none";
    }

    private static String tail(String text) {
        return text.length() > 3000 ? ".. " + text.substring(text.length() - 3000) : text;
    }

    private String step(int way) {
        int drawn = random.nextInt(100);
        int bytes = new int[] {75, 40, 45, 30}[way];
        if (drawn < bytes) {
            return way == 1 ? typeAndFeed(text()) : feed(text());
        }
        if (drawn < bytes + (way == 2 ? 25 : 5)) {
            int width = random.nextInt(6) == 0 ? terminal.width() : 2 + random.nextInt(way == 3 ? 19 : 9);
            int height = 1 + random.nextInt(way == 3 ? 10 : 5);
            return same("size(" + width + ", " + height + ")", () -> terminal.size(width, height),
                    () -> model.size(width, height));
        }
        return other();
    }

    private String other() {
        switch (random.nextInt(13)) {
            case 0:
                boolean is = random.nextInt(3) > 0;
                return same("echo(" + is + ")", () -> terminal.echo(is), () -> {
                    boolean before = model.echoes;
                    model.echoes = is;
                    return before;
                });
            case 1:
                return same("take()", terminal::take, model::take);
            case 2:
            case 3:
                char kind = "wlbwlbx".charAt(random.nextInt(7));
                int row = place(terminal.height());
                int column = place(terminal.width());
                int toRow = random.nextInt(3) == 0 ? place(terminal.height()) : row + random.nextInt(2);
                int toColumn = place(terminal.width());
                return same("select(" + kind + row + " " + column + " " + toRow + " " + toColumn + ")",
                        () -> terminal.select(kind, row, column, toRow, toColumn),
                        () -> model.select(kind, row, column, toRow, toColumn));
            case 4:
                return same("keep()", terminal::keep, model::keep);
            case 5:
            case 6:
                return same("output()", terminal::output, model::output);
            case 7:
                return same("wipe()", terminal::wipe, model::wipe);
            case 8:
                return same("feedAll()", terminal::feedAll, model::feedAll);
            case 9:
                int wrong = random.nextInt(5) - 2;
                return same("feed(" + wrong + ")", () -> terminal.feed(wrong), () -> model.feed(wrong));
            default:
                int key = new int[] {3, 10, 13, 13, 17, 17, 19, 21, 27, 127, 128, 0}[random.nextInt(12)];
                int pressed = random.nextInt(2) == 0 ? key : 'a' + random.nextInt(26);
                return same("key(" + pressed + ")", () -> terminal.key(pressed), () -> model.key(pressed));
        }
    }

    /** Most often within, now and then beyond. */
    private int place(int end) {
        return random.nextInt(20) == 0 ? random.nextInt(3) * 30 - 20 : random.nextInt(end);
    }

    private String feed(String bytes) {
        for (int i = 0; i < bytes.length(); i++) {
            int code = bytes.charAt(i);
            String difference = same("feed(" + code + ")", () -> terminal.feed(code), () -> model.feed(code));
            if (difference != null) {
                return difference;
            }
        }
        return null;
    }

    private String typeAndFeed(String bytes) {
        same("wipe()", terminal::wipe, model::wipe);
        for (int i = 0; i < bytes.length(); i++) {
            int code = bytes.charAt(i);
            String difference = same("type(" + code + ")", () -> terminal.type(code), () -> model.type(code));
            if (difference != null) {
                return difference;
            }
        }
        return same("feedAll()", terminal::feedAll, model::feedAll);
    }

    private String same(String call, Supplier<Object> of, Supplier<Object> by) {
        told.append(call).append("; ");
        String answer = answer(of);
        String due = answer(by);
        return answer.equals(due) ? null : call + " answered " + answer + ", due is " + due;
    }

    private static String answer(Supplier<Object> call) {
        try {
            return String.valueOf(call.get());
        } catch (RuntimeException thrown) {
            return thrown.getClass().getSimpleName();
        }
    }

    private String text() {
        StringBuilder text = new StringBuilder();
        int parts = 1 + random.nextInt(3);
        for (int i = 0; i < parts; i++) {
            text.append(part());
        }
        return text.toString();
    }

    private String part() {
        switch (random.nextInt(12)) {
            case 0:
            case 1:
                return letters(random.nextInt(15));
            case 2:
                return Check.bytesOf(new int[] {0x4e00, 0xac00, 0xff21, 0x1100, 233, 0x20ac, 65533}[random.nextInt(7)]);
            case 3:
                return (random.nextInt(2) == 0 ? " " : "") + Check.bytesOf(768 + random.nextInt(112));
            case 4:
                return "" + (char) (random.nextInt(3) > 0 ? 7 + random.nextInt(7) : random.nextInt(32));
            case 5:
                return "" + (char) random.nextInt(256);
            case 6:
                return ESC + "78DEMHHc78DEM\\z"
                        .charAt(random.nextInt(40) == 0 ? 7 : random.nextInt(7));
            case 7:
                return title();
            case 8:
                return ESC + "[" + new String[] {"1", "4", "7", "22", "24", "27", "31", "37", "39", "41", "47", "49", "0",
                    "", "1;31;44", "38;5", "0;7"}[random.nextInt(17)] + "m";
            case 9:
                return ESC + "[" + new String[] {"4", "?6", "?7", "?7", "?25", "?1049", "?1049", "6", "?6;7", "4;20"}[
                        random.nextInt(10)] + "hl".charAt(random.nextInt(2));
            default:
                return ESC + "[" + numbers() + "ABCDGdHHJKX@PLMSTrrgngJKP@".charAt(random.nextInt(26));
        }
    }

    private String letters(int count) {
        StringBuilder text = new StringBuilder();
        for (int i = 0; i < count; i++) {
            text.append(random.nextInt(4) == 0 ? ' ' : (char) ('a' + random.nextInt(26)));
        }
        return text.toString();
    }

    private String title() {
        String[] ends = {"\u0007", ESC + "\\", "\u0018", ESC + "M", "\u0007"};
        String[] begins = {"0;", "2;", "1;", "0", ""};
        return ESC + "]" + begins[random.nextInt(begins.length)] + letters(random.nextInt(25))
                + (random.nextInt(6) == 0 ? "\u00e9" : "") + ends[random.nextInt(ends.length)];
    }

    private String numbers() {
        switch (random.nextInt(12)) {
            case 0:
            case 1:
                return "";
            case 2:
                return "99999";
            case 3:
                return random.nextInt(12) + " ";
            case 4:
                return random.nextInt(7) + "\n;" + random.nextInt(9);
            case 5:
            case 6:
            case 7:
                return (1 + random.nextInt(5)) + ";" + (1 + random.nextInt(12));
            default:
                return "" + random.nextInt(7);
        }
    }
}
