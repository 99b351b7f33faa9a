/** Promises 2 to 12: bytes that are fed and typed, keys, echo, held output, and what is sent. */
public final class DriverTest {
    private DriverTest() {
    }

    public static void main(String[] arguments) {
        feeding();
        typing();
        feedingAll();
        keysAndLines();
        editing();
        echo();
        holding();
        losingEcho();
        sending();
        Check.end();
    }

    private static void feeding() {
        TerminalWeir t = new TerminalWeir();
        Check.due("2 nothing waits", t.feed('a'), 0);
        Check.due("2 written", t.at(0, 0), 97);
        Check.due("2 lowest", t.feed(0), 0);
        Check.due("2 highest", t.feed(255), 0);
        Check.due("2 255", t.at(0, 1), 65533);
        Check.refused("2 -1", t, IllegalArgumentException.class, () -> t.feed(-1));
        Check.refused("2 256", t, IllegalArgumentException.class, () -> t.feed(256));
        t.key(19);
        for (int i = 1; i <= 200; i++) {
            Check.due("2 held " + i, t.feed('x'), i);
        }
        Check.refused("2 full", t, IllegalStateException.class, () -> t.feed('y'));
        Check.refused("2 full and out of range", t, IllegalArgumentException.class, () -> t.feed(256));
        Check.due("2 not written yet", Check.cursor(t), "0,2");
        t.key(17);
        Check.due("2 written now", t.back() > 0, true);
        Check.due("2 none waits", t.feed('z'), 0);
    }

    private static void typing() {
        TerminalWeir t = new TerminalWeir();
        Check.due("4 empty", t.wipe(), 0);
        for (int i = 1; i <= 60; i++) {
            Check.due("3 typed " + i, t.type(i == 1 ? 0 : i == 2 ? 255 : 'a'), i);
        }
        Check.refused("3 full", t, IllegalStateException.class, () -> t.type('b'));
        Check.refused("3 full and out of range", t, IllegalArgumentException.class, () -> t.type(-1));
        Check.due("4 sixty", t.wipe(), 60);
        Check.due("4 none left", t.wipe(), 0);
        Check.refused("3 -1", t, IllegalArgumentException.class, () -> t.type(-1));
        Check.refused("3 256", t, IllegalArgumentException.class, () -> t.type(256));
        Check.due("3 refused ones are not typed", t.type('c'), 1);
        Check.due("3 typed bytes are not taken", t.at(0, 0), 32);
    }

    private static void feedingAll() {
        TerminalWeir t = new TerminalWeir();
        Check.due("5 none", t.feedAll(), 0);
        t.type('a');
        t.type('b');
        Check.due("5 two", t.feedAll(), 0);
        Check.due("5 taken in turn", Check.line(t, 0), "ab..........");
        t.feedAll();
        Check.due("5 stays typed", Check.line(t, 0), "abab........");
        Check.due("5 still typed", t.wipe(), 2);
        for (int i = 0; i < 50; i++) {
            t.type('c');
        }
        t.key(19);
        for (int i = 1; i <= 4; i++) {
            Check.due("5 waiting " + i, t.feedAll(), 50 * i);
        }
        Check.refused("5 too many", t, IllegalStateException.class, t::feedAll);
        t.wipe();
        Check.due("5 none more", t.feedAll(), 200);
        t.key(17);
        t.key(19);
        for (int i = 0; i < 150; i++) {
            t.feed('d');
        }
        for (int i = 0; i < 51; i++) {
            t.type('e');
        }
        Check.refused("5 one too many", t, IllegalStateException.class, t::feedAll);
        Check.due("5 nothing was taken", t.feed('f'), 151);
    }

    private static void keysAndLines() {
        TerminalWeir t = new TerminalWeir();
        Check.due("6 one", t.key('l'), 1);
        Check.due("6 two", t.key('s'), 2);
        Check.due("6 echoed", Check.line(t, 0), "ls..........");
        Check.due("6 nothing sent yet", t.sent(), 0);
        Check.due("6 sent", t.key(13), 0);
        Check.due("6 echoed 13 and 10", Check.cursor(t), "1,0");
        Check.due("12 three bytes", t.sent(), 3);
        Check.due("11 first", t.take(), 108);
        Check.due("11 second", t.take(), 115);
        Check.due("12 one left", t.sent(), 1);
        Check.due("11 third", t.take(), 10);
        Check.refused("11 none", t, java.util.NoSuchElementException.class, t::take);
        Check.due("6 13 with an empty line", t.key(13), 0);
        Check.due("11 a 10 alone", Check.taken(t), "\n");
        Check.refused("6 0", t, IllegalArgumentException.class, () -> t.key(0));
        Check.refused("6 128", t, IllegalArgumentException.class, () -> t.key(128));
        Check.refused("6 -1", t, IllegalArgumentException.class, () -> t.key(-1));
        Check.due("6 10 is added", t.key(10), 1);
        Check.due("6 10 is echoed", t.row(), 3);
        Check.due("6 1 is added", t.key(1), 2);
        Check.due("6 126 is added", t.key(126), 3);
        t.key(13);
        Check.due("11 10 was of the line", Check.taken(t), "\n\u0001~\n");
    }

    private static void editing() {
        TerminalWeir t = new TerminalWeir();
        Check.due("6 127 with an empty line", t.key(127), 0);
        Check.due("6 127 without echo then", Check.cursor(t), "0,0");
        t.key('a');
        t.key('b');
        Check.due("6 127", t.key(127), 1);
        Check.due("6 127 wipes", Check.line(t, 0), "a...........");
        Check.due("6 127 goes back", Check.cursor(t), "0,1");
        t.key('c');
        Check.due("6 21", t.key(21), 0);
        Check.due("6 21 is not echoed", Check.line(t, 0) + Check.cursor(t), "ac..........0,2");
        Check.due("9 21 is no signal", t.signals(), 0);
        t.key('d');
        Check.due("6 3", t.key(3), 0);
        Check.due("6 3 is not echoed", Check.line(t, 0) + Check.cursor(t), "acd.........0,3");
        Check.due("9 one", t.signals(), 1);
        t.key(3);
        Check.due("9 two", t.signals(), 2);
        Check.due("12 nothing was sent", t.sent(), 0);
        for (int i = 1; i <= 40; i++) {
            Check.due("6 line " + i, t.key('e'), i);
        }
        String before = Check.screen(t);
        Check.due("6 full", t.key('f'), 40);
        Check.due("10 rang", t.rings(), 1);
        Check.due("6 full without echo", Check.screen(t), before);
        t.key('f');
        t.feed(7);
        Check.due("10 rang thrice", t.rings(), 3);
        t.key(127);
        Check.due("6 place again", t.key('g'), 40);
        t.key(13);
        Check.due("11 whole line", Check.taken(t), "e".repeat(39) + "g\n");
    }

    private static void echo() {
        TerminalWeir t = new TerminalWeir();
        Check.due("7 on at first", t.echo(false), true);
        Check.due("7 off", t.echo(false), false);
        t.key('a');
        t.key(127);
        t.key('b');
        t.key(13);
        Check.due("7 not echoed", Check.screen(t) + Check.cursor(t),
                "............/............/............/............0,0");
        Check.due("7 gathered", Check.taken(t), "b\n");
        Check.due("7 off before", t.echo(true), false);
        t.key('c');
        Check.due("7 echoed", t.at(0, 0), 99);
        TerminalWeir escape = new TerminalWeir();
        for (char key : (Check.ESC + "[2;3H").toCharArray()) {
            escape.key(key);
        }
        Check.due("6 echo is written as bytes", Check.cursor(escape), "1,2");
    }

    private static void holding() {
        TerminalWeir t = new TerminalWeir();
        Check.due("8 not at first", t.isHeld(), false);
        Check.due("6 19", t.key(19), 0);
        Check.due("8 held", t.isHeld(), true);
        t.feed('a');
        t.key('b');
        t.key(127);
        t.key('c');
        t.key(13);
        Check.due("8 nothing is written", Check.line(t, 0), "............");
        Check.due("8 keys go on", Check.taken(t), "c\n");
        Check.due("2 all waits", t.feed('d'), 9);
        Check.due("6 17", t.key(17), 0);
        Check.due("8 goes on", t.isHeld(), false);
        Check.due("8 written", Check.screen(t), "ac........../d.........../............/............");
        Check.due("2 none waits", t.feed('e'), 0);
        t.key(19);
        t.key(19);
        t.feed(Check.ESC);
        t.key(17);
        t.feed('7');
        Check.due("8 a code goes on too", t.at(1, 2), 32);
        t.key(17);
        Check.due("8 17 twice", t.isHeld(), false);
    }

    private static void losingEcho() {
        TerminalWeir t = new TerminalWeir();
        t.key(19);
        for (int i = 0; i < 199; i++) {
            t.feed(7);
        }
        Check.due("6 echo that has place", t.key('a'), 1);
        Check.due("6 echo that is lost", t.key('b'), 2);
        Check.due("6 13 with its echo lost", t.key(13), 0);
        Check.refused("2 no place", t, IllegalStateException.class, () -> t.feed('c'));
        t.key(17);
        Check.due("6 the rest came", Check.line(t, 0), "a...........");
        Check.due("10 rings came", t.rings(), 199);
        Check.due("6 10 was lost", Check.cursor(t), "0,1");
        t.key(19);
        for (int i = 0; i < 199; i++) {
            t.feed(7);
        }
        t.key(13);
        t.key(17);
        Check.due("6 13 came, 10 was lost", Check.cursor(t), "0,0");
    }

    private static void sending() {
        TerminalWeir t = new TerminalWeir();
        t.echo(false);
        for (int i = 0; i < 4; i++) {
            for (int j = 0; j < 40; j++) {
                t.key('a' + i);
            }
            t.key(13);
        }
        Check.due("12 164", t.sent(), 164);
        for (int i = 0; i < 40; i++) {
            t.key('e');
        }
        t.key(13);
        Check.due("12 200 at most", t.sent(), 200);
        t.key('f');
        t.key(13);
        Check.code(t, "5n");
        Check.due("12 more is lost", t.sent(), 200);
        String all = Check.taken(t);
        Check.due("11 the last ones", all.substring(160), "ddd\n" + "e".repeat(36));
        Check.due("12 none", t.sent(), 0);
        Check.code(t, "5n");
        Check.due("11 place again", Check.taken(t), Check.ESC + "[0n");
        for (int i = 0; i < 49; i++) {
            Check.code(t, "5n");
        }
        Check.code(t, "6n");
        Check.due("12 a reply lost in part", t.sent(), 200);
    }
}
