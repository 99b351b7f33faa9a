import java.util.NoSuchElementException;

/** Boundary cases that "The line driver" and promises 2 to 12 name, each told by the document's own words. */
public final class EdgesOfDriverTest {
    private static final String ESC = Check.ESC + "";
    private static final int[] NO_BYTES = {-1, 256, -256, 1000, Integer.MIN_VALUE, Integer.MAX_VALUE};

    private EdgesOfDriverTest() {
    }

    public static void main(String[] arguments) {
        bytesOutOfRange();
        keysOutOfRange();
        typed();
        feedAll();
        fedWhileHeld();
        feedAllWhileHeld();
        lastOneAway();
        allAway();
        sendingTheLine();
        dropping();
        holdingKeepsTheLine();
        fortyKeys();
        ringing();
        echoedBytes();
        echoAtTheEdges();
        echoWhileHeld();
        echoLost();
        goingOn();
        taking();
        sentAtMost();
        Check.end();
    }

    private static void press(TerminalWeir t, String keys) {
        for (char key : keys.toCharArray()) {
            t.key(key);
        }
    }

    private static TerminalWeir held(int waiting) {
        TerminalWeir t = new TerminalWeir();
        t.key(19);
        for (int i = 0; i < waiting; i++) {
            t.feed(0);
        }
        return t;
    }

    private static void type(TerminalWeir t, int count) {
        for (int i = 0; i < count; i++) {
            t.type('a' + i % 26);
        }
    }

    private static void bytesOutOfRange() {
        TerminalWeir t = new TerminalWeir();
        TerminalWeir full = held(200);
        type(full, 60);
        for (int code : NO_BYTES) {
            Check.refused("feed: '0 to 255' " + code, t, IllegalArgumentException.class, () -> t.feed(code));
            Check.refused("type: '0 to 255' " + code, t, IllegalArgumentException.class, () -> t.type(code));
            Check.refused("feed: 'the one that is documented first' " + code, full, IllegalArgumentException.class,
                    () -> full.feed(code));
            Check.refused("type: 'the one that is documented first' " + code, full, IllegalArgumentException.class,
                    () -> full.type(code));
        }
        Check.due("type changed nothing", t.wipe(), 0);
        Check.due("feed: 0 and 255 are bytes", t.feed(0) + t.feed(255), 0);
        Check.due("type: 0 and 255 are bytes", t.type(0) + " " + t.type(255), "1 2");
    }

    private static void keysOutOfRange() {
        TerminalWeir t = new TerminalWeir();
        t.key('a');
        for (int code : new int[] {0, 128, -1, 255, Integer.MIN_VALUE, Integer.MAX_VALUE}) {
            Check.refused("key: '1 to 127' " + code, t, IllegalArgumentException.class, () -> t.key(code));
        }
        Check.due("key: 1 and 126 are keys", t.key(1) + " " + t.key(126), "2 3");
        Check.due("key: 127 is one", t.key(127), 2);
    }

    private static void typed() {
        TerminalWeir t = new TerminalWeir();
        Check.due("wipe: none", t.wipe(), 0);
        type(t, 59);
        Check.due("type: the sixtieth", t.type('z'), 60);
        Check.refused("type: 'if there are 60'", t, IllegalStateException.class, () -> t.type('z'));
        Check.due("wipe: 'how many there were'", t.wipe() + " " + t.wipe(), "60 0");
        Check.due("type: place again", t.type('z'), 1);
        TerminalWeir held = held(200);
        Check.due("type: while 200 wait", held.type('z'), 1);
    }

    private static void feedAll() {
        TerminalWeir t = new TerminalWeir();
        Check.due("feedAll: none", t.feedAll() + Check.cursor(t), "00,0");
        type(t, 60);
        Check.due("feedAll: sixty", t.feedAll() + Check.cursor(t) + Check.line(t, 0), "03,11 waitsmnopqrstuvwx");
        Check.due("feedAll: 'which stays typed'", t.wipe(), 60);
        Check.due("feedAll: none again", t.feedAll(), 0);
        t.type(27);
        t.type('[');
        t.type('H');
        t.feedAll();
        t.feedAll();
        Check.due("feedAll: 'the first one first'", Check.cursor(t), "0,0");
    }

    private static void fedWhileHeld() {
        TerminalWeir t = held(0);
        for (int i = 1; i <= 200; i++) {
            Check.due("feed: 'how many bytes wait' " + i, t.feed(7), i);
        }
        Check.refused("feed: 'if output is held, and 200 wait'", t, IllegalStateException.class, () -> t.feed(7));
        Check.due("they wait", t.rings(), 0);
        t.key(17);
        Check.due("'they come as it goes on'", t.rings(), 200);
        Check.due("feed: '0 if output is not held'", t.feed(7), 0);
        t.key(19);
        Check.due("feed: none waits any more", t.feed(7), 1);
    }

    private static void feedAllWhileHeld() {
        TerminalWeir t = held(140);
        type(t, 60);
        Check.due("feedAll: just 200", t.feedAll(), 200);
        Check.refused("feedAll: far more", t, IllegalStateException.class, t::feedAll);
        t.wipe();
        Check.due("feedAll: none, as 200 wait", t.feedAll(), 200);
        t.type('z');
        Check.refused("feedAll: one, as 200 wait", t, IllegalStateException.class, t::feedAll);
        TerminalWeir more = held(141);
        type(more, 60);
        Check.refused("feedAll: 'more than 200 would wait'", more, IllegalStateException.class, more::feedAll);
        Check.due("feedAll: it changed nothing", more.feed(0) + " " + more.wipe(), "142 60");
        TerminalWeir going = held(141);
        type(going, 60);
        going.key(17);
        Check.due("feedAll: not held, as many as there are", going.feedAll(), 0);
    }

    private static void lastOneAway() {
        TerminalWeir t = Check.fed("xy");
        Check.due("'127 takes the last one away', none", t.key(127) + Check.line(t, 0) + Check.cursor(t),
                "0xy..........0,2");
        t.key('a');
        Check.due("'127 takes the last one away', the only one", t.key(127) + Check.line(t, 0) + Check.cursor(t),
                "0xy..........0,2");
        press(t, "ab\u007fc\r");
        Check.due("'takes the last one away'", Check.taken(t), "ac\n");
        t = new TerminalWeir();
        t.echo(false);
        press(t, "a".repeat(40));
        Check.due("'127 takes the last one away' of forty", t.key(127) + " " + t.key('b'), "39 40");
    }

    private static void allAway() {
        TerminalWeir t = new TerminalWeir();
        Check.due("'21 all', none", t.key(21) + Check.cursor(t), "00,0");
        press(t, "abc");
        Check.due("'21 all', 'not echoed'", t.key(21) + Check.line(t, 0) + Check.cursor(t), "0abc.........0,3");
        t.key(13);
        Check.due("'21 all', nothing is left", Check.taken(t) + t.signals(), "\n0");
    }

    private static void sendingTheLine() {
        TerminalWeir t = new TerminalWeir();
        Check.due("'13 sends the line and 10', an empty one", t.key(13) + " " + t.sent() + " " + t.take(), "0 1 10");
        t.echo(false);
        press(t, "a".repeat(39) + "b");
        Check.due("'13 sends the line and 10', forty", t.key(13) + " " + t.sent(), "0 41");
        Check.due("'13 sends the line and 10', in turn", Check.taken(t), "a".repeat(39) + "b\n");
        Check.due("the line is empty then", t.key('c'), 1);
    }

    private static void dropping() {
        TerminalWeir t = new TerminalWeir();
        Check.due("'3 drops it and counts a signal', none", t.key(3) + " " + t.signals(), "0 1");
        press(t, "abc");
        Check.due("'3 drops it', 'not echoed'", t.key(3) + " " + t.signals() + Check.line(t, 0) + Check.cursor(t),
                "0 2abc.........0,3");
        t.key(13);
        Check.due("'3 drops it', nothing is left", Check.taken(t), "\n");
        TerminalWeir held = held(200);
        held.key(3);
        Check.due("'counts a signal' while output is held", held.signals() + " " + held.isHeld(), "1 true");
    }

    private static void holdingKeepsTheLine() {
        TerminalWeir t = new TerminalWeir();
        press(t, "abc");
        Check.due("'19 holds output', the line stays", t.key(19) + " " + t.isHeld(), "3 true");
        Check.due("'19 holds output', again", t.key(19) + " " + t.isHeld(), "3 true");
        Check.due("'17 lets it go on', the line stays", t.key(17) + " " + t.isHeld(), "3 false");
        Check.due("'17 lets it go on', again", t.key(17) + " " + t.isHeld(), "3 false");
        Check.due("neither is echoed", Check.line(t, 0) + Check.cursor(t), "abc.........0,3");
        t.key(19);
        t.key(13);
        Check.due("13 does not let it go on", t.isHeld() + Check.taken(t), "trueabc\n");
        t.key(21);
        t.key(3);
        t.key(127);
        Check.due("nor does any other key", t.isHeld() + Check.cursor(t), "true0,3");
    }

    private static void fortyKeys() {
        TerminalWeir t = new TerminalWeir();
        for (int i = 1; i <= 40; i++) {
            Check.due("'others are added, up to 40' " + i, t.key('a'), i);
        }
        String before = Check.screen(t) + Check.cursor(t);
        Check.due("'further ones ring'", t.key('b') + " " + t.key('c') + " " + t.rings(), "40 40 2");
        Check.due("they are not echoed", Check.screen(t) + Check.cursor(t), before);
        t.key(13);
        Check.due("they are not sent", Check.taken(t), "a".repeat(40) + "\n");
        for (int key = 1; key < 127; key++) {
            if (key != 3 && key != 13 && key != 17 && key != 19 && key != 21) {
                Check.due("'others are added' " + key, new TerminalWeir().key(key), 1);
            }
        }
    }

    private static void ringing() {
        TerminalWeir t = held(0);
        t.echo(false);
        press(t, "a".repeat(41));
        Check.due("'further ones ring' while output is held, without echo", t.rings() + " " + t.feed(0), "1 1");
        t = Check.fed("abcdefghijkl");
        t.echo(false);
        press(t, "a".repeat(41));
        Check.write(t, "\u0301");
        Check.due("'a ring' does not end the waiting", Check.cursor(t) + Check.marks(t), "0,11 waits0,11:769");
    }

    private static void echoedBytes() {
        TerminalWeir t = new TerminalWeir();
        Check.due("'with echo, on at first'", t.echo(true), true);
        press(t, "\u0007\u0007");
        Check.due("'an added key is written as a byte', a ring", t.rings(), 2);
        press(t, "\t");
        Check.due("'an added key is written as a byte', a tab", Check.cursor(t), "0,8");
        press(t, "\n");
        Check.due("'an added key is written as a byte', a new line", Check.cursor(t), "1,8");
        press(t, ESC + "[6n");
        Check.due("'an added key is written as a byte', codes", Check.taken(t), ESC + "[2;9R");
        press(t, ESC + "\u0018x");
        Check.due("'an added key is written as a byte', cancelled ones", t.at(1, 8), 120);
        t = Check.fed("abc");
        t.key(13);
        Check.due("'13 as 13, 10'", Check.cursor(t), "1,0");
        t = Check.fed("\n\n\nabc");
        t.key(13);
        Check.due("'13 as 13, 10' at the lowest row", Check.cursor(t) + t.back(), "3,01");
        Check.due("echo: 'returns whether they were'", t.echo(false) + " " + t.echo(false) + " " + t.echo(true) + " "
                + t.echo(true),
                "true false false true");
    }

    private static void echoAtTheEdges() {
        TerminalWeir t = new TerminalWeir();
        t.key('a');
        t.feed(13);
        t.key(127);
        Check.due("'127 .. as 8, 32, 8' at the column 0", Check.line(t, 0) + Check.cursor(t), "............0,0");
        t = Check.fed("abcdefghijk");
        t.key('l');
        Check.due("an echo in the last column", Check.cursor(t), "0,11 waits");
        t.key(127);
        Check.due("'127 .. as 8, 32, 8' as a wrap waits", Check.line(t, 0) + Check.cursor(t), "abcdefghij.l0,10");
        t = new TerminalWeir();
        t.echo(false);
        t.key('a');
        t.echo(true);
        t.feed('x');
        t.key(127);
        Check.due("'127, if there is one', one that was not echoed", Check.line(t, 0) + Check.cursor(t),
                "............0,0");
        t = new TerminalWeir();
        t.key('a');
        t.echo(false);
        t.key(127);
        Check.due("127 without echo", Check.line(t, 0) + Check.cursor(t), "a...........0,1");
    }

    private static void echoWhileHeld() {
        TerminalWeir t = held(0);
        t.feed('x');
        press(t, "ab\u007f\r");
        t.feed('y');
        Check.due("'and echo with them'", Check.line(t, 0) + t.feed('z'), "............10");
        t.key(17);
        Check.due("'they come as it goes on', in turn", Check.screen(t).substring(0, 25), "xa........../yz..........");
        t = held(0);
        press(t, "a");
        t.echo(false);
        press(t, "b");
        t.echo(true);
        Check.due("no echo, none that waits", t.feed('c'), 2);
        t.key(17);
        Check.due("what was echoed comes, echo or not", Check.line(t, 0), "ac..........");
    }

    private static String lost(int waiting, String keys) {
        TerminalWeir t = held(waiting);
        press(t, keys);
        t.key(17);
        Check.feed(t, "!");
        return Check.screen(t).substring(0, 25) + Check.cursor(t);
    }

    private static void echoLost() {
        String what = "'200 at most .. what is more of this being lost' ";
        Check.due(what + "one, at 199", lost(199, "a"), "a!........../............0,2");
        Check.due(what + "one, at 200", lost(200, "a"), "!.........../............0,1");
        Check.due(what + "13 and 10, at 198", lost(198, "\r"), "............/!...........1,1");
        Check.due(what + "13 and 10, at 199", lost(199, "\r"), "!.........../............0,1");
        Check.due(what + "8, 32 and 8, at 197", lost(196, "a\u007f"), "!.........../............0,1");
        Check.due(what + "8, 32 and 8, at 198", lost(197, "a\u007f"), ".!........../............0,2");
        Check.due(what + "8, 32 and 8, at 199", lost(198, "a\u007f"), "!.........../............0,1");
        Check.due(what + "8, 32 and 8, at 200", lost(199, "a\u007f"), "a!........../............0,2");
        TerminalWeir t = held(200);
        Check.due(what + "but no key", t.key('a') + " " + t.key('b') + " " + t.key(13) + Check.taken(t), "1 2 0ab\n");
        Check.refused(what + "and none more waits", t, IllegalStateException.class, () -> t.feed(0));
    }

    private static void goingOn() {
        TerminalWeir t = held(0);
        t.key(17);
        Check.due("'17 lets it go on', none that waits", t.feed('a') + Check.line(t, 0), "0a...........");
        t = held(0);
        Check.feed(t, "ab" + ESC + "[5n" + ESC + "[2;");
        Check.due("replies wait too", t.sent(), 0);
        t.key(17);
        Check.due("replies come as it goes on", t.sent() + " " + t.isHeld(), "4 false");
        Check.feed(t, "3H");
        Check.due("a code goes on", Check.cursor(t), "1,2");
        t = held(0);
        t.feed(27);
        t.key(17);
        t.feed('D');
        Check.due("a code goes on behind 27", Check.cursor(t) + Check.line(t, 0), "1,0............");
        t = Check.fed(ESC + "[2;");
        t.key(19);
        t.feed('3');
        t.key(17);
        t.feed('H');
        Check.due("a code waits in the middle", Check.cursor(t), "1,2");
        t = held(0);
        Check.feed(t, "abcdefghijklm");
        t.size(6, 4);
        t.key(17);
        Check.due("what waits comes with the size of then", Check.screen(t), "abcdef+/ghijkl+/m...../......");
    }

    private static void taking() {
        TerminalWeir t = new TerminalWeir();
        Check.refused("take: 'if there is none'", t, NoSuchElementException.class, t::take);
        t.key(13);
        t.take();
        Check.refused("take: 'if there is none' any more", t, NoSuchElementException.class, t::take);
        t.key('a');
        Check.refused("take: a line that is not sent yet", t, NoSuchElementException.class, t::take);
    }

    private static void sentAtMost() {
        TerminalWeir t = new TerminalWeir();
        t.echo(false);
        for (int i = 0; i < 4; i++) {
            press(t, "a".repeat(40) + "\r");
        }
        press(t, "b".repeat(34) + "\r");
        Check.due("sent: 199", t.sent(), 199);
        press(t, "c\r");
        Check.due("sent: 'at most 200 are kept, further ones are lost'", t.sent(), 200);
        press(t, "d\r");
        Check.due("sent: all of a line is lost", t.sent(), 200);
        t.take();
        press(t, "\r");
        Check.due("sent: as many as there is place for", t.sent(), 200);
        String all = Check.taken(t);
        Check.due("sent: the first ones stay", all.substring(163), "b".repeat(34) + "\nc\n");
        Check.due("sent: none", t.sent(), 0);
    }
}
