/** Promises 6 (send), 7 (deliver), 8 (lose), 9 (spoil), 10 (twice), 12 (line), 13 (look), and what is GOOD or SPOILED. */
public final class LineTest {
    public static void main(String[] args) {
        sending();
        sendingRefused();
        sendingAgain();
        delivering();
        spoiledPackets();
        checks();
        losing();
        spoiling();
        doubling();
        fullLine();
        looking();
        Bench.end("LineTest");
    }

    private static Bench withFiles(int n) {
        Bench b = new Bench();
        for (int i = 0; i < n; i++) {
            b.store(0, "F" + i, "abc" + i, i);
        }
        return b;
    }

    private static void sending() {
        Bench b = withFiles(3);
        Bench.same("send", b.x.send(0, 1, 2), true);
        Bench.same("S is on the line", b.heads(1) + "|" + b.heads(0), "0S|");
        Bench.same("sending", b.about(0, 0, 2, 3, 6), "1 1 1 1");
        Bench.same("the other is as it was", b.about(1, 0, 6, 8), "0 0 0");
        b.settle();
        Bench.same("both DONE", b.x.about(0, 0) + " " + b.x.about(1, 0), "3 3");
        Bench.same("FILES that came", b.x.about(1, 16) + b.name(1, 0) + b.name(1, 1) + b.content(1, 0) + b.content(1, 1), "2F1F2abc1abc2");
    }

    private static void sendingRefused() {
        Bench b = withFiles(2);
        for (int[] w : new int[][] {{-1, 0, 1}, {2, 0, 1}, {1, 0, 1}, {0, 0, 0}, {0, 0, -1}, {0, -1, 1}, {0, -1, 2}, {0, 2, 1}, {0, 0, 3}, {0, 1, 2},
            {0, 1, 2147483647}, {0, 2147483647, 2147483647}, {0, -2147483648, 1}}) {
            Bench.same("send " + w[0] + " " + w[1] + " " + w[2], b.x.send(w[0], w[1], w[2]), false);
        }
        Bench.same("nothing was done", b.about(0, 0, 6) + " " + b.x.line(1), "0 0 0");
        b.store(1, "X", "x", 1);
        b.x.send(0, 0, 1);
        Bench.same("one END is sending: itself", b.x.send(0, 0, 1), false);
        Bench.same("one END is sending: the other", b.x.send(1, 0, 1), false);
        Bench.same("what is on the line stands", b.heads(1), "0S");
        b.x.spoil(1, 0, 4, 1);
        b.x.deliver(1);
        b.x.set(0, 6, 1);
        for (int i = 0; i < 6; i++) {
            b.x.timer(0);
        }
        Bench.same("the sender FAILED, the other waits", b.x.about(0, 0) + " " + b.x.about(1, 0), "4 2");
        Bench.same("one that waits doesn't send", b.x.send(1, 0, 1), false);
        Bench.same("the one that FAILED does", b.x.send(0, 0, 1), true);
        Bench.same("the other still waits", b.x.about(1, 0), 2);
        Bench.same("what was on the line is gone", b.heads(1) + "|" + b.heads(0), "0S|");
        b.x.deliver(1);
        for (int i = 0; i < 6; i++) {
            b.x.timer(0);
        }
        Bench.same("one that receives doesn't send", b.x.about(0, 0) + " " + b.x.send(1, 0, 1), "4 false");
    }

    private static void sendingAgain() {
        Bench b = withFiles(1);
        b.x.send(0, 0, 1);
        b.settle();
        Bench.same("DONE", b.about(0, 0, 4, 11), "3 1 3");
        Bench.same("END 1 sends back", b.x.send(1, 0, 1), true);
        Bench.same("nothing is agreed on, nothing counted", b.about(1, 0, 2, 3, 4, 10, 11, 15), "1 1 1 0 -1 -1 -1");
        Bench.same("the other is as it was", b.about(0, 0, 2, 4, 11), "3 6 1 3");
        b.settle();
        Bench.same("both DONE", b.about(0, 0, 4, 16) + " " + b.about(1, 0, 4, 16), "3 1 2 3 1 1");
        Bench.same("END 0 received latest", b.x.about(0, 2), 6);
        Bench.same("and sends again", b.x.send(0, 1, 1), true);
        b.settle();
        Bench.same("DONE again", b.about(0, 0, 16) + " " + b.about(1, 0, 16), "3 2 3 2");
    }

    private static void delivering() {
        Bench b = withFiles(1);
        Bench.same("nothing there", b.x.deliver(0) + " " + b.x.deliver(1), "-1 -1");
        Bench.same("no such END", b.x.deliver(-1) + " " + b.x.deliver(2) + " " + b.x.deliver(2147483647), "-1 -1 -1");
        Bench.same("nothing came", b.about(0, 8) + b.about(1, 8), "00");
        b.x.send(0, 0, 1);
        Bench.same("S", b.x.deliver(1), 0);
        Bench.same("the line", b.x.line(1) + " " + b.heads(0), "0 0Y");
        b.x.deliver(0);
        Bench.same("F", b.x.deliver(1), 1);
        b.x.timer(1);
        b.x.timer(1);
        Bench.same("the oldest first", b.heads(0), "1Y 2N 2N");
        Bench.same("Y", b.x.deliver(0), 1);
        Bench.same("what came", b.about(0, 8) + " " + b.about(1, 8), "2 2");
    }

    private static void spoiledPackets() {
        int length = 17;
        for (int i = 0; i < length; i++) {
            Bench b = withFiles(1);
            b.x.send(0, 0, 1);
            b.x.spoil(1, 0, i, 1);
            Bench.same("S with byte " + i + " spoiled", b.x.deliver(1), -2);
            Bench.same("counted", b.about(1, 0, 8, 9), "2 1 1");
            Bench.same("N of SEQ 0", b.packet(0, 0), Model.packet(0, 'N', "", 1));
        }
        Bench b = withFiles(1);
        b.x.send(0, 0, 1);
        b.forge(1, 0, 63, 'S', "~* @-#Y3~L(", 1);
        Bench.same("SEQ 63", b.x.deliver(1), 63);
        Bench.same("it EXPECTS 0 then", b.about(1, 0, 2), "2 0");
        Bench c = withFiles(1);
        c.x.send(0, 0, 1);
        c.forge(1, 0, 64, 'S', "~* @-#Y3~L(", 1);
        Bench.same("SEQ 64", c.x.deliver(1), -2);
        Bench d = withFiles(1);
        d.x.send(0, 0, 1);
        d.alter(1, 0, 2, 31, 1);
        Bench.same("SEQ -1", d.x.deliver(1), -2);
        Bench e = withFiles(1);
        e.x.send(0, 0, 1);
        e.alter(1, 0, 1, 45, 1);
        Bench.same("LEN one less", e.x.deliver(1), -2);
        e.x.timer(0);
        e.alter(1, 0, 1, 47, 1);
        Bench.same("LEN one more", e.x.deliver(1), -2);
        e.x.timer(0);
        e.alter(1, 0, 0, 2, 1);
        Bench.same("first byte", e.x.deliver(1), -2);
        e.x.timer(0);
        e.put(1, 0, 16, 10);
        Bench.same("last byte", e.x.deliver(1), -2);
    }

    private static void checks() {
        // Worked out by hand: sum 35 + 33 + 78 = 146, 146 / 64 MOD 4 = 2, 148 MOD 64 = 20.
        Bench one = withFiles(1).setBoth(2, 1);
        one.x.send(0, 0, 1);
        one.x.deliver(1);
        one.x.timer(1);
        Bench.same("CHECK 1", one.packet(0, 1), "\1#!N4\r");
        // One byte more of CHECK: sum 147, 147 / 64 = 2, 147 MOD 64 = 19.
        Bench two = withFiles(1).setBoth(2, 2);
        two.x.send(0, 0, 1);
        two.x.deliver(1);
        two.x.timer(1);
        Bench.same("CHECK 2", two.packet(0, 1), "\1$!N\"3\r");
        Bench.same("Y of S has CHECK 1", two.packet(0, 0), Model.packet(0, 'Y', "~* @-#Y2~L(", 1));
        Bench three = withFiles(1);
        three.x.send(0, 0, 1);
        three.x.deliver(1);
        three.x.timer(1);
        Bench.same("CHECK 3", three.packet(0, 1), "\1%!N" + Model.check(3, "%!N") + "\r");
        // The CRC of "123456789" is known to be 8585 = 2 * 4096 + 6 * 64 + 9.
        Bench.same("the CRC", Model.check(3, "123456789"), "\"&)");
        Bench.same("an N of CHECK 3 to one that hasn't AGREED", skipFirst(three), -2);
        Bench spoiledCheck = withFiles(1);
        spoiledCheck.x.send(0, 0, 1);
        spoiledCheck.x.deliver(1);
        spoiledCheck.x.deliver(0);
        for (int i = 6; i < 9; i++) {
            spoiledCheck.x.twice(1, 0);
            spoiledCheck.x.spoil(1, 0, i, 1);
            Bench.same("F with CHECK's byte " + i + " spoiled", spoiledCheck.x.deliver(1), -2);
        }
        Bench.same("F whole", spoiledCheck.x.deliver(1), 1);
        Bench again = withFiles(1);
        again.x.send(0, 0, 1);
        again.x.deliver(1);
        again.x.twice(0, 0);
        Bench.same("Y of S", again.x.deliver(0), 0);
        Bench.same("Y of S again, CHECK 3 is agreed on", again.x.deliver(0), -2);
        Bench.same("that does nothing", again.heads(1) + " " + again.about(0, 0, 9), "1F 1 1");
        Bench type = withFiles(1);
        type.x.send(0, 0, 1);
        type.x.deliver(1);
        type.x.deliver(0);
        type.forge(1, 0, 1, 'F', "AB", 1);
        Bench.same("F with CHECK 1 where 3 is agreed on", type.x.deliver(1), -2);
        // E of one that hasn't AGREED has CHECK 1: too short for the CHECK 3 that the other waits for.
        Bench tooShort = withFiles(1);
        tooShort.x.set(0, 6, 1);
        tooShort.x.send(0, 0, 1);
        tooShort.x.deliver(1);
        tooShort.x.timer(0);
        tooShort.x.timer(0);
        Bench.same("E with CHECK 1", tooShort.packet(1, 1), "\1$ ET" + Model.check(1, "$ ET") + "\r");
        tooShort.x.lose(1, 0);
        Bench.same("it is SPOILED", tooShort.x.deliver(1) + " " + tooShort.heads(0), "-2 0Y 1N");
    }

    private static int skipFirst(Bench b) {
        b.x.lose(0, 0);
        return b.x.deliver(0);
    }

    private static void losing() {
        Bench b = withFiles(1);
        b.x.send(0, 0, 1);
        b.x.deliver(1);
        b.x.deliver(0);
        b.x.deliver(1);
        b.x.timer(1);
        b.x.deliver(0);
        b.x.deliver(0);
        b.x.twice(1, 0);
        for (int i = 0; i < 2; i++) {
            b.x.timer(0);
        }
        b.x.spoil(1, 1, 2, 64);
        b.x.spoil(1, 3, 2, 32);
        Bench.same("before", b.heads(1), "2A 66A 2A -30A 2A");
        for (int[] w : new int[][] {{-1, 0}, {2, 0}, {0, 0}, {1, -1}, {1, 5}, {1, 2147483647}, {1, -2147483648}}) {
            Bench.same("lose " + w[0] + " " + w[1], b.x.lose(w[0], w[1]), false);
        }
        Bench.same("lose 1", b.x.lose(1, 1) + b.heads(1), "true2A 2A -30A 2A");
        Bench.same("lose 0", b.x.lose(1, 0) + b.heads(1), "true2A -30A 2A");
        Bench.same("lose the last", b.x.lose(1, 2) + b.heads(1), "true2A -30A");
        b.x.lose(1, 0);
        b.x.lose(1, 0);
        Bench.same("lose of none", b.x.lose(1, 0) + " " + b.x.line(1), "false 0");
        Bench.same("nothing came by that", b.about(1, 8), "2");
    }

    private static void spoiling() {
        Bench b = withFiles(1);
        b.x.send(0, 0, 1);
        Bench.same("spoil", b.x.spoil(1, 0, 3, 1), 'S' ^ 1);
        Bench.same("it is so then", b.x.look(1, 0, 3), 'S' ^ 1);
        Bench.same("back", b.x.spoil(1, 0, 3, 1), (int) 'S');
        Bench.same("lowest 8 bits", b.x.spoil(1, 0, 3, 0x7fffff00), (int) 'S');
        Bench.same("all 8 bits", b.x.spoil(1, 0, 3, -1), 'S' ^ 255);
        Bench.same("mask 0", b.x.spoil(1, 0, 3, 0), 'S' ^ 255);
        Bench.same("the last byte", b.x.spoil(1, 0, 16, 2), 15);
        for (int[] w : new int[][] {{-1, 0, 0}, {2, 0, 0}, {0, 0, 0}, {1, -1, 0}, {1, 1, 0}, {1, 0, -1}, {1, 0, 17}, {1, 0, 96}, {1, 0, 97}, {1, 0, 2147483647}, {1, -2147483648, 0}}) {
            Bench.same("spoil " + w[0] + " " + w[1] + " " + w[2], b.x.spoil(w[0], w[1], w[2], 1), -1);
        }
    }

    private static void doubling() {
        Bench b = withFiles(1);
        b.x.send(0, 0, 1);
        b.x.timer(0);
        b.x.spoil(1, 0, 2, 1);
        Bench.same("before", b.heads(1), "1S 0S");
        Bench.same("twice", b.x.twice(1, 0) + " " + b.heads(1), "true 1S 1S 0S");
        b.x.spoil(1, 1, 2, 3);
        Bench.same("they are two", b.heads(1), "1S 2S 0S");
        Bench.same("the last one twice", b.x.twice(1, 2) + " " + b.heads(1), "true 1S 2S 0S 0S");
        for (int[] w : new int[][] {{-1, 0}, {2, 0}, {0, 0}, {1, -1}, {1, 4}, {1, 2147483647}, {1, -2147483648}}) {
            Bench.same("twice " + w[0] + " " + w[1], b.x.twice(w[0], w[1]), false);
        }
        Bench.same("packets sent are as before", b.about(0, 6, 7), "2 1");
    }

    private static void fullLine() {
        Bench b = withFiles(1);
        b.x.set(0, 6, 20);
        b.x.send(0, 0, 1);
        for (int i = 1; i < 100; i++) {
            Bench.same("twice " + i, b.x.twice(1, i - 1), true);
        }
        Bench.same("100 on the line", b.x.line(1), 100);
        Bench.same("no room", b.x.twice(1, 0) + " " + b.x.line(1), "false 100");
        Bench.same("what is sent then is lost, but sent", b.x.timer(0) + " " + b.x.line(1) + " " + b.about(0, 6, 7), "1 100 2 1");
        b.x.lose(1, 50);
        Bench.same("there is room again", b.x.timer(0) + " " + b.x.line(1), "1 100");
        for (int i = 0; i < 100; i++) {
            Bench.same("S comes again and again", b.x.deliver(1), 0);
        }
        Bench.same("so many Y", b.x.line(0) + " " + b.about(1, 0, 2, 6), "100 2 1 100");
    }

    private static void looking() {
        Bench b = withFiles(1);
        Bench.same("line", b.x.line(0) + " " + b.x.line(1) + " " + b.x.line(-1) + " " + b.x.line(2) + " " + b.x.line(-2147483648), "0 0 -1 -1 -1");
        b.x.send(0, 0, 1);
        Bench.same("S", b.packet(1, 0), "\1. S~* @-#Y3~L(X\r");
        for (int[] w : new int[][] {{-1, 0, 0}, {2, 0, 0}, {0, 0, 0}, {1, -1, 0}, {1, 1, 0}, {1, 0, -1}, {1, 0, 17}, {1, 0, 97}, {1, 0, 2147483647}, {1, 2147483647, 0}}) {
            Bench.same("look " + w[0] + " " + w[1] + " " + w[2], b.x.look(w[0], w[1], w[2]), -1);
        }
        b.x.deliver(1);
        b.x.deliver(0);
        Bench.same("a shorter one where a longer one was", b.packet(1, 0), Model.packet(1, 'F', "F0", 3));
    }
}
