/** Terms 5: what a receiver answers and takes; promises 7, 11 (timer), 14 (about), 15, 16. */
public final class ReceiverTest {
    public static void main(String[] args) {
        fresh();
        waiting();
        start();
        startWrong();
        startAgain();
        timerAndSpoiled();
        yesAndNo();
        errorComes();
        done();
        doneAsSender();
        failed();
        keeping();
        keptTwice();
        gaps();
        outsideTheWindow();
        yesAgain();
        attributesKept();
        refusedAgain();
        name();
        attributes();
        attributesWrong();
        refused();
        dataPlaces();
        endPlaces();
        byePlaces();
        otherTypes();
        failsAmongKept();
        noRoomForBytes();
        noRoomForFiles();
        aboutWrong();
        Bench.end("ReceiverTest");
    }

    /** The packet that stands first on the line to END 1 comes as this one instead. */
    private static Bench comes(Bench b, int seq, char type, String data) {
        b.forge(1, 0, seq, type, data, 1);
        Bench.same("it is GOOD", b.x.deliver(1), seq);
        return b;
    }

    /** END 1 FAILED by this: what it sent, and about 0, 1, 16. */
    private static void fails(String what, Bench b, String heads, int why, int files) {
        Bench.same(what + ": sent", b.heads(0), heads);
        Bench.same(what + ": FAILED", b.about(1, 0, 1, 16), "4 " + why + " " + files);
        int last = b.x.line(0) - 1;
        Bench.same(what + ": E's byte", b.x.look(0, last, 4), why);
    }

    private static void fresh() {
        Bench b = Bench.sending(44, 8, "a");
        Bench.same("the timer of a FRESH one", b.x.timer(1) + " " + b.x.line(0) + " " + b.about(1, 0), "0 0 0");
        for (char type : "FADZBXYNE".toCharArray()) {
            b.x.twice(1, 0);
            comes(b, 0, type, "~* @-#Y3~L(");
            Bench.same("TYPE " + type + " to a FRESH one", b.x.line(0) + " " + b.about(1, 0, 1, 2), "0 0 0 0");
        }
        b.x.spoil(1, 0, 15, 1);
        Bench.same("SPOILED", b.x.deliver(1) + " " + b.packet(0, 0), "-2" + " " + Model.packet(0, 'N', "", 1));
        Bench.same("it waits", b.about(1, 0, 2, 3, 6, 8, 9, 11), "2 0 0 1 10 1 -1");
    }

    private static Bench waits() {
        Bench b = Bench.sending(44, 8, "a");
        b.x.twice(1, 0);
        b.x.spoil(1, 0, 15, 1);
        b.x.deliver(1);
        b.clear(0);
        return b;
    }

    private static void waiting() {
        Bench b = waits();
        Bench.same("the timer", b.x.timer(1) + " " + b.heads(0), "1 0N");
        b.x.twice(1, 0);
        b.x.spoil(1, 0, 2, 1);
        Bench.same("SPOILED", b.x.deliver(1) + " " + b.heads(0), "-2 0N 0N");
        b.x.twice(1, 0);
        comes(b, 0, 'Y', "~* @-#Y3~L(");
        b.x.twice(1, 0);
        comes(b, 0, 'N', "~* @-#Y3~L(");
        Bench.same("Y, N: nothing", b.x.line(0) + " " + b.about(1, 0), "2 2");
        b.x.deliver(1);
        Bench.same("S", b.heads(0) + " " + b.about(1, 0, 2), "0N 0N 0Y 2 1");
        b.settle();
        Bench.same("it goes on", b.about(1, 0, 16) + " " + b.about(0, 0), "3 1 3");
        for (char type : "FADZBX".toCharArray()) {
            Bench c = waits();
            comes(c, 7, type, "~* @-#Y3~L(");
            fails("TYPE " + type + " while it waits", c, "7E", 80, 0);
            Bench.same("CHECK 1, SEQ", c.packet(0, 0), Model.packet(7, 'E', "P", 1));
            Bench.same("it EXPECTS", c.about(1, 2), "0");
        }
        Bench e = waits();
        comes(e, 7, 'E', "Q* @-#Y3~L(");
        Bench.same("E while it waits", e.x.line(0) + " " + e.about(1, 0, 1), "0 4 81");
    }

    private static void start() {
        Bench b = Bench.sending(44, 8, "a");
        comes(b, 41, 'S', "^* @-#&2~_!");
        Bench.same("Y", b.packet(0, 0), Model.packet(41, 'Y', "~* @-#Y1 L(", 1));
        Bench.same("AGREED", b.about(1, 0, 2, 3, 4, 5, 10, 11, 12, 13, 14, 15), "2 42 0 0 0 62 1 1 0 44 1");
        Bench c = Bench.sending(44, 8, "a");
        comes(c, 63, 'S', "^* @-#Y1~ ?");
        Bench.same("SEQ goes round", c.about(1, 2, 14, 15), "0 0 1");
    }

    private static void startWrong() {
        int[][] wrong = {{0, 23 + 32}, {0, 95 + 32}, {6, 'X'}, {7, '0'}, {7, '4'}, {8, 0}, {9, 64 + 32}, {10, 32}, {10, 64}};
        for (int[] w : wrong) {
            Bench b = Bench.sending(44, 8, "a");
            b.alter(1, 0, 4 + w[0], w[1], 1);
            b.alter(1, 0, 2, 5 + 32, 1);
            Bench.same("it is GOOD", b.x.deliver(1), 5);
            fails("S with byte " + w[0] + " " + w[1], b, "5E", 68, 0);
            Bench.same("nothing AGREED", b.about(1, 2, 10, 15), "0 -1 -1");
        }
        // With a FILE begun, and CHECK 3 agreed on: it has AGREED no more, so E has CHECK 1.
        Bench b = new Bench();
        b.store(0, "A", "abc", 1);
        b.x.send(0, 0, 1);
        Bench.rounds(b, 2);
        b.x.deliver(1);
        Bench.same("begun", b.about(1, 0, 11, 16), "2 3 1");
        b.clear(0);
        b.x.timer(0);
        comes(b, 9, 'S', "no parameters");
        Bench.same("E with CHECK 1", b.packet(0, 0), Model.packet(9, 'E', "D", 1));
        Bench.same("FAILED, the FILE is gone", b.about(1, 0, 1, 2, 11, 16, 17), "4 68 0 -1 0 0");
        Bench shortS = Bench.sending(4, 8, "a");
        Bench.rounds(shortS, 1);
        comes(shortS, 1, 'S', "F0");
        fails("S with two bytes", shortS, "1E", 68, 0);
    }

    private static void startAgain() {
        Bench b = Bench.sending(4, 8, Bench.fill(3));
        b.x.twice(1, 0);
        b.x.deliver(1);
        b.x.deliver(1);
        Bench.same("Y again and again", b.heads(0), "0Y 0Y");
        b.x.lose(0, 1);
        b.x.deliver(0);
        b.x.deliver(1);
        b.x.deliver(0);
        b.x.lose(1, 0);
        b.x.deliver(1);
        b.clear(0);
        Bench.same("begun, one is kept", b.about(1, 2, 3, 16), "2 1 1");
        comes(b, 30, 'S', "~* @-#Y1 L(");
        Bench.same("S with too much DATA", b.about(1, 0, 1), "4 68");
        Bench c = Bench.sending(4, 8, "a", Bench.fill(1));
        c.x.twice(1, 0);
        String s = c.packet(1, 0);
        c.x.lose(1, 1);
        Bench.rounds(c, 5);
        Bench.same("one FILE came, one is begun", c.about(1, 4, 16, 2), "1 2 5");
        c.x.set(0, 6, 1);
        c.x.timer(0);
        for (int i = 0; i < 8 && c.x.about(0, 0) == 1; i++) {
            c.x.timer(0);
        }
        c.x.send(0, 0, 1);
        Bench.same("S once more", c.packet(1, 0), s);
        c.x.deliver(1);
        Bench.same("all anew but the STORE", c.about(1, 0, 2, 3, 4, 5, 16), "2 1 0 0 0 1");
        Bench d = Bench.sending(4, 8, Bench.fill(3));
        Bench.rounds(d, 1);
        d.x.deliver(1);
        d.x.deliver(0);
        d.x.lose(1, 0);
        d.x.deliver(1);
        Bench.same("begun, one is kept", d.about(1, 0, 3, 16), "2 1 1");
        for (int i = 0; i < 6; i++) {
            d.x.timer(0);
        }
        d.x.send(0, 0, 1);
        Bench.same("begun yet", d.about(1, 0, 3, 16), "2 1 1");
        d.x.deliver(1);
        Bench.same("nothing is kept, a FILE that is begun is gone", d.about(1, 0, 2, 3, 16), "2 1 0 0");
    }

    private static void timerAndSpoiled() {
        Bench b = Bench.rounds(Bench.sending(4, 8, Bench.fill(3)), 2);
        Bench.same("the timer", b.x.timer(1) + " " + b.heads(0), "1 2N");
        b.x.spoil(1, 0, 50, 4);
        Bench.same("SPOILED", b.x.deliver(1) + " " + b.heads(0), "-2 2N 2N");
        b.x.deliver(1);
        Bench.same("the next one is kept", b.heads(0) + " " + b.about(1, 3), "2N 2N 3Y 2N 1");
        Bench.same("the timer", b.x.timer(1) + " " + b.heads(0) + " " + b.about(1, 9), "1 2N 2N 3Y 2N 2N 1");
    }

    private static void yesAndNo() {
        Bench b = Bench.rounds(Bench.sending(4, 8, Bench.fill(3)), 2);
        comes(b, 2, 'Y', "");
        comes(b, 2, 'N', "");
        Bench.same("nothing", b.x.line(0) + " " + b.about(1, 0, 2, 3), "0 2 2 0");
    }

    private static void errorComes() {
        Bench b = Bench.rounds(Bench.sending(4, 8, Bench.fill(3)), 2);
        b.x.lose(1, 0);
        b.x.deliver(1);
        b.clear(0);
        Bench.same("begun, kept", b.about(1, 2, 3, 16), "2 1 1");
        comes(b, 50, 'E', "Zx");
        Bench.same("FAILED with its byte", b.x.line(0) + " " + b.about(1, 0, 1, 2, 16, 17), "0 4 90 2 0 0");
        Bench none = Bench.rounds(Bench.sending(4, 8, "a"), 3);
        comes(none, 3, 'E', "");
        Bench.same("without a byte", none.x.line(0) + " " + none.about(1, 0, 1), "0 4 0");
    }

    private static void done() {
        Bench b = Bench.rounds(Bench.sending(4, 8, "a", "b", "c"), 10);
        b.x.deliver(1);
        Bench.same("B was taken", b.about(1, 0, 2), "3 11");
        b.clear(0);
        Bench.same("the timer", b.x.timer(1), 0);
        b.x.timer(0);
        b.x.spoil(1, 0, 4, 1);
        Bench.same("SPOILED", b.x.deliver(1) + " " + b.x.line(0), "-2 0");
        b.x.timer(0);
        b.x.twice(1, 0);
        Bench.same("B again", b.x.deliver(1) + " " + b.heads(0), "10 10Y");
        b.x.twice(1, 0);
        comes(b, 11, 'F', "");
        comes(b, 11 - 8, 'D', "");
        Bench.same("nothing ahead, Y of eight behind", b.heads(0) + " " + b.about(1, 0, 2, 3), "10Y 3Y 3 11 0");
        b.x.timer(0);
        comes(b, 11 - 9, 'D', "");
        b.x.timer(0);
        comes(b, 11, 'E', "");
        Bench.same("nothing of nine behind, and of E", b.heads(0) + " " + b.about(1, 0), "10Y 3Y 3");
    }

    private static void doneAsSender() {
        Bench b = Bench.sending(4, 8, "a");
        b.settle();
        b.store(1, "BACK", "q", 1);
        b.x.send(1, 0, 1);
        for (char type : "FADZBXYNE".toCharArray()) {
            b.x.timer(1);
            while (b.x.line(0) > 1) {
                b.x.lose(0, 0);
            }
            b.forge(0, 0, 5, type, "", 1);
            Bench.same("it is GOOD", b.x.deliver(0), 5);
            Bench.same("TYPE " + type, b.x.line(1) + " " + b.about(0, 0, 2), "0 3 5");
            if (b.x.about(1, 0) != 1) {
                b.x.send(1, 0, 1);
            }
        }
        b.x.timer(1);
        b.x.spoil(0, 0, 15, 1);
        Bench.same("SPOILED", b.x.deliver(0) + " " + b.x.line(1), "-2 0");
    }

    private static void failed() {
        Bench b = Bench.rounds(Bench.sending(4, 8, Bench.fill(9)), 2);
        comes(b, 2, 'X', "");
        fails("another TYPE", b, "2Y 2E", 80, 0);
        b.clear(0);
        Bench.same("the timer", b.x.timer(1), 0);
        b.x.spoil(1, 0, 9, 2);
        Bench.same("SPOILED", b.x.deliver(1) + " " + b.x.line(0), "-2 0");
        for (int i = 0; i < 3; i++) {
            b.x.deliver(1);
        }
        comes(b, 2, 'F', "");
        comes(b, 2, 'E', "z");
        Bench.same("nothing", b.x.line(0) + " " + b.about(1, 0, 1, 2), "0 4 80 3");
        Bench.same("it has AGREED yet", b.about(1, 15), "8");
        for (int i = 0; i < 7; i++) {
            b.x.timer(0);
        }
        b.x.send(0, 0, 1);
        b.x.deliver(1);
        Bench.same("S begins anew", b.heads(0) + " " + b.about(1, 0, 1, 2), "0Y 2 0 1");
    }

    private static void keeping() {
        Bench b = Bench.rounds(Bench.sending(4, 8, Bench.fill(5)), 2);
        b.x.lose(1, 0);
        b.x.deliver(1);
        b.x.deliver(1);
        Bench.same("Y, N of the one that lacks, once", b.heads(0) + " " + b.about(1, 2, 3, 17), "3Y 2N 4Y 2 2 0");
        b.x.timer(0);
        b.x.deliver(1);
        b.x.deliver(1);
        Bench.same("the others too", b.heads(0) + " " + b.about(1, 3), "3Y 2N 4Y 5Y 6Y 4");
        b.x.deliver(1);
        Bench.same("all are taken", b.heads(0) + " " + b.about(1, 2, 3, 17), "3Y 2N 4Y 5Y 6Y 2Y 7 0 455");
        b.settle();
        Bench.same("it came", b.content(1, 0), Bench.fill(5));
    }

    private static void keptTwice() {
        Bench b = Bench.rounds(Bench.sending(4, 8, "x".repeat(91) + "y".repeat(91)), 2);
        b.x.lose(1, 0);
        b.x.twice(1, 0);
        b.x.twice(1, 0);
        b.x.deliver(1);
        comes(b, 3, 'D', "z".repeat(91));
        Bench.same("Y, no more", b.heads(0) + " " + b.about(1, 3), "3Y 2N 3Y 1");
        comes(b, 3, 'A', "z".repeat(91));
        Bench.same("nothing of an A", b.heads(0) + " " + b.about(1, 3), "3Y 2N 3Y 1");
        b.x.timer(0);
        b.x.deliver(1);
        Bench.same("the first one counts", b.content(1, 0), "x".repeat(91) + "y".repeat(91));
    }

    private static void gaps() {
        Bench b = Bench.rounds(Bench.sending(4, 8, Bench.fill(8)), 2);
        Bench.same("on the line", b.heads(1), "2D 3D 4D 5D 6D 7D 8D 9D");
        b.x.lose(1, 0);
        b.x.lose(1, 0);
        b.x.lose(1, 0);
        b.x.deliver(1);
        Bench.same("5 comes", b.heads(0), "5Y 2N 3N 4N");
        b.clear(0);
        b.x.lose(1, 0);
        b.x.lose(1, 0);
        b.x.deliver(1);
        Bench.same("8 comes: from behind the greatest kept", b.heads(0), "8Y 6N 7N");
        b.clear(0);
        b.x.deliver(1);
        Bench.same("9 comes", b.heads(0), "9Y");
        b.clear(0);
        b.x.timer(0);
        b.x.twice(1, 0);
        b.x.twice(1, 0);
        b.x.twice(1, 0);
        comes(b, 7, 'D', "x".repeat(91));
        comes(b, 3, 'D', "x".repeat(91));
        Bench.same("below the greatest: no N", b.heads(0) + " " + b.about(1, 2, 3), "7Y 3Y 2 5");
        b.clear(0);
        b.x.deliver(1);
        Bench.same("2 comes: it and 3 are taken", b.heads(0) + " " + b.about(1, 2, 3), "2Y 4 4");
        comes(b, 4, 'D', "x".repeat(91));
        Bench.same("4 comes: it and 5 are taken", b.about(1, 2, 3), "6 3");
    }

    private static void outsideTheWindow() {
        Bench b = Bench.rounds(Bench.sending(4, 3, Bench.fill(20)), 10);
        Bench.same("it EXPECTS 10", b.about(1, 2, 15), "10 3");
        String due = "";
        for (int d = 0; d < 64; d++) {
            b.clear(1);
            for (int i = 0; i < 9 && b.x.about(0, 0) == 1; i++) {
                b.x.timer(0);
            }
            b = Bench.rounds(Bench.sending(4, 3, Bench.fill(20)), 10);
            comes(b, (10 + d) % 64, 'D', "x".repeat(91));
            due = d == 0 ? "10Y" : d == 1 ? "11Y 10N" : d == 2 ? "12Y 10N 11N" : d >= 61 ? (10 + d) % 64 + "Y" : "";
            Bench.same("d " + d, b.heads(0), due);
            Bench.same("kept " + d, b.about(1, 2, 3), (d == 0 ? "11 " : "10 ") + (d == 1 || d == 2 ? 1 : 0));
        }
        Bench one = Bench.rounds(Bench.sending(0, 8, Bench.fill(20)), 10);
        comes(one, 11, 'D', "x".repeat(91));
        Bench.same("WINDOW 1, one ahead", one.x.line(0), 0);
        one.x.timer(0);
        comes(one, 9, 'D', "x".repeat(91));
        one.x.timer(0);
        comes(one, 8, 'D', "x".repeat(91));
        Bench.same("WINDOW 1, one and two behind", one.heads(0), "9Y");
    }

    private static void yesAgain() {
        Bench b = Bench.rounds(Bench.sending(12, 8, "a", "b"), 2);
        b.x.twice(1, 0);
        b.x.deliver(1);
        b.x.deliver(1);
        Bench.same("A again", b.heads(0) + b.data(0, 0, 1) + b.data(0, 1, 1), "2Y 2YYY");
        Bench.same("taken once", b.about(1, 2, 3), "3 0");
        b.x.lose(0, 0);
        b.x.deliver(0);
        b.x.twice(1, 0);
        b.x.deliver(1);
        b.x.deliver(1);
        Bench.same("D again", b.heads(0) + " " + b.about(1, 2, 17), "3Y 3Y 4 1");
        Bench.same("Y of others has no DATA", b.data(0, 0, 1) + b.data(0, 1, 1), "");
        b.settle();
        Bench.same("it came", b.about(1, 0, 16, 17), "3 2 2");
    }

    private static void attributesKept() {
        // F comes with the SEQ behind and as an A, so that it is kept; then F as it was sent.
        Bench b = Bench.rounds(Bench.sending(12, 8, "a"), 1);
        b.x.twice(1, 0);
        comes(b, 2, 'A', "F0");
        Bench.same("an A that is kept has no Y", b.heads(0) + " " + b.about(1, 2, 3), "1N 1 1");
        b.x.deliver(1);
        Bench.same("F and then A are taken: wrong DATA, no Y of it", b.heads(0) + " " + b.about(1, 0, 1, 2), "1N 1Y 2E 4 68 3");
    }

    private static Bench refusing() {
        Bench b = Bench.sending(12, 8, "abc", "de");
        b.store(1, "OLD", "x".repeat(2998), 1);
        Bench.rounds(b, 2);
        b.x.twice(1, 0);
        b.x.deliver(1);
        return b;
    }

    private static void refusedAgain() {
        Bench b = refusing();
        b.x.deliver(1);
        Bench.same("refused, and again", b.heads(0) + b.data(0, 0, 1) + b.data(0, 1, 1), "2Y 2YNN");
        b.x.lose(0, 0);
        b.x.deliver(0);
        Bench.rounds(b, 2);
        b.x.twice(1, 0);
        b.x.twice(1, 0);
        b.x.deliver(1);
        b.x.deliver(1);
        Bench.same("another A", b.data(0, 0, 1) + b.data(0, 1, 1), "YY");
        comes(b, 2, 'A', "");
        Bench.same("the refused one again", b.heads(0) + b.data(0, 2, 1), "5Y 5Y 2YN");
        b.settle();
        Bench.same("DONE", b.about(1, 0, 4, 5, 16, 17), "3 1 1 2 3000");
        refusedUnderSeqZero();
    }

    /** S has SEQ 62 for the receiver, so that A has SEQ 0. */
    private static void refusedUnderSeqZero() {
        Bench b = Bench.sending(12, 8, "abc");
        b.store(1, "OLD", "x".repeat(2998), 1);
        b.alter(1, 0, 2, 62 + 32, 1);
        b.x.deliver(1);
        b.alter(0, 0, 2, 32, 1);
        b.x.deliver(0);
        b.alter(1, 0, 2, 63 + 32, 1);
        b.x.deliver(1);
        b.alter(0, 0, 2, 1 + 32, 1);
        b.x.deliver(0);
        b.alter(1, 0, 2, 32, 1);
        b.x.twice(1, 0);
        b.x.deliver(1);
        b.x.deliver(1);
        Bench.same("refused and again, SEQ 0", b.heads(0) + b.data(0, 0, 1) + b.data(0, 1, 1), "0Y 0YNN");
    }

    private static void name() {
        for (String n : new String[] {"a", "A ", "A/", "A\0", "A\u00c1"}) {
            Bench b = Bench.rounds(Bench.sending(12, 8, "a"), 1);
            comes(b, 1, 'F', n);
            fails("NAME " + n, b, "1Y 1E", 80, 0);
            Bench.same("it EXPECTS the next", b.about(1, 2), "2");
        }
        Bench none = Bench.rounds(Bench.sending(12, 8, "a"), 4);
        none.x.deliver(1);
        none.clear(0);
        Bench.same("Z closed it", none.about(1, 0, 2, 16), "2 5 1");
        none.x.timer(0);
        comes(none, 5, 'F', "");
        fails("no NAME", none, "5Y 5E", 80, 1);
        Bench begun = Bench.rounds(Bench.sending(4, 8, "abc"), 2);
        comes(begun, 2, 'F', "ABC");
        fails("F where a FILE is begun", begun, "2Y 2E", 80, 0);
        Bench refused = refusing();
        refused.x.deliver(0);
        refused.clear(1);
        refused.x.timer(0);
        comes(refused, 3, 'F', "A");
        fails("F where a refused one is begun", refused, "3Y 3E", 80, 1);
        Bench longest = new Bench().setBoth(2, 1).setBoth(3, 32).setBoth(4, 4);
        longest.store(0, "ABCDEFGHIJKL", "x", 1);
        longest.x.send(0, 0, 1);
        Bench.rounds(longest, 2);
        Bench.same("twelve signs", longest.name(1, 0) + longest.about(1, 16, 17), "ABCDEFGHIJKL1 0");
        // The sender takes F for acknowledged, so that its A, of thirteen bytes, can come in F's place.
        Bench thirteen = Bench.rounds(Bench.sending(12, 8, "a"), 1);
        thirteen.clear(1);
        thirteen.x.timer(1);
        thirteen.alter(0, 0, 3, 'Y', 1);
        thirteen.x.deliver(0);
        comes(thirteen, 1, 'F', "A".repeat(13));
        fails("thirteen signs", thirteen, "1Y 1E", 80, 0);
    }

    private static void attributes() {
        Bench b = Bench.rounds(Bench.sending(12, 8, "x".repeat(123)), 2);
        b.x.deliver(1);
        Bench.same("Y", b.packet(0, 0), Model.packet(2, 'Y', "Y", 1));
        Bench.same("DATE and no byte", b.x.told(1, 0, 1) + " " + b.about(1, 16, 17), "10 1 0");
        // A that is told where bit 8 isn't agreed on is not ruled out.
        Bench c = Bench.rounds(Bench.sending(4, 8, "x".repeat(13)), 2);
        comes(c, 2, 'A', "1!5#(87654321");
        Bench.same("A without bit 8", c.heads(0) + c.data(0, 0, 1) + c.x.told(1, 0, 1), "2YY87654321");
        Bench none = Bench.rounds(Bench.sending(12, 8, "x".repeat(13)), 1);
        comes(none, 1, 'A', "");
        fails("A where none is", none, "1E", 80, 0);
        Bench twice = Bench.rounds(Bench.sending(12, 8, "x".repeat(13)), 3);
        comes(twice, 3, 'A', "1!5#(87654321");
        fails("A behind A", twice, "3E", 80, 0);
        Bench behind = Bench.rounds(Bench.sending(4, 1, "x".repeat(91 + 13)), 3);
        comes(behind, 3, 'A', "1!5#(87654321");
        fails("A behind D", behind, "3E", 80, 0);
        Bench refused = refusing();
        refused.clear(0);
        comes(refused, 3, 'A', "1!3#(00000010");
        fails("A behind a refused one", refused, "3E", 80, 1);
    }

    private static void attributesWrong() {
        String[] wrong = {"1!5#(8765432x", "2!5#(87654321", "1!x#(87654321", "1!5$(87654321", "1!5#'87654321", "1!5#)87654321", "1\"5#(87654321",
            "1\"05#(8765432", "1 #(87654321 ", "1!5#(87654321 ", "1!5#(8765432", "1\"05#(87654321", "1#005#(87654321", "1%12345#(87654321", "", "1", "1!",
            "1!5", "1!5#", "#(876543211!5", "1\"5 #(87654321", "1\"-5#(87654321", "1!5#(-7654321", "1!5#(+7654321", "1!:#(87654321", "1!/#(87654321"};
        for (String data : wrong) {
            Bench b = Bench.rounds(Bench.sending(4, 8, "x".repeat(data.length())), 2);
            comes(b, 2, 'A', data);
            fails("A " + data, b, "2E", 68, 0);
        }
        String[] right = {"1!0#(00000000", "1!9#(99999999", "1\"10#(12345678", "1#999#(00000001", "1$3000#(00000001"};
        for (String data : right) {
            Bench b = Bench.rounds(Bench.sending(4, 8, "x".repeat(data.length())), 2);
            comes(b, 2, 'A', data);
            Bench.same("A " + data, b.heads(0) + b.data(0, 0, 1) + b.about(1, 0), "2YY2");
        }
        for (String data : new String[] {"1$3001#(00000001", "1$9999#(00000001"}) {
            Bench b = Bench.rounds(Bench.sending(4, 8, "x".repeat(data.length())), 2);
            comes(b, 2, 'A', data);
            Bench.same("A " + data, b.heads(0) + b.data(0, 0, 1) + b.about(1, 0, 16), "2YN2 0");
        }
    }

    private static void refused() {
        Bench b = refusing();
        Bench.same("no FILE any more", b.about(1, 0, 2, 16, 17), "2 3 1 2998");
        Bench just = Bench.sending(12, 8, "ab");
        just.store(1, "OLD", "x".repeat(2998), 1);
        Bench.rounds(just, 2);
        just.x.deliver(1);
        Bench.same("just room", just.data(0, 0, 1) + just.about(1, 16), "Y2");
        Bench data = refusing();
        data.clear(0);
        comes(data, 3, 'D', "abcdefghijklm");
        fails("D of a refused one", data, "3Y 3E", 80, 1);
        Bench bye = refusing();
        bye.clear(0);
        comes(bye, 3, 'B', "");
        fails("B where a refused one is", bye, "3Y 3E", 80, 1);
        Bench end = refusing();
        end.clear(1);
        end.x.deliver(0);
        end.clear(1);
        end.x.timer(0);
        Bench.same("Z with D", end.heads(1) + end.data(1, 0, 1), "3ZD");
        end.x.deliver(1);
        Bench.same("counted", end.heads(0) + " " + end.about(1, 0, 4, 5, 16), "3Y 2 0 1 1");
    }

    private static void dataPlaces() {
        Bench b = Bench.rounds(Bench.sending(4, 8, "a"), 1);
        comes(b, 1, 'D', "");
        fails("D where none is", b, "1Y 1E", 80, 0);
        Bench first = Bench.rounds(Bench.sending(4, 8, "ab"), 2);
        Bench.same("begun", first.about(1, 16, 17), "1 0");
        first.x.deliver(1);
        Bench.same("its bytes come", first.about(1, 16, 17) + first.content(1, 0), "1 2ab");
        Bench none = Bench.rounds(Bench.sending(4, 8, "ab"), 3);
        comes(none, 3, 'D', "");
        Bench.same("D without DATA", none.heads(0) + " " + none.about(1, 0, 17), "3Y 2 2");
    }

    private static void endPlaces() {
        Bench b = Bench.rounds(Bench.sending(4, 8, "a"), 1);
        comes(b, 1, 'Z', "");
        fails("Z where none is", b, "1Y 1E", 80, 0);
        Bench gone = Bench.rounds(Bench.sending(4, 8, "a"), 2);
        comes(gone, 2, 'Z', "D");
        Bench.same("Z with D", gone.heads(0) + " " + gone.about(1, 0, 4, 5, 16), "2Y 2 0 1 0");
        Bench other = Bench.rounds(Bench.sending(4, 8, "a"), 2);
        comes(other, 2, 'Z', "E");
        fails("Z with other DATA", other, "2Y 2E", 80, 0);
        Bench more = Bench.rounds(Bench.sending(4, 8, "ab"), 2);
        comes(more, 2, 'Z', "DD");
        fails("Z with more DATA", more, "2Y 2E", 80, 0);
        Bench plain = Bench.sending(12, 8, "abc");
        plain.store(1, "OLD", "x".repeat(2998), 1);
        Bench.rounds(plain, 2);
        plain.x.deliver(1);
        plain.x.deliver(0);
        comes(plain, 3, 'Z', " ");
        fails("Z with another byte, of a refused one", plain, "3Y 3E", 80, 1);
        Bench without = Bench.sending(12, 8, "abc");
        without.store(1, "OLD", "x".repeat(2998), 1);
        Bench.rounds(without, 2);
        without.x.deliver(1);
        // The sender takes Y with another byte for a yes, so that a Z without D comes.
        without.alter(0, 0, 4, 'Y', 1);
        without.x.deliver(0);
        without.clear(1);
        without.x.timer(1);
        without.alter(0, 0, 2, 4 + 32, 1);
        without.x.deliver(0);
        Bench.same("Z without D", without.heads(1), "4Z");
        without.alter(1, 0, 2, 3 + 32, 1);
        without.x.deliver(1);
        fails("Z without D of a refused one", without, "3Y 3E", 80, 1);
    }

    private static void byePlaces() {
        Bench b = Bench.rounds(Bench.sending(4, 8, "a"), 2);
        comes(b, 2, 'B', "");
        fails("B where a FILE is begun", b, "2Y 2E", 80, 0);
        Bench early = Bench.rounds(Bench.sending(4, 8, "a"), 1);
        comes(early, 1, 'B', "");
        Bench.same("B where none is", early.heads(0) + " " + early.about(1, 0, 1, 2, 3), "1Y 3 0 2 0");
    }

    private static void otherTypes() {
        for (char type : "XCGfa z\0\u00ff".toCharArray()) {
            Bench b = Bench.rounds(Bench.sending(4, 8, "a"), 1);
            comes(b, 1, type, "");
            fails("TYPE " + (int) type, b, "1Y 1E", 80, 0);
        }
    }

    private static void failsAmongKept() {
        Bench b = Bench.rounds(Bench.sending(4, 8, Bench.fill(4)), 2);
        b.x.lose(1, 0);
        b.x.deliver(1);
        b.x.deliver(1);
        b.clear(0);
        comes(b, 2, 'X', "");
        fails("the one that lacked", b, "2Y 2E", 80, 0);
        Bench.same("it EXPECTS the next; those behind are not taken", b.about(1, 2, 3, 6), "3 2 7");
    }

    private static void noRoomForBytes() {
        Bench b = Bench.sending(4, 8, Bench.fill(3));
        b.store(1, "OLD", "x".repeat(3000 - 182), 1);
        Bench.rounds(b, 2);
        b.x.deliver(1);
        b.x.deliver(1);
        Bench.same("two D's go", b.about(1, 0, 17), "2 3000");
        b.clear(0);
        b.x.deliver(1);
        fails("the third", b, "4Y 4E", 82, 1);
        Bench.same("the FILE is gone", b.about(1, 2, 17), "5 2818");
    }

    private static void noRoomForFiles() {
        Bench b = Bench.sending(4, 8, "a", "b");
        for (int i = 0; i < 7; i++) {
            b.store(1, "OLD" + i, "", 1);
        }
        Bench.rounds(b, 4);
        Bench.same("the eighth came", b.about(1, 0, 16), "2 8");
        b.x.deliver(1);
        fails("a ninth", b, "4Y 4E", 82, 8);
        Bench.same("it EXPECTS the next", b.about(1, 2, 16), "5 8");
    }

    private static void aboutWrong() {
        Bench b = new Bench();
        for (int[] w : new int[][] {{-1, 0}, {2, 0}, {0, -1}, {0, 18}, {1, 2147483647}, {-2147483648, 0}}) {
            Bench.throwsNone("about " + w[0] + " " + w[1], () -> b.x.about(w[0], w[1]));
        }
    }
}
