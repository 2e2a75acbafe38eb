/** Terms 4: what a sender sends and does with what comes; promises 6, 7, 11 (timer), 14 (about). */
public final class SenderTest {
    public static void main(String[] args) {
        order();
        emptyFile();
        withoutAttributes();
        seqGoesRound();
        windowOpens();
        windowOfOne();
        selectiveYes();
        windowAcrossSixtyFour();
        noOfOneUnderWay();
        noOfTheNext();
        noOfTheNextAtStartAndAttributes();
        noOfTheNextAtTheEnd();
        refusedFile();
        wrongYesOfStart();
        rightYesOfStart();
        error();
        allElse();
        timer();
        limit();
        limitByNo();
        limitIsOfEachPacket();
        restOfFails();
        Bench.end("SenderTest");
    }

    private static String trace(Bench b) {
        StringBuilder text = new StringBuilder();
        for (int i = 0; i < 2000 && b.x.line(0) + b.x.line(1) > 0; i++) {
            if (b.x.line(1) > 0) {
                text.append((char) b.x.look(1, 0, 3));
            }
            b.x.deliver(1);
            b.x.deliver(0);
        }
        return text.toString();
    }

    private static void order() {
        Bench.same("two FILES", trace(Bench.sending(44, 8, "ab", Bench.fill(1) + "c")), "SFADZFADDZB");
    }

    private static void emptyFile() {
        Bench b = Bench.sending(44, 8, "", "a");
        Bench.same("a FILE of no bytes", trace(b), "SFAZFADZB");
        Bench.same("it came", b.about(1, 0, 4, 16, 17), "3 2 2 1");
    }

    private static void withoutAttributes() {
        Bench b = Bench.sending(4, 8, "", "a");
        b.store(1, "OLD", "", 5);
        b.x.drop(1, 0);
        Bench.same("without A", trace(b), "SFZFDZB");
        Bench.same("no DATE", b.x.told(1, 0, 1) + " " + b.x.told(1, 1, 1), "0 0");
    }

    private static void seqGoesRound() {
        Bench b = Bench.sending(8, 8, "x".repeat(3000));
        b.x.set(1, 0, 24);
        Bench.rounds(b, 64);
        Bench.same("SEQ 0 is next", b.heads(1) + " " + b.about(0, 2, 3), "0D 1 1");
        b.settle();
        Bench.same("it came", b.about(1, 0, 16, 17), "3 1 3000");
        Bench.same("content", b.content(1, 0), "x".repeat(3000));
    }

    private static void windowOpens() {
        Bench b = Bench.rounds(Bench.sending(12, 5, Bench.fill(12)), 1);
        Bench.same("F", b.heads(1), "1F");
        Bench.rounds(b, 1);
        Bench.same("A alone", b.heads(1), "2A");
        Bench.rounds(b, 1);
        Bench.same("as many D's as go", b.heads(1) + " " + b.about(0, 2, 3), "3D 4D 5D 6D 7D 8 5");
        b.x.deliver(1);
        Bench.same("Y", b.heads(0), "3Y");
        b.x.deliver(0);
        Bench.same("one more", b.heads(1) + " " + b.about(0, 2, 3), "4D 5D 6D 7D 8D 9 5");
        Bench.same("all", trace(b).length(), 12 - 1 + 2);
        Bench few = Bench.rounds(Bench.sending(12, 31, Bench.fill(3)), 3);
        Bench.same("Z waits until all D's are acknowledged", few.heads(1), "3D 4D 5D");
        few.x.deliver(1);
        few.x.deliver(1);
        few.x.deliver(1);
        few.x.deliver(0);
        few.x.deliver(0);
        Bench.same("yet", few.x.line(1) + " " + few.x.about(0, 3), "0 1");
        few.x.deliver(0);
        Bench.same("Z", few.heads(1), "6Z");
    }

    private static void windowOfOne() {
        Bench b = Bench.rounds(Bench.sending(8, 31, Bench.fill(3)), 3);
        Bench.same("without bit 4 one at a time", b.heads(1) + " " + b.about(0, 15, 3), "3D 1 1");
        Bench c = Bench.rounds(Bench.sending(12, 1, Bench.fill(3)), 3);
        Bench.same("WINDO 1", c.heads(1), "3D");
        Bench d = Bench.rounds(Bench.sending(4, 31, "x".repeat(3000)), 2);
        Bench.same("31 at a time", d.x.line(1) + " " + d.about(0, 2, 3), "31 33 31");
    }

    private static void selectiveYes() {
        Bench b = Bench.rounds(Bench.sending(4, 3, Bench.fill(6)), 2);
        Bench.same("under way", b.heads(1), "2D 3D 4D");
        b.x.lose(1, 0);
        b.x.deliver(1);
        Bench.same("Y of 3, N of 2", b.heads(0), "3Y 2N");
        b.x.deliver(0);
        Bench.same("the oldest one holds the WINDOW", b.heads(1) + " " + b.about(0, 3), "4D 2");
        b.x.deliver(0);
        Bench.same("sent again behind", b.heads(1) + " " + b.about(0, 6, 7), "4D 2D 6 1");
        b.x.deliver(1);
        b.x.deliver(1);
        b.x.deliver(0);
        Bench.same("4 is acknowledged", b.x.line(1) + " " + b.about(0, 3), "0 1");
        b.x.deliver(0);
        Bench.same("three at once", b.heads(1) + " " + b.about(0, 2, 3), "5D 6D 7D 8 3");
        b.settle();
        Bench.same("it came", b.content(1, 0), Bench.fill(6));
    }

    private static void windowAcrossSixtyFour() {
        Bench b = Bench.sending(4, 31, "x".repeat(3000));
        b.x.set(1, 0, 24);
        Bench.rounds(b, 2);
        for (int i = 0; i < 50; i++) {
            b.x.deliver(1);
            b.x.deliver(0);
        }
        Bench.same("the WINDOW goes round", b.x.look(1, 0, 2) - 32 + " " + b.about(0, 2, 3), "52 19 31");
        b.x.timer(0);
        Bench.same("the oldest one", b.x.look(1, 31, 2) - 32, 52);
        b.settle();
        Bench.same("it came", b.content(1, 0), "x".repeat(3000));
    }

    private static void noOfOneUnderWay() {
        Bench b = Bench.rounds(Bench.sending(4, 3, Bench.fill(3)), 2);
        String second = b.packet(1, 1);
        b.clear(1);
        b.x.timer(1);
        b.x.twice(0, 0);
        b.alter(0, 0, 2, 3 + 32, 1);
        Bench.same("N of 3", b.x.deliver(0) + " " + b.heads(1), "3 3D");
        Bench.same("the same packet", b.packet(1, 0), second);
        Bench.same("N of 2", b.x.deliver(0) + " " + b.heads(1), "2 3D 2D");
        Bench.same("still under way", b.about(0, 3, 6, 7), "3 7 2");
    }

    private static void noOfTheNext() {
        Bench b = Bench.rounds(Bench.sending(4, 3, Bench.fill(7)), 2);
        b.clear(1);
        b.x.timer(1);
        b.alter(0, 0, 2, 5 + 32, 1);
        Bench.same("N of 5", b.x.deliver(0) + " " + b.heads(1), "5 5D 6D 7D");
        Bench.same("all was acknowledged", b.about(0, 2, 3, 7), "8 3 0");
        b.clear(1);
        b.x.timer(1);
        b.alter(0, 0, 2, 9 + 32, 1);
        Bench.same("N behind the next", b.x.deliver(0) + " " + b.x.line(1) + " " + b.about(0, 3), "9 0 3");
        Bench most = Bench.rounds(Bench.sending(4, 31, "x".repeat(3000)), 2);
        most.clear(1);
        most.x.timer(1);
        most.alter(0, 0, 2, 33 + 32, 1);
        Bench.same("N behind 31", most.x.deliver(0) + " " + most.heads(1) + " " + most.about(0, 3), "33 33D 34D 2");
        Bench f = Bench.rounds(Bench.sending(4, 3, "a"), 1);
        f.clear(1);
        f.x.timer(1);
        f.alter(0, 0, 2, 2 + 32, 1);
        Bench.same("N behind F", f.x.deliver(0) + " " + f.heads(1), "2 2D");
    }

    private static void noOfTheNextAtStartAndAttributes() {
        Bench s = Bench.sending(44, 3, "a");
        s.x.deliver(1);
        s.clear(0);
        s.x.timer(1);
        Bench.same("N of 1 when S is under way", s.x.deliver(0) + " " + s.x.line(1) + " " + s.about(0, 2, 3, 6), "1 0 1 1 1");
        Bench a = Bench.rounds(Bench.sending(44, 3, "a"), 2);
        a.x.deliver(1);
        a.clear(0);
        a.x.timer(1);
        Bench.same("N of 3 when A is under way", a.x.deliver(0) + " " + a.x.line(1) + " " + a.about(0, 2, 3), "3 0 3 1");
    }

    private static void noOfTheNextAtTheEnd() {
        Bench z = Bench.rounds(Bench.sending(4, 3, "a"), 3);
        z.x.deliver(1);
        z.clear(0);
        z.x.timer(1);
        Bench.same("N behind Z", z.x.deliver(0) + " " + z.heads(1) + " " + z.about(0, 4, 5), "4 4B 1 0");
        z.clear(1);
        z.x.timer(1);
        z.alter(0, 0, 2, 5 + 32, 1);
        Bench.same("N behind B", z.x.deliver(0) + " " + z.about(0, 0, 2, 3), "5 3 5 0");
    }

    private static void refusedFile() {
        Bench b = Bench.sending(44, 3, "abc", "de");
        b.store(1, "OLD", "x".repeat(2998), 1);
        Bench.rounds(b, 2);
        b.x.deliver(1);
        Bench.same("Y with N", b.data(0, 0, 1), "N");
        b.x.deliver(0);
        Bench.same("Z with D is next", b.heads(1) + b.data(1, 0, 1), "3ZD");
        Bench.rounds(b, 1);
        Bench.same("counted", b.about(0, 4, 5), "0 1");
        b.settle();
        Bench.same("the other FILE came", b.about(0, 0, 4, 5) + " " + b.about(1, 0, 4, 5, 16, 17), "3 1 1 3 1 1 2 3000");
    }

    private static void wrongYes(int i, int v) {
        Bench b = Bench.sending(44, 3, "a");
        b.x.deliver(1);
        b.alter(0, 0, 4 + i, v, 1);
        Bench.same("Y with byte " + i + " " + v, b.x.deliver(0) + " " + b.heads(1), "0 0E");
        Bench.same("E", b.packet(1, 0), Model.packet(0, 'E', "D", 1));
        Bench.same("FAILED", b.about(0, 0, 1, 2, 3, 6, 10, 11), "4 68 1 0 2 -1 -1");
    }

    private static void wrongYesOfStart() {
        int[][] wrong = {{0, 23 + 32}, {0, 95 + 32}, {0, 255}, {0, 0}, {6, 'n'}, {6, 37}, {6, 0}, {7, '0'}, {7, '4'}, {8, 127}, {8, 33}, {9, 64 + 32}, {9, 255},
            {10, 32}, {10, 64}, {10, 0}};
        for (int[] w : wrong) {
            wrongYes(w[0], w[1]);
        }
        Bench b = Bench.sending(44, 3, "a");
        b.x.deliver(1);
        b.x.timer(1);
        b.clear(0);
        b.x.timer(1);
        b.alter(0, 0, 2, 32, 1);
        b.alter(0, 0, 3, 'Y', 1);
        Bench.same("Y of S without DATA", b.x.deliver(0) + " " + b.about(0, 0, 1), "0 4 68");
    }

    private static void rightYesOfStart() {
        int[][] right = {{0, 24 + 32}, {0, 94 + 32}, {1, 0}, {2, 255}, {3, 1}, {4, 1}, {5, 1}, {6, 'N'}, {6, '&'}, {7, '2'}, {8, ' '}, {8, '~'}, {9, 32},
            {9, 63 + 32}, {10, 33}, {10, 63}};
        for (int[] r : right) {
            Bench b = Bench.sending(44, 3, "a");
            b.x.deliver(1);
            b.alter(0, 0, 4 + r[0], r[1], 1);
            Bench.same("Y with byte " + r[0] + " " + r[1], b.x.deliver(0) + " " + b.heads(1) + " " + b.about(0, 0, 3), "0 1F 1 1");
        }
        Bench b = Bench.sending(40, 3, "a");
        b.x.deliver(1);
        b.alter(0, 0, 4 + 9, 63 + 32, 1);
        b.x.deliver(0);
        Bench.same("bits that both have", b.about(0, 14, 15), "40 1");
    }

    private static void error() {
        Bench b = Bench.rounds(Bench.sending(4, 3, Bench.fill(4)), 2);
        b.store(1, "X", "", 1);
        b.forge(1, 0, 2, 'X', "", 1);
        b.x.deliver(1);
        Bench.same("E comes", b.heads(0), "2Y 2E");
        b.x.deliver(0);
        b.x.deliver(0);
        Bench.same("FAILED with its byte", b.about(0, 0, 1, 2, 3, 15), "4 80 6 0 3");
        Bench none = Bench.rounds(Bench.sending(4, 3, Bench.fill(4)), 2);
        none.clear(0);
        none.x.timer(1);
        none.alter(0, 0, 3, 'E', 1);
        none.alter(0, 0, 2, 50, 1);
        none.x.deliver(0);
        Bench.same("E without a byte", none.about(0, 0, 1), "4 0");
    }

    private static void allElse() {
        for (char type : "SFADZBXyn".toCharArray()) {
            Bench b = Bench.rounds(Bench.sending(4, 3, Bench.fill(4)), 2);
            b.clear(1);
            b.x.timer(1);
            b.alter(0, 0, 3, type, 1);
            Bench.same("TYPE " + type, b.x.deliver(0) + " " + b.x.line(1) + " " + b.about(0, 0, 2, 3, 6, 9), "2 0 1 5 3 5 0");
        }
        Bench b = Bench.rounds(Bench.sending(4, 3, Bench.fill(4)), 2);
        b.clear(1);
        b.x.timer(1);
        b.x.spoil(0, 0, 4, 1);
        Bench.same("SPOILED", b.x.deliver(0) + " " + b.x.line(1) + " " + b.about(0, 0, 2, 3, 6, 9), "-2 0 1 5 3 5 1");
        b.x.timer(1);
        b.alter(0, 0, 3, 'Y', 1);
        b.alter(0, 0, 2, 1 + 32, 1);
        Bench.same("Y of what is acknowledged", b.x.deliver(0) + " " + b.x.line(1) + " " + b.about(0, 3), "1 0 3");
        b.x.timer(1);
        b.alter(0, 0, 3, 'Y', 1);
        b.alter(0, 0, 2, 34 + 32, 1);
        Bench.same("Y of a SEQ 32 more", b.x.deliver(0) + " " + b.x.line(1) + " " + b.about(0, 3), "34 0 3");
        b.x.timer(1);
        b.alter(0, 0, 2, 34 + 32, 1);
        Bench.same("N of a SEQ 32 more", b.x.deliver(0) + " " + b.x.line(1) + " " + b.about(0, 3), "34 0 3");
    }

    private static void timer() {
        Bench b = Bench.sending(4, 3, Bench.fill(4));
        Bench.same("no such END", b.x.timer(-1) + " " + b.x.timer(2) + " " + b.x.timer(-2147483648), "-1 -1 -1");
        String s = b.packet(1, 0);
        Bench.same("S again", b.x.timer(0) + " " + b.heads(1) + " " + b.about(0, 6, 7), "1 0S 0S 2 1");
        Bench.same("the same packet", b.packet(1, 1), s);
        b.x.lose(1, 1);
        Bench.rounds(b, 2);
        Bench.same("the oldest D", b.x.timer(0) + " " + b.heads(1), "1 2D 3D 4D 2D");
        b.settle();
        Bench.same("one that is DONE", b.about(0, 0) + " " + b.x.timer(0) + " " + b.x.line(1), "3 0 0");
    }

    private static void limit() {
        for (int most = 1; most <= 20; most += 19) {
            Bench b = new Bench();
            b.store(0, "A", "a", 1);
            b.x.set(0, 6, most);
            b.x.send(0, 0, 1);
            for (int i = 0; i < most; i++) {
                Bench.same("again", b.x.timer(0), 1);
            }
            Bench.same("LIMIT times", b.about(0, 0, 6, 7), "1 " + (most + 1) + " " + most);
            Bench.same("once more", b.x.timer(0), 1);
            Bench.same("E 84", b.packet(1, most + 1), Model.packet(0, 'E', "T", 1));
            Bench.same("FAILED", b.about(0, 0, 1, 2, 3, 6, 7), "4 84 1 0 " + (most + 2) + " " + most);
            Bench.same("no more", b.x.timer(0) + " " + b.about(0, 6), "0 " + (most + 2));
        }
    }

    private static void limitByNo() {
        Bench b = Bench.rounds(Bench.sending(4, 3, Bench.fill(4)), 2);
        b.clear(1);
        for (int i = 0; i < 5; i++) {
            b.x.timer(1);
            b.alter(0, 0, 2, 3 + 32, 1);
            b.x.deliver(0);
        }
        Bench.same("five times", b.heads(1) + " " + b.about(0, 0, 7), "3D 3D 3D 3D 3D 1 5");
        b.clear(1);
        b.x.timer(1);
        b.alter(0, 0, 2, 3 + 32, 1);
        b.x.deliver(0);
        Bench.same("E with its SEQ", b.packet(1, 0) + b.x.line(1), Model.packet(3, 'E', "T", 1) + "1");
        Bench.same("FAILED", b.about(0, 0, 1, 3, 7), "4 84 0 5");
        b.x.deliver(1);
        Bench.same("the other FAILED too", b.about(1, 0, 1, 16), "4 84 0");
        b.x.send(0, 0, 1);
        Bench.same("nothing is under way but S then", b.about(0, 0, 1, 2, 3), "1 0 1 1");
    }

    private static void limitIsOfEachPacket() {
        Bench b = Bench.sending(4, 3, Bench.fill(1));
        for (int i = 0; i < 4; i++) {
            for (int k = 0; k < 5; k++) {
                b.x.timer(0);
            }
            while (b.x.line(1) > 1) {
                b.x.lose(1, 0);
            }
            Bench.same("sending yet", b.about(0, 0, 7), "1 " + 5 * (i + 1));
            Bench.rounds(b, 1);
        }
    }

    /** A sender that FAILED or is DONE is a receiver to what comes. */
    private static void restOfFails() {
        Bench b = Bench.rounds(Bench.sending(4, 3, "a"), 1);
        b.x.twice(1, 0);
        b.settle();
        Bench.same("DONE", b.about(0, 0, 2), "3 5");
        b.store(1, "BACK", "q", 1);
        b.x.send(1, 0, 1);
        b.x.deliver(0);
        Bench.same("it receives then", b.about(0, 0, 2, 3, 4), "2 1 0 0");
        b.settle();
        Bench.same("and has FILES of the other", b.about(0, 0, 2, 4, 16), "3 5 1 2");
    }
}
