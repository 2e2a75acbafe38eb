/**
 * How the program reads the document where that leaves room: one part for each point of README.md's 'Where the
 * document leaves room', in its order.
 */
public final class ReadingsTest {
    private static final String OFFER = Script.offer(1, false, false, 12, 8);
    private static final String OFF = " -1 -1 -1 -1 -1 -1";

    public static void main(String[] args) {
        sendEndsTheAgreement();
        whyIsForgotten();
        sentAgain();
        sentThoughLost();
        wrongYesOfStart();
        begunFileGoes();
        keptByOneThatFailed();
        fileBeingReceived();
        wrongStart();
        wrongCapas();
        tooShort();
        yesAgainOfAttributes();
        cannotComeAheadOfNoRoom();
        endThatCannotCome();
        attributesNotAgreedOn();
        shiftsWithNothingBehind();
        Bench.end("ReadingsTest");
    }

    private static void sendEndsTheAgreement() {
        Bench b = Bench.sending(44, 8, "abc");
        b.settle();
        b.x.send(0, 0, 1);
        Bench.same("the END that sends", b.about(0, 0, 10, 11, 12, 13, 14, 15), "1" + OFF);
        Bench.same("the other", b.about(1, 0, 10, 11, 12, 13, 14, 15), "3 94 1 0 0 44 8");
    }

    private static void whyIsForgotten() {
        Bench b = Bench.sending(44, 8, "abc");
        b.x.set(1, 6, 1);
        b.store(1, "OWN", "", 1);
        b.alter(1, 0, 4, 32, 1);
        b.x.deliver(1);
        b.x.deliver(0);
        Bench.same("both FAILED", b.about(0, 0, 1) + " " + b.about(1, 0, 1), "4 68 4 68");
        b.x.send(0, 0, 1);
        Bench.same("send()", b.about(0, 0, 1), "1 0");
        b.x.deliver(1);
        Bench.same("S", b.about(1, 0, 1), "2 0");
    }

    private static void sentAgain() {
        Bench b = Bench.rounds(Bench.sending(44, 8, "abc"), 1);
        b.x.twice(1, 0);
        b.x.deliver(1);
        b.x.deliver(1);
        b.x.timer(1);
        b.x.timer(1);
        Bench.same("two Y's of F and two N's", b.heads(0), "1Y 1Y 2N 2N");
        Bench.same("sent, and none again", b.about(1, 6, 7), "5 0");
    }

    private static void sentThoughLost() {
        Bench b = Bench.sending(44, 8, "abc");
        b.x.set(1, 6, 1);
        for (int i = 1; i < 100; i++) {
            b.x.twice(1, 0);
        }
        Bench.same("S once more", b.x.timer(0) + " " + b.x.line(1) + " " + b.about(0, 6, 7), "1 100 2 1");
        for (int i = 0; i < 4; i++) {
            b.x.timer(0);
        }
        Bench.same("E 84 is sent, not sent again", b.x.timer(0) + " " + b.x.line(1) + " " + b.about(0, 0, 1, 6, 7), "1 100 4 84 7 5");
    }

    private static void wrongYesOfStart() {
        Bench b = Bench.sending(44, 8, "abc");
        b.x.deliver(1);
        b.alter(0, 0, 4, 32, 1);
        b.x.deliver(0);
        Bench.same("E has the SEQ of S", b.texts(1, 1) + " " + b.about(0, 0, 1, 2), "0E(D) 4 68 1");
    }

    private static void begunFileGoes() {
        for (String packet : new String[] {"9E:T", "9S:wrong", "3X:", "3F:B"}) {
            Bench b = new Bench();
            b.store(1, "OWN", "own", 1);
            Script s = new Script(b, 0, 1, OFFER, "1F:A", "2D:abc", packet);
            s.toLast();
            Bench.same("a FILE is begun", b.about(1, 0, 16, 17), "2 2 6");
            s.next();
            Bench.same("it is gone by " + packet, b.about(1, 0, 16, 17) + b.name(1, 0), "4 1 3OWN");
        }
    }

    private static void keptByOneThatFailed() {
        Script error = Script.plain(4, 8, "1F:A", "3D:abc", "4D:abc", "9E:T", "2D:abc", "9S:" + OFFER);
        for (int i = 0; i < 4; i++) {
            error.next();
        }
        Bench.same("FAILED by an E that comes", error.b.about(1, 0, 1, 2, 3), "4 84 2 2");
        Bench.same("nothing is taken", error.next() + error.b.about(1, 0, 2, 3), "4 2 2");
        error.next();
        Bench.same("nothing is kept behind S", error.b.about(1, 0, 2, 3), "2 10 0");
        Script fault = Script.plain(4, 8, "1F:A", "4D:abc", "5D:abc", "3F:B", "2D:abc");
        Bench.same("FAILED by one of those kept", fault.last() + " " + fault.b.about(1, 0, 1, 2, 3), "2Y 3E(P) 4 80 4 2");
        fault.b.store(1, "OWN", "", 1);
        fault.b.x.send(1, 0, 1);
        fault.b.x.lose(0, 0);
        Bench.same("behind send() S is under way", fault.b.about(1, 0, 3), "1 1");
        Script done = Script.plain(4, 8, "3F:B", "2B:", "1B:");
        Bench.same("DONE ahead of those kept", done.last() + " " + done.b.about(1, 0, 2, 3, 16), "1Y 3 2 2 0");
    }

    private static void fileBeingReceived() {
        Script s = Script.plain(12, 8, "1F:A", "2A:1!7#(00000042", "3D:abc", "4Z:");
        s.next();
        Bench.same("begun", s.b.about(1, 16, 17) + " " + toldOfTheFirst(s.b), "1 0 0 0 1");
        s.next();
        Bench.same("with a DATE", s.b.about(1, 16, 17) + " " + toldOfTheFirst(s.b), "1 0 0 42 1");
        s.next();
        Bench.same("with bytes", s.b.about(1, 16, 17) + " " + toldOfTheFirst(s.b), "1 3 3 42 1");
        s.next();
        Bench.same("closed, whatever size A told", s.b.about(1, 0, 16, 17) + " " + toldOfTheFirst(s.b), "2 1 3 3 42 0");
    }

    private static String toldOfTheFirst(Bench b) {
        return b.x.told(1, 0, 0) + " " + b.x.told(1, 0, 1) + " " + b.x.told(1, 0, 3);
    }

    private static void wrongStart() {
        Script s = Script.plain(4, 8, "1F:A", "2Z:", "4D:abc", "9S:wrong");
        Bench.same("E has the SEQ of S", s.last(), "9E(D)");
        Bench.same("what is kept and counted stays", s.b.about(1, 0, 1, 2, 3, 4, 5, 16), "4 68 0 1 1 0 1");
        Bench b = Bench.sending(44, 8, "abc");
        b.settle();
        b.store(1, "OWN", "", 1);
        b.x.send(1, 0, 1);
        b.alter(0, 0, 4, 32, 1);
        int next = b.x.about(0, 2);
        b.x.deliver(0);
        Bench.same("one that has sent latest", b.about(0, 0, 1, 2, 3, 4), "4 68 " + next + " 0 1");
    }

    private static void wrongCapas() {
        for (int v = 0; v < 256; v++) {
            boolean right = v >= 32 && v < 96;
            Bench b = Bench.sending(44, 8, "abc");
            b.alter(1, 0, 13, v, 1);
            b.x.deliver(1);
            Bench.same("S with the byte " + v + " of CAPAS", b.heads(0) + " " + b.about(1, 0, 1), right ? "0Y 2 0" : "0E 4 68");
            Bench other = Bench.sending(44, 8, "abc");
            other.x.deliver(1);
            other.alter(0, 0, 13, v, 1);
            other.x.deliver(0);
            Bench.same("Y of S with it", other.heads(1) + " " + other.about(0, 0, 1), right ? "1F 1 0" : "0E 4 68");
        }
    }

    /** END 0 has AGREED on CHECK 1, END 1 on a longer one: what comes to it is made to end with such a CHECK. */
    private static void tooShort() {
        for (int check = 2; check <= 3; check++) {
            Bench b = new Bench().setBoth(4, 0);
            b.x.set(0, 2, 1);
            b.x.set(1, 2, check);
            b.store(0, "A", "", 1);
            b.x.send(0, 0, 1);
            b.alter(1, 0, 11, 48 + check, 1);
            Bench.rounds(b, 1);
            Bench.same("AGREED on", b.about(0, 11) + " " + b.about(1, 11), "1 " + check);
            Bench z = b.copy();
            endWithCheck(b, check);
            Bench.same("F of LEN 4 with CHECK " + check, b.x.deliver(1), check == 3 ? -2 : 1);
            z.reply(1, 'Y', 1);
            z.x.lose(1, 0);
            Bench.same("Z is next", z.x.look(1, 0, 1) - 32 + " " + z.heads(1), "3 2Z");
            endWithCheck(z, check);
            Bench.same("Z of LEN 3 with CHECK " + check, z.x.deliver(1), -2);
        }
    }

    private static void endWithCheck(Bench b, int check) {
        String p = b.packet(1, 0);
        int from = p.length() - 1 - check;
        String due = Model.check(check, p.substring(1, from));
        for (int i = 0; i < check; i++) {
            b.put(1, 0, from + i, due.charAt(i));
        }
    }

    private static void yesAgainOfAttributes() {
        String a = "A:1!3#(00000001";
        Script s = almostFull("1F:A", "2" + a, "1" + a, "2" + a, "63" + a);
        s.next();
        Bench.same("refused", s.next(), "2Y(N)");
        Bench.same("an A where none was taken", s.next(), "1Y(Y)");
        Bench.same("the one that was refused", s.next(), "2Y(N)");
        Bench.same("an A ahead of S", s.next(), "63Y(Y)");
        Script anew = almostFull("1F:A", "2" + a, "2S:" + OFFER, "2" + a);
        Bench.same("one that was refused ahead of the latest S", anew.last(), "2Y(Y)");
    }

    /** A receiver the STORE of which has room for two bytes. */
    private static Script almostFull(String... packets) {
        Bench b = new Bench();
        b.store(1, "OLD", "x".repeat(2998), 1);
        return new Script(b, 0, 1, OFFER, packets);
    }

    private static void cannotComeAheadOfNoRoom() {
        Bench b = new Bench();
        for (int i = 0; i < 7; i++) {
            b.store(1, "OLD" + i, "", 1);
        }
        Bench.same("F where a FILE is begun, the eighth", new Script(b, 0, 1, OFFER, "1F:A", "2F:B").last(), "2Y 2E(P)");
        Bench full = new Bench();
        for (int i = 0; i < 8; i++) {
            full.store(1, "OLD" + i, "", 1);
        }
        Bench.same("F with another NAME", new Script(full, 0, 1, OFFER, "1F:a").last(), "1Y 1E(P)");
    }

    private static void endThatCannotCome() {
        Script none = Script.plain(4, 8, "1Z:");
        Bench.same("Z where no FILE is", none.last() + " " + none.b.about(1, 4, 5), "1Y 1E(P) 0 0");
        Script other = Script.plain(4, 8, "1F:A", "2Z:X");
        Bench.same("Z with other DATA", other.last() + " " + other.b.about(1, 4, 5), "2Y 2E(P) 0 0");
    }

    private static void attributesNotAgreedOn() {
        Script s = Script.plain(4, 8, "1F:A", "2A:1!3#(00000042");
        Bench.same("A is taken", s.last() + " " + s.b.about(1, 0, 14) + " " + s.b.x.told(1, 0, 1), "2Y(Y) 2 4 42");
    }

    private static void shiftsWithNothingBehind() {
        for (String data : new String[] {"#N", "#O", "ab#N", "#N#O", "#P", "#N#P"}) {
            Script s = Script.plain(36, 8, "1F:A", "2D:" + data);
            Bench.same("D " + data, s.last() + " " + s.b.about(1, 0, 1), "2Y 2E(D) 4 68");
        }
    }
}
