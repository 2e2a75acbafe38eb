/** Calls that are refused answer what the document says and do nothing, whatever the ENDS do (promises 2 to 16). */
public final class RefusedTest {
    private static final int LEAST = -2147483648;
    private static final int GREATEST = 2147483647;
    private static final int[] NO_ENDS = {LEAST, -2, -1, 2, 3, GREATEST};

    public static void main(String[] args) {
        for (Bench b : scenes()) {
            noSuchEnd(b);
            noSuchThing(b);
            notAtRest(b, 0);
            notAtRest(b, 1);
            looksChangeNothing(b);
        }
        restOfEachState();
        sendOfEachState();
        Bench.end("RefusedTest");
    }

    /** FRESH and FRESH, sending and FRESH, sending and waiting, sending and receiving, DONE and DONE, FAILED and FAILED, FAILED and receiving, and the other way round. */
    private static Bench[] scenes() {
        Bench fresh = filled();
        Bench started = fresh.copy();
        started.x.send(0, 0, 2);
        Bench waiting = started.copy();
        waiting.x.twice(1, 0);
        waiting.x.spoil(1, 0, 9, 1);
        waiting.x.deliver(1);
        Bench receiving = Bench.rounds(started.copy(), 3);
        receiving.x.timer(1);
        Bench done = started.copy();
        done.settle();
        Bench abandoned = Bench.rounds(started.copy(), 3);
        abandoned.x.timer(1);
        for (int i = 0; i < 6; i++) {
            abandoned.x.timer(0);
        }
        Bench failed = abandoned.copy();
        while (failed.x.line(1) > 1) {
            failed.x.lose(1, 0);
        }
        failed.x.deliver(1);
        Bench back = done.copy();
        back.x.send(1, 0, 1);
        back.x.deliver(0);
        String states = "";
        Bench[] all = {fresh, started, waiting, receiving, done, abandoned, failed, back};
        for (Bench b : all) {
            b.feed("NAME.OF.IT.AND.BYTES");
            states += b.about(0, 0) + b.about(1, 0) + " ";
        }
        Bench.same("the scenes", states, "00 10 12 12 33 42 44 21 ");
        return all;
    }

    private static Bench filled() {
        Bench b = new Bench().setBoth(2, 1).setBoth(5, 3);
        b.store(0, "A", "x".repeat(95), 1);
        b.store(0, "B", "abc", 2);
        b.store(1, "C", "de", 3);
        return b;
    }

    private static void noSuchEnd(Bench b) {
        String before = b.all();
        for (int end : NO_ENDS) {
            Bench.same("file", b.x.file(end, 4, 4, 1), -1);
            Bench.same("drop", b.x.drop(end, 0), false);
            Bench.same("set", b.x.set(end, 0, 50), -1);
            Bench.same("send", b.x.send(end, 0, 1), false);
            Bench.same("deliver", b.x.deliver(end), -1);
            Bench.same("lose", b.x.lose(end, 0), false);
            Bench.same("spoil", b.x.spoil(end, 0, 0, 1), -1);
            Bench.same("twice", b.x.twice(end, 0), false);
            Bench.same("timer", b.x.timer(end), -1);
            Bench.same("line", b.x.line(end), -1);
            Bench.same("look", b.x.look(end, 0, 0), -1);
            Bench.throwsNone("about", () -> b.x.about(end, 0));
            Bench.throwsNone("told", () -> b.x.told(end, 0, 0));
            Bench.throwsNone("content", () -> b.x.content(end, 0, 0));
        }
        Bench.same("nothing was done", b.all(), before);
    }

    private static void noSuchThing(Bench scene) {
        Bench b = scene.copy();
        String before = b.all();
        for (int end = 0; end < 2; end++) {
            final int e = end;
            final int files = b.x.about(e, 16);
            final int packets = b.x.line(e);
            for (int no : new int[] {LEAST, -1, GREATEST}) {
                Bench.same("lose", b.x.lose(e, no), false);
                Bench.same("spoil", b.x.spoil(e, no, 0, 1) + " " + b.x.spoil(e, 0, no, 1), "-1 -1");
                Bench.same("twice", b.x.twice(e, no), false);
                Bench.same("look", b.x.look(e, no, 0) + " " + b.x.look(e, 0, no), "-1 -1");
                Bench.throwsNone("about", () -> b.x.about(e, no));
                Bench.throwsNone("told", () -> b.x.told(e, no, 0));
                Bench.throwsNone("told", () -> b.x.told(e, 0, no));
                Bench.throwsNone("content", () -> b.x.content(e, no, 0));
                Bench.throwsNone("content", () -> b.x.content(e, 0, no));
                Bench.same("file", b.x.file(e, no, 1, 1) + " " + b.x.file(e, 4, no, 1) + " " + b.x.file(e, 4, 1, no), "-1 -1 -1");
                Bench.same("drop", b.x.drop(e, no), false);
                Bench.same("set", b.x.set(e, no, 1) + " " + b.x.set(e, 0, no), "-1 -1");
                Bench.same("send", b.x.send(e, no, 1) + " " + b.x.send(e, 0, no), "false false");
            }
            Bench.same("lose", b.x.lose(e, packets), false);
            Bench.same("twice", b.x.twice(e, packets), false);
            Bench.same("spoil", b.x.spoil(e, packets, 0, 1), -1);
            Bench.same("look", b.x.look(e, packets, 0), -1);
            Bench.same("drop", b.x.drop(e, files), false);
            Bench.same("send", b.x.send(e, 0, files + 1) + " " + b.x.send(e, files, 1) + " " + b.x.send(e, 0, 0), "false false false");
            Bench.throwsNone("told", () -> b.x.told(e, files, 0));
            Bench.throwsNone("content", () -> b.x.content(e, files, 0));
            Bench.throwsNone("about", () -> b.x.about(e, 18));
        }
        Bench.same("nothing was done", b.all(), before);
        b.settle();
        Bench as = scene.copy();
        as.settle();
        Bench.same("what comes of it is the same", b.all(), as.all());
    }

    /** "it isn't FRESH, DONE or FAILED": file, drop, set of an END that sends, waits or receives. */
    private static void notAtRest(Bench scene, int end) {
        Bench b = scene.copy();
        int state = b.x.about(end, 0);
        if (state != 1 && state != 2) {
            return;
        }
        String before = b.all();
        Bench.same("file", b.x.file(end, 4, 4, 1) + " " + b.x.file(end, 4, 0, 1), "-1 -1");
        Bench.same("drop", b.x.drop(end, 0) + " " + b.x.drop(end, b.x.about(end, 16) - 1), "false false");
        int[] other = {50, 38, 2, 32, 0, 31, 20};
        for (int what = 0; what < 7; what++) {
            Bench.same("set", b.x.set(end, what, other[what]), -1);
        }
        Bench.same("send", b.x.send(end, 0, 1), false);
        Bench.same("nothing was done", b.all(), before);
        b.settle();
        Bench as = scene.copy();
        as.settle();
        Bench.same("what comes of it is the same", b.all(), as.all());
    }

    private static void looksChangeNothing(Bench scene) {
        Bench b = scene.copy();
        String before = b.all();
        Bench.same("looked at twice", b.all(), before);
        b.settle();
        Bench as = scene.copy();
        as.settle();
        Bench.same("what comes of it is the same", b.all(), as.all());
    }

    /** file, drop and set go where an END is FRESH, DONE or FAILED, whatever the other one does. */
    private static void restOfEachState() {
        for (Bench scene : scenes()) {
            for (int end = 0; end < 2; end++) {
                Bench b = scene.copy();
                int state = b.x.about(end, 0);
                boolean rests = state == 0 || state == 3 || state == 4;
                int files = b.x.about(end, 16);
                String others = b.about(1 - end, 0, 2, 3, 6, 16);
                Bench.same("set in state " + state, b.x.set(end, 5, 4), rests ? 3 : -1);
                Bench.same("file in state " + state, b.x.file(end, 4, 2, 1), rests ? files : -1);
                Bench.same("drop in state " + state, b.x.drop(end, 0), rests);
                Bench.same("the state is as it was", b.x.about(end, 0), state);
                Bench.same("and the other END", b.about(1 - end, 0, 2, 3, 6, 16), others);
            }
        }
    }

    /** "or one END is sending (1), or this one waits or receives (2)"; else S is sent, and what is on the line is gone. */
    private static void sendOfEachState() {
        boolean packetsBothWays = false;
        for (Bench scene : scenes()) {
            for (int end = 0; end < 2; end++) {
                Bench b = scene.copy();
                int state = b.x.about(end, 0);
                int other = b.x.about(1 - end, 0);
                boolean may = state != 1 && state != 2 && other != 1;
                String before = b.all();
                packetsBothWays |= may && b.x.line(0) > 0 && b.x.line(1) > 0;
                String others = b.about(1 - end, 0, 1, 2, 3, 4, 5, 6, 7, 8, 9, 10, 11, 12, 13, 14, 15, 16, 17);
                Bench.same("send in state " + state + ", the other in " + other, b.x.send(end, 0, 1), may);
                if (!may) {
                    Bench.same("nothing was done", b.all(), before);
                    continue;
                }
                Bench.same("S alone is on the line", b.heads(1 - end) + "|" + b.heads(end), "0S|");
                Bench.same("it sends", b.about(end, 0, 1, 2, 3, 4, 5, 10, 15), "1 0 1 1 0 0 -1 -1");
                Bench.same("the other END is as it was", b.about(1 - end, 0, 1, 2, 3, 4, 5, 6, 7, 8, 9, 10, 11, 12, 13, 14, 15, 16, 17), others);
            }
        }
        Bench.same("packets stood on the line both ways ahead of a send", packetsBothWays, true);
    }
}
