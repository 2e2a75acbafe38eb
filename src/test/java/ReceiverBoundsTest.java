/** Terms 5 at each bound and right beside it: the states, d against the WINDOW, what is kept and taken, each E (promises 7, 11, 14 to 16). */
public final class ReceiverBoundsTest {
    private static final String OFFER = "~* @-#Y1 L(";

    public static void main(String[] args) {
        eachStateAtRest();
        eachStateWhileItWaits();
        eachStateAsAReceiver();
        eachStateAsASender();
        othersOfEachSeq();
        startParameters();
        startLengths();
        startOfEachSeq();
        startForgets();
        startAmongFilesOfASender();
        everyDistance();
        everyDistanceWhenDone();
        everyDistanceFromEachSeq();
        keptTwice();
        gaps();
        keptAttributes();
        takenInARow();
        failsInARow();
        doneInARow();
        yesAgainOfAttributes();
        yesOfASeqThatComesAgain();
        names();
        eightFiles();
        attributesTold();
        attributesRoom();
        placesOfAFile();
        placesOfARefusedFile();
        placesWithoutAFile();
        placesBehindOthers();
        endData();
        byeData();
        types();
        errorOfEachWhy();
        countsSinceTheLatestStart();
        Bench.end("ReceiverBoundsTest");
    }

    // ---- the states

    /** An END gets the packet on the line (eleven bytes of DATA) as one of this TYPE, SPOILED (?) or a wrong S (s), or its timer is over (t). */
    private static String event(Bench bench, int end, char what) {
        Bench b = bench.copy();
        b.clear(1 - end);
        int sent;
        if (what == 't') {
            sent = b.x.timer(end);
        } else {
            b.forge(end, 0, 7, what == '?' || what == 's' ? 'S' : what, what == 's' ? "~~~~~~~~~~~" : OFFER, 1);
            if (what == '?') {
                b.x.spoil(end, 0, 9, 1);
            }
            Bench.same("it is GOOD", b.x.deliver(end), what == '?' ? -2 : 7);
            sent = b.x.line(1 - end);
        }
        return sent + ":" + b.texts(1 - end, 1) + " " + b.about(end, 0, 1);
    }

    private static void eachStateAtRest() {
        Bench fresh = Bench.sending(44, 8, "a");
        Bench.same("FRESH, the timer", event(fresh, 1, 't'), "0: 0 0");
        Bench.same("FRESH, SPOILED", event(fresh, 1, '?'), "1:0N 2 0");
        Bench.same("FRESH, S", event(fresh, 1, 'S'), "1:7Y(~* @-#Y1 L() 2 0");
        Bench.same("FRESH, wrong S", event(fresh, 1, 's'), "1:7E(D) 4 68");
        for (char type : "YNEFADZBX".toCharArray()) {
            Bench.same("FRESH, " + type, event(fresh, 1, type), "0: 0 0");
        }
    }

    private static void eachStateWhileItWaits() {
        Bench waits = Bench.sending(44, 8, "a");
        waits.x.twice(1, 0);
        waits.x.spoil(1, 0, 9, 1);
        waits.x.deliver(1);
        Bench.same("waiting, the timer", event(waits, 1, 't'), "1:0N 2 0");
        Bench.same("waiting, SPOILED", event(waits, 1, '?'), "1:0N 2 0");
        Bench.same("waiting, S", event(waits, 1, 'S'), "1:7Y(~* @-#Y1 L() 2 0");
        Bench.same("waiting, wrong S", event(waits, 1, 's'), "1:7E(D) 4 68");
        Bench.same("waiting, Y", event(waits, 1, 'Y'), "0: 2 0");
        Bench.same("waiting, N", event(waits, 1, 'N'), "0: 2 0");
        Bench.same("waiting, E", event(waits, 1, 'E'), "0: 4 126");
        for (char type : "FADZBX".toCharArray()) {
            Bench.same("waiting, " + type, event(waits, 1, type), "1:7E(P) 4 80");
        }
        Bench.same("it EXPECTS nothing yet", waits.about(1, 2, 3), "0 0");
    }

    /** CHECK 1 is agreed on; on the line is a packet of eleven bytes of DATA. */
    private static void eachStateAsAReceiver() {
        String last = "9D:01234567890";
        Bench b = Script.plain(4, 8, "1F:A", "2D:01234567890", last).toLast().b;
        Bench.same("receiving, the timer", event(b, 1, 't'), "1:3N 2 0");
        Bench.same("receiving, SPOILED", event(b, 1, '?'), "1:3N 2 0");
        Bench.same("receiving, S", event(b, 1, 'S'), "1:7Y(~* @-#Y1~L?) 2 0");
        Bench.same("receiving, wrong S", event(b, 1, 's'), "1:7E(D) 4 68");
        Bench.same("receiving, Y", event(b, 1, 'Y'), "0: 2 0");
        Bench.same("receiving, N", event(b, 1, 'N'), "0: 2 0");
        Bench.same("receiving, E", event(b, 1, 'E'), "0: 4 126");
        Bench.same("receiving, D", event(b, 1, 'D'), "5:7Y 3N 4N 5N 6N 2 0");
        Bench done = Script.plain(4, 8, "1F:A", "2D:01234567890", "3Z:", "4B:", last).toLast().b;
        Bench.same("DONE", done.about(1, 0, 2), "3 5");
        Bench.same("DONE, the timer", event(done, 1, 't'), "0: 3 0");
        Bench.same("DONE, SPOILED", event(done, 1, '?'), "0: 3 0");
        Bench.same("DONE, S", event(done, 1, 'S'), "1:7Y(~* @-#Y1~L?) 2 0");
        Bench.same("DONE, wrong S", event(done, 1, 's'), "1:7E(D) 4 68");
        Bench failed = Script.plain(4, 8, "1F:A", "2D:01234567890", "3X:", last).toLast().b;
        Bench.same("FAILED", failed.about(1, 0, 1, 2), "4 80 4");
        Bench.same("FAILED, the timer", event(failed, 1, 't'), "0: 4 80");
        Bench.same("FAILED, SPOILED", event(failed, 1, '?'), "0: 4 80");
        Bench.same("FAILED, S", event(failed, 1, 'S'), "1:7Y(~* @-#Y1~L?) 2 0");
        Bench.same("FAILED, wrong S", event(failed, 1, 's'), "1:7E(D) 4 68");
        for (char type : "YNEFADZBX".toCharArray()) {
            if (type == 'Y' || type == 'N' || type == 'E') {
                Bench.same("DONE, " + type, event(done, 1, type), "0: 3 0");
            }
            Bench.same("FAILED, " + type, event(failed, 1, type), "0: 4 80");
        }
    }

    /** "an END that isn't sending (the state of one that was is DONE or FAILED)": END 0, to which END 1 sends S. */
    private static void eachStateAsASender() {
        Bench done = Bench.sending(44, 8, "a");
        done.store(1, "B", "b", 1);
        Bench failed = done.copy();
        done.settle();
        for (int i = 0; i < 6; i++) {
            failed.x.timer(0);
        }
        for (Bench b : new Bench[] {done, failed}) {
            boolean ok = b == done;
            String state = ok ? "3 0" : "4 84";
            b.x.send(1, 0, 1);
            Bench.same("DONE or FAILED", b.about(0, 0, 1), state);
            Bench.same("the timer", event(b, 0, 't'), "0: " + state);
            Bench.same("SPOILED", event(b, 0, '?'), "0: " + state);
            Bench.same("S", event(b, 0, 'S'), "1:7Y(~* @-#Y1 L() 2 0");
            Bench.same("wrong S", event(b, 0, 's'), "1:7E(D) 4 68");
            for (char type : "YNEFADZBX".toCharArray()) {
                Bench.same(type + " to one that was a sender", event(b, 0, type), "0: " + state);
            }
            Bench.same("SEQ of its next packet yet", b.about(0, 2, 3), ok ? "6 0" : "1 0");
            b.x.deliver(0);
            Bench.same("what it EXPECTS, once it receives", b.about(0, 0, 2, 3), "2 1 0");
        }
    }

    /** "Others: if it is FRESH, FAILED, or DONE as a sender: nothing": whatever the SEQ. */
    private static void othersOfEachSeq() {
        Bench fresh = Bench.sending(44, 8, "a");
        Bench failed = Script.plain(4, 8, "1F:A", "2X:", "3D:01234567890").toLast().b;
        Bench done = Bench.sending(44, 8, "a");
        done.store(1, "B", "b", 1);
        done.settle();
        done.x.send(1, 0, 1);
        for (int seq = 0; seq < 64; seq++) {
            Bench.same("FRESH, SEQ " + seq, ofSeq(fresh, 1, seq), "0 0 0");
            Bench.same("FAILED, SEQ " + seq, ofSeq(failed, 1, seq), "0 4 3");
            Bench.same("DONE as a sender, SEQ " + seq, ofSeq(done, 0, seq), "0 3 6");
        }
    }

    private static String ofSeq(Bench bench, int end, int seq) {
        Bench b = bench.copy();
        b.clear(1 - end);
        b.forge(end, 0, seq, 'D', OFFER, 1);
        Bench.same("it is GOOD", b.x.deliver(end), seq);
        return b.x.line(1 - end) + " " + b.about(end, 0, 2);
    }

    // ---- S

    /** "if its DATA are right (4.)": every byte. */
    private static void startParameters() {
        for (int i = 0; i < 11; i++) {
            // Whether CAPAS could be below 0 is not said.
            for (int v = i == 9 ? 32 : 0; v < 256; v++) {
                Bench b = Bench.sending(44, 8, "a");
                b.alter(1, 0, 4 + i, v, 1);
                Bench.same("it is GOOD", b.x.deliver(1), 0);
                Bench.same("S with byte " + i + " " + v, b.heads(0) + " " + b.about(1, 0, 1, 2), isRight(i, v) ? "0Y 2 0 1" : "0E 4 68 0");
            }
        }
    }

    private static boolean isRight(int i, int v) {
        switch (i) {
            case 0: return v >= 24 + 32 && v <= 94 + 32;
            case 6: return v == 78 || v == 89 || v == 38;
            case 7: return v >= 49 && v <= 51;
            case 8: return v == 126 || v == 32;
            case 9: return v < 64 + 32;
            case 10: return v >= 33 && v <= 63;
            default: return true;
        }
    }

    /** "11 bytes": 9 to 13, of which the first eleven would be right. */
    private static void startLengths() {
        for (int n = 0; n <= 14; n++) {
            String data = (OFFER + "!!!").substring(0, n);
            Script s = Script.plain(4, 8, "1F:A", "9S:" + data);
            Bench.same("S with " + n + " bytes", s.last(), n == 11 ? "9Y(~* @-#Y1~L?)" : "9E(D)");
            Bench.same("AGREED or not", s.b.about(1, 0, 1, 2, 15, 16), n == 11 ? "2 0 10 8 0" : "4 68 0 -1 0");
        }
    }

    /** "EXPECTS SEQ of S and 1 .. (it may come again and again)". */
    private static void startOfEachSeq() {
        for (int seq = 0; seq < 64; seq++) {
            Script s = new Script(new Bench(), 5, 1, OFFER, seq + "S:" + OFFER, seq + "S:" + OFFER);
            Bench.same("EXPECTS 6", s.b.about(1, 0, 2), "2 6");
            for (int i = 0; i < 2; i++) {
                Bench.same("S of SEQ " + seq, s.next() + " " + s.b.about(1, 0, 2), seq + "Y(~* @-#Y1~L?) 2 " + (seq + 1) % 64);
            }
        }
    }

    /** "nothing is kept, a FILE that is begun is gone": also one that was refused; "else it has AGREED no more". */
    private static void startForgets() {
        Script s = Script.plain(4, 8, "1F:A", "2D:abc", "4D:abc", "5D:abc", "9S:" + OFFER, "10F:B");
        for (int i = 0; i < 4; i++) {
            s.next();
        }
        Bench.same("two are kept, a FILE is begun", s.b.about(1, 2, 3, 16, 17), "3 2 1 3");
        Script other = Script.plain(4, 8, "1F:A", "2D:abc", "4D:abc", "9S:~");
        other.last();
        Bench.same("a wrong S", other.b.about(1, 0, 1, 2, 10, 11, 12, 13, 14, 15, 16, 17), "4 68 0 -1 -1 -1 -1 -1 -1 0 0");
        s.next();
        Bench.same("all is gone", s.b.about(1, 0, 2, 3, 16, 17), "2 10 0 0 0");
        Bench.same("a FILE may begin", s.next() + s.b.name(1, 0), "10YB");
        for (int seq : new int[] {0, 27, 28, 29, 59, 60, 61, 62, 63}) {
            keptAheadOfStart(seq);
        }
        Bench full = new Bench();
        full.store(1, "OLD", "x".repeat(2998), 1);
        Script refused = new Script(full, 0, 1, Script.offer(1, false, false, 12, 8), "1F:A", "2A:1!3#(00000001", "9S:" + OFFER, "10F:B", "11A:1!2#(00000001");
        refused.next();
        Bench.same("refused", refused.next(), "2Y(N)");
        refused.next();
        Bench.same("a FILE may begin", refused.next() + " " + refused.next() + " " + refused.b.about(1, 0, 16), "10Y 11Y(Y) 2 2");
    }

    /** S has a SEQ, and comes once more with it when two behind are kept. */
    private static void keptAheadOfStart(int seq) {
        int[] q = new int[6];
        for (int i = 0; i < q.length; i++) {
            q[i] = (seq + i) % 64;
        }
        Script s = new Script(new Bench(), seq, 1, OFFER, q[1] + "F:A", q[3] + "D:old", q[4] + "D:old", q[0] + "S:" + OFFER, q[1] + "F:B", q[2] + "D:new", q[3] + "D:new", q[5] + "D:new");
        for (int i = 0; i < 5; i++) {
            s.next();
        }
        Bench.same("what was kept is not taken", s.next() + " " + s.b.about(1, 2, 3, 17), q[2] + "Y " + q[3] + " 0 3");
        Bench.same("the next one is", s.next() + " " + s.b.about(1, 2, 3, 17), q[3] + "Y " + q[4] + " 0 6");
        Bench.same("and none is kept but this", s.next() + " " + s.b.about(1, 2, 3) + s.b.content(1, 0), q[5] + "Y " + q[4] + "N " + q[4] + " 1newnew");
    }

    /** FILES that END 1 had stay when S comes. */
    private static void startAmongFilesOfASender() {
        Bench b = new Bench();
        b.store(1, "OWN", "own", 5);
        Script s = new Script(b, 0, 1, OFFER, "1F:A", "2D:abc", "3S:" + OFFER);
        s.next();
        s.next();
        Bench.same("being received", b.x.told(1, 0, 3) + " " + b.x.told(1, 1, 3) + " " + b.about(1, 16, 17), "0 1 2 6");
        s.next();
        Bench.same("only what was begun is gone", b.about(1, 16, 17) + b.name(1, 0) + b.content(1, 0), "1 3OWNown");
    }

    // ---- d

    /** "d below the WINDOW .. d at least 64 less the WINDOW .. Others: nothing": every d. */
    private static void everyDistance() {
        for (int window : new int[] {1, 2, 3, 8, 30, 31}) {
            for (int d = 0; d < 64; d++) {
                distance(0, window, d);
            }
        }
    }

    private static void distance(int seqOfS, int window, int d) {
        int expects = (seqOfS + 2) % 64;
        int seq = (expects + d) % 64;
        Script s = new Script(new Bench(), seqOfS, 1, Script.offer(1, false, false, 4, window), (seqOfS + 1) % 64 + "F:A", seq + "D:abc");
        StringBuilder due = new StringBuilder(d < window || d >= 64 - window ? seq + "Y" : "");
        for (int i = 0; i < d && d < window; i++) {
            due.append(' ').append((expects + i) % 64).append('N');
        }
        Bench.same("d " + d + ", WINDOW " + window + ", EXPECTS " + expects, s.last(), due);
        int next = d == 0 ? (expects + 1) % 64 : expects;
        Bench.same("EXPECTS, kept, bytes", s.b.about(1, 0, 2, 3, 17), "2 " + next + " " + (d > 0 && d < window ? 1 : 0) + " " + (d == 0 ? 3 : 0));
    }

    /** "(also if it is DONE)". */
    private static void everyDistanceWhenDone() {
        for (int window : new int[] {1, 2, 8, 31}) {
            for (int d = 0; d < 64; d++) {
                int seq = (2 + d) % 64;
                Script s = Script.plain(4, window, "1B:", seq + "D:abc");
                Bench.same("DONE, d " + d + ", WINDOW " + window, s.last(), d >= 64 - window ? seq + "Y" : "");
                Bench.same("DONE yet", s.b.about(1, 0, 1, 2, 3, 16), "3 0 2 0 0");
            }
        }
    }

    /** "MOD 64". */
    private static void everyDistanceFromEachSeq() {
        for (int seq = 0; seq < 64; seq++) {
            for (int d : new int[] {0, 1, 4, 5, 58, 59, 63}) {
                distance(seq, 5, d);
            }
        }
    }

    // ---- what is kept

    /** "if one of that SEQ is kept already: Y (unless what came is an A), no more". */
    private static void keptTwice() {
        Script s = Script.plain(4, 8, "1F:A", "4D:abc", "4D:xyz", "4A:xyz", "4Z:", "5D:x", "2D:q", "3D:r");
        s.next();
        Bench.same("kept", s.next() + " " + s.b.about(1, 2, 3), "4Y 2N 3N 2 1");
        Bench.same("again", s.next() + " " + s.b.about(1, 2, 3), "4Y 2 1");
        Bench.same("an A", s.next() + " " + s.b.about(1, 2, 3), " 2 1");
        Bench.same("a Z", s.next() + " " + s.b.about(1, 2, 3), "4Y 2 1");
        Bench.same("the one behind", s.next() + " " + s.b.about(1, 2, 3), "5Y 2 2");
        s.next();
        s.next();
        Bench.same("the first one counts", s.b.about(1, 0, 2, 3) + s.b.content(1, 0), "2 6 0qrabcx");
    }

    /** "from behind the greatest one kept ahead of it (from what it EXPECTS, without one) up to ahead of it (none if d is below that greatest one)". */
    private static void gaps() {
        Script s = Script.plain(4, 12, "1F:A", "3D:a", "4D:b", "6D:c", "9D:d", "8D:e", "5D:f", "13D:g", "2D:h", "7D:i");
        String[] due = {"1Y", "3Y 2N", "4Y", "6Y 5N", "9Y 7N 8N", "8Y", "5Y", "13Y 10N 11N 12N", "2Y", "7Y"};
        String[] then = {"2 0", "2 1", "2 2", "2 3", "2 4", "2 5", "2 6", "2 7", "7 3", "10 1"};
        for (int i = 0; i < due.length; i++) {
            Bench.same("packet " + i, s.next() + ", " + s.b.about(1, 2, 3), due[i] + ", " + then[i]);
        }
        Bench.same("in their order", s.b.content(1, 0), "habfcied");
        Script most = Script.plain(4, 31, "1F:A", "32D:a");
        StringBuilder all = new StringBuilder("32Y");
        for (int seq = 2; seq < 32; seq++) {
            all.append(' ').append(seq).append('N');
        }
        Bench.same("d 30", most.last(), all);
        Script round = new Script(new Bench(), 60, 1, Script.offer(1, false, false, 4, 8), "61F:A", "63D:b", "2D:e", "0D:c", "62D:a", "1D:d");
        String[] around = {"61Y", "63Y 62N", "2Y 0N 1N", "0Y", "62Y", "1Y"};
        for (String a : around) {
            Bench.same("behind 63", round.next(), a);
        }
        Bench.same("behind 63, in their order", round.b.content(1, 0) + round.b.about(1, 2, 3), "abcde3 0");
    }

    /** "Y of it (unless it is an A)": its Y waits until it is taken; N's of what is ahead don't. */
    private static void keptAttributes() {
        Script s = Script.plain(12, 8, "2A:1!3#(00000007", "4D:abc", "1F:AB", "3D:xyz");
        Bench.same("A is kept", s.next() + " " + s.b.about(1, 2, 3), "1N 1 1");
        Bench.same("D is kept", s.next() + " " + s.b.about(1, 2, 3), "4Y 3N 1 2");
        Bench.same("F: both are taken", s.next() + " " + s.b.about(1, 2, 3), "1Y 2Y(Y) 3 1");
        Bench.same("DATE", s.b.x.told(1, 0, 1), 7);
        Bench.same("D", s.next() + s.b.content(1, 0), "3Yxyzabc");
        Bench full = new Bench();
        full.store(1, "OLD", "x".repeat(2998), 1);
        Script refused = new Script(full, 0, 1, Script.offer(1, false, false, 12, 8), "2A:1!3#(00000007", "3Z:D", "1F:A");
        Bench.same("one that is refused when it is taken", refused.last() + " " + refused.b.about(1, 0, 2, 3, 5, 16), "1Y 2Y(N) 2 4 0 1 1");
    }

    // ---- what is taken

    /** "as long as the SEQ that it EXPECTS is kept, that is taken, and it EXPECTS the next". */
    private static void takenInARow() {
        Script s = Script.plain(12, 8, "6B:", "5Z:", "4D:b", "3D:a", "2A:1!2#(00000001", "1F:AB");
        for (int i = 0; i < 5; i++) {
            s.next();
            Bench.same("kept", s.b.about(1, 0, 2, 3, 16), "2 1 " + (i + 1) + " 0");
        }
        Bench.same("all", s.next() + " " + s.b.about(1, 0, 1, 2, 3, 4, 16), "1Y 2Y(Y) 3 0 7 0 1 1");
        Bench.same("the FILE", s.b.name(1, 0) + s.b.content(1, 0) + s.b.x.told(1, 0, 3), "ABab0");
    }

    /** "(also if it FAILS by that)"; "E sent has the SEQ of what was taken": not of what came. */
    private static void failsInARow() {
        Script s = Script.plain(4, 8, "1F:A", "3D:b", "4X:", "6D:c", "2D:a");
        Bench.same("the third one", s.last() + " " + s.b.about(1, 0, 1, 2, 16, 17), "2Y 4E(P) 4 80 5 0 0");
        Script first = Script.plain(4, 8, "1F:A", "3D:b", "2X:");
        Bench.same("the first one", first.last() + " " + first.b.about(1, 0, 1, 2, 16, 17), "2Y 2E(P) 4 80 3 0 0");
        Script round = new Script(new Bench(), 61, 1, Script.offer(1, false, false, 4, 8), "62F:A", "63X:");
        Bench.same("SEQ 63", round.last() + " " + round.b.about(1, 0, 1, 2), "63Y 63E(P) 4 80 0");
    }

    private static void doneInARow() {
        Script s = Script.plain(4, 8, "1F:A", "3B:", "2Z:");
        Bench.same("B was kept", s.last() + " " + s.b.about(1, 0, 1, 2, 3, 4), "2Y 3 0 4 0 1");
        Script round = new Script(new Bench(), 62, 1, Script.offer(1, false, false, 4, 8), "63B:");
        Bench.same("SEQ 63", round.last() + " " + round.b.about(1, 0, 1, 2), "63Y 3 0 0");
    }

    /** "Y again (of an A that was refused with N)": at the WINDOW's bound. */
    private static void yesAgainOfAttributes() {
        for (int window : new int[] {1, 2, 3}) {
            for (int room : new int[] {2, 3}) {
                Bench b = new Bench();
                b.store(1, "OLD", "x".repeat(3000 - room), 1);
                String end = room == 3 ? "3Z:" : "3Z:D";
                String answer = room == 3 ? "2Y(Y)" : "2Y(N)";
                Script s = new Script(b, 0, 1, Script.offer(1, false, false, 12, window), "1F:A", "2A:1!3#(00000001", "2A:1!3#(00000001", end, "2A:1!3#(00000001", "4F:A",
                    "2A:1!3#(00000001", "5Z:", "2A:1!3#(00000001");
                s.next();
                Bench.same("A", s.next(), answer);
                Bench.same("one behind", s.next(), answer);
                s.next();
                Bench.same("two behind, WINDOW " + window, s.next(), window >= 2 ? answer : "");
                s.next();
                Bench.same("three behind, WINDOW " + window, s.next(), window >= 3 ? answer : "");
                s.next();
                Bench.same("four behind, WINDOW " + window, s.next(), "");
                Bench.same("taken once", s.b.about(1, 0, 2, 4, 5), "2 6 " + (room == 3 ? "2 0" : "1 1"));
            }
        }
        Bench b = new Bench();
        b.store(1, "OLD", "x".repeat(2998), 1);
        Script done = new Script(b, 0, 1, Script.offer(1, false, false, 12, 8), "1F:A", "2A:1!3#(00000001", "3Z:D", "4B:", "2A:1!3#(00000001");
        Bench.same("also if it is DONE", done.last() + " " + done.b.about(1, 0), "2Y(N) 3");
        Bench zero = new Bench();
        zero.store(1, "OLD", "x".repeat(2998), 1);
        Script round = new Script(zero, 62, 1, Script.offer(1, false, false, 12, 8), "63F:A", "0A:1!3#(00000001", "0A:1!3#(00000001", "1Z:D", "0A:1!3#(00000001");
        String[] due = {"63Y", "0Y(N)", "0Y(N)", "1Y", "0Y(N)"};
        for (String d : due) {
            Bench.same("SEQ 0", round.next(), d);
        }
        Script never = Script.plain(12, 8, "0A:1!3#(00000001", "63A:1!3#(00000001", "57A:1!3#(00000001", "56A:1!3#(00000001");
        Bench.same("an A that was never refused", never.next() + " " + never.next() + " " + never.next() + "|" + never.next(), "0Y(Y) 63Y(Y) 57Y(Y)|");
        Script other = Script.plain(12, 8, "1F:A", "2A:1!3#(00000001", "3Z:", "1F:A", "3Z:", "2A:1!3#(00000001");
        for (int i = 0; i < 3; i++) {
            other.next();
        }
        Bench.same("Y of others has none", other.next() + " " + other.next() + " " + other.next(), "1Y 3Y 2Y(Y)");
    }

    /** A SEQ comes again behind 63: an A with room under the SEQ of one that was refused. */
    private static void yesOfASeqThatComesAgain() {
        Bench b = new Bench().setBoth(2, 1).setBoth(3, 32).setBoth(4, 8);
        b.x.set(1, 0, 24);
        b.store(0, "A", "x".repeat(1600), 1);
        b.store(0, "B", "x".repeat(21 * 58), 1);
        b.store(0, "C", "c", 1);
        b.store(1, "OLD", "x".repeat(1500), 1);
        b.x.send(0, 0, 3);
        Bench.rounds(b, 2);
        b.x.deliver(1);
        Bench.same("the first is refused", b.texts(0, 1), "2Y(N)");
        b.x.deliver(0);
        Bench.rounds(b, 63);
        Bench.same("SEQ 2 again", b.heads(1), "2A");
        b.x.twice(1, 0);
        b.x.deliver(1);
        b.x.deliver(1);
        Bench.same("the third is not", b.texts(0, 1), "2Y(Y) 2Y(Y)");
        b.settle();
        Bench.same("both DONE", b.about(0, 0, 4, 5) + " " + b.about(1, 0, 4, 5, 16), "3 2 1 3 2 1 3");
    }

    // ---- F

    /** "F: a FILE begins, its NAME is DATA"; "E 80 .. F with another NAME": lengths, and every sign at three places. */
    private static void names() {
        for (int n = 0; n <= 14; n++) {
            Script s = Script.plain(4, 8, "1F:" + "ABCDEFGHIJKLMN".substring(0, n));
            boolean is = n >= 1 && n <= 12;
            Bench.same("NAME of " + n, s.last() + " " + s.b.about(1, 0, 1, 2, 16), is ? "1Y 2 0 2 1" : "1Y 1E(P) 4 80 2 0");
            Bench.same("the NAME", is ? s.b.name(1, 0) + s.b.x.told(1, 0, 3) + s.b.x.told(1, 0, 0) + s.b.x.told(1, 0, 1) : "",
                is ? "ABCDEFGHIJKLMN".substring(0, n) + "100" : "");
        }
        for (int sign = 0; sign < 256; sign++) {
            boolean is = "ABCDEFGHIJKLMNOPQRSTUVWXYZ0123456789.".indexOf(sign) >= 0;
            for (int at = 0; at < 3; at++) {
                StringBuilder name = new StringBuilder("A.9");
                name.setCharAt(at, (char) sign);
                Script s = Script.plain(4, 8, "1F:" + name);
                Bench.same("sign " + sign, s.last() + " " + s.b.about(1, 0, 1), is ? "1Y 2 0" : "1Y 1E(P) 4 80");
            }
        }
    }

    /** "(E 82, if the STORE has 8)". */
    private static void eightFiles() {
        for (int has = 6; has <= 8; has++) {
            Bench b = new Bench();
            for (int i = 0; i < has; i++) {
                b.store(1, "OLD" + i, "", 1);
            }
            Script s = new Script(b, 0, 1, OFFER, "1F:A", "2Z:", "3F:B");
            Bench.same("the next one of " + has, s.next() + " " + s.b.about(1, 0, 1, 2, 16), has < 8 ? "1Y 2 0 2 " + (has + 1) : "1Y 1E(R) 4 82 2 8");
            if (has < 8) {
                s.next();
                Bench.same("and one more", s.next() + " " + s.b.about(1, 0, 1, 16), has < 7 ? "3Y 2 0 8" : "3Y 3E(R) 4 82 8");
            }
        }
    }

    // ---- A

    private static void told(String data, boolean right, int date) {
        Script s = Script.plain(12, 8, "1F:A", "2A:" + data);
        Bench.same("A " + data, s.last() + " " + s.b.about(1, 0, 1, 2, 16), right ? "2Y(Y) 2 0 3 1" : "2E(D) 4 68 3 0");
        if (right) {
            Bench.same("its DATE", s.b.x.told(1, 0, 1) + " " + s.b.x.told(1, 0, 0), date + " 0");
        }
    }

    /** "(E 68, if DATA isn't just what an END would send for some size to 9999 and some DATE)". */
    private static void attributesTold() {
        told("1!0#(00000000", true, 0);
        told("1!9#(99999999", true, 99999999);
        told("1\"10#(00000001", true, 1);
        told("1\"99#(10000000", true, 10000000);
        told("1#100#(01234567", true, 1234567);
        told("1#999#(00000001", true, 1);
        told("1$1000#(00000001", true, 1);
        told("1$3000#(00000001", true, 1);
        String[] wrong = {"", "1", "1!", "1!5", "1!5#", "1!5#(", "1!5#(1", "1!5#(1234567", "1!5#(123456789", "1!5#'1234567", "1!5#)123456789", "1 #(12345678", "1!#(12345678",
            "1\"5#(12345678", "1!05#(12345678", "1!10#(12345678", "1\"05#(12345678", "1\"00#(12345678", "1#010#(12345678", "1$0100#(12345678", "1%10000#(12345678", "1%00001#(12345678",
            "1$10000#(12345678", "1#9999#(12345678", "0!5#(12345678", "2!5#(12345678", "1!5\"(12345678", "1!5$(12345678", "1!/#(12345678", "1!:#(12345678", "1\"/0#(12345678",
            "1\"1:#(12345678", "1!5#(/2345678", "1!5#(:2345678", "1!5#(1234567/", "1!5#(1234567:", "1!5#(1234 678", "1!5#(12345678 ", " 1!5#(12345678", "#(123456781!5", "1!5#(12345678#(12345678",
            "1!51!5#(12345678", "1!\u00b5#(12345678", "1!5#(-1234567", "\u00b1!5#(12345678"};
        for (String data : wrong) {
            told(data, false, 0);
        }
        for (int digits = 0; digits <= 6; digits++) {
            String data = "1" + (char) (digits + 32) + "123456".substring(0, digits) + "#(12345678";
            Script s = Script.plain(12, 8, "1F:A", "2A:" + data);
            Bench.same(digits + " digits", s.last(), digits >= 1 && digits <= 4 ? "2Y(Y)" : "2E(D)");
        }
    }

    /** "if the STORE's bytes and that size are more than 3000, it is refused (Y with N), and is no FILE any more; else Y". */
    private static void attributesRoom() {
        int[][] cases = {{0, 2999}, {0, 3000}, {0, 3001}, {0, 9999}, {1, 2999}, {1, 3000}, {2995, 4}, {2995, 5}, {2995, 6}, {3000, 0}, {3000, 1}, {2999, 1}, {2999, 2}};
        for (int[] c : cases) {
            Bench b = new Bench();
            b.store(1, "OLD", "x".repeat(c[0]), 1);
            String digits = "" + c[1];
            Script s = new Script(b, 0, 1, Script.offer(1, false, false, 12, 8), "1F:A", "2A:1" + (char) (digits.length() + 32) + digits + "#(00000007");
            boolean room = c[0] + c[1] <= 3000;
            Bench.same(c[1] + " bytes beside " + c[0], s.last() + " " + s.b.about(1, 0, 1, 2, 16, 17), room ? "2Y(Y) 2 0 3 2 " + c[0] : "2Y(N) 2 0 3 1 " + c[0]);
            if (!room) {
                Bench.throwsNone("no FILE any more", () -> s.b.x.told(1, 1, 0));
            }
        }
    }

    // ---- what can't come there

    /** What was taken, then what comes: what END 1 sends, and its state, why, FILES. */
    private static void comes(String ahead, String packet, String due) {
        String[] all = (ahead.isEmpty() ? packet : ahead + "," + packet).split(",");
        Bench b = new Bench();
        b.store(1, "OLD", "x".repeat(2990), 1);
        Script s = new Script(b, 0, 1, Script.offer(1, false, false, 12, 8), all);
        Bench.same(ahead + " then " + packet, s.last() + " " + s.b.about(1, 0, 1, 16), due);
    }

    private static final String A = "A:1!5#(00000001";
    private static final String TOO_MUCH = "A:1\"11#(00000001";

    /** A FILE is begun: by F, by F and A, by F and D. */
    private static void placesOfAFile() {
        comes("1F:A", "2F:B", "2Y 2E(P) 4 80 1");
        comes("1F:A", "2B:", "2Y 2E(P) 4 80 1");
        comes("1F:A", "2" + A, "2Y(Y) 2 0 2");
        comes("1F:A", "2D:a", "2Y 2 0 2");
        comes("1F:A", "2Z:", "2Y 2 0 2");
        comes("1F:A", "2Z:D", "2Y 2 0 1");
        comes("1F:A,2" + A, "3F:B", "3Y 3E(P) 4 80 1");
        comes("1F:A,2" + A, "3B:", "3Y 3E(P) 4 80 1");
        comes("1F:A,2" + A, "3" + A, "3E(P) 4 80 1");
        comes("1F:A,2" + A, "3D:a", "3Y 2 0 2");
        comes("1F:A,2" + A, "3Z:", "3Y 2 0 2");
        comes("1F:A,2" + A, "3Z:D", "3Y 2 0 1");
        comes("1F:A,2D:a", "3F:B", "3Y 3E(P) 4 80 1");
        comes("1F:A,2D:a", "3B:", "3Y 3E(P) 4 80 1");
        comes("1F:A,2D:a", "3" + A, "3E(P) 4 80 1");
        comes("1F:A,2D:", "3" + A, "3E(P) 4 80 1");
        comes("1F:A,2D:a", "3D:b", "3Y 2 0 2");
        comes("1F:A,2" + A + ",3D:a", "4" + A, "4E(P) 4 80 1");
        comes("1F:A,2D:a", "3Z:", "3Y 2 0 2");
        comes("1F:A,2D:a", "3Z:D", "3Y 2 0 1");
    }

    /** "(a refused one, too, until its Z)". */
    private static void placesOfARefusedFile() {
        String ahead = "1F:A,2" + TOO_MUCH;
        comes("1F:A", "2" + TOO_MUCH, "2Y(N) 2 0 1");
        comes(ahead, "3F:B", "3Y 3E(P) 4 80 1");
        comes(ahead, "3B:", "3Y 3E(P) 4 80 1");
        comes(ahead, "3" + A, "3E(P) 4 80 1");
        comes(ahead, "3D:a", "3Y 3E(P) 4 80 1");
        comes(ahead, "3Z:", "3Y 3E(P) 4 80 1");
        comes(ahead, "3Z:D", "3Y 2 0 1");
        comes(ahead, "3Z:N", "3Y 3E(P) 4 80 1");
        comes(ahead + ",3Z:D", "4F:B", "4Y 2 0 2");
        comes(ahead + ",3Z:D", "4B:", "4Y 3 0 1");
        comes(ahead + ",3Z:D", "4Z:D", "4Y 4E(P) 4 80 1");
        comes(ahead + ",3Z:D", "4D:a", "4Y 4E(P) 4 80 1");
        comes(ahead + ",3Z:D,4F:B", "5" + A, "5Y(Y) 2 0 2");
    }

    private static void placesWithoutAFile() {
        comes("", "1F:A", "1Y 2 0 2");
        comes("", "1" + A, "1E(P) 4 80 1");
        comes("", "1" + TOO_MUCH, "1E(P) 4 80 1");
        comes("", "1D:a", "1Y 1E(P) 4 80 1");
        comes("", "1Z:", "1Y 1E(P) 4 80 1");
        comes("", "1Z:D", "1Y 1E(P) 4 80 1");
        comes("", "1B:", "1Y 3 0 1");
    }

    private static void placesBehindOthers() {
        for (String end : new String[] {"2Z:", "2Z:D"}) {
            String ahead = "1F:A," + end;
            int files = end.equals("2Z:") ? 2 : 1;
            comes(ahead, "3F:B", "3Y 2 0 " + (files + 1));
            comes(ahead, "3" + A, "3E(P) 4 80 " + files);
            comes(ahead, "3D:a", "3Y 3E(P) 4 80 " + files);
            comes(ahead, "3Z:", "3Y 3E(P) 4 80 " + files);
            comes(ahead, "3B:", "3Y 3 0 " + files);
        }
    }

    /** "Z with other DATA than none and D". */
    private static void endData() {
        for (int v = 0; v < 256; v++) {
            Script s = Script.plain(4, 8, "1F:A", "2Z:" + (char) v);
            Bench.same("Z with " + v, s.last() + " " + s.b.about(1, 0, 1, 4, 5, 16), v == 'D' ? "2Y 2 0 0 1 0" : "2Y 2E(P) 4 80 0 0 0");
        }
        for (String data : new String[] {"DD", "D ", " D", "DDD"}) {
            Script s = Script.plain(4, 8, "1F:A", "2Z:" + data);
            Bench.same("Z with " + data, s.last() + " " + s.b.about(1, 0, 1, 4, 5, 16), "2Y 2E(P) 4 80 0 0 0");
        }
        Script none = Script.plain(4, 8, "1F:A", "2Z:");
        Bench.same("Z", none.last() + " " + none.b.about(1, 0, 1, 4, 5, 16) + none.b.x.told(1, 0, 3), "2Y 2 0 1 0 10");
    }

    private static void byeData() {
        Script s = Script.plain(4, 8, "1B:");
        Bench.same("B", s.last() + " " + s.b.about(1, 0, 1, 2), "1Y 3 0 2");
    }

    /** "another TYPE": every byte. */
    private static void types() {
        for (int type = 0; type < 256; type++) {
            if ("SFADZBYNE:".indexOf(type) < 0) {
                Script s = Script.plain(4, 8, "1F:A", "2" + (char) type + ":x");
                Bench.same("TYPE " + type, s.last() + " " + s.b.about(1, 0, 1, 2, 16), "2Y 2E(P) 4 80 3 0");
            }
        }
    }

    /** "E: FAILED, with its byte, if it waits or receives." */
    private static void errorOfEachWhy() {
        for (int v : new int[] {0, 1, 31, 68, 80, 82, 84, 127, 128, 255}) {
            Script s = Script.plain(4, 8, "1F:A", "2D:abc", "9E:" + (char) v);
            Bench.same("E with " + v, s.last() + "|" + s.b.about(1, 0, 1, 2), "|4 " + v + " 3");
        }
        Script none = Script.plain(4, 8, "1F:A", "2E:");
        Bench.same("E without a byte", none.last() + "|" + none.b.about(1, 0, 1, 2), "|4 0 2");
        Script more = Script.plain(4, 8, "1F:A", "63E:TD");
        Bench.same("E with two", more.last() + "|" + more.b.about(1, 0, 1, 2), "|4 84 2");
    }

    /** "4 Z's without D that were .. taken (receiving), 5 such with D, both since the latest S .. was AGREED". */
    private static void countsSinceTheLatestStart() {
        Script s = Script.plain(4, 8, "1F:A", "2Z:", "3F:B", "4Z:D", "5F:C", "6Z:", "9S:" + OFFER, "10F:D", "11Z:D");
        String[] due = {"0 0", "1 0", "1 0", "1 1", "1 1", "2 1", "0 0", "0 0", "0 1"};
        for (int i = 0; i < due.length; i++) {
            s.next();
            Bench.same("packet " + i, s.b.about(1, 4, 5), due[i]);
        }
        Bench.same("the FILES stay", s.b.about(1, 16) + s.b.name(1, 0) + s.b.name(1, 1), "2AC");
    }
}
