/** Terms 4 at each bound and right beside it: the WINDOW, LIMIT, FILES of no bytes, refused FILES, Y and N of each SEQ (promises 6, 7, 11, 14). */
public final class SenderBoundsTest {
    public static void main(String[] args) {
        startAlone();
        startAnew();
        windows();
        fewerThanTheWindow();
        windowMovesWithTheOldest();
        windowBehindSixtyThree();
        othersWhenNothingIsUnderWay();
        noBytes();
        attributesOfBoth();
        refusedByTheFirstByte();
        refusedByMoreBytes();
        refusedAmongOthers();
        yesOfEachSeq();
        noOfEachSeq();
        noOfTheNextBehindSixtyThree();
        noOfTheNextForEachType();
        parametersOfTheYes();
        parametersAllTold();
        limits();
        limitOfTimerAndNo();
        limitOfEachPacket();
        limitOfASeqThatComesAgain();
        errors();
        errorBytes();
        timerOfTheOldest();
        doneWithTheLastYes();
        countsSinceTheLatestStart();
        Bench.end("SenderBoundsTest");
    }

    /** A sender with D's under way: S and F are acknowledged, SEQ 2 is the oldest. */
    private static Bench withDs(int window, int packets) {
        return Bench.rounds(Bench.sending(4, window, Bench.fill(packets)), 2);
    }

    private static String ds(int from, int many) {
        StringBuilder text = new StringBuilder();
        for (int i = 0; i < many; i++) {
            text.append(i == 0 ? "" : " ").append((from + i) % 64).append('D');
        }
        return text.toString();
    }

    /** "S with SEQ 0; when it is acknowledged: ..". */
    private static void startAlone() {
        Bench b = Bench.sending(4, 8, "a");
        Bench.same("S alone", b.heads(1) + " " + b.about(0, 0, 2, 3, 6), "0S 1 1 1 1");
        b.x.deliver(1);
        for (int seq : new int[] {1, 2, 31, 32, 33, 62, 63}) {
            Bench c = b.copy();
            c.alter(0, 0, 2, seq + 32, 1);
            Bench.same("Y of SEQ " + seq, c.x.deliver(0) + " " + c.x.line(1) + " " + c.about(0, 0, 2, 3, 10), seq + " 0 1 1 1 -1");
        }
        Bench.same("Y of SEQ 0", b.x.deliver(0) + " " + b.heads(1) + " " + b.about(0, 0, 2, 3), "0 1F 1 2 1");
    }

    /** What an END had under way when it FAILED is not under way when it sends again. */
    private static void startAnew() {
        Bench b = withDs(4, 20);
        b.clear(1);
        for (int i = 0; i < 6; i++) {
            b.x.timer(0);
        }
        Bench.same("FAILED", b.about(0, 0, 1, 3), "4 84 0");
        b.x.send(0, 0, 1);
        Bench.same("S alone is under way", b.heads(1) + " " + b.about(0, 0, 1, 2, 3), "0S 1 0 1 1");
        b.clear(1);
        Bench.same("the timer", b.x.timer(0) + " " + b.heads(1), "1 0S");
        Bench.rounds(b, 1);
        Bench.same("F alone", b.heads(1) + " " + b.about(0, 2, 3), "1F 2 1");
        b.clear(1);
        for (int seq = 2; seq <= 5; seq++) {
            b.reply(seq, 'Y', 1);
        }
        b.reply(3, 'N', 1);
        Bench.same("Y and N of what was under way: nothing", b.x.line(1) + " " + b.about(0, 2, 3), "0 2 1");
        b.x.timer(0);
        Bench.rounds(b, 1);
        Bench.same("D's from 2 on", b.heads(1) + " " + b.about(0, 2, 3), "2D 3D 4D 5D 6 4");
    }

    /** "their SEQ less its SEQ, MOD 64, is below the WINDOW". */
    private static void windows() {
        for (int window : new int[] {1, 2, 3, 8, 30, 31}) {
            Bench b = withDs(window, 32);
            Bench.same("WINDOW " + window, b.heads(1), ds(2, window));
            Bench.same("under way", b.about(0, 2, 3, 6, 15), 2 + window + " " + window + " " + (2 + window) + " " + window);
            b.clear(1);
            b.reply(2, 'Y', 1);
            Bench.same("one more", b.heads(1) + " " + b.about(0, 2, 3), ds(2 + window, 1) + " " + (3 + window) + " " + window);
        }
    }

    /** As many D's as the WINDOW has, one less, one more. */
    private static void fewerThanTheWindow() {
        for (int window : new int[] {1, 2, 5, 31}) {
            for (int packets = Math.max(1, window - 1); packets <= window + 1; packets++) {
                Bench b = withDs(window, packets);
                int go = Math.min(window, packets);
                Bench.same(packets + " D's, WINDOW " + window, b.heads(1) + " " + b.about(0, 3), ds(2, go) + " " + go);
            }
        }
    }

    /** "or the oldest one under way is a D, and their SEQ less its SEQ ..": others that are acknowledged let nothing go. */
    private static void windowMovesWithTheOldest() {
        Bench b = withDs(4, 20);
        b.clear(1);
        b.reply(3, 'Y', 1);
        b.reply(5, 'Y', 1);
        Bench.same("2 and 4 are under way", b.x.line(1) + " " + b.about(0, 2, 3), "0 6 2");
        b.reply(2, 'Y', 1);
        Bench.same("4 is the oldest", b.heads(1) + " " + b.about(0, 2, 3), "6D 7D 8 3");
        b.clear(1);
        b.reply(4, 'Y', 1);
        Bench.same("6 is the oldest", b.heads(1) + " " + b.about(0, 2, 3), "8D 9D 10 4");
        Bench all = withDs(4, 20);
        all.clear(1);
        for (int seq = 5; seq >= 3; seq--) {
            all.reply(seq, 'Y', 1);
        }
        Bench.same("only the oldest", all.x.line(1) + " " + all.about(0, 2, 3), "0 6 1");
        all.reply(2, 'Y', 1);
        Bench.same("nothing was under way", all.heads(1) + " " + all.about(0, 2, 3), "6D 7D 8D 9D 10 4");
    }

    /** "SEQ 1 more each time (0 behind 63)", "MOD 64". */
    private static void windowBehindSixtyThree() {
        for (int window : new int[] {1, 2, 8, 31}) {
            Bench b = Bench.sending(4, window, "x".repeat(1500));
            b.x.set(1, 0, 24);
            Bench.rounds(b, 60);
            Bench.same("60 is the oldest", b.heads(1) + " " + b.about(0, 2, 3), ds(60, Math.min(window, 14)) + " " + (60 + Math.min(window, 14)) % 64 + " " + Math.min(window, 14));
            Bench.rounds(b, 4);
            Bench.same("0 is the oldest", b.heads(1), ds(0, Math.min(window, 10)));
            b.clear(1);
            Bench.same("the timer", b.x.timer(0) + " " + b.heads(1), "1 0D");
        }
    }

    /** "others when nothing is". */
    private static void othersWhenNothingIsUnderWay() {
        Bench b = withDs(8, 3);
        b.clear(1);
        b.reply(4, 'Y', 1);
        b.reply(2, 'Y', 1);
        Bench.same("3 is under way: no Z", b.x.line(1) + " " + b.about(0, 2, 3), "0 5 1");
        b.reply(3, 'Y', 1);
        Bench.same("Z", b.heads(1) + " " + b.about(0, 2, 3), "5Z 6 1");
        Bench f = Bench.rounds(Bench.sending(12, 31, Bench.fill(3)), 1);
        Bench.same("F alone", f.heads(1) + " " + f.about(0, 3), "1F 1");
        Bench.rounds(f, 1);
        Bench.same("A alone", f.heads(1) + " " + f.about(0, 3), "2A 1");
        Bench.rounds(f, 1);
        Bench.same("all D's", f.heads(1) + " " + f.about(0, 3), "3D 4D 5D 3");
    }

    /** "A FILE of no bytes has no D's." */
    private static void noBytes() {
        String[][] due = {{"", "SFZB"}, {"a", "SFDZB"}, {",", "SFZFZB"}, {",a", "SFZFDZB"}, {"a,", "SFDZFZB"}, {",,a,", "SFZFZFDZFZB"}};
        for (String[] d : due) {
            for (int capas : new int[] {4, 12}) {
                Bench b = Bench.sending(capas, 8, d[0].split(",", -1));
                StringBuilder types = new StringBuilder();
                for (int i = 0; i < 40 && b.x.line(0) + b.x.line(1) > 0; i++) {
                    types.append((char) b.x.look(1, 0, 3));
                    b.x.deliver(1);
                    b.x.deliver(0);
                }
                Bench.same("FILES " + d[0] + ", CAPAS " + capas, types, capas == 4 ? d[1] : d[1].replace("F", "FA"));
                Bench.same("both DONE", b.about(0, 0, 4) + " " + b.about(1, 0, 4), "3 " + b.x.about(0, 16) + " 3 " + b.x.about(0, 16));
            }
        }
    }

    /** "with bit 8 of CAPAS agreed on A": of both, not of one. */
    private static void attributesOfBoth() {
        for (int bits = 0; bits < 4; bits++) {
            Bench b = new Bench().setBoth(2, 1);
            b.x.set(0, 4, (bits & 1) * 8);
            b.x.set(1, 4, (bits & 2) * 4);
            b.store(0, "A", "a", 1);
            b.x.send(0, 0, 1);
            Bench.rounds(b, 2);
            Bench.same("behind F, bits " + bits, b.heads(1), bits == 3 ? "2A" : "2D");
        }
    }

    /** An A is under way; its Y comes with this byte. */
    private static Bench answered(int v) {
        Bench b = Bench.rounds(Bench.sending(12, 8, "ab", "c"), 2);
        b.x.deliver(1);
        b.alter(0, 0, 4, v, 1);
        Bench.same("it is GOOD", b.x.deliver(0), 2);
        return b;
    }

    /** "of A: refused, if DATA begins with N": every byte; "Z with D is next, no D's". */
    private static void refusedByTheFirstByte() {
        for (int v = 0; v < 256; v++) {
            Bench.same("Y of A with byte " + v, answered(v).texts(1, 1), v == 'N' ? "3Z(D)" : "3D(ab)");
        }
        Bench none = Bench.rounds(Bench.sending(12, 8, "ab", "c"), 2);
        none.clear(1);
        none.reply(2, 'Y', 1);
        Bench.same("Y of A without DATA", none.texts(1, 1), "3D(ab)");
    }

    /** END 1 takes CHECK 3 for agreed on, END 0 CHECK 1: its Y has two bytes of DATA more to END 0. */
    private static void refusedByMoreBytes() {
        for (String data : new String[] {"NY", "N ", "YN", " N"}) {
            Bench b = new Bench();
            b.x.set(0, 2, 1);
            b.x.set(0, 3, 32);
            b.store(0, "ABCDE", "ab", 1);
            b.x.send(0, 0, 1);
            b.alter(1, 0, 11, '3', 1);
            b.x.deliver(1);
            Bench.same("AGREED on CHECK 1 here, 3 there", b.x.deliver(0) + " " + b.about(0, 11) + b.about(1, 11), "0 13");
            b.forge(1, 0, 1, 'F', "ABC", 3);
            b.x.deliver(1);
            b.forge(0, 0, 1, 'Y', "", 1);
            b.x.deliver(0);
            b.forge(1, 0, 2, 'Z', "", 3);
            b.x.deliver(1);
            Bench.same("Y of DATA", b.packet(0, 0).length(), 8);
            b.forge(0, 0, 2, 'Y', data, 1);
            Bench.same("it is GOOD", b.x.deliver(0), 2);
            Bench.same("Y of A with " + data, b.texts(1, 1), data.startsWith("N") ? "3Z(D)" : "3D(ab)");
        }
    }

    /** A refused FILE first, among others, last: the others go as ever. */
    private static void refusedAmongOthers() {
        for (int which = 0; which < 3; which++) {
            Bench b = Bench.sending(12, 8, "abc", "def", "ghi");
            StringBuilder due = new StringBuilder("S");
            StringBuilder types = new StringBuilder();
            for (int i = 0; i < 3; i++) {
                due.append(i == which ? "FAz" : "FADZ");
            }
            int as = 0;
            for (int i = 0; i < 40 && b.x.line(0) + b.x.line(1) > 0; i++) {
                char type = (char) b.x.look(1, 0, 3);
                types.append(type == 'Z' && b.x.look(1, 0, 4) == 'D' && b.packet(1, 0).length() == 7 ? 'z' : type);
                b.x.deliver(1);
                if (type == 'A' && as++ == which) {
                    b.alter(0, 0, 4, 'N', 1);
                }
                b.x.deliver(0);
            }
            Bench.same("FILE " + which + " is refused", types, due + "B");
            Bench.same("counted", b.about(0, 0, 4, 5) + " " + b.about(1, 0, 4, 5, 16), "3 2 1 3 2 1 2");
        }
    }

    /** "Y of a SEQ under way: it is acknowledged"; "All else ..: nothing": every SEQ. */
    private static void yesOfEachSeq() {
        for (int seq = 0; seq < 64; seq++) {
            Bench b = withDs(4, 4);
            b.clear(1);
            Bench.same("Y of SEQ " + seq, b.reply(seq, 'Y', 1), seq);
            boolean is = seq >= 2 && seq <= 5;
            Bench.same("under way then", b.x.line(1) + " " + b.about(0, 0, 2, 3, 6), "0 1 6 " + (is ? 3 : 4) + " 6");
            b.reply(seq, 'Y', 1);
            Bench.same("Y again: nothing", b.x.line(1) + " " + b.about(0, 0, 2, 3, 6), "0 1 6 " + (is ? 3 : 4) + " 6");
        }
    }

    /** "N of a SEQ under way: that packet is sent again. N of the SEQ that would be next: all under way is acknowledged": every SEQ. */
    private static void noOfEachSeq() {
        for (int seq = 0; seq < 64; seq++) {
            Bench b = withDs(4, 20);
            String[] packets = {b.packet(1, 0), b.packet(1, 1), b.packet(1, 2), b.packet(1, 3)};
            b.clear(1);
            Bench.same("N of SEQ " + seq, b.reply(seq, 'N', 1), seq);
            if (seq >= 2 && seq <= 5) {
                Bench.same("that packet again", b.x.line(1) + b.packet(1, 0) + b.about(0, 2, 3, 6, 7), 1 + packets[seq - 2] + "6 4 7 1");
            } else if (seq == 6) {
                Bench.same("all is acknowledged", b.heads(1) + " " + b.about(0, 2, 3, 6, 7), "6D 7D 8D 9D 10 4 10 0");
            } else {
                Bench.same("nothing", b.x.line(1) + " " + b.about(0, 0, 2, 3, 6, 7), "0 1 6 4 6 0");
            }
        }
        // One that was acknowledged among those under way is not sent again.
        Bench gap = withDs(4, 20);
        gap.clear(1);
        gap.reply(4, 'Y', 1);
        gap.reply(4, 'N', 1);
        Bench.same("N of one acknowledged", gap.x.line(1) + " " + gap.about(0, 2, 3, 7), "0 6 3 0");
        gap.reply(6, 'N', 1);
        Bench.same("N of the next, with a gap", gap.heads(1) + " " + gap.about(0, 2, 3, 7), "6D 7D 8D 9D 10 4 0");
    }

    private static void noOfTheNextBehindSixtyThree() {
        for (int oldest : new int[] {60, 61, 62, 63}) {
            Bench b = Bench.sending(4, 3, "x".repeat(1500));
            b.x.set(1, 0, 24);
            Bench.rounds(b, oldest);
            Bench.same("the oldest", b.heads(1), ds(oldest, 3));
            b.clear(1);
            b.reply((oldest + 3) % 64, 'N', 1);
            Bench.same("N of the next", b.heads(1) + " " + b.about(0, 2, 3), ds(oldest + 3, 3) + " " + (oldest + 6) % 64 + " 3");
            b.clear(1);
            b.reply((oldest + 2) % 64, 'N', 1);
            b.reply((oldest + 7) % 64, 'N', 1);
            Bench.same("N of one before and one behind", b.x.line(1) + " " + b.about(0, 3), "0 3");
        }
        Bench most = withDs(31, 32);
        most.clear(1);
        most.reply(32, 'N', 1);
        Bench.same("the last of 31", most.heads(1) + " " + most.about(0, 3), "32D 31");
        most.clear(1);
        most.reply(34, 'N', 1);
        most.reply(1, 'N', 1);
        Bench.same("beside them", most.x.line(1) + " " + most.about(0, 3), "0 31");
        most.reply(33, 'N', 1);
        Bench.same("all 31", most.heads(1) + " " + most.about(0, 3), "33D 1");
    }

    /** "but nothing if S or A is". */
    private static void noOfTheNextForEachType() {
        Bench s = Bench.sending(12, 3, "a");
        s.x.deliver(1);
        s.clear(0);
        s.reply(1, 'N', 1);
        Bench.same("S", s.x.line(1) + " " + s.about(0, 0, 2, 3, 10), "0 1 1 1 -1");
        Bench b = Bench.rounds(Bench.sending(12, 3, "a"), 1);
        b.clear(1);
        b.reply(2, 'N', 1);
        Bench.same("F", b.texts(1, 1), "2A(1!1#(00000010)");
        b.clear(1);
        b.reply(3, 'N', 1);
        Bench.same("A", b.x.line(1) + " " + b.about(0, 2, 3), "0 3 1");
        b.reply(2, 'N', 1);
        Bench.same("A again", b.heads(1), "2A");
        b.reply(2, 'Y', 1);
        b.clear(1);
        b.reply(4, 'N', 1);
        Bench.same("D", b.texts(1, 1), "4Z");
        b.clear(1);
        b.reply(5, 'N', 1);
        Bench.same("Z", b.texts(1, 1) + " " + b.about(0, 4, 5), "5B 1 0");
        b.clear(1);
        b.reply(6, 'N', 1);
        Bench.same("B", b.x.line(1) + " " + b.about(0, 0, 2, 3, 4), "0 3 6 0 1");
    }

    private static boolean isRight(int i, int v) {
        switch (i) {
            case 0: return v >= 24 + 32 && v <= 94 + 32;
            case 6: return v == 78 || v == 89 || v == 38;
            case 7: return v >= 49 && v <= 51;
            case 8: return v == 126 || v == 32;
            case 9: return v < 64 + 32;
            case 10: return v >= 33 && v <= 63;
            default: return true;
        }
    }

    /** "AGREED, if its DATA are 11 bytes with MAXL, QBIN, CHKT, REPT, WINDO as an END can have them and CAPAS below 64": every byte. */
    private static void parametersOfTheYes() {
        for (int i = 0; i < 11; i++) {
            // Whether CAPAS could be below 0 is not said.
            for (int v = i == 9 ? 32 : 0; v < 256; v++) {
                Bench b = Bench.sending(44, 3, "a");
                b.x.deliver(1);
                b.alter(0, 0, 4 + i, v, 1);
                Bench.same("it is GOOD", b.x.deliver(0), 0);
                Bench.same("Y of S with byte " + i + " " + v, b.heads(1) + " " + b.about(0, 0, 1), isRight(i, v) ? "1F 1 0" : "0E 4 68");
            }
        }
        for (boolean one : new boolean[] {false, true}) {
            // An N has no DATA, an E one byte of it: other lengths don't come to an END that waits for the Y of S.
            Bench b = Bench.sending(44, 3, "a");
            b.x.deliver(1);
            b.clear(0);
            if (one) {
                b.x.timer(0);
                b.alter(1, 0, 4, 0, 1);
                b.x.deliver(1);
            } else {
                b.x.timer(1);
            }
            b.forge(0, 0, 0, 'Y', "~* @-#Y1 L(", 1);
            Bench.same("too few DATA", b.x.deliver(0) + " " + b.texts(1, 1) + " " + b.about(0, 0, 1, 3, 10), "0 0E(D) 4 68 0 -1");
        }
    }

    /** What the Y of S tells is what is AGREED on. */
    private static void parametersAllTold() {
        Object[][] due = {{"8**@-#&1~@?", "24 1 1 0 32 1"}, {"~* @-#Y1 L!", "94 1 0 0 44 1"}, {"~* @-#N2~_?", "94 1 0 0 44 31"}, {"9* @-#Y3~$\"", "25 1 0 0 4 2"}};
        for (Object[] d : due) {
            Bench b = Bench.sending(44, 31, "a");
            b.x.deliver(1);
            b.forge(0, 0, 0, 'Y', (String) d[0], 1);
            b.x.deliver(0);
            Bench.same("Y of S " + d[0], b.about(0, 10, 11, 12, 13, 14, 15), d[1]);
        }
    }

    /** "A packet that would be sent again more often than LIMIT: instead E 84 with its SEQ, FAILED." */
    private static void limits() {
        for (int most : new int[] {1, 2, 5, 19, 20}) {
            Bench b = Bench.sending(4, 3, "a");
            b.settle();
            b.x.set(0, 6, most);
            b.x.send(0, 0, 1);
            Bench.rounds(b, 1);
            b.clear(1);
            for (int i = 1; i <= most; i++) {
                Bench.same("again, time " + i, b.x.timer(0) + " " + b.x.line(1) + " " + b.about(0, 0, 7), "1 " + i + " 1 " + i);
            }
            Bench.same("one more", b.x.timer(0) + " " + b.about(0, 0, 1, 3, 7), "1 4 84 0 " + most);
            Bench.same("E instead", b.x.line(1) + " " + b.packet(1, most), most + 1 + " " + Model.packet(1, 'E', "T", 1));
            Bench.same("no more", b.x.timer(0) + " " + b.x.line(1), "0 " + (most + 1));
        }
        Bench first = new Bench();
        first.store(0, "A", "a", 1);
        first.x.send(0, 0, 1);
        for (int i = 0; i < 5; i++) {
            first.x.timer(0);
        }
        Bench.same("LIMIT at first: five times", first.about(0, 0, 7), "1 5");
        first.x.timer(0);
        Bench.same("not six", first.about(0, 0, 1, 7), "4 84 5");
    }

    private static void limitOfTimerAndNo() {
        Bench b = withDs(3, 3);
        b.clear(1);
        for (int i = 0; i < 2; i++) {
            b.x.timer(0);
            b.reply(2, 'N', 1);
        }
        b.x.timer(0);
        Bench.same("five times", b.heads(1) + " " + b.about(0, 0, 7), "2D 2D 2D 2D 2D 1 5");
        Bench timer = b.copy();
        timer.x.timer(0);
        Bench.same("the timer", timer.x.look(1, 5, 3) + " " + timer.about(0, 0, 1, 7), "69 4 84 5");
        b.reply(2, 'N', 1);
        Bench.same("N", b.x.look(1, 5, 3) + " " + b.about(0, 0, 1, 7), "69 4 84 5");
        b.clear(1);
        b.reply(2, 'N', 1);
        Bench.same("nothing of one that FAILED", b.x.line(1) + " " + b.about(0, 0, 6), "0 4 11");
    }

    private static void limitOfEachPacket() {
        Bench b = withDs(3, 3);
        b.clear(1);
        for (int seq = 2; seq <= 4; seq++) {
            for (int i = 0; i < 5; i++) {
                b.reply(seq, 'N', 1);
            }
            Bench.same("each five times", b.about(0, 0, 7), "1 " + 5 * (seq - 1));
        }
        b.clear(1);
        b.reply(4, 'N', 1);
        Bench.same("its SEQ", b.texts(1, 1), "4E(T)");
    }

    /** A SEQ comes again behind 63: that is another packet, which was never sent again. */
    private static void limitOfASeqThatComesAgain() {
        Bench b = Bench.sending(0, 1, "x".repeat(1500));
        b.x.set(1, 0, 24);
        Bench.rounds(b, 2);
        for (int i = 0; i < 5; i++) {
            b.x.timer(0);
        }
        for (int i = 0; i < 5; i++) {
            b.x.lose(1, 0);
        }
        Bench.rounds(b, 64);
        Bench.same("SEQ 2 again", b.heads(1) + " " + b.about(0, 7), "2D 5");
        for (int i = 0; i < 5; i++) {
            b.x.timer(0);
        }
        Bench.same("five times", b.about(0, 0, 7), "1 10");
        b.x.timer(0);
        Bench.same("not six", b.about(0, 0, 1, 7), "4 84 10");
    }

    /** "E: FAILED, with its byte (0 without)": whatever is under way, whatever its SEQ. */
    private static void errors() {
        for (int seq : new int[] {0, 1, 2, 5, 6, 63}) {
            Bench b = withDs(4, 20);
            b.clear(1);
            Bench.same("E of SEQ " + seq, b.reply(seq, 'E', 1) + " " + b.x.line(1) + " " + b.about(0, 0, 1, 2, 3, 6), seq + " 0 4 0 6 0 6");
        }
        Bench s = Bench.sending(4, 3, "a");
        s.x.deliver(1);
        s.alter(0, 0, 3, 'E', 1);
        Bench.same("E while S is under way, of eleven bytes", s.x.deliver(0) + " " + s.x.line(1) + " " + s.about(0, 0, 1, 10), "0 0 4 126 -1");
    }

    private static void errorBytes() {
        for (int v : new int[] {0, 1, 32, 68, 80, 82, 84, 127, 128, 255}) {
            Bench b = withDs(4, 4);
            b.alter(1, 0, 3, 'X', 1);
            b.x.deliver(1);
            Bench.same("E came", b.texts(0, 1), "2Y 2E(P)");
            b.alter(0, 1, 4, v, 1);
            b.x.lose(0, 0);
            b.x.deliver(0);
            Bench.same("its byte", b.about(0, 0, 1), "4 " + v);
        }
    }

    /** "Its timer: the oldest one under way is sent again." */
    private static void timerOfTheOldest() {
        Bench b = withDs(4, 4);
        String[] packets = {b.packet(1, 0), b.packet(1, 1), b.packet(1, 2), b.packet(1, 3)};
        b.clear(1);
        Bench.same("2", b.x.timer(0) + b.packet(1, 0), 1 + packets[0]);
        b.reply(3, 'Y', 1);
        b.clear(1);
        Bench.same("2 yet", b.x.timer(0) + b.packet(1, 0), 1 + packets[0]);
        b.reply(2, 'Y', 1);
        b.clear(1);
        Bench.same("4", b.x.timer(0) + b.packet(1, 0), 1 + packets[2]);
        b.reply(4, 'Y', 1);
        b.clear(1);
        Bench.same("5", b.x.timer(0) + b.packet(1, 0), 1 + packets[3]);
        Bench.same("counted", b.about(0, 3, 6, 7), "1 10 4");
    }

    /** "at last B; when that is acknowledged it is DONE"; "(A sender that isn't sending: 0.)" */
    private static void doneWithTheLastYes() {
        Bench b = Bench.rounds(Bench.sending(4, 3, "a"), 4);
        Bench.same("B is under way", b.heads(1) + " " + b.about(0, 0, 2, 3), "4B 1 5 1");
        b.x.twice(1, 0);
        b.x.deliver(1);
        Bench.same("END 1 is DONE, END 0 is not", b.about(0, 0) + b.about(1, 0), "13");
        b.x.deliver(0);
        Bench.same("both", b.about(0, 0, 2, 3) + " " + b.about(1, 0), "3 5 0 3");
        Bench.same("its timer", b.x.timer(0) + " " + b.x.timer(1), "0 0");
        b.x.deliver(1);
        Bench.same("a Y to one that is DONE", b.heads(0) + " " + b.x.deliver(0) + " " + b.about(0, 0, 2, 3), "4Y 4 3 5 0");
    }

    /** "4 Z's without D that were acknowledged (sending) .. 5 such with D, both since the latest S was sent". */
    private static void countsSinceTheLatestStart() {
        Bench b = Bench.sending(12, 8, "abc", "d");
        b.store(1, "OLD", "x".repeat(2998), 1);
        b.settle();
        Bench.same("one of each", b.about(0, 0, 4, 5) + " " + b.about(1, 0, 4, 5), "3 1 1 3 1 1");
        b.x.send(0, 1, 1);
        Bench.same("S is sent: END 0 counts anew, END 1 not yet", b.about(0, 4, 5) + " " + b.about(1, 4, 5), "0 0 1 1");
        b.x.deliver(1);
        Bench.same("S came", b.about(0, 4, 5) + " " + b.about(1, 4, 5), "0 0 0 0");
        Bench z = b.copy();
        z.x.deliver(0);
        Bench.rounds(z, 3);
        Bench.same("Z is under way", z.heads(1) + " " + z.about(0, 4) + z.about(1, 4), "4Z 00");
        z.x.deliver(1);
        Bench.same("Z is taken", z.about(0, 4) + z.about(1, 4), "01");
        z.x.deliver(0);
        Bench.same("Z is acknowledged", z.about(0, 4) + z.about(1, 4), "11");
        b.settle();
        Bench.same("one", b.about(0, 0, 4, 5) + " " + b.about(1, 0, 4, 5), "3 1 0 3 1 0");
    }
}
