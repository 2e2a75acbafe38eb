/** Terms 2 and the line at each bound and right beside it: LEN, SEQ, CHECK, GOOD or SPOILED, AGREED, 100 packets (promises 6 to 14). */
public final class PacketsBoundsTest {
    private static final int LEAST = -2147483648;
    private static final int GREATEST = 2147483647;

    public static void main(String[] args) {
        everyPacketOfATransfer();
        sums();
        checkTwoOfALargeSum();
        seqBehindSixtyThree();
        everyBitSpoils();
        firstAndLastByte();
        lengthAsManyAsThereAre();
        seqBounds();
        whichCheckMustBe();
        shortestPackets();
        checkOfOneThatHasNotAgreed();
        checkOfOneThatHas();
        agreedWindows();
        agreedIsNoneUntilThen();
        othersMaxl();
        sendBounds();
        deliverBounds();
        placesOnTheLine();
        bytesOfAPacket();
        masks();
        hundredByTwice();
        hundredByTheSender();
        hundredByTheReceiver();
        aboutBounds();
        Bench.end("PacketsBoundsTest");
    }

    /** "Bytes: 1, LEN + 32, SEQ + 32, TYPE, DATA, CHECK, 13." of all packets, under each CHECK. */
    private static void everyPacketOfATransfer() {
        for (int check = 1; check <= 3; check++) {
            Bench b = new Bench().setBoth(2, check).setBoth(4, 8).setBoth(3, 32);
            b.store(0, "A", "~".repeat(200) + "\0#z", 1);
            b.store(0, "B", "", 99999999);
            b.x.send(0, 0, 2);
            StringBuilder types = new StringBuilder();
            for (int i = 0; i < 40 && b.x.line(0) + b.x.line(1) > 0; i++) {
                for (int end = 1; end >= 0; end--) {
                    boolean first = i == 0;
                    String p = b.packet(end, 0);
                    types.append(p.charAt(3));
                    int kind = first ? 1 : check;
                    Bench.same("first and last byte", (int) p.charAt(0) + " " + (int) p.charAt(p.length() - 1), "1 13");
                    Bench.same("LEN is how many stand behind it", p.charAt(1) - 32, p.length() - 3);
                    Bench.same("SEQ", p.charAt(2) - 32, i);
                    Bench.same("CHECK " + kind, p.substring(p.length() - 1 - kind, p.length() - 1), Model.check(kind, p.substring(1, p.length() - 1 - kind)));
                    Bench.same("it is GOOD", b.x.deliver(end), i);
                }
            }
            Bench.same("TYPES", types, "SYFYAYDYDYDYZYFYAYZYBY");
            Bench.same("both DONE", b.about(0, 0, 9) + " " + b.about(1, 0, 9), "3 0 3 0");
        }
        // The CRC of these is known: 8585 = 2 * 4096 + 6 * 64 + 9.
        Bench.same("the CRC", Model.check(3, "123456789"), "\"&)");
    }

    /** An END 1 that waits: a packet of SEQ comes, and E 80 with that SEQ and CHECK 1 is sent. */
    private static String errorOf(int seq) {
        Bench b = Bench.sending(44, 8, "a");
        b.x.twice(1, 0);
        b.x.spoil(1, 0, 15, 1);
        b.x.deliver(1);
        b.clear(0);
        b.forge(1, 0, seq, 'X', "~* @-#Y3~L(", 1);
        b.x.deliver(1);
        return b.packet(0, 0);
    }

    /** "CHECK 1: 32 + ((s + (s / 64) MOD 4) MOD 64)": worked out by hand, s being 36 + 32 + SEQ + 69 + 80. */
    private static void sums() {
        Bench.same("s 217: 3, 220 MOD 64 = 28", errorOf(0), "\1$ EP<\r");
        Bench.same("s 253: 3, 256 MOD 64 = 0", errorOf(36), "\1$DEP \r");
        Bench.same("s 252: 3, 255 MOD 64 = 63", errorOf(35), "\1$CEP_\r");
        Bench.same("s 255: 3, 258 MOD 64 = 2", errorOf(38), "\1$FEP\"\r");
        Bench.same("s 256: 4 MOD 4 = 0, 256 MOD 64 = 0", errorOf(39), "\1$GEP \r");
        Bench.same("s 257: 1", errorOf(40), "\1$HEP!\r");
        Bench.same("s 280: 24", errorOf(63), "\1$_EP8\r");
    }

    /** "CHECK 2: two, 32 + (s / 64) MOD 64, 32 + s MOD 64": s is above 4096. */
    private static void checkTwoOfALargeSum() {
        Bench b = new Bench().setBoth(2, 2).setBoth(3, 32).setBoth(4, 0);
        b.store(0, "A", "z".repeat(90), 1);
        b.x.send(0, 0, 1);
        Bench.rounds(b, 2);
        // LEN 94 + 32, SEQ 2 + 32, 68, 90 times 122: 11208 = 175 * 64 + 8, 175 MOD 64 = 47.
        Bench.same("D", b.packet(1, 0), "\1~\"D" + "z".repeat(90) + "O(\r");
        Bench.same("it is GOOD", b.x.deliver(1), 2);
    }

    /** "SEQ 1 more each time (0 behind 63)". */
    private static void seqBehindSixtyThree() {
        Bench b = Bench.sending(0, 1, "x".repeat(1400));
        b.x.set(1, 0, 24);
        for (int i = 0; i < 68; i++) {
            Bench.same("SEQ of packet " + i, b.heads(1), i % 64 + (i == 0 ? "S" : i == 1 ? "F" : "D"));
            b.x.deliver(1);
            Bench.same("it EXPECTS", b.x.about(1, 2), (i + 1) % 64);
            Bench.same("Y has the same", b.heads(0), i % 64 + "Y");
            b.x.deliver(0);
            Bench.same("the next one's", b.x.about(0, 2), (i + 2) % 64);
        }
    }

    /** "else SPOILED": every bit of a packet, under each CHECK. */
    private static void everyBitSpoils() {
        for (int check = 1; check <= 3; check++) {
            Bench b = new Bench().setBoth(2, check);
            b.store(0, "A", "Ab#\u00ff", 1);
            b.x.send(0, 0, 1);
            everyBitOfTheFirst(b, "S under CHECK " + check);
            Bench.rounds(b, 3);
            Bench.same("a D", b.x.look(1, 0, 3), (int) 'D');
            everyBitOfTheFirst(b, "D under CHECK " + check);
        }
    }

    private static void everyBitOfTheFirst(Bench b, String what) {
        int length = b.packet(1, 0).length();
        for (int i = 0; i < length; i++) {
            for (int mask = 1; mask < 256; mask *= 2) {
                Bench c = b.copy();
                c.x.spoil(1, 0, i, mask);
                Bench.same(what + ", byte " + i + ", mask " + mask, c.x.deliver(1), -2);
                Bench.same("counted", c.x.about(1, 8) + " " + c.x.about(1, 9), b.x.about(1, 8) + 1 + " " + 1);
            }
        }
        Bench.same(what + ", as it is", b.copy().x.deliver(1) >= 0, true);
    }

    /** "its first byte is 1, its last one 13". CHECK doesn't cover these. */
    private static void firstAndLastByte() {
        for (int v = 0; v < 256; v++) {
            Bench b = Bench.sending(44, 8, "a");
            b.put(1, 0, 0, v);
            Bench.same("first byte " + v, b.x.deliver(1), v == 1 ? 0 : -2);
            Bench c = Bench.sending(44, 8, "a");
            c.put(1, 0, 16, v);
            Bench.same("last byte " + v, c.x.deliver(1), v == 13 ? 0 : -2);
        }
    }

    /** "LEN as many as there are": any other with the CHECK that is right for it. */
    private static void lengthAsManyAsThereAre() {
        for (int v = 0; v < 256; v++) {
            Bench b = Bench.sending(44, 8, "a");
            b.alter(1, 0, 1, v, 1);
            Bench.same("LEN " + (v - 32) + " where 14 are", b.x.deliver(1), v == 14 + 32 ? 0 : -2);
        }
    }

    /** "SEQ 0 .. 63": any other with the CHECK that is right for it. */
    private static void seqBounds() {
        for (int v = 0; v < 256; v++) {
            Bench b = Bench.sending(44, 8, "a");
            b.alter(1, 0, 2, v, 1);
            boolean is = v >= 32 && v <= 95;
            Bench.same("SEQ " + (v - 32), b.x.deliver(1), is ? v - 32 : -2);
            Bench.same("what it EXPECTS", b.about(1, 0, 2), "2 " + (is ? (v - 31) % 64 : 0));
        }
    }

    /** "CHECK 1, if its TYPE is S or the END to which it comes hasn't AGREED, else as is agreed on". */
    private static void whichCheckMustBe() {
        for (int agreed = 1; agreed <= 3; agreed++) {
            for (int with = 1; with <= 3; with++) {
                Bench b = new Bench().setBoth(2, agreed);
                b.store(0, "ABCDEFGHIJ", "a", 1);
                b.x.send(0, 0, 1);
                Bench fresh = b.copy();
                fresh.forge(1, 0, 9, 'S', "~* @-#Y3~L(", with);
                Bench.same("S of CHECK " + with + ", not AGREED", fresh.x.deliver(1), with == 1 ? 9 : -2);
                fresh = b.copy();
                fresh.forge(1, 0, 9, 'F', "ABCDEFGHIJK", with);
                Bench.same("F of CHECK " + with + ", not AGREED", fresh.x.deliver(1), with == 1 ? 9 : -2);
                Bench.rounds(b, 1);
                Bench start = b.copy();
                start.forge(1, 0, 9, 'S', "ABCDEFGHIJKLMN", with);
                Bench.same("S of CHECK " + with + ", AGREED on " + agreed, start.x.deliver(1), with == 1 ? 9 : -2);
                b.forge(1, 0, 1, 'F', "ABCDEFGHIJKLMN", with);
                Bench.same("F of CHECK " + with + ", AGREED on " + agreed, b.x.deliver(1), with == agreed ? 1 : -2);
            }
        }
        for (int with = 1; with <= 3; with++) {
            Bench b = Bench.sending(44, 8, "a");
            b.x.deliver(1);
            b.forge(0, 0, 0, 'Y', "~* @-#Y3~L(", with);
            Bench.same("Y of S of CHECK " + with, b.x.deliver(0) + " " + b.about(0, 0, 9), with == 1 ? "0 1 0" : "-2 1 1");
        }
    }

    /** "LEN as many as there are (3 at least)": N is the shortest under each CHECK. */
    private static void shortestPackets() {
        for (int check = 1; check <= 3; check++) {
            Bench b = new Bench().setBoth(2, check);
            b.store(0, "A", "a", 1);
            b.x.send(0, 0, 1);
            Bench.rounds(b, 1);
            b.x.timer(1);
            Bench.same("LEN of an N under CHECK " + check, b.x.look(0, 0, 1) - 32, 2 + check);
            Bench.same("it is GOOD", b.x.deliver(0) + " " + b.heads(1), "1 1F 1F");
        }
        // E with CHECK 1 has LEN 4: as short as an N of CHECK 2, too short for CHECK 3.
        for (int check = 1; check <= 3; check++) {
            Bench b = new Bench().setBoth(2, check);
            b.x.set(0, 6, 1);
            b.store(0, "A", "a", 1);
            b.x.send(0, 0, 1);
            b.x.deliver(1);
            b.x.timer(0);
            b.x.timer(0);
            b.x.lose(1, 0);
            Bench.same("E of one that hasn't AGREED", b.texts(1, 1), "0E(T)");
            Bench made = b.copy();
            Bench.same("to one that has AGREED on CHECK " + check, b.x.deliver(1) + " " + b.about(1, 0, 1), check == 1 ? "0 4 84" : "-2 2 0");
            if (check == 2) {
                made.forge(1, 0, 0, 'E', "", 2);
                Bench.same("its two bytes are a CHECK 2: no DATA", made.x.deliver(1) + " " + made.about(1, 0, 1), "0 4 0");
            }
        }
    }

    /** "S, the Y of S, and all that an END sends that has not AGREED have CHECK 1". Both have CHKT 3. */
    private static void checkOfOneThatHasNotAgreed() {
        Bench b = new Bench();
        b.store(0, "A", "abc", 1);
        b.x.send(0, 0, 1);
        Bench.same("S", b.packet(1, 0), Model.packet(0, 'S', "~* @-#Y3~L(", 1));
        Bench wait = b.copy();
        wait.x.twice(1, 0);
        wait.x.spoil(1, 0, 9, 1);
        wait.x.deliver(1);
        Bench.same("N of one that waits", wait.packet(0, 0), Model.packet(0, 'N', "", 1));
        wait.alter(1, 0, 3, 'F', 1);
        wait.x.deliver(1);
        Bench.same("E 80 of one that waits", wait.packet(0, 1), Model.packet(0, 'E', "P", 1));
        Bench wrong = b.copy();
        wrong.alter(1, 0, 4, 32, 1);
        wrong.x.deliver(1);
        Bench.same("E 68 of one that hasn't AGREED", wrong.packet(0, 0), Model.packet(0, 'E', "D", 1));
        b.x.deliver(1);
        Bench.same("the Y of S", b.packet(0, 0), Model.packet(0, 'Y', "~* @-#Y3~L(", 1));
        Bench yes = b.copy();
        yes.alter(0, 0, 4, 32, 1);
        yes.x.deliver(0);
        Bench.same("E 68 of a sender that hasn't AGREED", yes.packet(1, 0), Model.packet(0, 'E', "D", 1));
        b.settle();
        Bench.same("both have AGREED", b.about(0, 0, 11) + " " + b.about(1, 0, 11), "3 3 3 3");
        b.x.send(0, 0, 1);
        Bench.same("S of the next time", b.packet(1, 0), Model.packet(0, 'S', "~* @-#Y3~L(", 1));
        for (int i = 0; i < 6; i++) {
            b.x.timer(0);
        }
        Bench.same("E 84 of one that hasn't AGREED this time", b.packet(1, 6), Model.packet(0, 'E', "T", 1));
        b.x.twice(1, 0);
        b.x.deliver(1);
        b.alter(1, 0, 4, 32, 1);
        b.x.deliver(1);
        Bench.same("the Y of S of one that had AGREED", b.packet(0, 0), Model.packet(0, 'Y', "~* @-#Y3~L(", 1));
        Bench.same("E 68 of one that has AGREED no more", b.packet(0, 1), Model.packet(0, 'E', "D", 1));
    }

    /** "others that which is agreed on". */
    private static void checkOfOneThatHas() {
        for (int check = 1; check <= 3; check++) {
            Bench b = new Bench().setBoth(2, check);
            b.store(0, "A", "abc", 1);
            b.x.send(0, 0, 1);
            Bench.rounds(b, 1);
            Bench.same("F", b.packet(1, 0), Model.packet(1, 'F', "A", check));
            b.x.timer(1);
            Bench.same("N", b.packet(0, 0), Model.packet(1, 'N', "", check));
            Bench often = b.copy();
            for (int i = 0; i < 6; i++) {
                often.x.timer(0);
            }
            Bench.same("E 84", often.packet(1, 6), Model.packet(1, 'E', "T", check));
            b.alter(1, 0, 3, 'D', check);
            b.x.deliver(1);
            Bench.same("Y", b.packet(0, 1), Model.packet(1, 'Y', "", check));
            Bench.same("E 80", b.packet(0, 2), Model.packet(1, 'E', "P", check));
        }
    }

    /** "the WINDOW: with bit 4 of both the lesser WINDO, else 1". */
    private static void agreedWindows() {
        int[] some = {1, 2, 7, 8, 30, 31};
        for (int mine : some) {
            for (int his : some) {
                for (int bits = 0; bits < 4; bits++) {
                    Bench b = new Bench();
                    b.x.set(0, 5, mine);
                    b.x.set(1, 5, his);
                    b.x.set(0, 4, (bits & 1) * 4);
                    b.x.set(1, 4, (bits & 2) * 2);
                    b.store(0, "A", "abc", 1);
                    b.x.send(0, 0, 1);
                    Bench.rounds(b, 1);
                    int due = bits == 3 ? Math.min(mine, his) : 1;
                    Bench.same("WINDO " + mine + ", " + his + ", bits " + bits, b.about(0, 15) + " " + b.about(1, 15), due + " " + due);
                }
            }
        }
    }

    /** "AGREED (NONE as long as it hasn't)". */
    private static void agreedIsNoneUntilThen() {
        Bench b = new Bench();
        b.store(0, "A", "abc", 1);
        String none = "-1 -1 -1 -1 -1 -1";
        Bench.same("FRESH", b.about(0, 10, 11, 12, 13, 14, 15) + " " + b.about(1, 10, 11, 12, 13, 14, 15), none + " " + none);
        b.x.send(0, 0, 1);
        Bench.same("S is sent", b.about(0, 10, 11, 12, 13, 14, 15), none);
        b.x.deliver(1);
        Bench.same("S came", b.about(1, 10, 11, 12, 13, 14, 15), "94 3 0 1 44 8");
        Bench.same("Y has not come yet", b.about(0, 10, 11, 12, 13, 14, 15), none);
        b.x.deliver(0);
        Bench.same("Y came", b.about(0, 10, 11, 12, 13, 14, 15), "94 3 0 1 44 8");
        b.settle();
        Bench.same("DONE", b.about(0, 0, 10, 11, 15) + " " + b.about(1, 0, 10, 11, 15), "3 94 3 8 3 94 3 8");
    }

    /** "each sends packets of LEN at most the other's MAXL": not its own. */
    private static void othersMaxl() {
        for (int[] w : new int[][] {{94, 24}, {24, 94}, {94, 25}, {50, 93}, {24, 24}, {94, 94}}) {
            for (int check = 1; check <= 3; check++) {
                Bench b = new Bench().setBoth(2, check).setBoth(3, 32).setBoth(4, 0);
                b.x.set(0, 0, w[0]);
                b.x.set(1, 0, w[1]);
                b.store(0, "A", "ab".repeat(100), 1);
                b.x.send(0, 0, 1);
                Bench.rounds(b, 2);
                Bench.same("MAXL as each sees it", b.about(0, 10) + " " + b.about(1, 10), w[1] + " " + w[0]);
                Bench.same("LEN of the first D", b.x.look(1, 0, 1) - 32, w[1]);
                Bench.same("all its bytes", b.packet(1, 0).length(), w[1] + 3);
                b.settle();
                Bench.same("it came", b.content(1, 0), "ab".repeat(100));
            }
        }
    }

    /** "False, doing nothing: no such END, FILES (many 1 or more)". */
    private static void sendBounds() {
        for (int first = -2; first <= 4; first++) {
            for (int many = -1; many <= 5; many++) {
                Bench b = new Bench();
                for (int i = 0; i < 3; i++) {
                    b.store(0, "F" + i, "a", i);
                }
                String before = b.all();
                boolean is = first >= 0 && many >= 1 && first + many <= 3;
                Bench.same("send " + many + " from " + first, b.x.send(0, first, many), is);
                if (!is) {
                    Bench.same("nothing was done", b.all(), before);
                    continue;
                }
                b.settle();
                Bench.same("so many came", b.about(1, 0, 16), "3 " + many);
                Bench.same("from that on", b.name(1, 0) + b.name(1, many - 1), "F" + first + "F" + (first + many - 1));
            }
        }
        Bench eight = new Bench();
        for (int i = 0; i < 8; i++) {
            eight.store(0, "F" + i, "", i);
        }
        Bench.same("nine of eight", eight.x.send(0, 0, 9) + " " + eight.x.send(0, 7, 2) + " " + eight.x.send(0, 8, 1), "false false false");
        Bench last = eight.copy();
        Bench.same("the eighth", last.x.send(0, 7, 1), true);
        Bench.same("all eight", eight.x.send(0, 0, 8), true);
        eight.settle();
        Bench.same("all came", eight.about(1, 0, 4, 16) + eight.name(1, 7), "3 8 8F7");
        Bench none = new Bench();
        Bench.same("of no FILES", none.x.send(0, 0, 0) + " " + none.x.send(0, 0, 1), "false false");
        Bench.same("far beyond", last.copy().x.send(0, GREATEST, GREATEST) + " " + new Bench().x.send(LEAST, LEAST, LEAST), "false false");
    }

    /** "its SEQ, NONE if none is there, or no such END; -2 of a SPOILED one". */
    private static void deliverBounds() {
        Bench b = Bench.sending(44, 8, "a");
        b.x.twice(1, 0);
        b.x.spoil(1, 0, 9, 1);
        Bench.same("SPOILED, GOOD, none", b.x.deliver(1) + " " + b.x.deliver(1) + " " + b.x.deliver(1), "-2 0 -1");
        Bench.same("two came", b.about(1, 8, 9), "2 1");
        String before = b.all();
        for (int end : new int[] {LEAST, -1, 1, 2, GREATEST}) {
            Bench.same("none for END " + end, b.x.deliver(end), -1);
        }
        Bench.same("nothing was done", b.all(), before);
    }

    /** "The k-th packet on the line to an END (0 the oldest)": lose, twice, spoil, look. */
    private static void placesOnTheLine() {
        Bench b = Bench.rounds(Bench.sending(4, 5, Bench.fill(5)), 2);
        Bench.same("five", b.heads(1), "2D 3D 4D 5D 6D");
        String[] lost = {"3D 4D 5D 6D", "2D 4D 5D 6D", "2D 3D 5D 6D", "2D 3D 4D 6D", "2D 3D 4D 5D"};
        String[] doubled = {"2D 2D 3D 4D 5D 6D", "2D 3D 3D 4D 5D 6D", "2D 3D 4D 4D 5D 6D", "2D 3D 4D 5D 5D 6D", "2D 3D 4D 5D 6D 6D"};
        for (int k = 0; k < 5; k++) {
            Bench lose = b.copy();
            Bench.same("lose " + k, lose.x.lose(1, k) + " " + lose.heads(1) + " " + lose.x.line(1), "true " + lost[k] + " 4");
            Bench twice = b.copy();
            Bench.same("twice " + k, twice.x.twice(1, k) + " " + twice.heads(1) + " " + twice.x.line(1), "true " + doubled[k] + " 6");
            Bench.same("the same bytes", twice.packet(1, k + 1), b.packet(1, k));
            Bench spoil = b.copy();
            Bench.same("spoil " + k, spoil.x.spoil(1, k, 2, 64), (k + 34) ^ 64);
            Bench.same("only that one", spoil.x.look(1, k, 2) + " " + spoil.x.look(1, (k + 1) % 5, 2), ((k + 34) ^ 64) + " " + ((k + 1) % 5 + 34));
            Bench.same("look " + k, b.x.look(1, k, 2), k + 34);
        }
        String before = b.all();
        for (int k : new int[] {LEAST, -2, -1, 5, 6, 99, 100, GREATEST}) {
            Bench.same("no packet " + k, b.x.lose(1, k) + " " + b.x.twice(1, k) + " " + b.x.spoil(1, k, 2, 64) + " " + b.x.look(1, k, 2), "false false -1 -1");
        }
        for (int end : new int[] {LEAST, -1, 0, 2, GREATEST}) {
            Bench.same("none to END " + end, b.x.lose(end, 0) + " " + b.x.twice(end, 0) + " " + b.x.spoil(end, 0, 2, 64) + " " + b.x.look(end, 0, 2), "false false -1 -1");
            Bench.same("line of END " + end, b.x.line(end), end == 0 ? 0 : -1);
        }
        Bench.same("nothing was done", b.all(), before);
    }

    /** "Byte i of the k-th one .. NONE if there is none such": packets of the least and the greatest length, and between. */
    private static void bytesOfAPacket() {
        Bench b = Bench.sending(0, 1, Bench.fill(1));
        Bench.same("S has 17", edges(b, 1, 17), "1 13");
        Bench.rounds(b, 1);
        b.x.timer(1);
        Bench.same("N has 6", edges(b, 0, 6), "1 13");
        b.clear(0);
        Bench.rounds(b, 1);
        Bench.same("the longest D has 97", edges(b, 1, 97), "1 13");
    }

    private static String edges(Bench b, int end, int length) {
        for (int i : new int[] {LEAST, -1, length, length + 1, 97, 98, GREATEST}) {
            Bench.same("look at " + i + " of " + length, b.x.look(end, 0, i), -1);
            Bench.same("spoil " + i + " of " + length, b.x.spoil(end, 0, i, 1), -1);
        }
        Bench c = b.copy();
        Bench.same("spoil the first", c.x.spoil(end, 0, 0, 2), 3);
        Bench.same("spoil the last", c.x.spoil(end, 0, length - 1, 2), 15);
        return b.x.look(end, 0, 0) + " " + b.x.look(end, 0, length - 1);
    }

    /** "exclusive or mask (lowest 8 bits)". */
    private static void masks() {
        Bench b = Bench.sending(44, 8, "a");
        int[][] due = {{0, 'S'}, {1, 'S' ^ 1}, {128, 'S' ^ 128}, {255, 'S' ^ 255}, {256, 'S'}, {257, 'S' ^ 1}, {-1, 'S' ^ 255}, {-256, 'S'}, {LEAST, 'S'}, {GREATEST, 'S' ^ 255},
            {'S', 0}};
        for (int[] d : due) {
            Bench c = b.copy();
            Bench.same("mask " + d[0], c.x.spoil(1, 0, 3, d[0]) + " " + c.x.look(1, 0, 3), d[1] + " " + d[1]);
        }
    }

    /** "whether it was there, and there is room". */
    private static void hundredByTwice() {
        Bench b = Bench.sending(44, 8, "a");
        for (int n = 2; n <= 100; n++) {
            Bench.same("there are " + n + " then", b.x.twice(1, n / 2 - 1) + " " + b.x.line(1), "true " + n);
        }
        String before = b.all();
        Bench.same("no room", b.x.twice(1, 0) + " " + b.x.twice(1, 99) + " " + b.x.twice(1, 100), "false false false");
        Bench.same("nothing was done", b.all(), before);
        Bench.same("look at the last", b.x.look(1, 99, 3) + " " + b.x.look(1, 100, 3), "83 -1");
        b.x.lose(1, 99);
        Bench.same("room for one", b.x.twice(1, 98) + " " + b.x.twice(1, 98) + " " + b.x.line(1), "true false 100");
    }

    /** "(What an END sends goes on the line to the other; where 100 are already it is lost.)" */
    private static void hundredByTheSender() {
        Bench b = Bench.rounds(Bench.sending(4, 8, "x".repeat(1000)), 1);
        b.x.deliver(1);
        b.x.timer(0);
        // F stands there; 97 of it leave room for three of the eight D's.
        for (int i = 1; i < 97; i++) {
            b.x.twice(1, 0);
        }
        b.x.deliver(0);
        Bench.same("100 are there", b.x.line(1) + " " + b.x.look(1, 96, 3) + " " + b.x.look(1, 97, 2) + " " + b.x.look(1, 99, 2), "100 70 34 36");
        Bench.same("all eight were sent and are under way", b.about(0, 2, 3, 6), "10 8 11");
        Bench.same("a timer's is lost, too", b.x.timer(0) + " " + b.x.line(1) + " " + b.about(0, 6, 7), "1 100 12 2");
        b.x.lose(1, 0);
        Bench.same("99: it goes", b.x.timer(0) + " " + b.x.line(1) + " " + b.x.look(1, 99, 2), "1 100 34");
    }

    private static void hundredByTheReceiver() {
        Bench b = Bench.sending(4, 8, "a");
        b.x.deliver(1);
        for (int i = 1; i < 98; i++) {
            b.x.twice(0, 0);
        }
        Bench.same("the 99th and the 100th go", b.x.timer(1) + " " + b.x.timer(1) + " " + b.x.line(0), "1 1 100");
        Bench.same("the 101st is lost", b.x.timer(1) + " " + b.x.line(0) + " " + b.about(1, 6), "1 100 4");
        b.x.timer(0);
        Bench.same("so is a Y", b.x.deliver(1) + " " + b.x.line(0) + " " + b.about(1, 0, 2, 6), "0 100 2 1 5");
        Bench.same("the line is as it was", b.x.look(0, 98, 3) + " " + b.x.look(0, 99, 3), "78 78");
    }

    /** "NoSuchElementException: no such END, what." */
    private static void aboutBounds() {
        Bench b = Bench.sending(44, 8, "a");
        for (int what : new int[] {LEAST, -2, -1, 18, 19, GREATEST}) {
            Bench.throwsNone("what " + what, () -> b.x.about(0, what));
            Bench.throwsNone("what " + what, () -> b.x.about(1, what));
        }
        for (int end : new int[] {LEAST, -1, 2, GREATEST}) {
            Bench.throwsNone("END " + end, () -> b.x.about(end, 0));
            Bench.throwsNone("END " + end, () -> b.x.about(end, 17));
        }
        Bench.same("the first and the last", b.about(0, 0, 17) + " " + b.about(1, 0, 17), "1 1 0 0");
    }
}
