/** Terms 3 at each bound and right beside it: runs, stretches, signs, whole ITEMS, WRONG DATA, the DATA of each TYPE. */
public final class DataBoundsTest {
    private static final int LOCKING = 32;

    public static void main(String[] args) {
        runs();
        runsOfOtherBytes();
        theFilesEnd();
        noRuns();
        stretches();
        stretchesBack();
        stretchesAtTheBound();
        stretchesWithoutPrefix();
        stretchesOverPackets();
        runsInStretches();
        agreedByBoth();
        everySign();
        wholeItems();
        runsAreNotCut();
        leastMaxl();
        bytesOfAPacket();
        shiftGoesOn();
        readNumbers();
        readQuoted();
        readPlain();
        readShiftsAndPrefix();
        readNotAgreedOn();
        notWhole();
        noData();
        roomAlongData();
        dataOfEachType();
        sizes();
        Bench.end("DataBoundsTest");
    }

    private static Bench bench(boolean prefix, boolean runs, boolean shifts) {
        return new Bench().setBoth(1, prefix ? 38 : 78).setBoth(2, 1).setBoth(3, runs ? 126 : 32).setBoth(4, shifts ? LOCKING : 0);
    }

    /** DATA of all D's of a FILE, with a bar between them; both ENDS are DONE then. */
    private static String spelled(Bench b, String bytes) {
        b.store(0, "A", bytes, 1);
        b.x.send(0, 0, 1);
        StringBuilder text = new StringBuilder();
        for (int i = 0; i < 200 && b.x.line(0) + b.x.line(1) > 0; i++) {
            if (b.x.line(1) > 0 && b.x.look(1, 0, 3) == 'D') {
                text.append(text.length() == 0 ? "" : "|").append(b.data(1, 0, 1));
            }
            b.x.deliver(1);
            b.x.deliver(0);
        }
        Bench.same("both DONE", b.x.about(0, 0) + " " + b.x.about(1, 0), "3 3");
        return text.toString();
    }

    private static void say(Bench b, String bytes, String due) {
        Bench.same("DATA", spelled(b, bytes), due);
        Bench.same("what is read of " + due, b.content(1, 0), bytes);
    }

    /** "of a byte that stands there 4 times or more: ~, n + 32, .. n being how often (94 at most)". */
    private static void runs() {
        int[] often = {1, 2, 3, 4, 5, 93, 94, 95, 96, 97, 98, 99, 187, 188, 189, 191, 192};
        String[] due = {"x", "xx", "xxx", "~$x", "~%x", "~}x", "~~x", "~~xx", "~~xxx", "~~xxxx", "~~x~$x", "~~x~%x", "~~x~}x", "~~x~~x", "~~x~~xx", "~~x~~xxxx", "~~x~~x~$x"};
        for (int i = 0; i < often.length; i++) {
            say(bench(false, true, false), "x".repeat(often[i]), due[i]);
            say(bench(false, true, false), "a" + "x".repeat(often[i]) + "b", "a" + due[i] + "b");
        }
    }

    private static void runsOfOtherBytes() {
        say(bench(false, true, false), "aaabbbbcccdddd", "aaa~$bccc~$d");
        say(bench(false, true, false), "abaaaa", "ab~$a");
        say(bench(false, true, false), "abaaabaabaaa", "abaaabaabaaa");
        say(bench(false, true, false), "aabaaaabaa", "aab~$abaa");
        say(bench(false, true, false), "aaabaaaba", "aaabaaaba");
        say(bench(false, true, false), "~~~", "#~#~#~");
        say(bench(false, true, false), "~~~~", "~$#~");
        say(bench(false, true, false), "\0\0\0\u0001\u0001\u0001\u0001", "#@#@#@~$#A");
        say(bench(true, true, false), "\u00e1\u00e1\u00e1", "&a&a&a");
        say(bench(true, true, false), "\u00e1\u00e1\u00e1\u00e1", "~$&a");
        say(bench(true, true, false), "aa\u00e1\u00e1aa\u00e1\u00e1", "aa&a&aaa&a&a");
    }

    /** A run and a stretch end where the FILE does, though the next FILE goes on in the same way. */
    private static void theFilesEnd() {
        Bench runs = bench(false, true, false);
        runs.store(0, "A", "xxx", 1);
        runs.store(0, "B", "xxxx", 1);
        runs.store(0, "C", "x", 1);
        Bench stretches = bench(true, false, true);
        stretches.store(0, "A", "\u00c1\u00c2\u00c3", 1);
        stretches.store(0, "B", "\u00c1\u00c2\u00c3\u00c4", 1);
        stretches.store(0, "C", "\u00c5", 1);
        String[][] due = {{"xxx", "~$x", "x"}, {"&A&B&C", "#NABCD", "&E"}};
        for (int i = 0; i < 2; i++) {
            Bench b = i == 0 ? runs : stretches;
            b.x.send(0, 0, 3);
            Bench.rounds(b, 2);
            for (String data : due[i]) {
                Bench.same("DATA of a FILE among others", b.texts(1, 1), b.x.look(1, 0, 2) - 32 + "D(" + data + ")");
                Bench.rounds(b, 3);
            }
        }
    }

    private static void noRuns() {
        say(bench(false, false, false), "x".repeat(4) + "~~~~", "xxxx~~~~");
        Bench one = bench(false, true, false);
        one.x.set(1, 3, 32);
        say(one, "x".repeat(90), "x".repeat(90));
    }

    /** "of the FILE's bytes from b on less than 4 have this h until one that hasn't": 1 .. 5 of them, to one that hasn't and to the end. */
    private static void stretches() {
        String[] due = {"&A", "&A&B", "&A&B&C", "#NABCD", "#NABCDE"};
        for (int n = 1; n <= 5; n++) {
            String high = "\u00c1\u00c2\u00c3\u00c4\u00c5".substring(0, n);
            say(bench(true, false, true), high, due[n - 1]);
            say(bench(true, false, true), "a" + high, "a" + due[n - 1]);
            say(bench(true, false, true), "a" + high + "b", "a" + due[n - 1] + (n < 4 ? "b" : "&b"));
            say(bench(true, false, true), high + "bcde", due[n - 1] + (n < 4 ? "bcde" : "#Obcde"));
        }
    }

    private static void stretchesBack() {
        String[] due = {"&a", "&a&b", "&a&b&c", "#Oabcd", "#Oabcde"};
        for (int n = 1; n <= 5; n++) {
            String low = "abcde".substring(0, n);
            say(bench(true, false, true), "\u00c1\u00c2\u00c3\u00c4" + low, "#NABCD" + due[n - 1]);
            say(bench(true, false, true), "\u00c1\u00c2\u00c3\u00c4" + low + "\u00c1", "#NABCD" + due[n - 1] + (n < 4 ? "A" : "&A"));
        }
    }

    /** h is b / 128: 127 and 128 are beside one another. */
    private static void stretchesAtTheBound() {
        say(bench(true, false, true), "\u0080\u0080\u0080\u0080", "#N#@#@#@#@");
        say(bench(true, false, true), "\u0080\u0080\u0080", "&#@&#@&#@");
        say(bench(true, false, true), "\u00ff\u0080\u0081\u00fe\177\176\0", "#N#?#@#A~&#?&~&#@");
        say(bench(true, false, true), "\u0080\u0080\u0080\177", "&#@&#@&#@#?");
        say(bench(true, false, true), "\u00c1\u00c1\u00c1\u00c1\177\177\177\177\u0080", "#NAAAA#O#?#?#?#?&#@");
        say(bench(true, false, true), "\u00c1\u00c1\u00c1\u00c1\177\177\177\u0080", "#NAAAA&#?&#?&#?#@");
    }

    private static void stretchesWithoutPrefix() {
        say(bench(false, false, true), "a\u00c1b\u00c2\u00c3c", "a#NA#Ob#NBC#Oc");
        say(bench(false, false, true), "\u00c1\u00c2\u00c3\u00c4a", "#NABCD#Oa");
        say(bench(true, false, false), "\u00c1\u00c2\u00c3\u00c4a", "&A&B&C&Da");
    }

    /** It is the FILE's bytes that count, not those of the packet: MAXL 24 leaves 21. */
    private static void stretchesOverPackets() {
        Bench four = bench(true, false, true).setBoth(0, 24);
        say(four, "ab".repeat(9) + "\u00c1\u00c2\u00c3\u00c4", "ab".repeat(9) + "#NA|BCD");
        Bench three = bench(true, false, true).setBoth(0, 24);
        say(three, "ab".repeat(9) + "\u00c1\u00c2\u00c3", "ab".repeat(9) + "&A|&B&C");
        Bench last = bench(true, false, true).setBoth(0, 24);
        say(last, "ab".repeat(9) + "ab\u00c1\u00c2\u00c3\u00c4", "ab".repeat(10) + "|#NABCD");
    }

    /** "(this stands ahead of a ~, too, and belongs to the ITEM)". */
    private static void runsInStretches() {
        say(bench(true, true, true), "\u00c1\u00c1\u00c1\u00c1", "#N~$A");
        say(bench(true, true, true), "\u00c1\u00c1\u00c1", "&A&A&A");
        say(bench(true, true, true), "\u00c1\u00c1\u00c1\u00c2", "#NAAAB");
        say(bench(true, true, true), "\u00c1\u00c2\u00c2\u00c2\u00c2", "#NA~$B");
        say(bench(true, true, true), "\u00c1\u00c1\u00c1\u00c1aaaa", "#N~$A#O~$a");
        say(bench(false, true, true), "\u00c1\u00c1\u00c1aaaa", "#NAAA#O~$a");
    }

    /** What only one END has is not agreed on: PREFIX, RUNS, locking shifts. */
    private static void agreedByBoth() {
        int[] qbin = {78, 89, 38};
        for (int mine : qbin) {
            for (int his : qbin) {
                Bench b = bench(false, false, false);
                b.x.set(0, 1, mine);
                b.x.set(1, 1, his);
                boolean prefix = mine == 38 && his != 78 || his == 38 && mine != 78;
                Bench.same("QBIN " + mine + ", " + his, spelled(b, "&\u00c1"), prefix ? "#&&A" : "&A");
                Bench.same("as it is read", b.content(1, 0), prefix ? "&\u00c1" : "&A");
            }
        }
        for (int bits = 0; bits < 4; bits++) {
            Bench runs = bench(false, false, false);
            runs.x.set(0, 3, (bits & 1) != 0 ? 126 : 32);
            runs.x.set(1, 3, (bits & 2) != 0 ? 126 : 32);
            say(runs, "aaaa~", bits == 3 ? "~$a#~" : "aaaa~");
            Bench shifts = bench(false, false, false);
            shifts.x.set(0, 4, (bits & 1) * 32);
            shifts.x.set(1, 4, (bits & 2) * 16);
            Bench.same("bit 32 of " + bits, spelled(shifts, "\u00c1\16"), bits == 3 ? "#NA#O#P#N" : "A#N");
        }
    }

    /** What one byte is told by: worked out from the document's words, for every byte under every mix. */
    private static String part(int b, boolean prefix, boolean runs, boolean shifts) {
        int c = b % 128;
        String ahead = b < 128 ? "" : prefix ? "&" : shifts ? "#N" : "";
        String sign = c < 32 ? "#" + (char) (c + 64) : c == 127 ? "#?" : "" + (char) c;
        boolean own = c == 35 || c == 38 && prefix || c == 126 && runs;
        return ahead + (shifts && c >= 14 && c <= 16 ? "#P" : "") + (own ? "#" : "") + sign;
    }

    private static void everySign() {
        for (int mix = 0; mix < 8; mix++) {
            boolean prefix = (mix & 1) != 0;
            boolean runs = (mix & 2) != 0;
            boolean shifts = (mix & 4) != 0;
            for (int c = 0; c < 256; c++) {
                Bench b = bench(prefix, runs, shifts);
                Bench.same("byte " + c + " in mix " + mix, spelled(b, "" + (char) c), part(c, prefix, runs, shifts));
                Bench.same("as it is read", b.x.content(1, 0, 0), prefix || shifts ? c : c % 128);
            }
        }
    }

    /** "as many as go into a packet of LEN at most MAXL, an ITEM being whole in it". */
    private static void wholeItems() {
        for (int maxl : new int[] {24, 25, 93, 94}) {
            item(bench(false, false, false), maxl, "a", "a");
            item(bench(false, false, false), maxl, "#", "##");
            item(bench(false, false, false), maxl, "\0", "#@");
            item(bench(true, false, false), maxl, "\u00c1", "&A");
            item(bench(true, false, false), maxl, "\u0081", "&#A");
            item(bench(false, true, false), maxl, "aaaa", "~$a");
            item(bench(false, true, false), maxl, "\0\0\0\0", "~$#@");
            item(bench(true, true, false), maxl, "\u0081\u0081\u0081\u0081", "~$&#A");
            item(bench(false, false, true), maxl, "\u00c1", "#NA");
            item(bench(false, false, true), maxl, "\16", "#P#N");
            item(bench(true, false, true), maxl, "\u008e", "&#P#N");
            item(bench(false, false, true), maxl, "\u008e", "#N#P#N");
            item(bench(false, true, true), maxl, "\u00c1\u00c1\u00c1\u00c1", "#N~$A");
            item(bench(false, true, true), maxl, "\u0090\u0090\u0090\u0090\u0090", "#N~%#P#P");
        }
    }

    /** The ITEM comes where there is just room for it, and where one byte is wanting, and two. */
    private static void item(Bench b, int maxl, String bytes, String item) {
        int room = maxl - 3;
        String filling = "xy".repeat(50);
        for (int less = 0; less <= Math.min(2, item.length()); less++) {
            Bench c = b.copy().setBoth(0, maxl);
            String ahead = filling.substring(0, room - item.length() + less);
            say(c, ahead + bytes, ahead + (less == 0 ? "" : "|") + item);
        }
    }

    private static void runsAreNotCut() {
        // 21 bytes go into a packet: the run's three don't stand beside 19, and aren't made of less.
        Bench b = bench(false, true, false).setBoth(0, 24);
        say(b, "xy".repeat(9) + "z" + "a".repeat(94), "xy".repeat(9) + "z|~~a");
        Bench c = bench(false, true, false).setBoth(0, 24);
        say(c, "xy".repeat(9) + "a".repeat(95), "xy".repeat(9) + "~~a|a");
    }

    /** The least MAXL under each CHECK. */
    private static void leastMaxl() {
        for (int check = 1; check <= 3; check++) {
            Bench b = bench(true, true, true).setBoth(2, check).setBoth(0, 24).setBoth(4, 40);
            String bytes = "\u008e\u008e\u008e\u008e\u008eabc\u0090d".repeat(12);
            b.store(0, "ABCDEFGHIJKL", bytes, 99999999);
            b.x.send(0, 0, 1);
            for (int i = 0; i < 60 && b.x.line(0) + b.x.line(1) > 0; i++) {
                Bench.same("LEN is not above 24", b.x.line(1) > 0 && b.x.look(1, 0, 1) > 24 + 32, false);
                b.x.deliver(1);
                b.x.deliver(0);
            }
            Bench.same("it came", b.name(1, 0) + b.content(1, 0), "ABCDEFGHIJKL" + bytes);
        }
    }

    /** How many D's a FILE has: just as many bytes as go into one, two, and one more or less. */
    private static void bytesOfAPacket() {
        for (int check = 1; check <= 3; check++) {
            int room = 94 - 2 - check;
            int[][] due = {{1, 1}, {room - 1, 1}, {room, 1}, {room + 1, 2}, {2 * room - 1, 2}, {2 * room, 2}, {2 * room + 1, 3}};
            for (int[] d : due) {
                Bench b = bench(false, false, false).setBoth(2, check);
                b.store(0, "A", "x".repeat(d[0]), 1);
                b.x.send(0, 0, 1);
                b.settle();
                Bench.same("packets for " + d[0] + " under CHECK " + check, b.about(0, 0, 6) + " " + b.about(1, 17), "3 " + (4 + d[1]) + " " + d[0]);
            }
        }
    }

    /** "SHIFT being 0 at a FILE's beginning": and going on from packet to packet. */
    private static void shiftGoesOn() {
        Bench b = bench(false, false, true).setBoth(0, 24);
        say(b, "\u00c1".repeat(20) + "ab", "#N" + "A".repeat(19) + "|A#Oab");
        Bench two = bench(false, false, true);
        two.store(0, "A", "\u00c1", 1);
        two.store(0, "B", "\u00c2", 1);
        two.store(0, "C", "cd", 1);
        two.x.send(0, 0, 3);
        Bench.rounds(two, 2);
        Bench.same("the first FILE", two.data(1, 0, 1), "#NA");
        Bench.rounds(two, 3);
        Bench.same("the second", two.data(1, 0, 1), "#NB");
        Bench.rounds(two, 3);
        Bench.same("the third", two.data(1, 0, 1), "cd");
        two.settle();
        Bench.same("as they are read", two.content(1, 0) + two.content(1, 1) + two.content(1, 2), "\u00c1\u00c2cd");
    }

    /** END 1 has begun a FILE; then D's of this DATA come. */
    private static Script reads(Bench b, boolean prefix, boolean runs, boolean shifts, String... data) {
        String[] packets = new String[data.length + 1];
        packets[0] = "1F:A";
        for (int i = 0; i < data.length; i++) {
            packets[i + 1] = i + 2 + "D:" + data[i];
        }
        return new Script(b, 0, 1, Script.offer(1, prefix, runs, shifts ? LOCKING : 0, 1), packets);
    }

    private static void right(boolean prefix, boolean runs, boolean shifts, String data, String due) {
        Script s = reads(new Bench(), prefix, runs, shifts, data);
        Bench.same("Y of " + data, s.last(), "2Y");
        Bench.same("it receives", s.b.about(1, 0, 1, 2), "2 0 3");
        Bench.same("read of " + data, s.b.content(1, 0), due);
    }

    private static void wrong(boolean prefix, boolean runs, boolean shifts, String data) {
        Script s = reads(new Bench(), prefix, runs, shifts, data);
        Bench.same("Y and E of " + data, s.last(), "2Y 2E(D)");
        Bench.same("FAILED, the FILE is gone", s.b.about(1, 0, 1, 2, 16, 17), "4 68 3 0 0");
    }

    /** "~ and a byte, 32 more than n (1 .. 94)"; "WRONG: .. another n": every byte. */
    private static void readNumbers() {
        for (int b = 0; b < 256; b++) {
            String data = "~" + (char) b + "x";
            if (b >= 33 && b <= 126) {
                right(false, true, false, data, "x".repeat(b - 32));
            } else {
                wrong(false, true, false, data);
            }
        }
    }

    /** "# and a byte: c is 127 of 63, 64 less of 64 .. 95, else that byte MOD 128": every byte. */
    private static void readQuoted() {
        for (int from = 0; from < 256; from += 32) {
            StringBuilder data = new StringBuilder();
            StringBuilder due = new StringBuilder();
            for (int b = from; b < from + 32; b++) {
                data.append('#').append((char) b);
                due.append((char) (b == 63 ? 127 : b >= 64 && b <= 95 ? b - 64 : b % 128));
            }
            right(false, false, false, data.toString(), due.toString());
            right(true, true, false, data.toString(), due.toString());
        }
    }

    /** "or a byte: c is that MOD 128": every byte but those that mean more. */
    private static void readPlain() {
        for (int from = 0; from < 256; from += 64) {
            StringBuilder data = new StringBuilder();
            StringBuilder due = new StringBuilder();
            for (int b = from; b < from + 64; b++) {
                if (b != '#') {
                    data.append((char) b);
                    due.append((char) (b % 128));
                }
            }
            right(false, false, false, data.toString(), due.toString());
            right(true, true, true, data.toString().replace("&", "").replace("~", ""), due.toString().replace("&", from == 0 ? "" : "&").replace("~", from == 64 ? "" : "~"));
        }
    }

    /** "n times the byte c, and 128 if SHIFT is other than whether & was there". */
    private static void readShiftsAndPrefix() {
        right(true, true, true, "a&a~\"a~\"&a", "a\u00e1aa\u00e1\u00e1");
        right(true, true, true, "#Na&a~\"a~\"&a", "\u00e1a\u00e1\u00e1aa");
        right(true, true, true, "#Na#Oa#N#O#Na#N#Oa", "\u00e1a\u00e1a");
        right(true, true, true, "#P#N#P#O#P#P#PN#P#A", "\16\17\20N\1");
        right(true, true, true, "#N&#P#N~#&#P#O~#&#Pa", "\16\17\17\17aaa");
        right(true, true, true, "&#N~\"#Ox", "\u008e\17\17x");
        right(false, false, true, "#N\u00e1#O\u00e1", "\u00e1a");
        Script two = reads(new Bench(), false, false, true, "x#Na", "b#Oc", "d");
        two.last();
        Bench.same("SHIFT goes on from packet to packet", two.b.content(1, 0), "x\u00e1\u00e2cd");
    }

    private static void readNotAgreedOn() {
        right(false, true, true, "&a&", "&a&");
        right(true, false, true, "~#a~", "~a~");
        right(true, true, false, "#N#O#Pa", "\16\17\20a");
        right(false, false, false, "~", "~");
        right(false, false, false, "&", "&");
    }

    /** "WRONG: an ITEM that isn't whole": one cut at every byte, alone and behind others. */
    private static void notWhole() {
        String item = "#N~#&#P#A";
        right(true, true, true, item, "\1\1\1");
        for (int n = 1; n < item.length(); n++) {
            wrong(true, true, true, item.substring(0, n));
            wrong(true, true, true, "ab" + item.substring(0, n));
        }
        wrong(false, false, false, "#");
        wrong(false, true, false, "~");
        wrong(false, true, false, "~!");
        wrong(false, true, false, "~!#");
        wrong(true, false, false, "&");
        wrong(true, false, false, "&#");
        wrong(false, false, true, "#P");
        wrong(false, false, true, "#O");
        wrong(false, false, true, "a#P#");
    }

    private static void noData() {
        right(true, true, true, "", "");
    }

    /** "E 82, if there would be more than 3000 in all .. E 68 if DATA is WRONG; the first along DATA". */
    private static void roomAlongData() {
        String[][] due = {{"abc", "2Y", "2 0 2 3000"}, {"ab", "2Y", "2 0 2 2999"}, {"abcd", "2Y 2E(R)", "4 82 1 2997"}, {"~#a", "2Y", "2 0 2 3000"},
            {"~$a", "2Y 2E(R)", "4 82 1 2997"}, {"a~\"b", "2Y", "2 0 2 3000"}, {"a~#b", "2Y 2E(R)", "4 82 1 2997"}, {"abc#", "2Y 2E(D)", "4 68 1 2997"},
            {"abcd#", "2Y 2E(R)", "4 82 1 2997"}, {"ab#", "2Y 2E(D)", "4 68 1 2997"}, {"ab~ cde", "2Y 2E(D)", "4 68 1 2997"}, {"abcd~ e", "2Y 2E(R)", "4 82 1 2997"},
            {"~$a#", "2Y 2E(R)", "4 82 1 2997"}, {"~$", "2Y 2E(D)", "4 68 1 2997"}, {"abc~$", "2Y 2E(D)", "4 68 1 2997"}};
        for (String[] d : due) {
            Bench b = new Bench();
            b.store(1, "OLD", "x".repeat(2997), 1);
            Script s = reads(b, false, true, false, d[0]);
            Bench.same("answers to " + d[0] + " with room for three", s.last(), d[1]);
            Bench.same("END 1 then", s.b.about(1, 0, 1, 16, 17), d[2]);
        }
    }

    /** "F: DATA is the NAME. A: .. Z: no DATA, or D .. B: none. E: one byte .. Y of A: Y, or N .. Y of others but S, N: none." */
    private static void dataOfEachType() {
        Bench b = Bench.sending(8, 1, "abc", "", "de");
        b.store(1, "OLD", "x".repeat(2998), 1);
        Bench.rounds(b, 1);
        String[] sent = {"1F(F0)", "2A(1!3#(00000010)", "3Z(D)", "4F(F1)", "5A(1!0#(00000011)", "6Z", "7F(F2)", "8A(1!2#(00000012)", "9D(de)", "10Z", "11B"};
        String[] answered = {"1Y", "2Y(N)", "3Y", "4Y", "5Y(Y)", "6Y", "7Y", "8Y(Y)", "9Y", "10Y", "11Y"};
        for (int i = 0; i < sent.length; i++) {
            Bench.same("packet " + i, b.texts(1, 1), sent[i]);
            b.x.deliver(1);
            Bench.same("answer " + i, b.texts(0, 1), answered[i]);
            b.x.deliver(0);
        }
        Bench.same("both DONE", b.about(0, 0, 4, 5) + " " + b.about(1, 0, 4, 5, 16, 17), "3 2 1 3 2 1 3 3000");
        Bench n = Bench.rounds(Bench.sending(8, 1, "abc"), 1);
        n.x.timer(1);
        Bench.same("N", n.texts(0, 1), "1N");
    }

    /** "49, a length's byte + 32, the FILE's size in decimal; 35, 40, its DATE in eight digits". */
    private static void sizes() {
        int[] size = {0, 1, 9, 10, 11, 99, 100, 101, 999, 1000, 1001, 2999, 3000};
        String[] due = {"1!0", "1!1", "1!9", "1\"10", "1\"11", "1\"99", "1#100", "1#101", "1#999", "1$1000", "1$1001", "1$2999", "1$3000"};
        for (int i = 0; i < size.length; i++) {
            Bench b = new Bench().setBoth(2, 1).setBoth(4, 8);
            b.store(0, "A", "x".repeat(size[i]), 1);
            b.x.send(0, 0, 1);
            Bench.rounds(b, 2);
            Bench.same("A of size " + size[i], b.data(1, 0, 1), due[i] + "#(00000001");
        }
        int[] date = {0, 9, 10, 12345678, 9999999, 10000000, 99999998, 99999999};
        String[] told = {"00000000", "00000009", "00000010", "12345678", "09999999", "10000000", "99999998", "99999999"};
        for (int i = 0; i < date.length; i++) {
            Bench b = new Bench().setBoth(2, 1).setBoth(4, 8);
            b.store(0, "A", "", date[i]);
            b.x.send(0, 0, 1);
            Bench.rounds(b, 2);
            Bench.same("A of DATE " + date[i], b.data(1, 0, 1), "1!0#(" + told[i]);
            b.settle();
            Bench.same("as it came", b.x.told(1, 0, 1), date[i]);
        }
    }
}
