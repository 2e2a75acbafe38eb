/** Terms 3: how a FILE's bytes are told in DATA, and read (promises 6, 7, 13, 16). */
public final class DataTest {
    private static final int LOCKING = 32;

    public static void main(String[] args) {
        plain();
        runs();
        prefix();
        shifts();
        shiftsAndPrefix();
        lengths();
        shiftAtThePacketsEnd();
        shiftOfEachFile();
        attributes();
        allBytes();
        reading();
        readingWrong();
        firstFaultAlongData();
        Bench.end("DataTest");
    }

    /** An object the settings of which make PREFIX, RUNS and locking shifts agreed on or not. */
    private static Bench bench(boolean prefix, boolean runs, boolean shifts) {
        Bench b = new Bench().setBoth(2, 1);
        b.setBoth(1, prefix ? 38 : 78);
        b.setBoth(3, runs ? 126 : 32);
        b.setBoth(4, (shifts ? LOCKING : 0) + 4);
        return b;
    }

    /** DATA of all D's of a FILE, with a bar between them. */
    private static String spelled(Bench b, String bytes) {
        b.store(0, "A", bytes, 1);
        b.x.send(0, 0, 1);
        StringBuilder text = new StringBuilder();
        for (int i = 0; i < 500 && b.x.line(0) + b.x.line(1) > 0; i++) {
            if (b.x.line(1) > 0 && b.x.look(1, 0, 3) == 'D') {
                text.append(text.length() == 0 ? "" : "|").append(b.data(1, 0, 1));
            }
            b.x.deliver(1);
            b.x.deliver(0);
        }
        Bench.same("both DONE", b.x.about(0, 0) + " " + b.x.about(1, 0), "3 3");
        return text.toString();
    }

    private static void say(Bench b, String bytes, String due) {
        Bench.same("DATA", spelled(b, bytes), due);
        Bench.same("what is read of " + due, b.content(1, 0), bytes);
    }

    private static void plain() {
        say(bench(false, false, false), "AZ az09~&", "AZ az09~&");
        say(bench(false, false, false), "#", "##");
        say(bench(false, false, false), "\0\1\37\177 ", "#@#A#_#? ");
        say(bench(false, false, false), "\16\17\20NOP", "#N#O#PNOP");
        say(bench(false, false, false), "aaaaaaaaaa", "aaaaaaaaaa");
        Bench b = bench(false, false, false);
        Bench.same("h is lost", spelled(b, "\u00c1\u0080\u00ff\u00a3"), "A#@#?##");
        Bench.same("as it came", b.content(1, 0), "A\0\177#");
    }

    private static void runs() {
        say(bench(false, true, false), "aaa", "aaa");
        say(bench(false, true, false), "aaaa", "~$a");
        say(bench(false, true, false), "baaaaac", "b~%ac");
        say(bench(false, true, false), Bench.times("x", 94), "~~x");
        say(bench(false, true, false), Bench.times("x", 95), "~~xx");
        say(bench(false, true, false), Bench.times("x", 98), "~~x~$x");
        say(bench(false, true, false), Bench.times("~", 4) + "~&", "~%#~&");
        say(bench(false, true, false), "~", "#~");
        say(bench(false, true, false), "\0\0\0\0####\177\177\177\177", "~$#@~$##~$#?");
        Bench b = bench(false, true, false);
        Bench.same("bytes that differ by h are no run", spelled(b, "AA\u00c1\u00c1"), "AAAA");
        Bench c = bench(false, true, false);
        Bench.same("a run the h of which is lost", spelled(c, "\u00c1\u00c1\u00c1\u00c1"), "~$A");
    }

    private static void prefix() {
        say(bench(true, false, false), "A\u00c1&\u00a6", "A&A#&&#&");
        say(bench(true, false, false), "\u0080\u00ff\u00a3~\u00fe", "&#@&#?&##~&~");
        say(bench(true, true, false), "\u00c1\u00c1\u00c1\u00c1\u00c1", "~%&A");
        say(bench(true, true, false), "\u00fe\u00fe\u00fe\u00fe\u00fe~", "~%&#~#~");
        say(bench(true, false, false), "\u00c1\u00c1\u00c1\u00c1", "&A&A&A&A");
    }

    private static void shifts() {
        say(bench(false, false, true), "A\u00c1\u00c2BC", "A#NAB#OBC");
        say(bench(false, false, true), "\u00c1", "#NA");
        say(bench(false, false, true), "\16\17\20\15\21", "#P#N#P#O#P#P#M#Q");
        say(bench(false, false, true), "\u008e\u0090", "#N#P#N#P#P");
        say(bench(false, true, true), "\u00c1\u00c1\u00c1\u00c1AAAA", "#N~$A#O~$A");
        say(bench(false, true, true), "\u008f\u008f\u008f\u008f\u008f", "#N~%#P#O");
        say(bench(false, false, true), "&\u00a6", "&#N&");
    }

    private static void shiftsAndPrefix() {
        say(bench(true, false, true), "A\u00c1B", "A&AB");
        say(bench(true, false, true), "A\u00c1\u00c2\u00c3B", "A&A&B&CB");
        say(bench(true, false, true), "A\u00c1\u00c2\u00c3\u00c4B", "A#NABCD&B");
        say(bench(true, false, true), "\u00c1\u00c2\u00c3\u00c4ABC\u00c5ABCD", "#NABCD&A&B&CE#OABCD");
        say(bench(true, false, true), "A\u00c1\u00c2\u00c3", "A&A&B&C");
        say(bench(true, true, true), "\u00c1\u00c1\u00c1\u00c1AAA", "#N~$A&A&A&A");
        say(bench(true, true, true), "\u00c1\u00c1\u00c1A\u00c1\u00c1\u00c1\u00c1", "&A&A&AA#N~$A");
        say(bench(true, true, true), "\u008e&\u00a6", "&#P#N#&&#&");
    }

    private static void lengths() {
        for (int check = 1; check <= 3; check++) {
            for (int maxl = 24; maxl <= 94; maxl += 10) {
                Bench b = bench(false, false, false).setBoth(2, check);
                b.x.set(1, 0, maxl);
                b.store(0, "A", Bench.times("a#", 300), 1);
                b.x.send(0, 0, 1);
                Bench.rounds(b, 2);
                // Two ITEMS are three bytes: a third is left empty where # would stand alone.
                int room = maxl - 2 - check;
                int due = room % 3 == 2 ? maxl - 1 : maxl;
                Bench.same("LEN with MAXL " + maxl + " CHECK " + check, b.x.look(1, 0, 1) - 32, due);
                Bench.same("all bytes there", b.packet(1, 0).length(), due + 3);
                b.settle();
                Bench.same("content", b.content(1, 0), Bench.times("a#", 300));
            }
        }
    }

    private static void shiftAtThePacketsEnd() {
        // MAXL 24 and CHECK 1 leave 21 bytes: #N and what it is for go into the next one together.
        Bench b = bench(false, false, true);
        b.setBoth(0, 24);
        say(b, Bench.times("a", 19) + "\u00c1\u00c2", Bench.times("a", 19) + "|#NAB");
        Bench c = bench(false, false, true);
        c.setBoth(0, 24);
        say(c, Bench.times("a", 18) + "\u00c1\u00c2", Bench.times("a", 18) + "#NA|B");
        Bench d = bench(false, true, true);
        d.setBoth(0, 24);
        say(d, "ab".repeat(8) + "\u008e\u008e\u008e\u008e\u008ec", "ab".repeat(8) + "|#N~%#P#N#Oc");
        Bench e = bench(false, false, true);
        e.setBoth(0, 24);
        say(e, "\u00c1".repeat(30), "#N" + "A".repeat(19) + "|" + "A".repeat(11));
    }

    private static void shiftOfEachFile() {
        Bench b = bench(false, false, true);
        b.store(0, "A", "\u00c1", 1);
        b.store(0, "B", "a", 1);
        b.store(0, "C", "\u00c1", 1);
        b.x.send(0, 0, 3);
        b.settle();
        Bench.same("SHIFT is 0 at each FILE's beginning", b.content(1, 0) + b.content(1, 1) + b.content(1, 2), "\u00c1a\u00c1");
        Bench c = bench(false, false, true);
        c.store(0, "A", "\u00c1", 1);
        c.store(0, "B", "a", 1);
        c.x.send(0, 0, 2);
        Bench.rounds(c, 5);
        Bench.same("no #O at the second FILE's beginning", c.data(1, 0, 1), "a");
    }

    private static void attributes() {
        int[] sizes = {0, 9, 10, 99, 100, 999, 1000, 3000};
        String[] due = {"1!0", "1!9", "1\"10", "1\"99", "1#100", "1#999", "1$1000", "1$3000"};
        for (int i = 0; i < sizes.length; i++) {
            Bench b = new Bench();
            b.store(0, "A", Bench.times("x", sizes[i]), i == 0 ? 7 : 20261116);
            b.x.send(0, 0, 1);
            Bench.rounds(b, 2);
            Bench.same("A", b.data(1, 0, 3), due[i] + (i == 0 ? "#(00000007" : "#(20261116"));
            b.settle();
            Bench.same("it came", b.x.told(1, 0, 0) + " " + b.x.told(1, 0, 1), sizes[i] + (i == 0 ? " 7" : " 20261116"));
        }
        Bench most = new Bench();
        most.store(0, "ABCDEFGHIJKL", "x", 99999999);
        most.x.send(0, 0, 1);
        most.settle();
        Bench.same("NAME and DATE", most.name(1, 0) + most.x.told(1, 0, 1), "ABCDEFGHIJKL99999999");
    }

    private static void allBytes() {
        StringBuilder all = new StringBuilder();
        for (int i = 0; i < 256; i++) {
            all.append((char) i).append((char) (255 - i)).append((char) (i * 7 % 256));
        }
        for (int i = 0; i < 256; i++) {
            all.append(Bench.times("" + (char) i, i % 7));
        }
        for (int mix = 0; mix < 8; mix++) {
            boolean prefix = (mix & 1) != 0;
            boolean shifts = (mix & 4) != 0;
            for (int maxl = 24; maxl <= 94; maxl += 35) {
                Bench b = bench(prefix, (mix & 2) != 0, shifts).setBoth(0, maxl);
                b.store(0, "ALL", all.toString(), 1);
                b.x.send(0, 0, 1);
                b.settle();
                StringBuilder due = new StringBuilder(all);
                for (int i = 0; i < due.length() && !prefix && !shifts; i++) {
                    due.setCharAt(i, (char) (due.charAt(i) % 128));
                }
                Bench.same("mix " + mix, b.content(1, 0), due);
            }
        }
    }

    /** Delivers a D with the DATA that is given to an END 1 that has begun a FILE; its DATA as long as this. */
    private static Bench read(boolean prefix, boolean runs, boolean shifts, String data) {
        Bench b = bench(prefix, runs, shifts);
        b.store(0, "A", Bench.times("ab", 50).substring(0, data.length()), 1);
        b.x.send(0, 0, 1);
        Bench.rounds(b, 2);
        b.forge(1, 0, 2, 'D', data, 1);
        Bench.same("it is GOOD", b.x.deliver(1), 2);
        return b;
    }

    private static void right(boolean prefix, boolean runs, boolean shifts, String data, String due) {
        Bench b = read(prefix, runs, shifts, data);
        Bench.same("state", b.x.about(1, 0), 2);
        Bench.same("read of " + data, b.content(1, 0), due);
    }

    private static void wrong(boolean prefix, boolean runs, boolean shifts, String data) {
        Bench b = read(prefix, runs, shifts, data);
        Bench.same("state of wrong DATA " + data, b.about(1, 0, 1, 2, 16, 17), "4 68 3 0 0");
        Bench.same("Y and E", b.heads(0), "2Y 2E");
        Bench.same("E's byte", b.data(0, 1, 1), "D");
    }

    private static void reading() {
        right(false, false, false, "~&#~#&#a", "~&~&a");
        right(false, false, false, "\u00c1#\u00bf#\u00c0#`", "A?@`");
        right(false, false, false, "#?#@#_", "\177\0\37");
        right(false, false, false, "\3\377", "\3\177");
        right(false, false, false, "\0a#\0\200", "\0a\0\0");
        right(false, true, false, "~!a~\"b", "abb");
        right(false, true, false, "~~a", Bench.times("a", 94));
        right(false, true, false, "~#~", "~~~");
        right(true, false, false, "&a&#A&##", "\u00e1\u0081\u00a3");
        right(true, false, false, "&&#&", "\u00a6&");
        right(true, true, false, "~#&a", "\u00e1\u00e1\u00e1");
        right(true, true, false, "&~a", "\u00fea");
        right(false, false, true, "#N#O#Na#OA", "\u00e1A");
        right(false, false, true, "#P#N#P#O#PA#PNx", "\16\17ANx");
        right(false, false, true, "#N#P#P#Pb", "\u0090\u00e2");
        right(false, true, true, "~##N", "\16\16\16");
        right(true, true, true, "#N&a~#&bc", "abbb\u00e3");
        right(true, false, true, "&#Nx", "\u008ex");
        right(false, false, false, "#N#O#P", "\16\17\20");
    }

    private static void readingWrong() {
        wrong(false, false, false, "ab#");
        wrong(false, true, false, "ab~");
        wrong(false, true, false, "ab~!");
        wrong(false, true, false, "~ ab");
        wrong(false, true, false, "~\37ab");
        wrong(false, true, false, "~\177ab");
        wrong(false, true, false, "~#a~$#");
        wrong(true, false, false, "a&");
        wrong(true, false, false, "a&#");
        wrong(false, false, true, "a#N");
        wrong(false, false, true, "a#P");
        wrong(false, false, true, "#N#O");
        wrong(true, true, true, "#N~#&#P#");
    }

    /** END 1 has a STORE that only so many bytes go into; the D that comes has this DATA. */
    private static String fault(int room, String data) {
        Bench b = bench(false, true, false);
        b.store(1, "OLD", Bench.times("x", 3000 - room), 1);
        b.store(0, "A", Bench.times("ab", 50).substring(0, data.length()), 1);
        b.x.send(0, 0, 1);
        Bench.rounds(b, 2);
        b.forge(1, 0, 2, 'D', data, 1);
        b.x.deliver(1);
        return b.about(1, 0, 1, 16, 17);
    }

    private static void firstFaultAlongData() {
        Bench.same("it just goes", fault(4, "ab~\"c"), "2 0 2 3000");
        Bench.same("one too many", fault(3, "ab~\"c"), "4 82 1 2997");
        Bench.same("wrong ahead of too many", fault(3, "ab~ cdefg"), "4 68 1 2997");
        Bench.same("too many ahead of wrong", fault(3, "abcd~ e"), "4 82 1 2997");
        Bench.same("wrong when it is just full", fault(3, "abc~"), "4 68 1 2997");
        Bench.same("no room at all", fault(0, "a"), "4 82 1 3000");
    }
}
