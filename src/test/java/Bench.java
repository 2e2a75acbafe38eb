import java.util.NoSuchElementException;

/** What the tests share: one object with handy calls, and the counting of wrong answers. */
final class Bench {
    private static int wrong = 0;
    private static int checks = 0;

    final Renewed x;

    Bench() {
        this(new Renewed());
    }

    private Bench(Renewed x) {
        this.x = x;
    }

    /** Another object to which the same has happened. */
    Bench copy() {
        return new Bench(x.copy());
    }

    /** CHECK 1 and no RUNS; END 0 has FILES of these bytes, named F0, F1 .., with DATES 10, 11 .., and has sent S. */
    static Bench sending(int capas, int window, String... files) {
        Bench b = new Bench().setBoth(2, 1).setBoth(3, 32).setBoth(4, capas).setBoth(5, window);
        for (int i = 0; i < files.length; i++) {
            b.store(0, "F" + i, files[i], 10 + i);
        }
        b.x.send(0, 0, files.length);
        return b;
    }

    /** One packet to END 1 and one to END 0, so many times. */
    static Bench rounds(Bench b, int n) {
        for (int i = 0; i < n; i++) {
            b.x.deliver(1);
            b.x.deliver(0);
        }
        return b;
    }

    /** Bytes that go into so many D's of CHECK 1 and MAXL 94. */
    static String fill(int packets) {
        return "x".repeat(91 * packets);
    }

    static void same(String what, Object got, Object due) {
        checks++;
        if (!String.valueOf(got).equals(String.valueOf(due))) {
            wrong++;
            System.out.println(what + " answered " + readable(got) + ", due is " + readable(due));
        }
    }

    /** Ends the test: exit code 1 if an answer was wrong. */
    static void end(String test) {
        System.out.println(test + ": " + checks + " answers, " + wrong + " wrong");
        if (wrong != 0) {
            System.exit(1);
        }
    }

    private static String readable(Object o) {
        StringBuilder text = new StringBuilder();
        for (char c : String.valueOf(o).toCharArray()) {
            text.append(c < 32 || c > 126 ? "<" + (int) c + ">" : String.valueOf(c));
        }
        return text.toString();
    }

    interface Call {
        int run();
    }

    static void throwsNone(String what, Call call) {
        String got;
        try {
            got = "" + call.run();
        } catch (NoSuchElementException e) {
            got = "NoSuchElementException";
        }
        same(what, got, "NoSuchElementException");
    }

    /** Puts a text's signs (0 .. 255) on the tape, filled up with 0 to a multiple of twenty. */
    void feed(String text) {
        for (int at = 0; at < text.length(); at += 20) {
            int[] v = new int[5];
            for (int i = 0; i < 20; i++) {
                int b = at + i < text.length() ? text.charAt(at + i) : 0;
                v[i / 4] = v[i / 4] << 8 | b;
            }
            x.feed(v[0], v[1], v[2], v[3], v[4]);
        }
    }

    int store(int end, String name, String bytes, int date) {
        feed(name + bytes);
        return x.file(end, name.length(), bytes.length(), date);
    }

    Bench setBoth(int what, int v) {
        x.set(0, what, v);
        x.set(1, what, v);
        return this;
    }

    String packet(int end, int k) {
        StringBuilder text = new StringBuilder();
        for (int i = 0; x.look(end, k, i) != KermitLine.NONE; i++) {
            text.append((char) x.look(end, k, i));
        }
        return text.toString();
    }

    /** SEQ and TYPE of all packets to an END, such as "3D 4D". */
    String heads(int end) {
        StringBuilder text = new StringBuilder();
        for (int k = 0; k < x.line(end); k++) {
            text.append(k == 0 ? "" : " ").append(x.look(end, k, 2) - 32).append((char) x.look(end, k, 3));
        }
        return text.toString();
    }

    /** SEQ, TYPE and DATA (if any) of all packets to an END that have a CHECK of so many bytes, such as "3Y 4Y(N)". */
    String texts(int end, int check) {
        StringBuilder text = new StringBuilder();
        for (int k = 0; k < x.line(end); k++) {
            String data = data(end, k, check);
            text.append(k == 0 ? "" : " ").append(x.look(end, k, 2) - 32).append((char) x.look(end, k, 3));
            text.append(data.isEmpty() ? "" : "(" + data + ")");
        }
        return text.toString();
    }

    /** DATA of a packet that has a CHECK of so many bytes. */
    String data(int end, int k, int check) {
        String p = packet(end, k);
        return p.substring(4, p.length() - 1 - check);
    }

    void put(int end, int k, int i, int b) {
        if (x.look(end, k, i) != b) {
            x.spoil(end, k, i, x.look(end, k, i) ^ b);
        }
    }

    /** Makes other SEQ, TYPE and DATA (cut or filled up with blanks) of a packet, and its CHECK right. */
    void forge(int end, int k, int seq, char type, String data, int check) {
        String p = packet(end, k);
        int room = p.length() - 5 - check;
        StringBuilder fitted = new StringBuilder(data);
        while (fitted.length() < room) {
            fitted.append(' ');
        }
        fitted.setLength(room);
        String q = Model.packet(seq, type, fitted.toString(), check);
        for (int i = 0; i < q.length(); i++) {
            put(end, k, i, q.charAt(i));
        }
    }

    /** Changes one byte of a packet, and makes its CHECK right. */
    void alter(int end, int k, int i, int b, int check) {
        put(end, k, i, b);
        String p = packet(end, k);
        String due = Model.check(check, p.substring(1, p.length() - 1 - check));
        for (int c = 0; c < check; c++) {
            put(end, k, p.length() - 1 - check + c, due.charAt(c));
        }
    }

    void clear(int end) {
        for (int k = x.line(end); k > 0; k--) {
            x.lose(end, 0);
        }
    }

    /**
     * A packet without DATA comes to END 0 while END 1 receives: the N of END 1's timer, with another SEQ and TYPE.
     * What was on the line to END 0 is lost.
     */
    int reply(int seq, char type, int check) {
        clear(0);
        x.timer(1);
        put(0, 0, 2, seq + 32);
        alter(0, 0, 3, type, check);
        return x.deliver(0);
    }

    /** All that can be seen of both ENDS, the line and the tape; SETTINGS only of an END that is at rest. */
    String all() {
        StringBuilder text = new StringBuilder();
        Bench other = copy();
        int[] first = {94, 89, 3, 126, 44, 8, 5};
        for (int end = 0; end < 2; end++) {
            for (int what = 0; what < 18; what++) {
                text.append(x.about(end, what)).append(' ');
            }
            for (int what = 0; what < first.length; what++) {
                text.append(other.x.set(end, what, first[what])).append(' ');
            }
            for (int file = 0; file < x.about(end, 16); file++) {
                text.append(name(end, file)).append(' ').append(x.told(end, file, 1)).append(' ').append(x.told(end, file, 3));
                text.append(' ').append(content(end, file)).append(' ');
            }
            for (int k = 0; k < x.line(end); k++) {
                text.append(packet(end, k));
            }
        }
        return text.append(other.x.feed(0, 0, 0, 0, 0)).toString();
    }

    /** Delivers all, first to END 1, until nothing is on the line. */
    void settle() {
        for (int i = 0; i < 5000 && x.line(0) + x.line(1) > 0; i++) {
            x.deliver(1);
            x.deliver(0);
        }
    }

    String content(int end, int file) {
        StringBuilder text = new StringBuilder();
        for (int i = 0; i < x.told(end, file, 0); i++) {
            text.append((char) x.content(end, file, i));
        }
        return text.toString();
    }

    String name(int end, int file) {
        StringBuilder text = new StringBuilder();
        for (int i = 0; i < x.told(end, file, 2); i++) {
            text.append((char) x.told(end, file, 4 + i));
        }
        return text.toString();
    }

    /** about() of some numbers in a row, such as "3 0". */
    String about(int end, int... whats) {
        StringBuilder text = new StringBuilder();
        for (int what : whats) {
            text.append(text.length() == 0 ? "" : " ").append(x.about(end, what));
        }
        return text.toString();
    }

    static String times(String s, int n) {
        return s.repeat(n);
    }
}
