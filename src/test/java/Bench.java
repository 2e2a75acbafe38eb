import java.util.NoSuchElementException;

/** What the tests share: one object with handy calls, and the counting of wrong answers. */
final class Bench {
    private static int wrong = 0;
    private static int checks = 0;

    final KermitLine x = new KermitLine();

    /** CHECK 1 and no RUNS; END 0 has FILES of these bytes, named F0, F1 .., with DATES 10, 11 .., and has sent S. */
    static Bench sending(int capas, int window, String... files) {
        Bench b = new Bench().setBoth(2, 1).setBoth(3, 32).setBoth(4, capas).setBoth(5, window);
        for (int i = 0; i < files.length; i++) {
            b.store(0, "F" + i, files[i], 10 + i);
        }
        b.x.send(0, 0, files.length);
        return b;
    }

    /** One packet to END 1 and one to END 0, so many times. */
    static Bench rounds(Bench b, int n) {
        for (int i = 0; i < n; i++) {
            b.x.deliver(1);
            b.x.deliver(0);
        }
        return b;
    }

    /** Bytes that go into so many D's of CHECK 1 and MAXL 94. */
    static String fill(int packets) {
        return "x".repeat(91 * packets);
    }

    static void same(String what, Object got, Object due) {
        checks++;
        if (!String.valueOf(got).equals(String.valueOf(due))) {
            wrong++;
            System.out.println(what + " answered " + readable(got) + ", due is " + readable(due));
        }
    }

    /** Ends the test: exit code 1 if an answer was wrong. */
    static void end(String test) {
        System.out.println(test + ": " + checks + " answers, " + wrong + " wrong");
        if (wrong != 0) {
            System.exit(1);
        }
    }

    private static String readable(Object o) {
        StringBuilder text = new StringBuilder();
        for (char c : String.valueOf(o).toCharArray()) {
            text.append(c < 32 || c > 126 ? "<" + (int) c + ">" : String.valueOf(c));
        }
        return text.toString();
    }

    interface Call {
        int run();
    }

    static void throwsNone(String what, Call call) {
        String got;
        try {
            got = "" + call.run();
        } catch (NoSuchElementException e) {
            got = "NoSuchElementException";
        }
        same(what, got, "NoSuchElementException");
    }

    /** Puts a text's signs (0 .. 255) on the tape, filled up with 0 to a multiple of twenty. */
    void feed(String text) {
        for (int at = 0; at < text.length(); at += 20) {
            int[] v = new int[5];
            for (int i = 0; i < 20; i++) {
                int b = at + i < text.length() ? text.charAt(at + i) : 0;
                v[i / 4] = v[i / 4] << 8 | b;
            }
            x.feed(v[0], v[1], v[2], v[3], v[4]);
        }
    }

    int store(int end, String name, String bytes, int date) {
        feed(name + bytes);
        return x.file(end, name.length(), bytes.length(), date);
    }

    Bench setBoth(int what, int v) {
        x.set(0, what, v);
        x.set(1, what, v);
        return this;
    }

    String packet(int end, int k) {
        StringBuilder text = new StringBuilder();
        for (int i = 0; x.look(end, k, i) != KermitLine.NONE; i++) {
            text.append((char) x.look(end, k, i));
        }
        return text.toString();
    }

    /** SEQ and TYPE of all packets to an END, such as "3D 4D". */
    String heads(int end) {
        StringBuilder text = new StringBuilder();
        for (int k = 0; k < x.line(end); k++) {
            text.append(k == 0 ? "" : " ").append(x.look(end, k, 2) - 32).append((char) x.look(end, k, 3));
        }
        return text.toString();
    }

    /** DATA of a packet that has a CHECK of so many bytes. */
    String data(int end, int k, int check) {
        String p = packet(end, k);
        return p.substring(4, p.length() - 1 - check);
    }

    void put(int end, int k, int i, int b) {
        x.spoil(end, k, i, x.look(end, k, i) ^ b);
    }

    /** Makes other SEQ, TYPE and DATA (cut or filled up with blanks) of a packet, and its CHECK right. */
    void forge(int end, int k, int seq, char type, String data, int check) {
        String p = packet(end, k);
        int room = p.length() - 5 - check;
        StringBuilder fitted = new StringBuilder(data);
        while (fitted.length() < room) {
            fitted.append(' ');
        }
        fitted.setLength(room);
        String q = Model.packet(seq, type, fitted.toString(), check);
        for (int i = 0; i < q.length(); i++) {
            put(end, k, i, q.charAt(i));
        }
    }

    /** Changes one byte of a packet, and makes its CHECK right. */
    void alter(int end, int k, int i, int b, int check) {
        put(end, k, i, b);
        String p = packet(end, k);
        String due = Model.check(check, p.substring(1, p.length() - 1 - check));
        for (int c = 0; c < check; c++) {
            put(end, k, p.length() - 1 - check + c, due.charAt(c));
        }
    }

    void clear(int end) {
        while (x.lose(end, 0)) {
            continue;
        }
    }

    /** Delivers all, first to END 1, until nothing is on the line. */
    void settle() {
        for (int i = 0; i < 5000 && x.line(0) + x.line(1) > 0; i++) {
            x.deliver(1);
            x.deliver(0);
        }
    }

    String content(int end, int file) {
        StringBuilder text = new StringBuilder();
        for (int i = 0; i < x.told(end, file, 0); i++) {
            text.append((char) x.content(end, file, i));
        }
        return text.toString();
    }

    String name(int end, int file) {
        StringBuilder text = new StringBuilder();
        for (int i = 0; i < x.told(end, file, 2); i++) {
            text.append((char) x.told(end, file, 4 + i));
        }
        return text.toString();
    }

    /** about() of some numbers in a row, such as "3 0". */
    String about(int end, int... whats) {
        StringBuilder text = new StringBuilder();
        for (int what : whats) {
            text.append(text.length() == 0 ? "" : " ").append(x.about(end, what));
        }
        return text.toString();
    }

    static String times(String s, int n) {
        return s.repeat(n);
    }
}
