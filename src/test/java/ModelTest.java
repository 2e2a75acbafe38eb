import java.util.NoSuchElementException;
import java.util.Random;
import java.util.TreeMap;

/** Long random runs: every answer of the program is held against the slow Model's. All promises, 1 to 16. */
public final class ModelTest {
    private static final int RUNS = 600;
    /** Calls that change something; the rest up to 512 is left to look at what came of them. */
    private static final int CHANGES = 440;
    private static final int[] EDGES = {-2147483648, -2, -1, 2, 3, 8, 16, 18, 31, 100, 2147483647};
    private static final int[][] FIRST = {{24, 25, 30, 50, 94}, {78, 89, 38}, {1, 2, 3}, {126, 126, 32},
        {0, 4, 8, 12, 32, 36, 40, 44}, {1, 2, 3, 5, 8, 16, 31}, {1, 2, 5, 20}};

    private static final TreeMap<String, Integer> SEEN = new TreeMap<>();

    private final Bench bench = new Bench();
    private final Renewed x = bench.x;
    private final Model m = new Model();
    private final Random random;
    private final int run;
    private final StringBuilder log = new StringBuilder();
    private boolean broken = false;

    private ModelTest(int run) {
        this.run = run;
        random = new Random(run);
    }

    public static void main(String[] args) {
        int runs = args.length > 0 ? Integer.parseInt(args[0]) : RUNS;
        for (int run = 1; run <= runs; run++) {
            ModelTest test = new ModelTest(run);
            test.go();
            if (test.broken) {
                break;
            }
        }
        for (String kind : "state 0,state 1,state 2,state 3,state 4,why 68,why 80,why 82,why 84,refused,kept,spoiled".split(",")) {
            Bench.same("runs that saw " + kind + " are there", SEEN.containsKey(kind), true);
        }
        if (args.length > 0) {
            System.out.println(SEEN);
        }
        Bench.end("ModelTest");
    }

    private int pick(int n) {
        return random.nextInt(n);
    }

    private int anEnd() {
        return pick(200) == 0 ? EDGES[pick(EDGES.length)] : pick(2);
    }

    private int small(int n) {
        return pick(100) == 0 ? EDGES[pick(EDGES.length)] : pick(Math.max(1, n));
    }

    private int same(String call, int got, int due) {
        if (!call.startsWith("about") && !call.startsWith("line")) {
            log.append(call).append(" -> ").append(due).append('\n');
        }
        Bench.same("run " + run + ": " + call, got, due);
        if (got != due) {
            broken = true;
        }
        return due;
    }

    private static int bit(boolean b) {
        return b ? 1 : 0;
    }

    private static String tried(Bench.Call call) {
        try {
            return "" + call.run();
        } catch (NoSuchElementException e) {
            return "throws";
        }
    }

    private void sameOrThrown(String call, Bench.Call got, Bench.Call due) {
        String g = tried(got);
        String d = tried(due);
        Bench.same("run " + run + ": " + call, g, d);
        broken |= !g.equals(d);
    }

    private void go() {
        prepare();
        int calls = 60 + pick(400);
        int calm = pick(3);
        for (int i = 0; i < calls && x.changes() < CHANGES && !broken; i++) {
            step(calm);
            compareEnds();
            if (i % 50 == 0) {
                compareAll();
            }
        }
        for (int i = 0; i < 30 && !broken; i++) {
            callDeliver(i % 2);
        }
        compareAll();
        if (broken && System.getenv("TRACE") != null) {
            System.out.println(log);
        }
    }

    private void prepare() {
        int same = pick(2);
        for (int what = 0; what < 7; what++) {
            int v = FIRST[what][pick(FIRST[what].length)];
            if (pick(2) == 0) {
                callSet(0, what, v);
                callSet(1, what, same == 0 ? v : FIRST[what][pick(FIRST[what].length)]);
            }
        }
        int files = 1 + pick(4);
        for (int i = 0; i < files; i++) {
            storeSome(0, pick(3) == 0 ? pick(1500) : pick(200));
        }
        if (pick(2) == 0) {
            int others = pick(9);
            for (int i = 0; i < others; i++) {
                storeSome(1, pick(3) == 0 ? pick(2500) : pick(50));
            }
        }
        callSend(0, 0, 1 + pick(files));
    }

    private String someBytes(int n) {
        StringBuilder text = new StringBuilder();
        int kind = pick(6);
        while (text.length() < n) {
            int b = pick(256);
            int repeat = 1;
            if (kind == 1) {
                repeat = 1 + pick(120);
            } else if (kind == 2) {
                b = "#&~NOP\u007f\u000e\u000f\u0010\u00a3\u00a6\u00fe\u00ff\u008e".charAt(pick(15));
                repeat = 1 + pick(6);
            } else if (kind == 3) {
                b = 32 + pick(95);
            } else if (kind == 4) {
                int half = 128 * pick(2);
                for (int k = pick(7); k > 0; k--) {
                    text.append((char) (half + pick(128)));
                }
                b = half + pick(128);
            } else if (kind == 5) {
                repeat = 1 + pick(5);
            }
            for (int k = 0; k < repeat; k++) {
                text.append((char) b);
            }
        }
        text.setLength(n);
        return text.toString();
    }

    private void storeSome(int end, int most) {
        // Twenty bytes are a call: what is fed at the beginning leaves calls for what follows.
        int n = Math.min(most, Math.max(40, 20 * (CHANGES / 2 - x.changes())));
        StringBuilder name = new StringBuilder();
        int signs = 1 + pick(12);
        for (int i = 0; i < signs; i++) {
            name.append("ABCXYZ0189.".charAt(pick(11)));
        }
        if (pick(30) == 0) {
            name.append("a /@[:".charAt(pick(6)));
        }
        String all = name + someBytes(n);
        for (int at = 0; at < all.length(); at += 20) {
            int[] v = new int[5];
            for (int i = 0; i < 20; i++) {
                v[i / 4] = v[i / 4] << 8 | (at + i < all.length() ? all.charAt(at + i) : pick(256));
            }
            same("feed", x.feed(v[0], v[1], v[2], v[3], v[4]), m.feed(v[0], v[1], v[2], v[3], v[4]));
        }
        int date = pick(20) == 0 ? EDGES[pick(EDGES.length)] : pick(100000000);
        same("file(" + end + ", " + name.length() + ", " + n + ", " + date + ")", x.file(end, name.length(), n, date), m.file(end, name.length(), n, date));
    }

    private void callSet(int end, int what, int v) {
        same("set(" + end + ", " + what + ", " + v + ")", x.set(end, what, v), m.set(end, what, v));
    }

    private void callSend(int end, int first, int many) {
        same("send(" + end + ", " + first + ", " + many + ")", bit(x.send(end, first, many)), bit(m.send(end, first, many)));
    }

    private void callDeliver(int end) {
        same("deliver(" + end + ")", x.deliver(end), m.deliver(end));
    }

    private void callTimer(int end) {
        same("timer(" + end + ")", x.timer(end), m.timer(end));
    }

    private void callSpoil(int end, int k, int i, int mask) {
        same("spoil(" + end + ", " + k + ", " + i + ", " + mask + ")", x.spoil(end, k, i, mask), m.spoil(end, k, i, mask));
    }

    private void step(int calm) {
        int dice = pick(calm == 0 ? 100 : calm == 1 ? 200 : 600);
        int end = anEnd();
        int there = Math.max(0, x.line(end));
        if (dice < 12) {
            callTimer(end);
        } else if (dice < 20) {
            int k = small(there);
            same("lose(" + end + ", " + k + ")", bit(x.lose(end, k)), bit(m.lose(end, k)));
        } else if (dice < 25) {
            callSpoil(end, small(there), small(97), random.nextInt());
        } else if (dice < 45) {
            forge(pick(2));
        } else if (dice < 53) {
            int k = small(there);
            same("twice(" + end + ", " + k + ")", bit(x.twice(end, k)), bit(m.twice(end, k)));
        } else if (dice < 56) {
            callSend(end, small(3), 1 + small(3));
        } else if (dice < 58) {
            callSet(end, small(7), pick(2) == 0 ? small(45) : FIRST[pick(7)][0]);
        } else if (dice < 60) {
            storeSome(pick(2), pick(4) == 0 ? pick(3090) : pick(40));
        } else if (dice < 61) {
            int f = small(4);
            same("drop(" + end + ", " + f + ")", bit(x.drop(end, f)), bit(m.drop(end, f)));
        } else {
            callDeliver(end);
        }
    }

    /** Changes a packet so that it may well be GOOD, but another one. */
    private void forge(int end) {
        if (x.line(end) < 1) {
            return;
        }
        int k = pick(x.line(end));
        String p = bench.packet(end, k);
        StringBuilder q = new StringBuilder(p);
        int agreed = x.about(end, 11);
        int check = pick(5) == 0 || agreed == KermitLine.NONE || p.charAt(3) == 'S' ? 1 : agreed;
        int changes = pick(3);
        if (changes != 1) {
            q.setCharAt(3, "SFADZBYNEX".charAt(pick(10)));
        }
        if (changes == 1 || pick(4) == 0) {
            int around = x.about(end, 2) + pick(12) - 6;
            q.setCharAt(2, (char) (32 + (pick(4) == 0 ? pick(70) : around + 64) % 64));
        }
        int data = p.length() - 5 - check;
        if (data > 0 && pick(2) == 0) {
            int i = 4 + pick(data);
            int b = pick(2) == 0 ? pick(256) : "#~&NOPDY0 ".charAt(pick(10));
            q.setCharAt(i, (char) b);
        }
        if (data >= 0) {
            String due = Model.check(check, q.substring(1, p.length() - 1 - check));
            q.replace(p.length() - 1 - check, p.length() - 1, due);
        }
        for (int i = 0; i < p.length(); i++) {
            if (p.charAt(i) != q.charAt(i)) {
                callSpoil(end, k, i, p.charAt(i) ^ q.charAt(i));
            }
        }
    }

    private void compareEnds() {
        for (int end = 0; end < 2 && !broken; end++) {
            for (int what = 0; what < 18; what++) {
                same("about(" + end + ", " + what + ")", x.about(end, what), m.about(end, what));
            }
            same("line(" + end + ")", x.line(end), m.line(end));
            note(end);
        }
    }

    private void compareAll() {
        for (int end = 0; end < 2 && !broken; end++) {
            compareLine(end);
            compareStore(end);
        }
        final int wrongEnd = EDGES[pick(4)];
        final int wrongWhat = EDGES[random.nextInt(EDGES.length)];
        sameOrThrown("about(" + wrongEnd + ", 0)", () -> x.about(wrongEnd, 0), () -> m.about(wrongEnd, 0));
        sameOrThrown("about(0, " + wrongWhat + ")", () -> x.about(0, wrongWhat), () -> m.about(0, wrongWhat));
    }

    private void compareLine(int end) {
        int n = same("line(" + end + ")", x.line(end), m.line(end));
        for (int k = -1; k <= n; k++) {
            for (int i = -1; i < 98; i++) {
                if (x.look(end, k, i) != m.look(end, k, i)) {
                    same("look(" + end + ", " + k + ", " + i + ")", x.look(end, k, i), m.look(end, k, i));
                }
            }
        }
    }

    private void compareStore(int end) {
        for (int f = -1; f <= 8; f++) {
            final int file = f;
            for (int w = -1; w <= 16; w++) {
                final int what = w;
                sameOrThrown("told(" + end + ", " + file + ", " + what + ")", () -> x.told(end, file, what), () -> m.told(end, file, what));
            }
            String size = tried(() -> m.told(end, file, 0));
            int bytes = size.equals("throws") ? 0 : Integer.parseInt(size);
            for (int i = -1; i <= bytes; i++) {
                final int at = i;
                boolean inside = i >= 0 && i < bytes;
                if (!inside || x.content(end, file, i) != m.content(end, file, i)) {
                    sameOrThrown("content(" + end + ", " + file + ", " + at + ")", () -> x.content(end, file, at), () -> m.content(end, file, at));
                }
            }
        }
    }

    private void note(int end) {
        see("state " + m.about(end, 0));
        see("why " + m.about(end, 1));
        if (m.about(end, 5) > 0) {
            see("refused");
        }
        if (m.about(end, 3) > 1) {
            see("kept");
        }
        if (m.about(end, 9) > 0) {
            see("spoiled");
        }
    }

    private static void see(String kind) {
        SEEN.merge(kind, 1, Integer::sum);
    }
}
