/** Promise 5 (set), and what is AGREED on by the settings of both (promise 14, 10 to 15). */
public final class SettingsTest {
    private static final int[] FIRST = {94, 89, 3, 126, 44, 8, 5};

    public static void main(String[] args) {
        values();
        wrongCalls();
        settingNeedsRest();
        parameters();
        checkAgreed();
        prefixAgreed();
        runsAgreed();
        capasAgreed();
        windowAgreed();
        lengthAgreed();
        Bench.end("SettingsTest");
    }

    private static boolean isAllowed(int what, int v) {
        switch (what) {
            case 0: return v >= 24 && v <= 94;
            case 1: return v == 78 || v == 89 || v == 38;
            case 2: return v == 1 || v == 2 || v == 3;
            case 3: return v == 126 || v == 32;
            case 4: return v == 0 || v == 4 || v == 8 || v == 12 || v == 32 || v == 36 || v == 40 || v == 44;
            case 5: return v >= 1 && v <= 31;
            case 6: return v >= 1 && v <= 20;
            default: return false;
        }
    }

    private static void values() {
        for (int what = 0; what < 7; what++) {
            Bench b = new Bench();
            int stands = FIRST[what];
            for (int v = -200; v <= 300; v++) {
                Bench.same("set(1, " + what + ", " + v + ")", b.x.set(1, what, v), isAllowed(what, v) ? stands : -1);
                stands = isAllowed(what, v) ? v : stands;
            }
            Bench.same("the other END's SETTING", b.x.set(0, what, FIRST[what]), FIRST[what]);
        }
    }

    private static void wrongCalls() {
        Bench b = new Bench();
        for (int[] w : new int[][] {{-1, 0, 50}, {2, 0, 50}, {0, -1, 50}, {0, 7, 50}, {0, 7, 1}, {0, -1, 1}, {0, 0, 2147483647}, {0, 4, -2147483648}, {0, 2147483647, 1}}) {
            Bench.same("set " + w[0] + " " + w[1] + " " + w[2], b.x.set(w[0], w[1], w[2]), -1);
        }
        Bench.same("nothing changed", b.x.set(0, 0, 94) + " " + b.x.set(0, 4, 44), "94 44");
    }

    private static void settingNeedsRest() {
        Bench b = new Bench();
        b.store(0, "A", "a", 1);
        b.x.send(0, 0, 1);
        Bench.same("set while it sends", b.x.set(0, 0, 50), -1);
        Bench.same("set of a FRESH one", b.x.set(1, 0, 60), 94);
        b.x.deliver(1);
        Bench.same("set while it receives", b.x.set(1, 0, 50), -1);
        b.settle();
        Bench.same("set when DONE", b.x.set(1, 0, 50) + " " + b.x.set(0, 0, 51), "60 94");
    }

    private static void parameters() {
        Bench b = new Bench();
        b.store(0, "A", "a", 1);
        b.x.set(0, 0, 24);
        b.x.set(0, 1, 38);
        b.x.set(0, 2, 2);
        b.x.set(0, 3, 32);
        b.x.set(0, 4, 12);
        b.x.set(0, 5, 31);
        b.x.send(0, 0, 1);
        Bench.same("S", b.packet(1, 0), Model.packet(0, 'S', "8* @-#&2 ,?", 1));
        b.x.deliver(1);
        Bench.same("its Y", b.packet(0, 0), Model.packet(0, 'Y', "~* @-#Y3~L(", 1));
    }

    /** What both see as agreed on, when their settings are these. */
    private static String agreed(int what, int mine, int his, int asked) {
        Bench b = new Bench();
        b.store(0, "A", "a", 1);
        b.x.set(0, what, mine);
        b.x.set(1, what, his);
        b.x.send(0, 0, 1);
        Bench.same("not agreed on as yet", b.x.about(0, asked) + " " + b.x.about(1, asked), "-1 -1");
        b.x.deliver(1);
        Bench.same("the sender has not AGREED as yet", b.x.about(0, asked), -1);
        b.x.deliver(0);
        return b.x.about(0, asked) + " " + b.x.about(1, asked);
    }

    private static void checkAgreed() {
        for (int mine = 1; mine <= 3; mine++) {
            for (int his = 1; his <= 3; his++) {
                int due = mine == his ? mine : 1;
                Bench.same("CHKT " + mine + " " + his, agreed(2, mine, his, 11), due + " " + due);
            }
        }
    }

    private static void prefixAgreed() {
        int[][] due = {{38, 38, 1}, {38, 89, 1}, {89, 38, 1}, {89, 89, 0}, {38, 78, 0}, {78, 38, 0}, {78, 78, 0}, {78, 89, 0}, {89, 78, 0}};
        for (int[] d : due) {
            Bench.same("QBIN " + d[0] + " " + d[1], agreed(1, d[0], d[1], 12), d[2] + " " + d[2]);
        }
    }

    private static void runsAgreed() {
        int[][] due = {{126, 126, 1}, {126, 32, 0}, {32, 126, 0}, {32, 32, 0}};
        for (int[] d : due) {
            Bench.same("REPT " + d[0] + " " + d[1], agreed(3, d[0], d[1], 13), d[2] + " " + d[2]);
        }
    }

    private static void capasAgreed() {
        int[] all = {0, 4, 8, 12, 32, 36, 40, 44};
        for (int mine : all) {
            for (int his : all) {
                Bench.same("CAPAS " + mine + " " + his, agreed(4, mine, his, 14), (mine & his) + " " + (mine & his));
                int window = (mine & his & 4) != 0 ? 8 : 1;
                Bench.same("WINDOW by CAPAS " + mine + " " + his, agreed(4, mine, his, 15), window + " " + window);
            }
        }
    }

    private static void windowAgreed() {
        for (int[] d : new int[][] {{1, 31, 1}, {31, 31, 31}, {7, 5, 5}, {5, 7, 5}}) {
            Bench.same("WINDO " + d[0] + " " + d[1], agreed(5, d[0], d[1], 15), d[2] + " " + d[2]);
        }
    }

    private static void lengthAgreed() {
        Bench.same("each has the other's MAXL", agreed(0, 24, 77, 10), "77 24");
    }
}
