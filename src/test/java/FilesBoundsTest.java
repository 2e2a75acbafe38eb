/** Terms 1 at each bound and right beside it: the tape, FILES, NAMES, DATES, bytes, SETTINGS (promises 2 to 5, 15, 16). */
public final class FilesBoundsTest {
    private static final int LEAST = -2147483648;
    private static final int GREATEST = 2147483647;

    public static void main(String[] args) {
        tape();
        tapeIsEmptyThen();
        tapeHasSoMany();
        nameLengths();
        nameSigns();
        dates();
        eightFiles();
        bytesOfOneFile();
        bytesOfAll();
        dropBounds();
        settingBounds();
        settingNumbers();
        toldBounds();
        toldNames();
        contentBounds();
        Bench.end("FilesBoundsTest");
    }

    /** "NONE, and none come, if it would have more than 3,100." */
    private static void tape() {
        Bench b = new Bench();
        b.feed("N" + "x".repeat(3059));
        Bench.same("3,080 are there", b.x.feed(0x78787878, 0, 0, 0, 1), 3080);
        Bench.same("3,100 are there", b.x.feed(2, 0, 0, 0, 3), 3100);
        String before = b.all();
        Bench.same("there would be 3,120", b.x.feed(4, 4, 4, 4, 4), -1);
        Bench.same("and again", b.x.feed(LEAST, -1, 0, 1, GREATEST), -1);
        Bench.same("none came", b.all(), before);
        Bench.same("all of it is too much for a FILE", b.x.file(0, 1, 3099, 1), -1);
        Bench.same("a FILE of the first", b.x.file(0, 1, 3000, 1), 0);
        Bench.same("empty then", b.x.feed(4, 4, 4, 4, 4), 20);
    }

    /** "(the tape is empty then)": what the FILE has not taken is gone, too; a refused call leaves it. */
    private static void tapeIsEmptyThen() {
        Bench b = new Bench();
        b.feed("ABCDEFGHIJ");
        Bench.same("refused", b.x.file(0, 1, 20, 1), -1);
        Bench.same("the tape stands", b.x.feed(0, 0, 0, 0, 0), 40);
        Bench.same("a FILE of two bytes", b.x.file(0, 1, 1, 1), 0);
        Bench.same("nothing is left for another", b.x.file(0, 1, 0, 1), -1);
        Bench.same("its byte", b.content(0, 0), "B");
        Bench.same("from the beginning", b.x.feed(0x5a5a5a5a, 0, 0, 0, 0), 20);
        Bench.same("another", b.x.file(0, 2, 1, 1), 1);
        Bench.same("of the new bytes", b.name(0, 1) + b.content(0, 1), "ZZZ");
    }

    /** "n, m below 0, the tape has not so many". */
    private static void tapeHasSoMany() {
        int[][] wrong = {{-1, 0}, {-1, 1}, {-1, 21}, {1, -1}, {2, -1}, {0, 20}, {1, 20}, {2, 19}, {12, 9}, {12, GREATEST}, {1, GREATEST}, {GREATEST, 1},
            {GREATEST, GREATEST}, {LEAST, 0}, {1, LEAST}, {LEAST, LEAST}, {20, 1}, {21, 0}, {21, -1}};
        for (int[] w : wrong) {
            Bench b = new Bench();
            b.feed("ABCDEFGHIJKLMNOPQRST");
            Bench.same("file of " + w[0] + ", " + w[1], b.x.file(0, w[0], w[1], 1), -1);
            Bench.same("nothing was done", b.about(0, 16, 17) + " " + b.x.file(0, 12, 8, 1), "0 0 0");
        }
        for (int[] r : new int[][] {{1, 0}, {1, 18}, {1, 19}, {12, 7}, {12, 8}, {12, 0}}) {
            Bench b = new Bench();
            b.feed("ABCDEFGHIJKLMNOPQRST");
            Bench.same("file of " + r[0] + ", " + r[1], b.x.file(1, r[0], r[1], 1), 0);
            Bench.same("its bytes", b.content(1, 0), "ABCDEFGHIJKLMNOPQRST".substring(r[0], r[0] + r[1]));
        }
        Bench empty = new Bench();
        Bench.same("of an empty tape", empty.x.file(0, 0, 0, 1) + " " + empty.x.file(0, 1, 0, 1) + " " + empty.x.file(0, 0, 1, 1), "-1 -1 -1");
    }

    /** "a NAME (1 .. 12 bytes ..)". */
    private static void nameLengths() {
        for (int n = 0; n <= 20; n++) {
            Bench b = new Bench();
            b.feed("ABCDEFGHIJKLMNOPQRST");
            boolean is = n >= 1 && n <= 12;
            Bench.same("a NAME of " + n, b.x.file(0, n, 0, 1), is ? 0 : -1);
            Bench.same("FILES", b.x.about(0, 16), is ? 1 : 0);
            if (is) {
                Bench.same("the NAME", b.name(0, 0), "ABCDEFGHIJKLMNOPQRST".substring(0, n));
            }
        }
    }

    /** "(1 .. 12 bytes of A .. Z, 0 .. 9, . )": every byte as the first, one of the middle, and the last sign. */
    private static void nameSigns() {
        String all = "ABCDEFGHIJKLMNOPQRSTUVWXYZ0123456789.";
        for (int sign = 0; sign < 256; sign++) {
            int due = all.indexOf(sign) >= 0 ? 0 : -1;
            for (int at : new int[] {0, 5, 11}) {
                Bench b = new Bench();
                StringBuilder name = new StringBuilder("A.Z09BYX18QR");
                name.setCharAt(at, (char) sign);
                Bench.same("sign " + sign + " at " + at, b.store(0, name.toString(), "", 1), due);
            }
            Bench alone = new Bench();
            Bench.same("sign " + sign + " alone", alone.store(1, "" + (char) sign, "ab", 1), due);
        }
    }

    /** "a DATE (0 .. 99999999)". */
    private static void dates() {
        for (int date : new int[] {LEAST, -99999999, -2, -1, 0, 1, 99999998, 99999999, 100000000, 100000001, GREATEST}) {
            Bench b = new Bench();
            boolean is = date >= 0 && date <= 99999999;
            Bench.same("DATE " + date, b.store(1, "A", "b", date), is ? 0 : -1);
            Bench.same("FILES", b.x.about(1, 16), is ? 1 : 0);
            if (is) {
                Bench.same("the DATE", b.x.told(1, 0, 1), date);
            }
        }
    }

    /** "a STORE of at most 8 FILES, numbered as they came". */
    private static void eightFiles() {
        Bench b = new Bench();
        for (int i = 0; i < 8; i++) {
            Bench.same("FILE " + i, b.store(1, "SAME", "" + i, i), i);
        }
        b.feed("NINE");
        String before = b.all();
        Bench.same("a ninth, of bytes", b.x.file(1, 4, 3, 1), -1);
        Bench.same("a ninth, of none", b.x.file(1, 4, 0, 1), -1);
        Bench.same("nothing was done", b.all(), before);
        Bench.same("the eighth", b.content(1, 7) + b.x.told(1, 7, 1), "77");
        Bench.same("one goes", b.x.drop(1, 7), true);
        Bench.same("the last number is free again", b.x.file(1, 4, 0, 1), 7);
        Bench.same("the other END has its own", b.store(0, "A", "", 1), 0);
    }

    /** "all bytes of a STORE at most 3000": of one FILE. */
    private static void bytesOfOneFile() {
        for (int m : new int[] {0, 1, 2998, 2999, 3000, 3001, 3002, 3080}) {
            Bench b = new Bench();
            Bench.same("a FILE of " + m, b.store(0, "ABCDEFGHIJKL", "x".repeat(m), 1), m <= 3000 ? 0 : -1);
            Bench.same("FILES and bytes", b.about(0, 16, 17), m <= 3000 ? "1 " + m : "0 0");
        }
    }

    /** "all bytes of a STORE at most 3000": of several. */
    private static void bytesOfAll() {
        for (int m : new int[] {999, 1000, 1001}) {
            Bench b = new Bench();
            b.store(0, "A", "x".repeat(1500), 1);
            b.store(0, "B", "x".repeat(500), 1);
            Bench.same("2000 and " + m, b.store(0, "C", "x".repeat(m), 1), m <= 1000 ? 2 : -1);
            Bench.same("FILES and bytes", b.about(0, 16, 17), m <= 1000 ? "3 " + (2000 + m) : "2 2000");
        }
        Bench full = new Bench();
        full.store(0, "A", "x".repeat(3000), 1);
        Bench.same("one byte more", full.store(0, "B", "x", 1), -1);
        Bench.same("no byte more", full.x.file(0, 1, 0, 1), 1);
        full.x.drop(0, 0);
        Bench.same("all may come again", full.store(0, "C", "y".repeat(3000), 1), 1);
        Bench.same("they are there", full.about(0, 16, 17) + full.x.content(0, 1, 2999), "2 3000121");
    }

    /** "False: no such END, FILE". */
    private static void dropBounds() {
        for (int file = -2; file <= 5; file++) {
            Bench b = new Bench();
            for (int i = 0; i < 4; i++) {
                b.store(0, "N" + i, ("" + i).repeat(i + 1), i);
            }
            String before = b.all();
            boolean is = file >= 0 && file <= 3;
            Bench.same("drop " + file, b.x.drop(0, file), is);
            StringBuilder due = new StringBuilder();
            StringBuilder got = new StringBuilder();
            for (int i = 0; i < 4; i++) {
                due.append(i == file ? "" : "N" + i + ("" + i).repeat(i + 1) + i + " ");
            }
            for (int i = 0; i < b.x.about(0, 16); i++) {
                got.append(b.name(0, i)).append(b.content(0, i)).append(b.x.told(0, i, 1)).append(' ');
            }
            Bench.same("those behind are numbered one less", got, due);
            Bench.same("bytes", b.x.about(0, 17), is ? 10 - file - 1 : 10);
            Bench.same("nothing was done if it was refused", is || b.all().equals(before), true);
        }
        // A new FILE has nothing of one that went.
        Bench again = new Bench();
        again.store(0, "LONGEST.NAME", "abcdef", 99999999);
        again.store(0, "B", "ghi", 5);
        again.x.drop(0, 0);
        again.store(0, "C", "jk", 0);
        Bench.same("a FILE behind one that went", again.name(0, 1) + again.content(0, 1) + again.x.told(0, 1, 0) + again.x.told(0, 1, 1), "Cjk20");
        Bench.same("the one ahead of it", again.name(0, 0) + again.content(0, 0) + again.x.told(0, 0, 0) + again.x.told(0, 0, 1), "Bghi35");
        Bench none = new Bench();
        Bench.same("of an empty STORE", none.x.drop(0, 0) + " " + none.x.drop(0, -1) + " " + none.x.drop(1, 0), "false false false");
    }

    /** Each SETTING's numbers, and those right beside them. */
    private static void settingBounds() {
        int[][] allowed = {{24, 25, 93, 94}, {38, 78, 89}, {1, 2, 3}, {32, 126}, {0, 4, 8, 12, 32, 36, 40, 44}, {1, 2, 30, 31}, {1, 2, 19, 20}};
        int[][] refused = {{LEAST, -1, 0, 22, 23, 95, 96, 280, GREATEST}, {0, 37, 39, 77, 79, 88, 90, 294, -38}, {LEAST, -1, 0, 4, 5, 49, 51, GREATEST},
            {0, 31, 33, 125, 127, 382, -32}, {-1, 1, 2, 3, 5, 7, 9, 11, 13, 16, 20, 28, 31, 33, 43, 45, 48, 52, 60, 63, 64, 68, 76, 108, 300, LEAST, GREATEST, -20},
            {LEAST, -1, 0, 32, 33, 63, GREATEST}, {LEAST, -1, 0, 21, 22, GREATEST}};
        int[] first = {94, 89, 3, 126, 44, 8, 5};
        for (int what = 0; what < 7; what++) {
            for (int end = 0; end < 2; end++) {
                Bench b = new Bench();
                int stands = first[what];
                for (int v : allowed[what]) {
                    Bench.same("SETTING " + what + " becomes " + v, b.x.set(end, what, v), stands);
                    stands = v;
                    for (int w : refused[what]) {
                        Bench.same("SETTING " + what + " doesn't become " + w, b.x.set(end, what, w), -1);
                    }
                }
                Bench.same("what it was last", b.x.set(end, what, first[what]), stands);
                Bench.same("the other END's is as it was", b.x.set(1 - end, what, first[what]), first[what]);
            }
        }
    }

    /** "no such END, SETTING". */
    private static void settingNumbers() {
        for (int what : new int[] {LEAST, -2, -1, 7, 8, 32, GREATEST}) {
            for (int v : new int[] {-1, 0, 1, 3, 8, 24, 32, 38, 44, 126}) {
                Bench b = new Bench();
                String before = b.all();
                Bench.same("SETTING " + what, b.x.set(0, what, v), -1);
                Bench.same("nothing changes", b.all(), before);
            }
        }
    }

    /** "NoSuchElementException: no such END, FILE, what." */
    private static void toldBounds() {
        Bench b = new Bench();
        b.store(0, "AB", "xyz", 5);
        b.store(0, "ABCDEFGHIJKL", "", 6);
        for (int what : new int[] {LEAST, -2, -1, 16, 17, GREATEST}) {
            Bench.throwsNone("what " + what, () -> b.x.told(0, 0, what));
        }
        for (int file : new int[] {LEAST, -1, 2, 3, 8, GREATEST}) {
            Bench.throwsNone("FILE " + file, () -> b.x.told(0, file, 0));
            Bench.throwsNone("FILE " + file, () -> b.x.told(0, file, 15));
        }
        for (int end : new int[] {LEAST, -1, 2, GREATEST}) {
            Bench.throwsNone("END " + end, () -> b.x.told(end, 0, 0));
        }
        Bench.throwsNone("an END without FILES", () -> b.x.told(1, 0, 0));
        Bench.same("the first and the last of each", b.x.told(0, 0, 0) + " " + b.x.told(0, 0, 15) + " " + b.x.told(0, 1, 0) + " " + b.x.told(0, 1, 15), "3 -1 0 76");
    }

    /** "4 .. 15 its NAME's signs (NONE behind)". */
    private static void toldNames() {
        for (int n = 1; n <= 12; n++) {
            Bench b = new Bench();
            b.store(1, "LONGESTNAME.", "", 1);
            b.x.drop(1, 0);
            b.store(1, "ABCDEFGHIJKL".substring(0, n), "q", 1);
            Bench.same("signs of it", b.x.told(1, 0, 2), n);
            for (int i = 0; i < 12; i++) {
                Bench.same("sign " + i + " of " + n, b.x.told(1, 0, 4 + i), i < n ? 'A' + i : -1);
            }
        }
    }

    /** "Byte i of a FILE. NoSuchElementException: there is none such." */
    private static void contentBounds() {
        Bench b = new Bench();
        b.store(0, "A", "ab", 1);
        b.store(0, "B", "", 1);
        b.store(0, "C", "\0\u00ff\u0080", 1);
        Bench.same("the first and the last of each", b.x.content(0, 0, 0) + " " + b.x.content(0, 0, 1) + " " + b.x.content(0, 2, 0) + " " + b.x.content(0, 2, 1) + " "
            + b.x.content(0, 2, 2), "97 98 0 255 128");
        for (int[] w : new int[][] {{0, -1}, {0, 2}, {0, 3}, {1, -1}, {1, 0}, {1, 1}, {2, -1}, {2, 3}, {2, 4}, {3, 0}, {-1, 0}, {-1, 1}, {0, LEAST}, {0, GREATEST}, {LEAST, 0},
            {GREATEST, 0}, {GREATEST, GREATEST}}) {
            Bench.throwsNone("byte " + w[1] + " of FILE " + w[0], () -> b.x.content(0, w[0], w[1]));
        }
        for (int end : new int[] {LEAST, -1, 1, 2, GREATEST}) {
            Bench.throwsNone("END " + end, () -> b.x.content(end, 0, 0));
        }
        Bench full = new Bench();
        full.store(1, "A", "x".repeat(2999) + "y", 1);
        Bench.same("byte 2999", full.x.content(1, 0, 2999), (int) 'y');
        Bench.throwsNone("byte 3000", () -> full.x.content(1, 0, 3000));
    }
}
