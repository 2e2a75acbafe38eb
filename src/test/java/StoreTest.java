/** Promises 1 (A new object), 2 (feed), 3 (file), 4 (drop), 15 (told), 16 (content). */
public final class StoreTest {
    public static void main(String[] args) {
        aNewObject();
        objectsAreApart();
        feeding();
        tapeLimit();
        filesOfTheTape();
        wrongFiles();
        fileNeedsRest();
        roomOfAStore();
        dropping();
        telling();
        contents();
        Bench.end("StoreTest");
    }

    private static void aNewObject() {
        Bench b = new Bench();
        Bench.same("NONE", KermitLine.NONE, -1);
        for (int end = 0; end < 2; end++) {
            Bench.same("about of a new END", b.about(end, 0, 1, 2, 3, 4, 5, 6, 7, 8, 9, 10, 11, 12, 13, 14, 15, 16, 17),
                "0 0 0 0 0 0 0 0 0 0 -1 -1 -1 -1 -1 -1 0 0");
            Bench.same("line of a new END", b.x.line(end), 0);
            int[] first = {94, 89, 3, 126, 44, 8, 5};
            for (int what = 0; what < 7; what++) {
                Bench.same("SETTING " + what + " at first", b.x.set(end, what, first[what]), first[what]);
            }
        }
        Bench.same("an empty tape", b.x.file(0, 1, 0, 0), -1);
    }

    private static void objectsAreApart() {
        Bench one = new Bench();
        Bench other = new Bench();
        one.store(0, "A", "xyz", 1);
        one.x.set(0, 5, 3);
        Bench.same("FILES of another object", other.x.about(0, 16), 0);
        Bench.same("SETTING of another object", other.x.set(0, 5, 8), 8);
    }

    private static void feeding() {
        Bench b = new Bench();
        Bench.same("first feed", b.x.feed(0x41424344, 0x01020304, 0xfffefdfc, 0, -1), 20);
        Bench.same("second feed", b.x.feed(1, 2, 3, 4, 5), 40);
        Bench.same("file", b.x.file(0, 4, 36, 0), 0);
        Bench.same("name", b.name(0, 0), "ABCD");
        Bench.same("highest first", b.content(0, 0).substring(0, 17),
            "\1\2\3\4\u00ff\u00fe\u00fd\u00fc\0\0\0\0\u00ff\u00ff\u00ff\u00ff\0");
        Bench.same("the second feed's bytes", b.content(0, 0).substring(16), "\0\0\0\1\0\0\0\2\0\0\0\3\0\0\0\4\0\0\0\5");
        Bench.same("the tape is empty behind file", b.x.feed(0, 0, 0, 0, 0), 20);
    }

    private static void tapeLimit() {
        Bench b = new Bench();
        for (int i = 1; i <= 155; i++) {
            Bench.same("feed " + i, b.x.feed(0x41414141, 0, 0, 0, 0), 20 * i);
        }
        Bench.same("feed beyond 3,100", b.x.feed(1, 1, 1, 1, 1), -1);
        Bench.same("feed beyond 3,100 again", b.x.feed(1, 1, 1, 1, 1), -1);
        Bench.same("3001 bytes", b.x.file(0, 4, 3001, 0), -1);
        Bench.same("3000 bytes", b.x.file(0, 4, 3000, 0), 0);
        Bench.same("bytes of all", b.x.about(0, 17), 3000);
    }

    private static void filesOfTheTape() {
        Bench b = new Bench();
        Bench.same("first FILE", b.store(1, "A.B", "xyz", 99999999), 0);
        Bench.same("the same NAME", b.store(1, "A.B", "", 0), 1);
        Bench.same("twelve signs", b.store(1, "AZ09.....XYZ", "q", 7), 2);
        Bench.same("the other END's first", b.store(0, "Z", "1", 1), 0);
        Bench.same("FILES and bytes", b.about(1, 16, 17) + " " + b.about(0, 16, 17), "3 4 1 1");
        b.feed("AB");
        Bench.same("not all of the tape", b.x.file(0, 1, 1, 1), 1);
        Bench.same("its content", b.content(0, 1), "B");
        Bench.same("what was left is gone", b.x.file(0, 1, 0, 1), -1);
    }

    private static void wrongFiles() {
        Bench b = new Bench();
        b.feed("ABCDEFGHIJKLMabc /:@[");
        int[][] wrong = {{-1, 1, 1, 1}, {2, 1, 1, 1}, {0, 0, 5, 0}, {0, -1, 5, 0}, {0, 3, -1, 0}, {0, 13, 1, 0}, {0, 5, 36, 0},
            {0, 40, 1, 0}, {0, 41, 0, 0}, {0, 3, 3, -1}, {0, 3, 3, 100000000}, {0, 3, 2147483647, 0}, {0, 2147483647, 3, 0},
            {0, -2147483648, -2147483648, 0}, {0, 3, 3, -2147483648}};
        for (int[] w : wrong) {
            Bench.same("file " + w[0] + " " + w[1] + " " + w[2] + " " + w[3], b.x.file(w[0], w[1], w[2], w[3]), -1);
        }
        Bench.same("the tape stands yet", b.x.file(0, 12, 28, 99999999), 0);
        Bench.same("its name", b.name(0, 0), "ABCDEFGHIJKL");
        for (String name : new String[] {"a", "A B", "A/", "A:", "A@", "A[", "A-", "\u00c1", "\0", "`", "\u00b0"}) {
            Bench c = new Bench();
            Bench.same("NAME " + name, c.store(0, name, "x", 1), -1);
        }
        for (String name : new String[] {"A", "Z", "0", "9", ".", "............"}) {
            Bench c = new Bench();
            Bench.same("NAME " + name, c.store(0, name, "x", 1), 0);
        }
    }

    private static void fileNeedsRest() {
        Bench b = new Bench();
        b.store(0, "A", "abc", 1);
        b.store(1, "B", "abc", 1);
        b.x.send(0, 0, 1);
        b.feed("NAME");
        Bench.same("file while it sends", b.x.file(0, 4, 0, 1), -1);
        Bench.same("drop while it sends", b.x.drop(0, 0), false);
        Bench.same("file of a FRESH one", b.x.file(1, 4, 0, 1), 1);
        b.x.deliver(1);
        b.feed("NAME");
        Bench.same("file while it receives", b.x.file(1, 4, 0, 1), -1);
        Bench.same("drop while it receives", b.x.drop(1, 0), false);
        b.settle();
        Bench.same("file when DONE, receiving", b.x.file(1, 4, 0, 1), 3);
        b.feed("NAME");
        Bench.same("file when DONE, sending", b.x.file(0, 4, 0, 1), 1);
        Bench.same("drop when DONE, sending", b.x.drop(0, 0), true);
        Bench.same("drop when DONE, receiving", b.x.drop(1, 0), true);
        Bench c = new Bench();
        c.store(0, "A", "abc", 1);
        c.x.set(0, 6, 1);
        c.x.send(0, 0, 1);
        c.x.timer(0);
        c.x.spoil(1, 0, 5, 1);
        c.x.deliver(1);
        c.feed("NAME");
        Bench.same("file while it waits", c.x.file(1, 4, 0, 1), -1);
        c.x.timer(0);
        Bench.same("FAILED", c.about(0, 0, 1), "4 84");
        Bench.same("file when FAILED", c.x.file(0, 4, 0, 1), 1);
        Bench.same("drop when FAILED", c.x.drop(0, 1), true);
    }

    private static void roomOfAStore() {
        Bench b = new Bench();
        for (int i = 0; i < 8; i++) {
            Bench.same("FILE " + i, b.store(0, "F" + i, "abc", i), i);
        }
        Bench.same("a ninth FILE", b.store(0, "F8", "", 1), -1);
        Bench.same("the other END has room, the tape stands", b.x.file(1, 2, 0, 1), 0);
        Bench c = new Bench();
        c.store(0, "A", Bench.times("x", 2000), 1);
        Bench.same("1001 more", c.store(0, "B", Bench.times("x", 1001), 1), -1);
        Bench.same("1000 more", c.x.file(0, 1, 1000, 1), 1);
        Bench.same("none more", c.store(0, "C", "", 1), 2);
        Bench.same("one more", c.store(0, "D", "x", 1), -1);
        c.x.drop(0, 0);
        Bench.same("one more, where 2000 went", c.x.file(0, 1, 1, 1), 2);
    }

    private static void dropping() {
        Bench b = new Bench();
        for (int i = 0; i < 4; i++) {
            b.store(1, "N" + i, Bench.times("" + i, i * 3), 100 + i);
        }
        for (int[] w : new int[][] {{-1, 0}, {2, 0}, {1, -1}, {1, 4}, {0, 0}, {1, 2147483647}, {1, -2147483648}}) {
            Bench.same("drop " + w[0] + " " + w[1], b.x.drop(w[0], w[1]), false);
        }
        Bench.same("drop", b.x.drop(1, 1), true);
        Bench.same("FILES and bytes", b.about(1, 16, 17), "3 15");
        Bench.same("names", b.name(1, 0) + b.name(1, 1) + b.name(1, 2), "N0N2N3");
        Bench.same("contents", b.content(1, 0) + "," + b.content(1, 1) + "," + b.content(1, 2), ",222222,333333333");
        Bench.same("DATES", b.x.told(1, 1, 1) + " " + b.x.told(1, 2, 1), "102 103");
        Bench.same("a FILE behind", b.store(1, "NEW", "new", 5), 3);
        Bench.same("its content", b.content(1, 3), "new");
        for (int i = 0; i < 4; i++) {
            Bench.same("drop the first", b.x.drop(1, 0), true);
        }
        Bench.same("drop of none", b.x.drop(1, 0), false);
        Bench.same("no FILES, no bytes", b.about(1, 16, 17), "0 0");
    }

    private static void telling() {
        Bench b = new Bench();
        b.store(0, "A.TXT", "abcd", 20261115);
        b.store(0, "ABCDEFGHIJKL", "", 0);
        int[] due = {4, 20261115, 5, 0, 'A', '.', 'T', 'X', 'T', -1, -1, -1, -1, -1, -1, -1};
        for (int what = 0; what < 16; what++) {
            Bench.same("told(0, 0, " + what + ")", b.x.told(0, 0, what), due[what]);
        }
        int[] full = {0, 0, 12, 0, 'A', 'B', 'C', 'D', 'E', 'F', 'G', 'H', 'I', 'J', 'K', 'L'};
        for (int what = 0; what < 16; what++) {
            Bench.same("told(0, 1, " + what + ")", b.x.told(0, 1, what), full[what]);
        }
        for (int[] w : new int[][] {{-1, 0, 0}, {2, 0, 0}, {0, -1, 0}, {0, 2, 0}, {1, 0, 0}, {0, 0, -1}, {0, 0, 16}, {0, 2147483647, 0}, {0, 0, -2147483648}}) {
            Bench.throwsNone("told " + w[0] + " " + w[1] + " " + w[2], () -> b.x.told(w[0], w[1], w[2]));
        }
        b.x.send(0, 0, 1);
        b.x.deliver(1);
        b.x.deliver(0);
        Bench.throwsNone("no FILE before F is taken", () -> b.x.told(1, 0, 0));
        b.x.deliver(1);
        Bench.same("begun", b.x.told(1, 0, 3), 1);
        Bench.same("size and DATE as far as they are known", b.x.told(1, 0, 0) + " " + b.x.told(1, 0, 1), "0 0");
        Bench.same("its NAME", b.name(1, 0), "A.TXT");
        b.x.deliver(0);
        b.x.deliver(1);
        Bench.same("DATE behind A", b.x.told(1, 0, 0) + " " + b.x.told(1, 0, 1), "0 20261115");
        b.x.deliver(0);
        b.x.deliver(1);
        Bench.same("size behind D", b.x.told(1, 0, 0) + " " + b.x.told(1, 0, 3), "4 1");
        b.settle();
        Bench.same("closed", b.x.told(1, 0, 3), 0);
    }

    private static void contents() {
        Bench b = new Bench();
        b.store(1, "A", "\0\u00ffz", 1);
        b.store(1, "B", "", 1);
        b.store(1, "C", "q", 1);
        Bench.same("bytes", b.x.content(1, 0, 0) + " " + b.x.content(1, 0, 1) + " " + b.x.content(1, 0, 2) + " " + b.x.content(1, 2, 0), "0 255 122 113");
        for (int[] w : new int[][] {{-1, 0, 0}, {2, 0, 0}, {0, 0, 0}, {1, -1, 0}, {1, 3, 0}, {1, 0, -1}, {1, 0, 3}, {1, 1, 0}, {1, 2, 1}, {1, 0, 2147483647}, {1, 0, -2147483648}}) {
            Bench.throwsNone("content " + w[0] + " " + w[1] + " " + w[2], () -> b.x.content(w[0], w[1], w[2]));
        }
    }
}
