import java.util.ArrayList;
import java.util.List;

/**
 * END 1 as a receiver to which any packets come. A packet on the line can be changed but not made longer or shorter:
 * END 0 sends FILES the D's and Z's of which are as long as the packets that shall come, and these are changed.
 */
final class Script {
    final Bench b;
    private final int check;
    private final List<String> packets = new ArrayList<>();
    private int at = 0;

    /** What an END that sends S offers; END 1 itself has nothing against any of it. */
    static String offer(int check, boolean prefix, boolean runs, int capas, int window) {
        return "~* @-#" + (prefix ? '&' : 'N') + (char) (check + 48) + (runs ? '~' : ' ') + (char) (capas + 32) + (char) (window + 32);
    }

    /** CHECK 1, neither PREFIX nor RUNS; S has SEQ 0. */
    static Script plain(int capas, int window, String... packets) {
        return new Script(new Bench(), 0, 1, offer(1, false, false, capas, window), packets);
    }

    /**
     * S with a SEQ and an offer has come to END 1, which may have FILES; the packets are such as "2D:abc".
     * Eight of them at most have DATA of another length than the one ahead of them; the first counts among these.
     */
    Script(Bench bench, int seq, int check, String offer, String... texts) {
        b = bench;
        this.check = check;
        packets.addAll(List.of(texts));
        b.x.set(0, 1, 78);
        b.x.set(0, 2, 1);
        b.x.set(0, 3, 32);
        b.x.set(0, 4, 0);
        b.x.set(1, 2, check);
        b.x.set(1, 5, 31);
        pile();
        sort();
        b.forge(1, 0, seq, 'S', offer, 1);
        b.x.deliver(1);
        b.clear(0);
    }

    private static String dataOf(String packet) {
        return packet.substring(packet.indexOf(':') + 1);
    }

    private static char typeOf(String packet) {
        return packet.charAt(packet.indexOf(':') - 1);
    }

    private int checkOf(String packet) {
        return typeOf(packet) == 'S' ? 1 : check;
    }

    /** How much DATA a packet of END 0, which has CHECK 1, must have to be as long as this one. */
    private int lengthFor(String packet) {
        return dataOf(packet).length() + checkOf(packet) - 1;
    }

    /** Whether a FILE is needed for it: every FILE has a Z for packets without DATA behind it. */
    private boolean isNewLength(int i) {
        return i == 0 || lengthFor(packets.get(i)) > 0 && lengthFor(packets.get(i)) != lengthFor(packets.get(i - 1));
    }

    /** All that END 0 sends comes on the line to END 1, of which nothing but S has come. */
    private void pile() {
        int files = 0;
        for (int i = 0; i < packets.size(); i++) {
            if (isNewLength(i)) {
                b.store(0, "F", "x".repeat(lengthFor(packets.get(i))), 1);
                files++;
            }
        }
        if (!b.x.send(0, 0, files)) {
            throw new IllegalStateException("the script has packets of too many lengths");
        }
        b.x.twice(1, 0);
        b.x.deliver(1);
        b.x.deliver(0);
        for (int i = 0; i < 50 && b.x.about(0, 0) == 1; i++) {
            b.reply(b.x.about(0, 2) - 1, 'Y', 1);
        }
    }

    /** Only what is as long as the packets of the script stays on the line, in their order. */
    private void sort() {
        int k = 1;
        for (String packet : packets) {
            int length = 6 + lengthFor(packet);
            while (k < b.x.line(1) && (b.x.look(1, k, 3) == 'F' || !isLong(k, length))) {
                b.x.lose(1, k);
            }
            b.x.twice(1, k);
            k++;
        }
    }

    private boolean isLong(int k, int length) {
        return b.x.look(1, k, length) == KermitLine.NONE && b.x.look(1, k, length - 1) != KermitLine.NONE;
    }

    /** The next packet comes to END 1: what that sends, such as "2Y 3N" or "2Y(N)". */
    String next() {
        String packet = packets.get(at);
        at++;
        int seq = Integer.parseInt(packet.substring(0, packet.indexOf(':') - 1));
        b.clear(0);
        b.forge(1, 0, seq, typeOf(packet), dataOf(packet), checkOf(packet));
        Bench.same(packet + " is GOOD", b.x.deliver(1), seq);
        return b.texts(0, checkOf(packet));
    }

    /** All up to the last one come. */
    Script toLast() {
        while (at < packets.size() - 1) {
            next();
        }
        return this;
    }

    /** All come: what END 1 sends to the last one. */
    String last() {
        return toLast().next();
    }
}
