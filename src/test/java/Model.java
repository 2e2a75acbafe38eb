import java.util.ArrayList;
import java.util.LinkedHashMap;
import java.util.List;
import java.util.Map;
import java.util.NoSuchElementException;
import java.util.TreeMap;

/**
 * The document said once more, slowly and with the Java library: packets are texts, rows are lists and maps.
 * ModelTest holds the program's answers against this one's.
 */
final class Model {
    static final int NONE = -1;

    static final class Paper {
        String name;
        int date;
        boolean open;
        final StringBuilder bytes = new StringBuilder();
    }

    static final class Underway {
        String packet;
        char type;
        String data;
        int repeats;
    }

    static final class Agreed {
        int maxl;
        int chkt;
        boolean prefix;
        boolean runs;
        int capas;
        int window;

        boolean shifts() {
            return (capas & 32) != 0;
        }
    }

    /** What is yet to be sent of a FILE, with the SHIFT that stands there. */
    static final class Rest {
        String bytes;
        int shift;
    }

    static final class Side {
        final List<Paper> store = new ArrayList<>();
        final int[] settings = {94, 89, 3, 126, 44, 8, 5};
        final List<String> inbox = new ArrayList<>();
        int state;
        int why;
        boolean sender;
        Agreed agreed;
        int zs;
        int zds;
        int sent;
        int again;
        int came;
        int spoiled;
        // sending
        int next;
        final LinkedHashMap<Integer, Underway> underway = new LinkedHashMap<>();
        final List<Paper> queue = new ArrayList<>();
        String plan = "";
        Rest rest;
        boolean noted;
        // receiving
        int expects;
        final TreeMap<Integer, String> kept = new TreeMap<>();
        boolean refused;
        boolean behind;
        int shift;
        final Map<Integer, Boolean> refusals = new TreeMap<>();

        int total() {
            int sum = 0;
            for (Paper p : store) {
                sum += p.bytes.length();
            }
            return sum;
        }

        Paper open() {
            return !store.isEmpty() && store.get(store.size() - 1).open ? store.get(store.size() - 1) : null;
        }

        void forget() {
            if (open() != null) {
                store.remove(store.size() - 1);
            }
        }

        boolean rests() {
            return state == 0 || state == 3 || state == 4;
        }
    }

    private final StringBuilder tape = new StringBuilder();
    private final Side[] sides = {new Side(), new Side()};

    // ---- packets

    static String check(int kind, String body) {
        int s = 0;
        int c = 0;
        for (char b : body.toCharArray()) {
            s += b;
            c ^= b;
            for (int k = 0; k < 8; k++) {
                boolean odd = c % 2 == 1;
                c /= 2;
                if (odd) {
                    c ^= 33800;
                }
            }
        }
        if (kind == 1) {
            return "" + (char) (32 + (s + (s / 64) % 4) % 64);
        }
        if (kind == 2) {
            return "" + (char) (32 + (s / 64) % 64) + (char) (32 + s % 64);
        }
        return "" + (char) (32 + c / 4096) + (char) (32 + (c / 64) % 64) + (char) (32 + c % 64);
    }

    static String packet(int seq, char type, String data, int kind) {
        String body = "" + (char) (2 + data.length() + kind + 32) + (char) (seq + 32) + type + data;
        return (char) 1 + body + check(kind, body) + (char) 13;
    }

    private static int kindFor(Side side, String p) {
        return p.charAt(3) == 'S' || side.agreed == null ? 1 : side.agreed.chkt;
    }

    private static boolean isGood(Side side, String p) {
        int kind = kindFor(side, p);
        int len = p.charAt(1) - 32;
        int seq = p.charAt(2) - 32;
        if (p.charAt(0) != 1 || p.charAt(p.length() - 1) != 13 || len != p.length() - 3 || len < 3 || seq < 0 || seq > 63) {
            return false;
        }
        if (len < 2 + kind) {
            return false;
        }
        String body = p.substring(1, p.length() - 1 - kind);
        return p.substring(p.length() - 1 - kind, p.length() - 1).equals(check(kind, body));
    }

    private static String dataOf(Side side, String p) {
        return p.substring(4, p.length() - 1 - kindFor(side, p));
    }

    private void emit(int end, String p) {
        sides[end].sent++;
        if (sides[1 - end].inbox.size() < 100) {
            sides[1 - end].inbox.add(p);
        }
    }

    private void emit(int end, int seq, char type, String data) {
        emit(end, packet(seq, type, data, sides[end].agreed == null ? 1 : sides[end].agreed.chkt));
    }

    private void error(int end, int seq, int why) {
        emit(end, seq, 'E', "" + (char) why);
        fail(end, why);
    }

    private void fail(int end, int why) {
        sides[end].state = 4;
        sides[end].why = why;
        sides[end].forget();
    }

    // ---- settings

    private static boolean can(int what, int v) {
        switch (what) {
            case 0: return v >= 24 && v <= 94;
            case 1: return v == 78 || v == 89 || v == 38;
            case 2: return v >= 1 && v <= 3;
            case 3: return v == 126 || v == 32;
            case 4: return v == 0 || v == 4 || v == 8 || v == 12 || v == 32 || v == 36 || v == 40 || v == 44;
            case 5: return v >= 1 && v <= 31;
            case 6: return v >= 1 && v <= 20;
            default: return false;
        }
    }

    private static String parameters(int[] s) {
        return "" + (char) (s[0] + 32) + "* @-#" + (char) s[1] + (char) (s[2] + 48) + (char) s[3] + (char) (s[4] + 32) + (char) (s[5] + 32);
    }

    private static Agreed agree(int[] own, String data) {
        if (data.length() != 11) {
            return null;
        }
        int[] his = {data.charAt(0) - 32, data.charAt(6), data.charAt(7) - 48, data.charAt(8), data.charAt(9) - 32, data.charAt(10) - 32};
        if (!can(0, his[0]) || !can(1, his[1]) || !can(2, his[2]) || !can(3, his[3]) || !can(5, his[5]) || his[4] < 0 || his[4] > 63) {
            return null;
        }
        Agreed a = new Agreed();
        a.maxl = his[0];
        a.chkt = own[2] == his[2] ? own[2] : 1;
        a.prefix = own[1] == 38 && his[1] != 78 || his[1] == 38 && own[1] != 78;
        a.runs = own[3] == 126 && his[3] == 126;
        a.capas = own[4] & his[4];
        a.window = (a.capas & 4) != 0 ? Math.min(own[5], his[5]) : 1;
        return a;
    }

    // ---- DATA

    private static String sign(Agreed a, int c) {
        String s = a.shifts() && c >= 14 && c <= 16 ? "#P" : "";
        if (c < 32) {
            return s + "#" + (char) (c + 64);
        }
        if (c == 127) {
            return s + "#?";
        }
        if (c == '#' || c == '&' && a.prefix || c == '~' && a.runs) {
            return s + "#" + (char) c;
        }
        return s + (char) c;
    }

    /** The next DATA; rest is left as it stands behind it. */
    static String spell(Agreed a, Rest rest) {
        StringBuilder data = new StringBuilder();
        while (!rest.bytes.isEmpty()) {
            char b = rest.bytes.charAt(0);
            int n = 1;
            while (a.runs && n < 94 && n < rest.bytes.length() && rest.bytes.charAt(n) == b) {
                n++;
            }
            if (n < 4) {
                n = 1;
            }
            int h = b / 128;
            int alike = 0;
            while (alike < rest.bytes.length() && rest.bytes.charAt(alike) / 128 == h) {
                alike++;
            }
            String lock = "";
            String pre = "";
            int shift = rest.shift;
            if (a.shifts()) {
                if (h != shift && a.prefix && alike < 4) {
                    pre = "&";
                } else if (h != shift) {
                    lock = h == 1 ? "#N" : "#O";
                    shift = h;
                }
            } else if (h == 1 && a.prefix) {
                pre = "&";
            }
            String item = lock + (n > 1 ? "~" + (char) (n + 32) : "") + pre + sign(a, b % 128);
            if (2 + data.length() + item.length() + a.chkt > a.maxl) {
                break;
            }
            data.append(item);
            rest.shift = shift;
            rest.bytes = rest.bytes.substring(n);
        }
        return data.toString();
    }

    /** Answers 0, 68 or 82. */
    private static int read(Side side, Paper into, String data) {
        Agreed a = side.agreed;
        String left = data;
        while (!left.isEmpty()) {
            while (a.shifts() && (left.startsWith("#N") || left.startsWith("#O"))) {
                side.shift = left.charAt(1) == 'N' ? 1 : 0;
                left = left.substring(2);
            }
            int n = 1;
            if (a.runs && left.startsWith("~")) {
                if (left.length() < 2) {
                    return 68;
                }
                n = left.charAt(1) - 32;
                left = left.substring(2);
            }
            boolean pre = a.prefix && left.startsWith("&");
            left = pre ? left.substring(1) : left;
            left = a.shifts() && left.startsWith("#P") ? left.substring(2) : left;
            boolean quoted = left.startsWith("#");
            left = quoted ? left.substring(1) : left;
            if (n < 1 || n > 94 || left.isEmpty()) {
                return 68;
            }
            int c = left.charAt(0);
            left = left.substring(1);
            if (quoted && c == 63) {
                c = 127;
            } else if (quoted && c >= 64 && c <= 95) {
                c -= 64;
            } else {
                c %= 128;
            }
            if (side.total() + n > 3000) {
                return 82;
            }
            for (int i = 0; i < n; i++) {
                into.bytes.append((char) (c + (side.shift == 1 != pre ? 128 : 0)));
            }
        }
        return 0;
    }

    private static boolean isName(String s) {
        return s.matches("[A-Z0-9.]{1,12}");
    }

    private static String attributes(int size, int date) {
        String digits = Integer.toString(size);
        return "1" + (char) (digits.length() + 32) + digits + "#(" + String.format("%08d", date);
    }

    // ---- the sender

    private void transmit(int end, char type, String data) {
        Side s = sides[end];
        Underway u = new Underway();
        u.type = type;
        u.data = data;
        u.packet = packet(s.next, type, data, s.agreed == null ? 1 : s.agreed.chkt);
        s.underway.put(s.next, u);
        emit(end, u.packet);
        s.next = (s.next + 1) % 64;
    }

    private void sendOn(int end) {
        Side s = sides[end];
        while (s.state == 1) {
            boolean idle = s.underway.isEmpty();
            boolean window = false;
            if (!idle) {
                Map.Entry<Integer, Underway> oldest = s.underway.entrySet().iterator().next();
                window = oldest.getValue().type == 'D' && (s.next - oldest.getKey() + 64) % 64 < s.agreed.window;
            }
            if (s.plan.startsWith("D") && (idle || window)) {
                transmit(end, 'D', spell(s.agreed, s.rest));
                if (s.rest.bytes.isEmpty()) {
                    s.plan = s.plan.substring(1);
                }
            } else if (idle && s.plan.isEmpty()) {
                nextFile(end);
            } else if (idle) {
                char type = s.plan.charAt(0);
                s.plan = s.plan.substring(1);
                String data = type == 'A' ? attributes(s.queue.get(0).bytes.length(), s.queue.get(0).date) : type == 'Z' && s.noted ? "D" : "";
                if (type == 'Z') {
                    s.queue.remove(0);
                }
                transmit(end, type, data);
            } else {
                return;
            }
        }
    }

    private void nextFile(int end) {
        Side s = sides[end];
        if (s.queue.isEmpty()) {
            s.plan = "";
            transmit(end, 'B', "");
            return;
        }
        Paper f = s.queue.get(0);
        s.rest = new Rest();
        s.rest.bytes = f.bytes.toString();
        s.noted = false;
        s.plan = ((s.agreed.capas & 8) != 0 ? "A" : "") + (f.bytes.length() > 0 ? "D" : "") + "Z";
        transmit(end, 'F', f.name);
    }

    private void acknowledge(int end, int seq) {
        Side s = sides[end];
        Underway u = s.underway.remove(seq);
        if (u.type == 'Z' && u.data.isEmpty()) {
            s.zs++;
        } else if (u.type == 'Z') {
            s.zds++;
        } else if (u.type == 'B') {
            s.state = 3;
        }
    }

    private void repeat(int end, int seq) {
        Side s = sides[end];
        Underway u = s.underway.get(seq);
        if (u.repeats == s.settings[6]) {
            error(end, seq, 84);
            return;
        }
        u.repeats++;
        s.again++;
        emit(end, u.packet);
    }

    private void toSender(int end, String p) {
        Side s = sides[end];
        int seq = p.charAt(2) - 32;
        String data = dataOf(s, p);
        char type = p.charAt(3);
        if (type == 'E') {
            fail(end, data.isEmpty() ? 0 : data.charAt(0));
        } else if (type == 'N' && s.underway.containsKey(seq)) {
            repeat(end, seq);
        } else if (type == 'N' && seq == s.next) {
            boolean held = false;
            for (Underway u : s.underway.values()) {
                held |= u.type == 'S' || u.type == 'A';
            }
            if (!held) {
                for (Integer k : new ArrayList<>(s.underway.keySet())) {
                    acknowledge(end, k);
                }
            }
        } else if (type == 'Y' && s.underway.containsKey(seq)) {
            char of = s.underway.get(seq).type;
            if (of == 'S') {
                s.agreed = agree(s.settings, data);
                if (s.agreed == null) {
                    error(end, seq, 68);
                    return;
                }
            }
            if (of == 'A' && data.startsWith("N")) {
                s.noted = true;
                s.plan = "Z";
            }
            acknowledge(end, seq);
        }
    }

    // ---- the receiver

    private void toReceiver(int end, String p) {
        Side s = sides[end];
        int seq = p.charAt(2) - 32;
        char type = p.charAt(3);
        String data = dataOf(s, p);
        if (type == 'Y' || type == 'N') {
            return;
        }
        if (type == 'S') {
            Agreed a = agree(s.settings, data);
            s.agreed = a;
            if (a == null) {
                error(end, seq, 68);
                return;
            }
            s.state = 2;
            s.why = 0;
            s.sender = false;
            s.expects = (seq + 1) % 64;
            s.kept.clear();
            s.forget();
            s.refused = false;
            s.refusals.clear();
            s.zs = 0;
            s.zds = 0;
            emit(end, packet(seq, 'Y', parameters(s.settings), 1));
            return;
        }
        if (type == 'E') {
            if (s.state == 2) {
                fail(end, data.isEmpty() ? 0 : data.charAt(0));
            }
            return;
        }
        if (s.state == 0 || s.state == 4 || s.state == 3 && s.sender) {
            return;
        }
        if (s.state == 2 && s.agreed == null) {
            error(end, seq, 80);
            return;
        }
        int d = (seq - s.expects + 64) % 64;
        if (d < s.agreed.window && s.state == 2) {
            arrive(end, p, d);
        } else if (d >= 64 - s.agreed.window) {
            boolean no = s.refusals.getOrDefault(seq, false);
            emit(end, seq, 'Y', type == 'A' ? no ? "N" : "Y" : "");
        }
    }

    private void arrive(int end, String p, int d) {
        Side s = sides[end];
        int seq = p.charAt(2) - 32;
        if (p.charAt(3) != 'A') {
            emit(end, seq, 'Y', "");
        }
        if (s.kept.containsKey(seq)) {
            return;
        }
        int greatest = -1;
        for (int k : s.kept.keySet()) {
            greatest = Math.max(greatest, (k - s.expects + 64) % 64);
        }
        s.kept.put(seq, p);
        for (int i = greatest + 1; i < d; i++) {
            emit(end, (s.expects + i) % 64, 'N', "");
        }
        while (s.state == 2 && s.kept.containsKey(s.expects)) {
            String q = s.kept.remove(s.expects);
            int now = s.expects;
            s.expects = (now + 1) % 64;
            s.refusals.put(now, false);
            int e = take(end, now, q.charAt(3), dataOf(s, q));
            if (e != 0) {
                error(end, now, e);
            }
        }
    }

    private int take(int end, int seq, char type, String data) {
        Side s = sides[end];
        Paper open = s.open();
        switch (type) {
            case 'F':
                if (open != null || s.refused || !isName(data)) {
                    return 80;
                }
                if (s.store.size() == 8) {
                    return 82;
                }
                Paper f = new Paper();
                f.name = data;
                f.open = true;
                s.store.add(f);
                s.behind = false;
                s.shift = 0;
                return 0;
            case 'A':
                return open == null || s.behind ? 80 : attribute(end, seq, open, data);
            case 'D':
                if (open == null) {
                    return 80;
                }
                s.behind = true;
                return read(s, open, data);
            case 'Z':
                if (!data.isEmpty() && !data.equals("D") || open == null && !s.refused || s.refused && data.isEmpty()) {
                    return 80;
                }
                if (data.isEmpty()) {
                    open.open = false;
                    s.zs++;
                } else {
                    s.forget();
                    s.zds++;
                }
                s.refused = false;
                return 0;
            case 'B':
                if (open != null || s.refused) {
                    return 80;
                }
                s.state = 3;
                return 0;
            default:
                return 80;
        }
    }

    private int attribute(int end, int seq, Paper open, String data) {
        Side s = sides[end];
        if (!data.matches("1[!-$][0-9]{1,4}#\\([0-9]{8}")) {
            return 68;
        }
        int size = Integer.parseInt(data.substring(2, data.length() - 10));
        int date = Integer.parseInt(data.substring(data.length() - 8));
        if (!data.equals(attributes(size, date))) {
            return 68;
        }
        s.behind = true;
        if (s.total() + size > 3000) {
            s.forget();
            s.refused = true;
            s.refusals.put(seq, true);
            emit(end, seq, 'Y', "N");
        } else {
            open.date = date;
            emit(end, seq, 'Y', "Y");
        }
        return 0;
    }

    private void noise(int end) {
        Side s = sides[end];
        if (s.state == 2) {
            emit(end, s.agreed == null ? 0 : s.expects, 'N', "");
        }
    }

    // ---- the face

    private static boolean isEnd(int end) {
        return end == 0 || end == 1;
    }

    int feed(int a, int b, int c, int d, int e) {
        if (tape.length() + 20 > 3100) {
            return NONE;
        }
        for (int v : new int[] {a, b, c, d, e}) {
            for (int k = 3; k >= 0; k--) {
                tape.append((char) (v >>> 8 * k & 255));
            }
        }
        return tape.length();
    }

    int file(int end, int n, int m, int date) {
        if (!isEnd(end) || !sides[end].rests() || n < 0 || m < 0 || (long) n + m > tape.length() || !isName(tape.substring(0, n))) {
            return NONE;
        }
        Side s = sides[end];
        if (date < 0 || date > 99999999 || s.store.size() == 8 || s.total() + m > 3000) {
            return NONE;
        }
        Paper f = new Paper();
        f.name = tape.substring(0, n);
        f.date = date;
        f.bytes.append(tape.substring(n, n + m));
        s.store.add(f);
        tape.setLength(0);
        return s.store.size() - 1;
    }

    boolean drop(int end, int file) {
        if (!isEnd(end) || !sides[end].rests() || file < 0 || file >= sides[end].store.size()) {
            return false;
        }
        sides[end].store.remove(file);
        return true;
    }

    int set(int end, int what, int v) {
        if (!isEnd(end) || !sides[end].rests() || !can(what, v)) {
            return NONE;
        }
        int was = sides[end].settings[what];
        sides[end].settings[what] = v;
        return was;
    }

    boolean send(int end, int first, int many) {
        if (!isEnd(end) || !sides[end].rests() || sides[1 - end].state == 1) {
            return false;
        }
        Side s = sides[end];
        if (first < 0 || many < 1 || (long) first + many > s.store.size()) {
            return false;
        }
        sides[0].inbox.clear();
        sides[1].inbox.clear();
        s.state = 1;
        s.why = 0;
        s.sender = true;
        s.agreed = null;
        s.zs = 0;
        s.zds = 0;
        s.next = 0;
        s.underway.clear();
        s.kept.clear();
        s.queue.clear();
        s.queue.addAll(s.store.subList(first, first + many));
        s.plan = "";
        transmit(end, 'S', parameters(s.settings));
        return true;
    }

    int deliver(int end) {
        if (!isEnd(end) || sides[end].inbox.isEmpty()) {
            return NONE;
        }
        Side s = sides[end];
        String p = s.inbox.remove(0);
        s.came++;
        boolean good = isGood(s, p);
        if (!good) {
            s.spoiled++;
        }
        if (s.state == 1) {
            if (good) {
                toSender(end, p);
                sendOn(end);
            }
        } else if (good) {
            toReceiver(end, p);
        } else {
            s.state = s.state == 0 ? 2 : s.state;
            noise(end);
        }
        return good ? p.charAt(2) - 32 : -2;
    }

    private boolean isThere(int end, int k) {
        return isEnd(end) && k >= 0 && k < sides[end].inbox.size();
    }

    boolean lose(int end, int k) {
        if (!isThere(end, k)) {
            return false;
        }
        sides[end].inbox.remove(k);
        return true;
    }

    int spoil(int end, int k, int i, int mask) {
        if (look(end, k, i) == NONE) {
            return NONE;
        }
        StringBuilder p = new StringBuilder(sides[end].inbox.get(k));
        p.setCharAt(i, (char) (p.charAt(i) ^ mask & 255));
        sides[end].inbox.set(k, p.toString());
        return p.charAt(i);
    }

    boolean twice(int end, int k) {
        if (!isThere(end, k) || sides[end].inbox.size() >= 100) {
            return false;
        }
        sides[end].inbox.add(k, sides[end].inbox.get(k));
        return true;
    }

    int timer(int end) {
        if (!isEnd(end)) {
            return NONE;
        }
        int before = sides[end].sent;
        if (sides[end].state == 1) {
            repeat(end, sides[end].underway.keySet().iterator().next());
        } else {
            noise(end);
        }
        return sides[end].sent - before;
    }

    int line(int end) {
        return isEnd(end) ? sides[end].inbox.size() : NONE;
    }

    int look(int end, int k, int i) {
        return isThere(end, k) && i >= 0 && i < sides[end].inbox.get(k).length() ? sides[end].inbox.get(k).charAt(i) : NONE;
    }

    int about(int end, int what) {
        if (!isEnd(end) || what < 0 || what > 17) {
            throw new NoSuchElementException();
        }
        Side s = sides[end];
        if (what >= 10 && what <= 15 && s.agreed == null) {
            return NONE;
        }
        switch (what) {
            case 0: return s.state;
            case 1: return s.why;
            case 2: return s.sender ? s.next : s.agreed == null ? 0 : s.expects;
            case 3: return !s.sender ? s.kept.size() : s.state == 1 ? s.underway.size() : 0;
            case 4: return s.zs;
            case 5: return s.zds;
            case 6: return s.sent;
            case 7: return s.again;
            case 8: return s.came;
            case 9: return s.spoiled;
            case 10: return s.agreed.maxl;
            case 11: return s.agreed.chkt;
            case 12: return s.agreed.prefix ? 1 : 0;
            case 13: return s.agreed.runs ? 1 : 0;
            case 14: return s.agreed.capas;
            case 15: return s.agreed.window;
            case 16: return s.store.size();
            default: return s.total();
        }
    }

    int told(int end, int file, int what) {
        if (!isEnd(end) || file < 0 || file >= sides[end].store.size() || what < 0 || what > 15) {
            throw new NoSuchElementException();
        }
        Paper f = sides[end].store.get(file);
        switch (what) {
            case 0: return f.bytes.length();
            case 1: return f.date;
            case 2: return f.name.length();
            case 3: return f.open ? 1 : 0;
            default: return what - 4 < f.name.length() ? f.name.charAt(what - 4) : NONE;
        }
    }

    int content(int end, int file, int i) {
        if (!isEnd(end) || file < 0 || file >= sides[end].store.size() || i < 0 || i >= sides[end].store.get(file).bytes.length()) {
            throw new NoSuchElementException();
        }
        return sides[end].store.get(file).bytes.charAt(i);
    }
}
