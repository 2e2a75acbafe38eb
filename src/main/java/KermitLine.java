import java.util.NoSuchElementException;

/** Two ends of a line that carry files by Kermit's packets; the host moves, loses and spoils what is on the line. */
public final class KermitLine {
    public static final int NONE = -1;

    private static final int SPOILED = -2;
    private static final int ENDS = 2;

    private static final int TAPE_BYTES = 3100;
    private static final int FEED_BYTES = 20;

    private static final int STORE_FILES = 8;
    private static final int STORE_BYTES = 3000;
    private static final int NAME_SIGNS = 12;
    private static final int DATE_MOST = 99999999;
    private static final int DATE_DIGITS = 8;
    private static final int SIZE_DIGITS = 4;

    private static final int MAXL = 0;
    private static final int QBIN = 1;
    private static final int CHKT = 2;
    private static final int REPT = 3;
    private static final int CAPAS = 4;
    private static final int WINDO = 5;
    private static final int LIMIT = 6;
    private static final int SETTINGS = 7;

    private static final int LOCKING = 32;
    private static final int ATTRIBUTES = 8;
    private static final int WINDOWS = 4;

    private static final int FRESH = 0;
    private static final int SENDING = 1;
    private static final int RECEIVING = 2;
    private static final int DONE = 3;
    private static final int FAILED = 4;

    private static final int LINE_PACKETS = 100;
    private static final int PACKET_BYTES = 97;
    private static final int HEAD_BYTES = 4;
    private static final int MARK = 1;
    private static final int LAST = 13;
    private static final int SEQS = 64;
    /** The widest WINDOW is 31, so SEQ MOD 32 tells all that one END holds at a time apart. */
    private static final int SHELF_SLOTS = 32;

    private static final int TYPE_S = 'S';
    private static final int TYPE_F = 'F';
    private static final int TYPE_A = 'A';
    private static final int TYPE_D = 'D';
    private static final int TYPE_Z = 'Z';
    private static final int TYPE_B = 'B';
    private static final int TYPE_Y = 'Y';
    private static final int TYPE_N = 'N';
    private static final int TYPE_E = 'E';

    private static final int NO_ROOM = 'R';
    private static final int WRONG_DATA = 'D';
    private static final int TOO_OFTEN = 'T';
    private static final int CANNOT_COME = 'P';

    private static final int QUOTE = '#';
    private static final int HIGH = '&';
    private static final int REPEAT = '~';
    private static final int SHIFT_IN = 'N';
    private static final int SHIFT_OUT = 'O';
    private static final int SHIFT_QUOTE = 'P';
    private static final int RUN_LEAST = 4;
    private static final int RUN_MOST = 94;
    private static final int ITEM_BYTES = 9;

    private static final int ABOUT_DEAL = 10;
    private static final int ABOUT_KINDS = 18;
    private static final int TOLD_NAME = 4;
    private static final int TOLD_KINDS = TOLD_NAME + NAME_SIGNS;

    private final int[] tape;
    private int taped;
    /** wires[e] leads to END e. */
    private final Wire[] wires;
    private final End[] ends;
    private final Sender[] senders;
    private final Receiver[] receivers;
    private final Packet arrived;

    public KermitLine() {
        tape = new int[TAPE_BYTES];
        taped = 0;
        arrived = new Packet();
        wires = new Wire[ENDS];
        ends = new End[ENDS];
        senders = new Sender[ENDS];
        receivers = new Receiver[ENDS];
        for (int e = 0; e < ENDS; e++) {
            wires[e] = new Wire();
        }
        for (int e = 0; e < ENDS; e++) {
            ends[e] = new End(wires[1 - e]);
            senders[e] = new Sender(ends[e]);
            receivers[e] = new Receiver(ends[e]);
        }
    }

    public int feed(int a, int b, int c, int d, int e) {
        if (taped + FEED_BYTES > TAPE_BYTES) {
            return NONE;
        }
        putOnTape(a);
        putOnTape(b);
        putOnTape(c);
        putOnTape(d);
        putOnTape(e);
        return taped;
    }

    public int file(int end, int n, int m, int date) {
        if (!isAtRest(end) || !isOnTape(n, m) || !isName(tape, 0, n) || date < 0 || date > DATE_MOST) {
            return NONE;
        }
        Store store = ends[end].store;
        if (!store.hasPlace() || !store.hasRoomFor(m)) {
            return NONE;
        }
        store.begin(tape, 0, n);
        store.dateLast(date);
        for (int i = n; i < n + m && i < tape.length; i++) {
            store.append(tape[i]);
        }
        store.close();
        taped = 0;
        return store.count - 1;
    }

    public boolean drop(int end, int file) {
        return isAtRest(end) && ends[end].store.remove(file);
    }

    public int set(int end, int what, int v) {
        if (!isAtRest(end) || what < 0 || what >= SETTINGS || !isSetting(what, v)) {
            return NONE;
        }
        int[] settings = ends[end].settings;
        int before = settings[what];
        settings[what] = v;
        return before;
    }

    public boolean send(int end, int first, int many) {
        if (!isAtRest(end) || ends[1 - end].state == SENDING) {
            return false;
        }
        int count = ends[end].store.count;
        if (first < 0 || first >= count || many < 1 || many > count - first) {
            return false;
        }
        wires[0].clear();
        wires[1].clear();
        senders[end].start(first, many);
        return true;
    }

    public int deliver(int end) {
        if (!isEnd(end) || !wires[end].pull(arrived)) {
            return NONE;
        }
        boolean good = ends[end].judge(arrived);
        if (ends[end].state == SENDING) {
            senders[end].hear(arrived, good);
            senders[end].sendWhatGoes();
        } else {
            receivers[end].hear(arrived, good);
            receivers[end].takeKept();
        }
        return good ? arrived.seq() : SPOILED;
    }

    public boolean lose(int end, int k) {
        return isEnd(end) && wires[end].remove(k);
    }

    public int spoil(int end, int k, int i, int mask) {
        if (!isEnd(end) || !wires[end].has(k)) {
            return NONE;
        }
        return wires[end].row[k].flip(i, mask & 255);
    }

    public boolean twice(int end, int k) {
        return isEnd(end) && wires[end].copyBehind(k);
    }

    public int timer(int end) {
        if (!isEnd(end)) {
            return NONE;
        }
        int before = ends[end].sent;
        if (ends[end].state == SENDING) {
            senders[end].timeOut();
        } else {
            receivers[end].timeOut();
        }
        return ends[end].sent - before;
    }

    public int line(int end) {
        return isEnd(end) ? wires[end].size : NONE;
    }

    public int look(int end, int k, int i) {
        if (!isEnd(end) || !wires[end].has(k)) {
            return NONE;
        }
        return wires[end].row[k].byteAt(i);
    }

    public int about(int end, int what) throws NoSuchElementException {
        if (!isEnd(end) || what < 0 || what >= ABOUT_KINDS) {
            throw new NoSuchElementException("no such END or what");
        }
        if (what == 2) {
            return nextSeq(end);
        }
        if (what < ABOUT_DEAL) {
            return ends[end].count(what);
        }
        if (what == 16) {
            return ends[end].store.count;
        }
        if (what == 17) {
            return ends[end].store.total;
        }
        return ends[end].deal.tell(what - ABOUT_DEAL);
    }

    public int told(int end, int file, int what) throws NoSuchElementException {
        if (!isEnd(end) || !ends[end].store.has(file) || what < 0 || what >= TOLD_KINDS) {
            throw new NoSuchElementException("no such END, FILE or what");
        }
        return ends[end].store.tell(file, what);
    }

    public int content(int end, int file, int i) throws NoSuchElementException {
        if (!isEnd(end) || !ends[end].store.hasByte(file, i)) {
            throw new NoSuchElementException("no such byte");
        }
        Store store = ends[end].store;
        return store.byteAt(store.startOf(file) + i);
    }

    private void putOnTape(int number) {
        for (int shift = 24; shift >= 0; shift -= 8) {
            if (taped < tape.length) {
                tape[taped] = (number >>> shift) & 255;
                taped++;
            }
        }
    }

    private boolean isOnTape(int n, int m) {
        return n >= 0 && m >= 0 && n <= taped && m <= taped - n;
    }

    private boolean isAtRest(int end) {
        return isEnd(end) && ends[end].state != SENDING && ends[end].state != RECEIVING;
    }

    private int nextSeq(int end) {
        if (ends[end].sends) {
            return senders[end].next;
        }
        return ends[end].deal.made ? receivers[end].expects : 0;
    }

    private static boolean isEnd(int end) {
        return end >= 0 && end < ENDS;
    }

    private static boolean isName(int[] row, int from, int n) {
        if (n < 1 || n > NAME_SIGNS || from < 0 || from > row.length - n) {
            return false;
        }
        for (int i = from; i < from + n; i++) {
            int sign = row[i];
            boolean letter = sign >= 'A' && sign <= 'Z';
            boolean digit = sign >= '0' && sign <= '9';
            if (!letter && !digit && sign != '.') {
                return false;
            }
        }
        return true;
    }

    private static boolean isSetting(int what, int v) {
        switch (what) {
            case MAXL:
                return v >= 24 && v <= 94;
            case QBIN:
                return v == 'N' || v == 'Y' || v == HIGH;
            case CHKT:
                return v >= 1 && v <= 3;
            case REPT:
                return v == REPEAT || v == ' ';
            case CAPAS:
                return (v & ~(LOCKING | ATTRIBUTES | WINDOWS)) == 0;
            case WINDO:
                return v >= 1 && v <= 31;
            case LIMIT:
                return v >= 1 && v <= 20;
            default:
                return false;
        }
    }

    private static int seqAfter(int seq, int steps) {
        return (seq + steps) & (SEQS - 1);
    }

    /** One packet, byte by byte as it stands on the line. */
    private static final class Packet {
        private final int[] bytes;
        private int length;
        /** Where DATA ends; of a packet that came this holds only once it has been judged GOOD. */
        private int dataEnd;

        Packet() {
            bytes = new int[PACKET_BYTES];
            length = 0;
            dataEnd = HEAD_BYTES;
        }

        void begin(int seq, int type) {
            length = 0;
            put(MARK);
            put(0);
            put(seq + 32);
            put(type);
        }

        void put(int b) {
            if (length < bytes.length) {
                bytes[length] = b;
                length++;
            }
        }

        /** LEN and CHECK can be told only when all DATA stands. */
        void finish(int check) {
            dataEnd = length;
            bytes[1] = length - 2 + check + 32;
            int code = code(check);
            for (int i = 0; i < check; i++) {
                put(checkByte(check, code, i));
            }
            put(LAST);
        }

        boolean isGood(int agreedCheck) {
            int check = type() == TYPE_S ? 1 : agreedCheck;
            int len = length - 3;
            if (len < 2 + check || bytes[0] != MARK || bytes[1] - 32 != len || bytes[length - 1] != LAST) {
                return false;
            }
            if (seq() < 0 || seq() >= SEQS) {
                return false;
            }
            dataEnd = length - 1 - check;
            int code = code(check);
            for (int i = 0; i < check; i++) {
                if (byteAt(dataEnd + i) != checkByte(check, code, i)) {
                    return false;
                }
            }
            return true;
        }

        private int code(int check) {
            int sum = 0;
            int crc = 0;
            for (int i = 1; i < dataEnd && i < bytes.length; i++) {
                sum += bytes[i];
                crc ^= bytes[i];
                for (int bit = 0; bit < 8; bit++) {
                    crc = (crc & 1) == 1 ? (crc >> 1) ^ 33800 : crc >> 1;
                }
            }
            return check == 3 ? crc : sum;
        }

        private static int checkByte(int check, int code, int i) {
            if (check == 1) {
                return 32 + (code + code / 64 % 4) % 64;
            }
            return 32 + ((code >> (6 * (check - 1 - i))) & 63);
        }

        int seq() {
            return bytes[2] - 32;
        }

        int type() {
            return bytes[3];
        }

        int dataLength() {
            return dataEnd - HEAD_BYTES;
        }

        /** NONE behind the last one, so that a reader sees an ITEM's end without asking first. */
        int data(int i) {
            int at = HEAD_BYTES + i;
            return i >= 0 && at < dataEnd && at < bytes.length ? bytes[at] : NONE;
        }

        int byteAt(int i) {
            return i >= 0 && i < length && i < bytes.length ? bytes[i] : NONE;
        }

        int flip(int i, int mask) {
            if (i < 0 || i >= length || i >= bytes.length) {
                return NONE;
            }
            bytes[i] ^= mask;
            return bytes[i];
        }

        void copyFrom(Packet other) {
            for (int i = 0; i < other.length && i < bytes.length; i++) {
                bytes[i] = other.bytes[i];
            }
            length = other.length;
            dataEnd = other.dataEnd;
        }
    }

    /** The packets on their way to one END, the oldest first; the objects behind size wait to be used again. */
    private static final class Wire {
        private final Packet[] row;
        private int size;

        Wire() {
            row = new Packet[LINE_PACKETS];
            for (int i = 0; i < row.length; i++) {
                row[i] = new Packet();
            }
            size = 0;
        }

        boolean has(int k) {
            return k >= 0 && k < size && k < row.length;
        }

        void clear() {
            size = 0;
        }

        void push(Packet packet) {
            if (size < row.length) {
                row[size].copyFrom(packet);
                size++;
            }
        }

        boolean pull(Packet into) {
            if (size < 1) {
                return false;
            }
            into.copyFrom(row[0]);
            return remove(0);
        }

        boolean remove(int k) {
            if (!has(k)) {
                return false;
            }
            Packet freed = row[k];
            for (int i = k; i < size - 1; i++) {
                row[i] = row[i + 1];
            }
            size--;
            row[size] = freed;
            return true;
        }

        boolean copyBehind(int k) {
            if (!has(k) || size >= row.length) {
                return false;
            }
            Packet copy = row[size];
            for (int i = size; i > k + 1; i--) {
                row[i] = row[i - 1];
            }
            row[k + 1] = copy;
            copy.copyFrom(row[k]);
            size++;
            return true;
        }
    }

    /** What an END holds by SEQ: as a sender what is under way, as a receiver what is kept. */
    private static final class Shelf {
        private final Packet[] slots;
        private final boolean[] held;
        private final int[] repeats;
        private int count;

        Shelf() {
            slots = new Packet[SHELF_SLOTS];
            for (int i = 0; i < slots.length; i++) {
                slots[i] = new Packet();
            }
            held = new boolean[SHELF_SLOTS];
            repeats = new int[SHELF_SLOTS];
            count = 0;
        }

        private static int slot(int seq) {
            return seq & (SHELF_SLOTS - 1);
        }

        boolean holds(int seq) {
            return held[slot(seq)] && slots[slot(seq)].seq() == seq;
        }

        Packet at(int seq) {
            return slots[slot(seq)];
        }

        void put(Packet packet) {
            int slot = slot(packet.seq());
            if (!held[slot]) {
                count++;
            }
            held[slot] = true;
            repeats[slot] = 0;
            slots[slot].copyFrom(packet);
        }

        void release(int seq) {
            if (holds(seq)) {
                held[slot(seq)] = false;
                count--;
            }
        }

        void clear() {
            for (int i = 0; i < held.length; i++) {
                held[i] = false;
            }
            count = 0;
        }

        int repeatsOf(int seq) {
            return repeats[slot(seq)];
        }

        void countRepeat(int seq) {
            repeats[slot(seq)]++;
        }
    }

    private static final class StoredFile {
        private final int[] name;
        private int signs;
        private int date;
        private int size;

        StoredFile() {
            name = new int[NAME_SIGNS];
            signs = 0;
            date = 0;
            size = 0;
        }

        void begin(int[] row, int from, int n) {
            signs = 0;
            for (int i = 0; i < n && i < name.length && from + i < row.length; i++) {
                name[i] = row[from + i];
                signs++;
            }
            date = 0;
            size = 0;
        }

        int sign(int i) {
            return i >= 0 && i < signs && i < name.length ? name[i] : NONE;
        }
    }

    /** The FILES of an END, their bytes one FILE behind the other; one that is being received is the last. */
    private static final class Store {
        private final StoredFile[] files;
        private final int[] bytes;
        private int count;
        private int total;
        private boolean open;

        Store() {
            files = new StoredFile[STORE_FILES];
            for (int i = 0; i < files.length; i++) {
                files[i] = new StoredFile();
            }
            bytes = new int[STORE_BYTES];
            count = 0;
            total = 0;
            open = false;
        }

        boolean has(int file) {
            return file >= 0 && file < count && file < files.length;
        }

        boolean hasByte(int file, int i) {
            return has(file) && i >= 0 && i < files[file].size;
        }

        boolean hasPlace() {
            return count < files.length;
        }

        boolean hasRoomFor(int more) {
            return more <= bytes.length - total;
        }

        void begin(int[] row, int from, int n) {
            if (hasPlace()) {
                files[count].begin(row, from, n);
                count++;
                open = true;
            }
        }

        void dateLast(int date) {
            if (has(count - 1)) {
                files[count - 1].date = date;
            }
        }

        boolean append(int b) {
            if (total >= bytes.length || !has(count - 1)) {
                return false;
            }
            bytes[total] = b;
            total++;
            files[count - 1].size++;
            return true;
        }

        void close() {
            open = false;
        }

        void abandon() {
            if (open && has(count - 1)) {
                count--;
                total -= files[count].size;
            }
            open = false;
        }

        boolean remove(int file) {
            if (!has(file)) {
                return false;
            }
            StoredFile freed = files[file];
            int start = startOf(file);
            for (int i = start; i + freed.size < total; i++) {
                bytes[i] = bytes[i + freed.size];
            }
            total -= freed.size;
            for (int i = file; i < count - 1; i++) {
                files[i] = files[i + 1];
            }
            count--;
            files[count] = freed;
            return true;
        }

        int startOf(int file) {
            int start = 0;
            for (int i = 0; i < file && i < count; i++) {
                start += files[i].size;
            }
            return start;
        }

        int byteAt(int at) {
            return at >= 0 && at < total && at < bytes.length ? bytes[at] : NONE;
        }

        int tell(int file, int what) {
            if (!has(file)) {
                return NONE;
            }
            switch (what) {
                case 0:
                    return files[file].size;
                case 1:
                    return files[file].date;
                case 2:
                    return files[file].signs;
                case 3:
                    return open && file == count - 1 ? 1 : 0;
                default:
                    return files[file].sign(what - TOLD_NAME);
            }
        }
    }

    /** What two ENDS have AGREED on, as one of them sees it. */
    private static final class Deal {
        private boolean made;
        private int maxl;
        private int chkt;
        private boolean prefix;
        private boolean runs;
        private int capas;
        private int window;

        Deal() {
            made = false;
            maxl = 0;
            chkt = 1;
            prefix = false;
            runs = false;
            capas = 0;
            window = 1;
        }

        static boolean isRight(Packet packet) {
            int capas = packet.data(9) - 32;
            return packet.dataLength() == 11
                && isSetting(MAXL, packet.data(0) - 32)
                && isSetting(QBIN, packet.data(6))
                && isSetting(CHKT, packet.data(7) - 48)
                && isSetting(REPT, packet.data(8))
                && capas >= 0 && capas < 64
                && isSetting(WINDO, packet.data(10) - 32);
        }

        /** The settings given are a row of SETTINGS numbers, the packet's DATA are right. */
        void make(int[] own, Packet packet) {
            made = true;
            maxl = packet.data(0) - 32;
            chkt = own[CHKT] == packet.data(7) - 48 ? own[CHKT] : 1;
            prefix = offersPrefix(own[QBIN], packet.data(6)) || offersPrefix(packet.data(6), own[QBIN]);
            runs = own[REPT] == REPEAT && packet.data(8) == REPEAT;
            capas = own[CAPAS] & (packet.data(9) - 32);
            window = has(WINDOWS) ? Math.min(own[WINDO], packet.data(10) - 32) : 1;
        }

        private static boolean offersPrefix(int one, int other) {
            return one == HIGH && (other == HIGH || other == 'Y');
        }

        boolean has(int bit) {
            return (capas & bit) != 0;
        }

        int checkKind() {
            return made ? chkt : 1;
        }

        int dataRoom() {
            return maxl - 2 - chkt;
        }

        int tell(int what) {
            if (!made) {
                return NONE;
            }
            switch (what) {
                case 0:
                    return maxl;
                case 1:
                    return chkt;
                case 2:
                    return prefix ? 1 : 0;
                case 3:
                    return runs ? 1 : 0;
                case 4:
                    return capas;
                default:
                    return window;
            }
        }
    }

    /** Turns a FILE's bytes into DATA. */
    private static final class Speller {
        private final Store store;
        private final Deal deal;
        private int shift;
        private final int[] item;
        private int itemLength;
        private int itemSpan;
        private int itemShift;

        Speller(Store ofStore, Deal ofDeal) {
            store = ofStore;
            deal = ofDeal;
            shift = 0;
            item = new int[ITEM_BYTES];
            itemLength = 0;
            itemSpan = 0;
            itemShift = 0;
        }

        void restart() {
            shift = 0;
        }

        /** Spells the bytes from one on as far as they go into the packet; answers where it came to. */
        int fill(Packet packet, int from, int end) {
            int room = deal.dataRoom();
            int at = from;
            for (int i = 0; i < PACKET_BYTES && at < end; i++) {
                spell(at, end);
                if (itemLength > room) {
                    break;
                }
                for (int k = 0; k < itemLength && k < item.length; k++) {
                    packet.put(item[k]);
                }
                room -= itemLength;
                at += itemSpan;
                // Only an ITEM that has gone may change SHIFT: one that does not fit is spelled anew.
                shift = itemShift;
            }
            return at;
        }

        private void spell(int at, int end) {
            int b = store.byteAt(at);
            int high = b / 128;
            int run = deal.runs ? runFrom(at, end) : 1;
            boolean prefixed = isPrefixed(at, end, high);
            itemLength = 0;
            itemShift = shift;
            itemSpan = run >= RUN_LEAST ? run : 1;
            if (deal.has(LOCKING) && high != shift && !prefixed) {
                add(QUOTE);
                add(high == 1 ? SHIFT_IN : SHIFT_OUT);
                itemShift = high;
            }
            if (itemSpan > 1) {
                add(REPEAT);
                add(itemSpan + 32);
            }
            if (prefixed) {
                add(HIGH);
            }
            addSign(b % 128);
        }

        private boolean isPrefixed(int at, int end, int high) {
            if (!deal.prefix) {
                return false;
            }
            if (!deal.has(LOCKING)) {
                return high == 1;
            }
            return high != shift && !isLongStretch(at, end, high);
        }

        private int runFrom(int at, int end) {
            int n = 1;
            while (n < RUN_MOST && at + n < end && store.byteAt(at + n) == store.byteAt(at)) {
                n++;
            }
            return n;
        }

        private boolean isLongStretch(int at, int end, int high) {
            for (int i = 0; i < RUN_LEAST; i++) {
                if (at + i >= end || store.byteAt(at + i) / 128 != high) {
                    return false;
                }
            }
            return true;
        }

        private void addSign(int c) {
            if (deal.has(LOCKING) && c >= 14 && c <= 16) {
                add(QUOTE);
                add(SHIFT_QUOTE);
            }
            if (c < 32) {
                add(QUOTE);
                add(c + 64);
            } else if (c == 127) {
                add(QUOTE);
                add(63);
            } else {
                if (c == QUOTE || c == HIGH && deal.prefix || c == REPEAT && deal.runs) {
                    add(QUOTE);
                }
                add(c);
            }
        }

        private void add(int b) {
            if (itemLength < item.length) {
                item[itemLength] = b;
                itemLength++;
            }
        }
    }

    /** Turns DATA into a FILE's bytes. */
    private static final class Reader {
        private final Store store;
        private final Deal deal;
        private int shift;
        private int at;

        Reader(Store ofStore, Deal ofDeal) {
            store = ofStore;
            deal = ofDeal;
            shift = 0;
            at = 0;
        }

        void restart() {
            shift = 0;
        }

        /** The bytes come to the store's last FILE; answers 0, or the first fault along DATA. */
        int read(Packet packet) {
            at = 0;
            for (int i = 0; i < PACKET_BYTES && at < packet.dataLength(); i++) {
                readShifts(packet);
                int n = readRun(packet);
                boolean prefixed = readPrefix(packet);
                int c = readSign(packet);
                if (n < 1 || n > RUN_MOST || c < 0) {
                    return WRONG_DATA;
                }
                boolean high = (shift == 1) != prefixed;
                if (!appendRun(n, high ? c + 128 : c)) {
                    return NO_ROOM;
                }
            }
            return 0;
        }

        private boolean appendRun(int n, int b) {
            for (int i = 0; i < n; i++) {
                if (!store.append(b)) {
                    return false;
                }
            }
            return true;
        }

        private void readShifts(Packet packet) {
            for (int i = 0; i < PACKET_BYTES && deal.has(LOCKING); i++) {
                if (isQuoted(packet, SHIFT_IN)) {
                    shift = 1;
                } else if (isQuoted(packet, SHIFT_OUT)) {
                    shift = 0;
                } else {
                    return;
                }
                at += 2;
            }
        }

        private int readRun(Packet packet) {
            if (!deal.runs || packet.data(at) != REPEAT) {
                return 1;
            }
            int n = packet.data(at + 1) - 32;
            at += 2;
            return n;
        }

        private boolean readPrefix(Packet packet) {
            if (!deal.prefix || packet.data(at) != HIGH) {
                return false;
            }
            at++;
            return true;
        }

        /** c of a byte, NONE where DATA ends too early. */
        private int readSign(Packet packet) {
            if (deal.has(LOCKING) && isQuoted(packet, SHIFT_QUOTE)) {
                at += 2;
            }
            int b = packet.data(at);
            at++;
            if (b == QUOTE) {
                b = packet.data(at);
                at++;
                if (b == 63) {
                    return 127;
                }
                if (b >= 64 && b <= 95) {
                    return b - 64;
                }
            }
            return b < 0 ? NONE : b % 128;
        }

        private boolean isQuoted(Packet packet, int sign) {
            return packet.data(at) == QUOTE && packet.data(at + 1) == sign;
        }
    }

    /** What an END has and counts, whichever way files go. */
    private static final class End {
        private final int[] settings;
        private final Store store;
        private final Deal deal;
        private final Shelf shelf;
        private final Wire out;
        private final Packet draft;
        private int state;
        private int why;
        /** Whether it sends, or has sent latest. */
        private boolean sends;
        private int closed;
        private int dropped;
        private int sent;
        private int again;
        private int came;
        private int spoiled;

        End(Wire toOther) {
            settings = new int[SETTINGS];
            settings[MAXL] = 94;
            settings[QBIN] = 'Y';
            settings[CHKT] = 3;
            settings[REPT] = REPEAT;
            settings[CAPAS] = LOCKING | ATTRIBUTES | WINDOWS;
            settings[WINDO] = 8;
            settings[LIMIT] = 5;
            store = new Store();
            deal = new Deal();
            shelf = new Shelf();
            out = toOther;
            draft = new Packet();
            state = FRESH;
            why = 0;
            sends = false;
        }

        boolean judge(Packet packet) {
            came++;
            boolean good = packet.isGood(deal.checkKind());
            if (!good) {
                spoiled++;
            }
            return good;
        }

        void enter(int newState) {
            state = newState;
            why = 0;
        }

        void startCounting() {
            closed = 0;
            dropped = 0;
        }

        void putParameters() {
            draft.put(settings[MAXL] + 32);
            draft.put(42);
            draft.put(32);
            draft.put(64);
            draft.put(45);
            draft.put(35);
            draft.put(settings[QBIN]);
            draft.put(settings[CHKT] + 48);
            draft.put(settings[REPT]);
            draft.put(settings[CAPAS] + 32);
            draft.put(settings[WINDO] + 32);
        }

        void shipDraft(int check) {
            draft.finish(check);
            sent++;
            out.push(draft);
        }

        void ship(Packet packet) {
            sent++;
            out.push(packet);
        }

        void failSaying(int seq, int reason) {
            draft.begin(seq, TYPE_E);
            draft.put(reason);
            shipDraft(deal.checkKind());
            fail(reason);
        }

        void failHearing(Packet error) {
            fail(error.dataLength() > 0 ? error.data(0) : 0);
        }

        private void fail(int reason) {
            state = FAILED;
            why = reason;
            store.abandon();
        }

        int count(int what) {
            switch (what) {
                case 0:
                    return state;
                case 1:
                    return why;
                case 3:
                    return sends && state != SENDING ? 0 : shelf.count;
                case 4:
                    return closed;
                case 5:
                    return dropped;
                case 6:
                    return sent;
                case 7:
                    return again;
                case 8:
                    return came;
                default:
                    return spoiled;
            }
        }
    }

    private static final class Sender {
        private final End end;
        private final Speller speller;
        private int next;
        /** The TYPE that is to be sent next; 0 behind B. */
        private int stage;
        private int file;
        private int lastFile;
        private boolean refused;
        private int position;
        private int fileEnd;

        Sender(End ofEnd) {
            end = ofEnd;
            speller = new Speller(ofEnd.store, ofEnd.deal);
            next = 0;
            stage = 0;
            file = 0;
            lastFile = 0;
            refused = false;
            position = 0;
            fileEnd = 0;
        }

        void start(int first, int many) {
            end.enter(SENDING);
            end.sends = true;
            // Y of S has CHECK 1, so what was AGREED on earlier must not count any more.
            end.deal.made = false;
            end.shelf.clear();
            end.startCounting();
            next = 0;
            file = first;
            lastFile = first + many - 1;
            end.draft.begin(next, TYPE_S);
            end.putParameters();
            dispatch();
            stage = TYPE_F;
        }

        void hear(Packet packet, boolean good) {
            if (!good) {
                return;
            }
            switch (packet.type()) {
                case TYPE_Y:
                    hearYes(packet);
                    break;
                case TYPE_N:
                    hearNo(packet.seq());
                    break;
                case TYPE_E:
                    end.failHearing(packet);
                    break;
                default:
                    break;
            }
        }

        void sendWhatGoes() {
            for (int i = 0; i < SEQS && mayGo(); i++) {
                sendNext();
            }
        }

        void timeOut() {
            int oldest = oldestUnderWay();
            if (oldest != NONE) {
                sendAgain(oldest);
            }
        }

        private void hearYes(Packet packet) {
            int seq = packet.seq();
            if (!end.shelf.holds(seq)) {
                return;
            }
            int type = end.shelf.at(seq).type();
            if (type == TYPE_S && !Deal.isRight(packet)) {
                end.failSaying(seq, WRONG_DATA);
                return;
            }
            if (type == TYPE_S) {
                end.deal.make(end.settings, packet);
            }
            if (type == TYPE_A && packet.data(0) == 'N') {
                refused = true;
                stage = TYPE_Z;
            }
            acknowledge(seq);
        }

        private void hearNo(int seq) {
            if (end.shelf.holds(seq)) {
                sendAgain(seq);
                return;
            }
            if (seq != next || holdsBack(oldestUnderWay())) {
                return;
            }
            for (int back = SHELF_SLOTS - 1; back > 0; back--) {
                acknowledge(seqAfter(next, -back));
            }
        }

        /** The answers to S and A say more than that they came, so an N can't stand for them. */
        private boolean holdsBack(int oldest) {
            if (oldest == NONE) {
                return false;
            }
            int type = end.shelf.at(oldest).type();
            return type == TYPE_S || type == TYPE_A;
        }

        private void acknowledge(int seq) {
            if (!end.shelf.holds(seq)) {
                return;
            }
            Packet packet = end.shelf.at(seq);
            end.shelf.release(seq);
            if (packet.type() == TYPE_B) {
                end.enter(DONE);
            }
            if (packet.type() == TYPE_Z && packet.dataLength() == 0) {
                end.closed++;
            }
            if (packet.type() == TYPE_Z && packet.dataLength() > 0) {
                end.dropped++;
            }
        }

        private void sendAgain(int seq) {
            if (end.shelf.repeatsOf(seq) >= end.settings[LIMIT]) {
                end.failSaying(seq, TOO_OFTEN);
                return;
            }
            end.shelf.countRepeat(seq);
            end.again++;
            end.ship(end.shelf.at(seq));
        }

        private int oldestUnderWay() {
            for (int back = SHELF_SLOTS - 1; back > 0; back--) {
                int seq = seqAfter(next, -back);
                if (end.shelf.holds(seq)) {
                    return seq;
                }
            }
            return NONE;
        }

        private boolean mayGo() {
            if (end.state != SENDING || stage == 0) {
                return false;
            }
            int oldest = oldestUnderWay();
            if (oldest == NONE) {
                return true;
            }
            return stage == TYPE_D
                && end.shelf.at(oldest).type() == TYPE_D
                && seqAfter(next, -oldest) < end.deal.window;
        }

        private void sendNext() {
            end.draft.begin(next, stage);
            switch (stage) {
                case TYPE_F:
                    putName();
                    break;
                case TYPE_A:
                    putAttributes();
                    stage = stageOfBytes();
                    break;
                case TYPE_D:
                    position = speller.fill(end.draft, position, fileEnd);
                    stage = stageOfBytes();
                    break;
                case TYPE_Z:
                    putEnd();
                    break;
                default:
                    stage = 0;
                    break;
            }
            dispatch();
        }

        private int stageOfBytes() {
            return position < fileEnd ? TYPE_D : TYPE_Z;
        }

        private void putName() {
            Store store = end.store;
            int signs = store.tell(file, 2);
            for (int i = 0; i < signs && i < NAME_SIGNS; i++) {
                end.draft.put(store.tell(file, TOLD_NAME + i));
            }
            refused = false;
            speller.restart();
            position = store.startOf(file);
            fileEnd = store.startOf(file + 1);
            stage = end.deal.has(ATTRIBUTES) ? TYPE_A : stageOfBytes();
        }

        private void putAttributes() {
            int size = end.store.tell(file, 0);
            int digits = size > 999 ? 4 : size > 99 ? 3 : size > 9 ? 2 : 1;
            end.draft.put('1');
            end.draft.put(digits + 32);
            putDigits(size, digits);
            end.draft.put('#');
            end.draft.put(DATE_DIGITS + 32);
            putDigits(end.store.tell(file, 1), DATE_DIGITS);
        }

        private void putDigits(int number, int digits) {
            int unit = 1;
            for (int i = 1; i < digits; i++) {
                unit *= 10;
            }
            for (int i = 0; i < digits && unit > 0; i++) {
                end.draft.put('0' + number / unit % 10);
                unit /= 10;
            }
        }

        private void putEnd() {
            if (refused) {
                end.draft.put('D');
            }
            file++;
            stage = file <= lastFile ? TYPE_F : TYPE_B;
        }

        private void dispatch() {
            end.shipDraft(end.deal.checkKind());
            end.shelf.put(end.draft);
            next = seqAfter(next, 1);
        }
    }

    private static final class Receiver {
        private final End end;
        private final Reader reader;
        private int expects;
        /** A FILE was refused, and its Z has not been taken yet. */
        private boolean refused;
        /** An A or a D of the FILE has been taken. */
        private boolean midway;
        /** By SEQ: whether what was taken under it latest was an A that was refused. */
        private final boolean[] refusals;

        Receiver(End ofEnd) {
            end = ofEnd;
            reader = new Reader(ofEnd.store, ofEnd.deal);
            expects = 0;
            refused = false;
            midway = false;
            refusals = new boolean[SEQS];
        }

        void hear(Packet packet, boolean good) {
            if (!good) {
                hearNoise();
                return;
            }
            switch (packet.type()) {
                case TYPE_Y:
                case TYPE_N:
                    break;
                case TYPE_S:
                    hearStart(packet);
                    break;
                case TYPE_E:
                    if (end.state == RECEIVING) {
                        end.failHearing(packet);
                    }
                    break;
                default:
                    hearOther(packet);
                    break;
            }
        }

        void timeOut() {
            if (end.state == RECEIVING) {
                sayNo(isWaiting() ? 0 : expects);
            }
        }

        void takeKept() {
            for (int i = 0; i < SEQS && isReceiving() && end.shelf.holds(expects); i++) {
                Packet packet = end.shelf.at(expects);
                refusals[expects] = false;
                int fault = take(packet);
                if (fault != 0) {
                    end.failSaying(expects, fault);
                } else if (packet.type() == TYPE_A) {
                    sayYesOfAttributes(expects);
                }
                end.shelf.release(expects);
                expects = seqAfter(expects, 1);
            }
        }

        private boolean isWaiting() {
            return end.state == RECEIVING && !end.deal.made;
        }

        private boolean isReceiving() {
            return end.state == RECEIVING && end.deal.made;
        }

        private void hearNoise() {
            if (end.state == FRESH) {
                end.enter(RECEIVING);
            }
            timeOut();
        }

        private void hearStart(Packet packet) {
            if (!Deal.isRight(packet)) {
                end.deal.made = false;
                end.failSaying(packet.seq(), WRONG_DATA);
                return;
            }
            end.deal.make(end.settings, packet);
            end.enter(RECEIVING);
            end.sends = false;
            end.startCounting();
            end.shelf.clear();
            end.store.abandon();
            expects = seqAfter(packet.seq(), 1);
            refused = false;
            midway = false;
            for (int i = 0; i < refusals.length; i++) {
                refusals[i] = false;
            }
            end.draft.begin(packet.seq(), TYPE_Y);
            end.putParameters();
            end.shipDraft(1);
        }

        private void hearOther(Packet packet) {
            if (isWaiting()) {
                end.failSaying(packet.seq(), CANNOT_COME);
                return;
            }
            boolean done = end.state == DONE && !end.sends;
            if (!isReceiving() && !done) {
                return;
            }
            int distance = seqAfter(packet.seq(), -expects);
            if (distance < end.deal.window && !done) {
                keep(packet, distance);
            }
            if (distance >= SEQS - end.deal.window) {
                sayYesAgain(packet);
            }
        }

        private void keep(Packet packet, int distance) {
            int seq = packet.seq();
            boolean known = end.shelf.holds(seq);
            int firstMissing = greatestKept() + 1;
            // Whether an A is refused shows only when it is taken: its Y waits until then.
            if (packet.type() != TYPE_A) {
                sayYes(seq);
            }
            if (known) {
                return;
            }
            end.shelf.put(packet);
            for (int i = firstMissing; i < distance; i++) {
                sayNo(seqAfter(expects, i));
            }
        }

        /** How far behind what it EXPECTS the greatest kept one stands; NONE if none is kept. */
        private int greatestKept() {
            for (int i = SHELF_SLOTS - 1; i >= 0; i--) {
                if (end.shelf.holds(seqAfter(expects, i))) {
                    return i;
                }
            }
            return NONE;
        }

        private void sayYesAgain(Packet packet) {
            if (packet.type() == TYPE_A) {
                sayYesOfAttributes(packet.seq());
            } else {
                sayYes(packet.seq());
            }
        }

        private void sayYes(int seq) {
            end.draft.begin(seq, TYPE_Y);
            end.shipDraft(end.deal.checkKind());
        }

        private void sayYesOfAttributes(int seq) {
            boolean no = seq >= 0 && seq < refusals.length && refusals[seq];
            end.draft.begin(seq, TYPE_Y);
            end.draft.put(no ? 'N' : 'Y');
            end.shipDraft(end.deal.checkKind());
        }

        private void sayNo(int seq) {
            end.draft.begin(seq, TYPE_N);
            end.shipDraft(end.deal.checkKind());
        }

        /** Answers 0, or the byte of the E by which it fails. */
        private int take(Packet packet) {
            switch (packet.type()) {
                case TYPE_F:
                    return takeName(packet);
                case TYPE_A:
                    return takeAttributes(packet);
                case TYPE_D:
                    return takeData(packet);
                case TYPE_Z:
                    return takeEnd(packet);
                case TYPE_B:
                    return takeBye();
                default:
                    return CANNOT_COME;
            }
        }

        private int takeName(Packet packet) {
            if (end.store.open || refused || !isName(packet.bytes, HEAD_BYTES, packet.dataLength())) {
                return CANNOT_COME;
            }
            if (!end.store.hasPlace()) {
                return NO_ROOM;
            }
            end.store.begin(packet.bytes, HEAD_BYTES, packet.dataLength());
            midway = false;
            reader.restart();
            return 0;
        }

        private int takeAttributes(Packet packet) {
            if (!end.store.open || midway) {
                return CANNOT_COME;
            }
            int size = sizeTold(packet);
            int date = dateTold(packet);
            if (size == NONE || date == NONE) {
                return WRONG_DATA;
            }
            midway = true;
            if (end.store.hasRoomFor(size)) {
                end.store.dateLast(date);
            } else {
                end.store.abandon();
                refused = true;
                refusals[expects] = true;
            }
            return 0;
        }

        private static int sizeTold(Packet packet) {
            int digits = packet.data(1) - 32;
            boolean right = packet.data(0) == '1' && digits >= 1 && digits <= SIZE_DIGITS;
            if (!right || digits > 1 && packet.data(2) == '0') {
                return NONE;
            }
            return number(packet, 2, digits);
        }

        private static int dateTold(Packet packet) {
            int from = packet.dataLength() - DATE_DIGITS;
            boolean right = packet.data(from - 2) == '#' && packet.data(from - 1) == DATE_DIGITS + 32;
            // The DATE must stand right behind the size's digits.
            if (!right || from != 2 + packet.data(1) - 32 + 2) {
                return NONE;
            }
            return number(packet, from, DATE_DIGITS);
        }

        private static int number(Packet packet, int from, int digits) {
            int value = 0;
            for (int i = from; i < from + digits; i++) {
                int digit = packet.data(i) - '0';
                if (digit < 0 || digit > 9) {
                    return NONE;
                }
                value = value * 10 + digit;
            }
            return value;
        }

        private int takeData(Packet packet) {
            if (!end.store.open) {
                return CANNOT_COME;
            }
            midway = true;
            return reader.read(packet);
        }

        private int takeEnd(Packet packet) {
            boolean gone = packet.dataLength() == 1 && packet.data(0) == 'D';
            boolean whole = packet.dataLength() == 0;
            if (!gone && !whole || !end.store.open && !refused || refused && !gone) {
                return CANNOT_COME;
            }
            refused = false;
            if (gone) {
                end.store.abandon();
                end.dropped++;
            } else {
                end.store.close();
                end.closed++;
            }
            return 0;
        }

        private int takeBye() {
            if (end.store.open || refused) {
                return CANNOT_COME;
            }
            end.enter(DONE);
            return 0;
        }
    }
}
