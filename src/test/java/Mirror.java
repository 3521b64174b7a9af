import java.math.BigInteger;
import java.util.ArrayList;
import java.util.HashMap;
import java.util.List;
import java.util.Map;
import java.util.TreeSet;

/**
 * The document written down a second time, in another way than the class: with lists of single bytes' places, big
 * numbers and an exception for BROKEN. Only for tests: it makes what it likes.
 */
final class Mirror {
    private static final class Breaks extends Exception {
        private static final long serialVersionUID = 1L;
    }

    private static final class Queue {
        boolean told;
        int n, descriptors, available, used, taken, given, signals;
    }

    private static final class Lent {
        final TreeSet<Integer> free = new TreeSet<>();
        final Map<Integer, List<Integer>> chains = new HashMap<>();
        int count, saw;
        int written = -1;
    }

    private static final class Taken {
        int head;
        final List<Integer> reads = new ArrayList<>();
        final List<Integer> writes = new ArrayList<>();
        int parts;
        boolean wrote;
    }

    final int[] memory = new int[4096];
    private final int[][] disk = new int[32][64];
    private final List<List<Integer>> wire = new ArrayList<>();
    private Queue[] queues = {new Queue(), new Queue(), new Queue()};
    private Lent[] lent = {new Lent(), new Lent(), new Lent()};
    private int state;
    private boolean tables;
    private boolean started;
    private final int[] counts = new int[4];

    private BigInteger big(int address, int bytes) {
        BigInteger value = BigInteger.ZERO;
        for (int k = bytes - 1; k >= 0; k--) {
            value = value.multiply(BigInteger.valueOf(256)).add(BigInteger.valueOf(memory[address + k]));
        }
        return value;
    }

    private int small(int address) {
        return memory[address] + 256 * memory[address + 1];
    }

    private void put(int address, int bytes, long value) {
        for (int k = 0; k < bytes; k++) {
            memory[address + k] = (int) (value % 256);
            value /= 256;
        }
    }

    private static int frameByte(long w, int k) {
        return Math.floorMod(Math.floorMod(w >> 8 * (k % 8), 256) + k, 256);
    }

    int start(boolean agreed) {
        java.util.Arrays.fill(memory, 0);
        reset(agreed);
        for (int q = 0; q < 3; q++) {
            queue(q, 8, 256 * q, 256 * q + 128, 256 * q + 152);
            for (int d = 0; d < 8; d++) {
                lent[q].free.add(d);
            }
        }
        started = true;
        return run();
    }

    int reset(boolean agreed) {
        state = 0;
        started = false;
        tables = agreed;
        queues = new Queue[] {new Queue(), new Queue(), new Queue()};
        lent = new Lent[] {new Lent(), new Lent(), new Lent()};
        return 0;
    }

    int queue(int q, int size, int descriptors, int available, int used) {
        if (q < 0 || q > 2 || queues[q].told || state != 0 || !List.of(1, 2, 4, 8, 16).contains(size)) {
            return -2;
        }
        if (descriptors % 16 != 0 || available % 2 != 0 || used % 4 != 0 || Math.min(descriptors, Math.min(available, used)) < 0
                || descriptors + 16L * size > 4096 || available + 4L + 2 * size > 4096 || used + 4L + 8 * size > 4096) {
            return -2;
        }
        queues[q].told = true;
        queues[q].n = size;
        queues[q].descriptors = descriptors;
        queues[q].available = available;
        queues[q].used = used;
        return 0;
    }

    int run() {
        if (state != 0) {
            return -2;
        }
        state = 1;
        return 0;
    }

    int poke(int address, int b) {
        if (address < 0 || address > 4095 || b < 0 || b > 255) {
            return -2;
        }
        int was = memory[address];
        memory[address] = b;
        return was;
    }

    int peek(int address) {
        return address < 0 || address > 4095 ? -2 : memory[address];
    }

    private boolean has(Queue q) throws Breaks {
        if (state != 1 || !q.told || small(q.available + 2) == q.taken) {
            return false;
        }
        if (Math.floorMod(small(q.available + 2) - q.taken, 65536) > q.n) {
            throw new Breaks();
        }
        return true;
    }

    private Taken take(Queue q) throws Breaks {
        Taken t = new Taken();
        t.head = small(q.available + 4 + 2 * (q.taken % q.n));
        walk(t, q.descriptors, q.n, t.head, false);
        q.taken = (q.taken + 1) % 65536;
        return t;
    }

    private void walk(Taken t, int base, int n, int number, boolean inTable) throws Breaks {
        if (number >= n || t.parts == 16) {
            throw new Breaks();
        }
        int at = base + 16 * number;
        BigInteger address = big(at, 8);
        BigInteger length = big(at + 8, 4);
        int bits = small(at + 12);
        boolean next = bits % 2 == 1;
        boolean writes = bits / 2 % 2 == 1;
        boolean table = bits / 4 % 2 == 1;
        if (length.signum() != 0 && address.add(length).compareTo(BigInteger.valueOf(4096)) > 0) {
            throw new Breaks();
        }
        if (table) {
            if (!tables || next || inTable || length.intValue() % 16 != 0 || length.signum() == 0 || length.intValue() > 256) {
                throw new Breaks();
            }
            walk(t, address.intValue(), length.intValue() / 16, 0, true);
            return;
        }
        if (!writes && t.wrote) {
            throw new Breaks();
        }
        t.wrote |= writes;
        t.parts++;
        for (int k = 0; k < length.intValue(); k++) {
            (writes ? t.writes : t.reads).add(address.intValue() + k);
        }
        if (next) {
            walk(t, base, n, small(at + 14), inTable);
        }
    }

    private void give(Queue q, int head, int w) {
        put(q.used + 4 + 8 * (q.given % q.n), 4, head);
        put(q.used + 8 + 8 * (q.given % q.n), 4, w);
        q.given = (q.given + 1) % 65536;
        put(q.used + 2, 2, q.given);
        if (small(q.available) % 2 == 0) {
            q.signals++;
        }
    }

    private int byDisk(Taken t) {
        if (t.reads.size() < 16 || t.writes.isEmpty()) {
            return 0;
        }
        int[] read = new int[t.reads.size()];
        for (int k = 0; k < read.length; k++) {
            read[k] = memory[t.reads.get(k)];
        }
        long kind = read[0] + 256L * read[1] + 65536L * read[2] + 16777216L * read[3];
        BigInteger sector = BigInteger.ZERO;
        for (int k = 15; k >= 8; k--) {
            sector = sector.shiftLeft(8).add(BigInteger.valueOf(read[k]));
        }
        int room = t.writes.size() - 1;
        int bytes = kind == 0 ? room : kind == 1 ? read.length - 16 : 0;
        boolean there = bytes == 0 || bytes % 64 == 0 && sector.add(BigInteger.valueOf(bytes / 64)).compareTo(BigInteger.valueOf(32)) <= 0;
        int result = kind != 0 && kind != 1 && kind != 4 && kind != 8 ? 2 : there ? 0 : 1;
        int written = 0;
        if (result == 0 && kind == 8) {
            for (; written < Math.min(20, room); written++) {
                memory[t.writes.get(written)] = written < 5 ? "rings".charAt(written) : 0;
            }
        }
        for (int k = 0; result == 0 && k < bytes; k++) {
            int[] row = disk[sector.intValue() + k / 64];
            if (kind == 0) {
                memory[t.writes.get(k)] = row[k % 64];
                written++;
            } else {
                row[k % 64] = read[16 + k];
            }
        }
        memory[t.writes.get(room)] = result;
        return written + 1;
    }

    int step(int q) {
        if (q != 0 && q != 2) {
            return -2;
        }
        if (state != 1) {
            return state == 0 ? -4 : -5;
        }
        try {
            if (!has(queues[q])) {
                return 0;
            }
            Taken t = take(queues[q]);
            int w = 0;
            if (q == 0) {
                w = byDisk(t);
            } else if (t.reads.size() > 12 && t.reads.size() <= 92) {
                List<Integer> frame = new ArrayList<>();
                for (int a : t.reads.subList(12, t.reads.size())) {
                    frame.add(memory[a]);
                }
                wire.add(0, frame);
                counts[1]++;
            }
            give(queues[q], t.head, w);
            return 1;
        } catch (Breaks b) {
            state = 2;
            return -5;
        }
    }

    int arrive(int n, long w) {
        if (n < 1 || n > 80) {
            return -2;
        }
        if (state != 1) {
            return state == 0 ? -4 : -5;
        }
        try {
            if (!has(queues[1])) {
                counts[3]++;
                return 0;
            }
            Taken t = take(queues[1]);
            if (!t.reads.isEmpty() || t.writes.size() < 12 + n) {
                give(queues[1], t.head, 0);
                counts[3]++;
                return 0;
            }
            for (int k = 0; k < 12 + n; k++) {
                memory[t.writes.get(k)] = k < 12 ? 0 : frameByte(w, k - 12);
            }
            give(queues[1], t.head, 12 + n);
            counts[2]++;
            return 1;
        } catch (Breaks b) {
            state = 2;
            return -5;
        }
    }

    /** Lends as many as are needed; null if there are too few. */
    private List<Integer> lend(int q, int needed) {
        if (lent[q].free.size() < needed) {
            return null;
        }
        List<Integer> chain = new ArrayList<>();
        for (int k = 0; k < needed; k++) {
            chain.add(lent[q].free.pollFirst());
        }
        lent[q].chains.put(chain.get(0), chain);
        return chain;
    }

    private void describe(int place, int address, int length, int bits, int next) {
        put(place, 8, address);
        put(place + 8, 4, length);
        put(place + 12, 2, bits);
        put(place + 14, 2, next);
    }

    private int offer(int q, int head) {
        put(256 * q + 132 + 2 * (lent[q].count % 8), 2, head);
        lent[q].count = (lent[q].count + 1) % 65536;
        put(256 * q + 130, 2, lent[q].count);
        return head;
    }

    private int request(boolean write, int sector, long w) {
        if (sector < 0 || sector > 31) {
            return -2;
        }
        if (!started) {
            return -4;
        }
        List<Integer> chain = lend(0, tables ? 1 : 3);
        if (chain == null) {
            return -1;
        }
        int j = chain.get(0);
        int buffer = 1024 + 96 * j;
        int base = tables ? 1792 + 64 * j : 0;
        List<Integer> numbers = tables ? List.of(0, 1, 2) : chain;
        if (tables) {
            describe(16 * j, base, 48, 4, 0);
        }
        describe(base + 16 * numbers.get(0), buffer, 16, 1, numbers.get(1));
        describe(base + 16 * numbers.get(1), buffer + 16, 64, write ? 1 : 3, numbers.get(2));
        describe(base + 16 * numbers.get(2), buffer + 80, 1, 2, 0);
        put(buffer, 8, write ? 1 : 0);
        put(buffer + 8, 8, sector);
        for (int k = 0; write && k < 64; k++) {
            memory[buffer + 16 + k] = frameByte(w, k);
        }
        return offer(0, j);
    }

    int read(int sector) {
        return request(false, sector, 0);
    }

    int write(int sector, long w) {
        return request(true, sector, w);
    }

    int send(int n, long w) {
        if (n < 1 || n > 80) {
            return -2;
        }
        if (!started) {
            return -4;
        }
        List<Integer> chain = lend(2, 2);
        if (chain == null) {
            return -1;
        }
        int buffer = 2304 + 96 * chain.get(0);
        describe(512 + 16 * chain.get(0), buffer, 12, 1, chain.get(1));
        describe(512 + 16 * chain.get(1), buffer + 12, n, 0, 0);
        for (int k = 0; k < 12 + n; k++) {
            memory[buffer + k] = k < 12 ? 0 : frameByte(w, k - 12);
        }
        return offer(2, chain.get(0));
    }

    int post() {
        if (!started) {
            return -4;
        }
        List<Integer> chain = lend(1, 1);
        if (chain == null) {
            return -1;
        }
        describe(256 + 16 * chain.get(0), 3072 + 96 * chain.get(0), 92, 2, 0);
        return offer(1, chain.get(0));
    }

    int collect(int q) {
        if (q < 0 || q > 2) {
            return -2;
        }
        if (!started) {
            return -4;
        }
        Lent l = lent[q];
        if (small(256 * q + 154) == l.saw) {
            return -1;
        }
        int place = 256 * q + 156 + 8 * (l.saw % 8);
        l.saw = (l.saw + 1) % 65536;
        BigInteger head = big(place, 4);
        List<Integer> chain = head.bitLength() > 3 ? null : l.chains.remove(head.intValue());
        if (chain == null) {
            return -3;
        }
        l.free.addAll(chain);
        l.written = big(place + 4, 4).clearBit(31).intValue();
        return head.intValue();
    }

    int written(int q) {
        return q < 0 || q > 2 ? -2 : lent[q].written;
    }

    int wire(int i, int k) {
        return i < 0 || i > 15 || i >= wire.size() || k < 0 || k >= wire.get(i).size() ? -1 : wire.get(i).get(k);
    }

    int disk(int sector, int k) {
        return sector < 0 || sector > 31 || k < 0 || k > 63 ? -2 : disk[sector][k];
    }

    int told(int q, int what) {
        if (q < 0 || q > 2 || what < 0 || what > 6) {
            return -2;
        }
        Queue d = queues[q];
        Lent l = lent[q];
        int[] all = {d.told ? 1 : 0, d.taken, d.given, d.signals, d.n, started ? l.free.size() : 0, l.saw};
        return all[what];
    }

    int count(int what) {
        if (what < 0 || what > 4) {
            return -2;
        }
        return what == 0 ? state : what == 4 ? (tables ? 1 : 0) : counts[what];
    }
}
