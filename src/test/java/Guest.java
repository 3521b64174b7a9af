import java.util.Map;
import java.util.function.Consumer;

/** A guest that lays its own rings out by poke(), and keeps to the 512 calls that are promised. */
final class Guest {
    static final int NEXT = 1, WRITES = 2, TABLE = 4;
    private static final int MOST_CALLS = 512, MEMORY = 4096;

    private final RingDevices x = new RingDevices();
    private final Checks checks;
    private final int[] sizes = {8, 8, 8};
    private final int[] descriptors = {0, 256, 512};
    private final int[] available = {128, 384, 640};
    private final int[] used = {152, 408, 664};
    private final int[] offered = new int[3];
    private final int[] poked = new int[MEMORY];
    private int calls;

    Guest(Checks checks) {
        this.checks = checks;
    }

    /** To be called before each call that a test makes on x itself. */
    RingDevices x() {
        calls++;
        if (calls > MOST_CALLS) {
            throw new IllegalStateException("a test uses one object for more than 512 calls");
        }
        return x;
    }

    void due(String call, long got, long want) {
        checks.due(call, got, want);
    }

    /** The three QUEUES with this SIZE, 512 bytes apart, and the device running; all from 1536 on is nobody's. */
    static Guest running(Checks checks, int size, boolean tables) {
        Guest g = new Guest(checks);
        g.layAll(size, tables);
        return g;
    }

    void layAll(int size, boolean tables) {
        due("reset", x().reset(tables), 0);
        for (int q = 0; q < 3; q++) {
            lay(q, size, 512 * q, 512 * q + 256, 512 * q + 300);
        }
        due("run", x().run(), 0);
    }

    /** A DRIVER's QUEUES, as START lays them out. */
    static Guest started(Checks checks, boolean tables) {
        Guest g = new Guest(checks);
        g.due("start", g.x().start(tables), 0);
        return g;
    }

    void lay(int q, int size, int descriptorsAt, int availableAt, int usedAt) {
        due("queue " + q, x().queue(q, size, descriptorsAt, availableAt, usedAt), 0);
        sizes[q] = size;
        descriptors[q] = descriptorsAt;
        available[q] = availableAt;
        used[q] = usedAt;
        offered[q] = 0;
    }

    int availableAt(int q) {
        return available[q];
    }

    int usedAt(int q) {
        return used[q];
    }

    void poke(int address, int b) {
        x().poke(address, b);
        poked[address] = b;
    }

    void fill(int address, int count, long value) {
        for (int k = 0; k < count; k++) {
            poke(address + k, (int) (value >>> (8 * k)) & 255);
        }
    }

    long number(int address, int count) {
        long value = 0;
        for (int k = 0; k < count; k++) {
            value |= (long) x().peek(address + k) << (8 * k);
        }
        return value;
    }

    /** Descriptor number of QUEUE q. */
    void describe(int q, int number, long address, long length, int bits, int next) {
        describeAt(descriptors[q] + 16 * number, address, length, bits, next);
    }

    void describeAt(int place, long address, long length, int bits, int next) {
        fill(place, 8, address);
        fill(place + 8, 4, length);
        fill(place + 12, 2, bits);
        fill(place + 14, 2, next);
    }

    /** What a part of a chain is: its address, its length, its BITS but for NEXT. */
    static long[] part(long address, long length, int bits) {
        return new long[] {address, length, bits};
    }

    /** DESCRIPTORS 0, 1, .. of a QUEUE or of a table, each with NEXT but the last. */
    private void link(int base, long[]... parts) {
        for (int d = 0; d < parts.length; d++) {
            int next = d < parts.length - 1 ? NEXT : 0;
            describeAt(base + 16 * d, parts[d][0], parts[d][1], (int) parts[d][2] | next, next * (d + 1));
        }
    }

    /** Lays a chain of DESCRIPTORS 0, 1, .. of the QUEUE, and offers it. */
    void chain(int q, long[]... parts) {
        link(descriptors[q], parts);
        offer(q, 0);
    }

    void table(int place, long[]... parts) {
        link(place, parts);
    }

    void offer(int q, int head) {
        fill(available[q] + 4 + 2 * (offered[q] % sizes[q]), 2, head);
        offered[q]++;
        fill(available[q] + 2, 2, offered[q]);
    }

    /** The COUNT of the AVAILABLE ring. */
    void count(int q, int count) {
        fill(available[q] + 2, 2, count);
    }

    long usedCount(int q) {
        return number(used[q] + 2, 2);
    }

    /** The head in a place of the USED ring. */
    long usedHead(int q, int place) {
        return number(used[q] + 4 + 8 * place, 4);
    }

    /** How many bytes were written, in a place of the USED ring. */
    long usedBytes(int q, int place) {
        return number(used[q] + 8 + 8 * place, 4);
    }

    void diskHead(int address, long kind, long sector) {
        fill(address, 4, kind);
        fill(address + 8, 8, sector);
    }

    /** Lets the device do one chain of a QUEUE: for QUEUE 1 a FRAME of one byte comes. */
    int go(int q) {
        return q == 1 ? x().arrive(1, 0) : x().step(q);
    }

    /** The next chain is TAKEN and given back, and the device RUNS on. */
    void dueDone(String why, int q) {
        int taken = x().told(q, 1);
        int given = x().told(q, 2);
        int answer = go(q);
        due(why + ": answer", q == 1 && answer == 0 ? 1 : answer, 1);
        due(why + ": RUNS", x().count(0), 1);
        due(why + ": TAKEN", x().told(q, 1), taken + 1);
        due(why + ": GIVEN", x().told(q, 2), given + 1);
    }

    /** Answers a step, and that the device is BROKEN with nothing taken, given or signalled. */
    void dueBroken(String why, int q) {
        int taken = x().told(q, 1);
        int given = x().told(q, 2);
        int signals = x().told(q, 3);
        long count = usedCount(q);
        due(why + ": step", go(q), RingDevices.BROKEN);
        due(why + ": count(0)", x().count(0), 2);
        due(why + ": TAKEN", x().told(q, 1), taken);
        due(why + ": GIVEN", x().told(q, 2), given);
        due(why + ": SIGNALS", x().told(q, 3), signals);
        due(why + ": the USED ring's COUNT", usedCount(q), count);
    }

    /** All that told(), count() and written() answer. */
    String state() {
        StringBuilder text = new StringBuilder();
        for (int q = 0; q < 3; q++) {
            for (int what = 0; what <= 6; what++) {
                text.append(x().told(q, what)).append(what < 6 ? " " : "");
            }
            text.append(" written ").append(x().written(q)).append("; ");
        }
        for (int what = 0; what <= 4; what++) {
            text.append(x().count(what)).append(" ");
        }
        return text.toString();
    }

    /**
     * Looks at all MEMORY behind a run of calls: it is as the guest poked it, but for what the device or the DRIVER
     * changed. As a look at it all is more than 512 calls, the run is played anew for each part of MEMORY.
     */
    static void dueMemory(Checks checks, String why, Map<Integer, Integer> changed, Consumer<Guest> run) {
        int from = 0;
        while (from < MEMORY) {
            Guest g = new Guest(checks);
            run.accept(g);
            if (g.calls >= MOST_CALLS) {
                throw new IllegalStateException("the run leaves no call to look at MEMORY");
            }
            for (; from < MEMORY && g.calls < MOST_CALLS; from++) {
                int want = changed.getOrDefault(from, g.poked[from]);
                int got = g.x().peek(from);
                if (got != want) {
                    checks.due(why + ": byte " + from + " of MEMORY", got, want);
                }
            }
        }
        checks.due(why + ": all MEMORY was looked at", from, MEMORY);
    }
}
