/** A guest that lays its own rings out by poke(), and keeps to the 512 calls that are promised. */
final class Guest {
    static final int NEXT = 1, WRITES = 2, TABLE = 4;
    private static final int MOST_CALLS = 512;

    private final RingDevices x = new RingDevices();
    private final Checks checks;
    private final int[] sizes = new int[3];
    private final int[] descriptors = new int[3];
    private final int[] available = new int[3];
    private final int[] used = new int[3];
    private final int[] offered = new int[3];
    private int calls;

    Guest(Checks checks) {
        this.checks = checks;
    }

    /** To be called before each call that a test makes on x itself. */
    RingDevices x() {
        calls++;
        if (calls > MOST_CALLS) {
            throw new IllegalStateException("a test uses one object for more than 512 calls");
        }
        return x;
    }

    void due(String call, long got, long want) {
        checks.due(call, got, want);
    }

    /** The three QUEUES with this SIZE, 512 bytes apart, and the device running. */
    static Guest running(Checks checks, int size, boolean tables) {
        Guest g = new Guest(checks);
        g.due("reset", g.x().reset(tables), 0);
        for (int q = 0; q < 3; q++) {
            g.lay(q, size, 512 * q, 512 * q + 256, 512 * q + 300);
        }
        g.due("run", g.x().run(), 0);
        return g;
    }

    void lay(int q, int size, int descriptorsAt, int availableAt, int usedAt) {
        due("queue " + q, x().queue(q, size, descriptorsAt, availableAt, usedAt), 0);
        sizes[q] = size;
        descriptors[q] = descriptorsAt;
        available[q] = availableAt;
        used[q] = usedAt;
        offered[q] = 0;
    }

    void fill(int address, int count, long value) {
        for (int k = 0; k < count; k++) {
            x().poke(address + k, (int) (value >>> (8 * k)) & 255);
        }
    }

    long number(int address, int count) {
        long value = 0;
        for (int k = 0; k < count; k++) {
            value |= (long) x().peek(address + k) << (8 * k);
        }
        return value;
    }

    /** Descriptor number of QUEUE q. */
    void describe(int q, int number, long address, long length, int bits, int next) {
        describeAt(descriptors[q] + 16 * number, address, length, bits, next);
    }

    void describeAt(int place, long address, long length, int bits, int next) {
        fill(place, 8, address);
        fill(place + 8, 4, length);
        fill(place + 12, 2, bits);
        fill(place + 14, 2, next);
    }

    void offer(int q, int head) {
        fill(available[q] + 4 + 2 * (offered[q] % sizes[q]), 2, head);
        offered[q]++;
        fill(available[q] + 2, 2, offered[q]);
    }

    long usedCount(int q) {
        return number(used[q] + 2, 2);
    }

    /** The head in a place of the USED ring. */
    long usedHead(int q, int place) {
        return number(used[q] + 4 + 8 * place, 4);
    }

    /** How many bytes were written, in a place of the USED ring. */
    long usedBytes(int q, int place) {
        return number(used[q] + 8 + 8 * place, 4);
    }

    void diskHead(int address, long kind, long sector) {
        fill(address, 4, kind);
        fill(address + 8, 8, sector);
    }

    /** Answers a step, and that the device is BROKEN with nothing taken, given or signalled. */
    void dueBroken(String why, int q) {
        due(why + ": step", q == 1 ? x().arrive(1, 0) : x().step(q), RingDevices.BROKEN);
        due(why + ": count(0)", x().count(0), 2);
        due(why + ": TAKEN", x().told(q, 1), 0);
        due(why + ": GIVEN", x().told(q, 2), 0);
        due(why + ": SIGNALS", x().told(q, 3), 0);
        due(why + ": the USED ring's COUNT", usedCount(q), 0);
    }
}
