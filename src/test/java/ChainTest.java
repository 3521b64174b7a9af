/** Promise 8, and what it stands on: TO TAKE a chain and TO GIVE it back, and what makes the device BROKEN. */
public final class ChainTest {
    private static final Checks CHECKS = new Checks("ChainTest");
    private static final int N = Guest.NEXT, W = Guest.WRITES, T = Guest.TABLE;
    private static final int GO = 2;

    public static void main(String[] args) {
        wrongQueues();
        counts();
        heads();
        nextOnes();
        sixteenParts();
        tablesThatAreFine();
        tablesThatBreak();
        tableAndParts();
        placesInMemory();
        readsBehindWrites();
        otherBits();
        given();
        quiet();
        brokenStays();
        aChainIsLookedAtOnce();
        untoldQueue();
        CHECKS.end();
    }

    private static Guest go(int size, boolean tables) {
        return Guest.running(CHECKS, size, tables);
    }

    private static void dueGoes(Guest g, String why, int went) {
        CHECKS.due(why + ": step", g.x().step(GO), 1);
        CHECKS.due(why + ": RUNS", g.x().count(0), 1);
        CHECKS.due(why + ": TAKEN", g.x().told(GO, 1), 1);
        CHECKS.due(why + ": GIVEN", g.x().told(GO, 2), 1);
        CHECKS.due(why + ": FRAMES that went", g.x().count(1), went);
    }

    private static void wrongQueues() {
        Guest g = go(4, false);
        for (int q : new int[] {-1, 1, 3, Integer.MIN_VALUE, Integer.MAX_VALUE}) {
            CHECKS.due("step(" + q + ")", g.x().step(q), RingDevices.BAD);
        }
        CHECKS.due("step(0)", g.x().step(0), 0);
        CHECKS.due("step(2)", g.x().step(2), 0);
        CHECKS.due("BAD goes before OFF", new RingDevices().step(1), RingDevices.BAD);
    }

    private static void counts() {
        Guest g = go(4, false);
        g.describe(GO, 0, 2048, 13, 0, 0);
        g.fill(2 * 512 + 256 + 2, 2, 4);
        for (int k = 1; k <= 4; k++) {
            CHECKS.due("COUNT is SIZE: step " + k, g.x().step(GO), 1);
            CHECKS.due("TAKEN", g.x().told(GO, 1), k);
        }
        CHECKS.due("nothing more", g.x().step(GO), 0);
        g.fill(2 * 512 + 256 + 2, 2, 3);
        CHECKS.due("COUNT one behind TAKEN", g.x().step(GO), RingDevices.BROKEN);
        for (int count : new int[] {5, 256, 65535, 0x8000}) {
            Guest h = go(4, false);
            h.describe(GO, 0, 2048, 13, 0, 0);
            h.fill(2 * 512 + 256 + 2, 2, count);
            h.dueBroken("COUNT " + count, GO);
        }
    }

    private static void heads() {
        for (int head : new int[] {4, 5, 255, 256, 65535}) {
            Guest g = go(4, false);
            g.offer(GO, head);
            g.dueBroken("head " + head, GO);
        }
        Guest g = go(4, false);
        g.describe(GO, 3, 2048, 13, 0, 0);
        g.offer(GO, 3);
        dueGoes(g, "head 3", 1);
        CHECKS.due("the head in the USED ring", g.usedHead(GO, 0), 3);
    }

    private static void nextOnes() {
        for (int next : new int[] {4, 256, 65535}) {
            Guest g = go(4, false);
            g.describe(GO, 0, 2048, 13, N, next);
            g.offer(GO, 0);
            g.dueBroken("next " + next, GO);
        }
        Guest g = go(4, false);
        g.describe(GO, 0, 2048, 13, N, 0);
        g.offer(GO, 0);
        g.dueBroken("a ring of one", GO);
        Guest h = go(4, false);
        h.describe(GO, 0, 2048, 0, N, 3);
        h.describe(GO, 3, 2048, 0, N, 0);
        h.offer(GO, 0);
        h.dueBroken("a ring of two without length", GO);
        Guest i = go(4, false);
        i.describe(GO, 0, 2048, 13, 0, 99);
        i.offer(GO, 0);
        dueGoes(i, "a next one's number without NEXT", 1);
    }

    private static void sixteenParts() {
        Guest g = go(16, false);
        for (int d = 0; d < 16; d++) {
            g.describe(GO, 15 - d, 2048 + d, 1, d < 15 ? N : 0, d < 15 ? 14 - d : 0);
        }
        g.fill(2060, 4, 0x44332211);
        g.offer(GO, 15);
        dueGoes(g, "16 parts", 1);
        CHECKS.due("the FRAME", g.x().wire(0, 3), 0x44);
        CHECKS.due("the FRAME", g.x().wire(0, 0), 0x11);
        CHECKS.due("the FRAME", g.x().wire(0, 4), RingDevices.NONE);
    }

    private static void tablesThatAreFine() {
        for (int bits : new int[] {T, T | W}) {
            Guest g = go(4, true);
            g.describe(GO, 1, 2048, 48, bits, 77);
            g.describeAt(2048, 3000, 12, N, 2);
            g.describeAt(2048 + 32, 3012, 1, 0, 0);
            g.offer(GO, 1);
            dueGoes(g, "a table with bits " + bits, 1);
            CHECKS.due("its head", g.usedHead(GO, 0), 1);
        }
        Guest g = go(1, true);
        g.describe(GO, 0, 4096 - 16, 16, T, 0);
        g.describeAt(4096 - 16, 4096 - 13, 13, 0, 0);
        g.offer(GO, 0);
        dueGoes(g, "a table at the end of MEMORY", 1);
        Guest h = go(1, true);
        h.describe(GO, 0, 2048, 256, T, 0);
        for (int d = 0; d < 16; d++) {
            h.describeAt(2048 + 16 * d, 3000 + d, 1, d < 15 ? N : 0, d + 1);
        }
        h.offer(GO, 0);
        dueGoes(h, "a table of 16", 1);
    }

    private static void tableBreaks(String why, boolean tables, long address, long length, int bits) {
        Guest g = go(4, tables);
        g.describe(GO, 0, address, length, bits, 1);
        g.describe(GO, 1, 3000, 13, 0, 0);
        g.describeAt(2048, 3000, 13, 0, 0);
        g.offer(GO, 0);
        g.dueBroken(why, GO);
    }

    private static void tablesThatBreak() {
        tableBreaks("TABLES are not agreed on", false, 2048, 16, T);
        tableBreaks("TABLE and NEXT", true, 2048, 16, T | N);
        for (long length : new long[] {0, 1, 8, 15, 17, 31, 257, 272, 512, 0x80000000L, 0xfffffff0L, 0x01000010L}) {
            tableBreaks("a table's length " + length, true, 2048, length, T);
        }
        for (long address : new long[] {4096 - 15, 4096, 65536, 0x100000800L, Long.MIN_VALUE, Long.MIN_VALUE + 2048, -1, -16}) {
            tableBreaks("a table at " + address, true, address, 16, T);
        }
        Guest g = go(4, true);
        g.describe(GO, 0, 2048, 32, T, 0);
        g.describeAt(2048, 2080, 16, T, 0);
        g.describeAt(2080, 3000, 13, 0, 0);
        g.offer(GO, 0);
        g.dueBroken("a TABLE in a TABLE", GO);
        Guest h = go(4, true);
        h.describe(GO, 0, 2048, 32, T, 0);
        h.describeAt(2048, 3000, 13, N, 2);
        h.offer(GO, 0);
        h.dueBroken("a next one behind the table", GO);
        Guest i = go(4, true);
        i.describe(GO, 0, 2048, 64, T, 0);
        i.describeAt(2048, 3000, 13, N, 3);
        i.describeAt(2048 + 48, 3000, 13, N, 0);
        i.offer(GO, 0);
        i.dueBroken("a ring in a table", GO);
    }

    /** A chain of some DESCRIPTORS of the QUEUE, and a TABLE that stands for some more. */
    private static Guest mixed(int before, int inTable) {
        Guest g = go(16, true);
        for (int d = 0; d < before; d++) {
            g.describe(GO, d, 3000, 2, N, d + 1);
        }
        g.describe(GO, before, 2048, 16 * inTable, T, 0);
        for (int d = 0; d < inTable; d++) {
            g.describeAt(2048 + 16 * d, 3000, 2, d < inTable - 1 ? N : 0, d + 1);
        }
        g.offer(GO, 0);
        return g;
    }

    private static void tableAndParts() {
        dueGoes(mixed(15, 1), "15 and a table of 1", 1);
        dueGoes(mixed(1, 15), "1 and a table of 15", 1);
        dueGoes(mixed(4, 4), "4 and a table of 4", 1);
        mixed(15, 2).dueBroken("15 and a table of 2", GO);
        mixed(1, 16).dueBroken("1 and a table of 16", GO);
        mixed(8, 9).dueBroken("8 and a table of 9", GO);
    }

    private static void placesInMemory() {
        long[][] fine = {{4095, 1}, {0, 4096}, {4096, 0}, {-1, 0}, {Long.MIN_VALUE, 0}, {0x123456789L, 0}, {4083, 13}};
        for (long[] f : fine) {
            Guest g = go(2, false);
            g.describe(GO, 0, f[0], f[1], 0, 0);
            g.offer(GO, 0);
            dueGoes(g, "address " + f[0] + ", length " + f[1], f[1] == 13 ? 1 : 0);
        }
        long[][] wrong = {{4096, 1}, {4095, 2}, {0, 4097}, {1, 4096}, {-1, 1}, {-1, 2}, {-13, 13}, {Long.MIN_VALUE, 1},
            {Long.MAX_VALUE, 1}, {0x100000000L, 13}, {0, 0xffffffffL}, {0, 0x80000000L}, {16, 0xfffffff0L}, {0x8000000000000010L, 13}};
        for (long[] w : wrong) {
            Guest g = go(2, false);
            g.describe(GO, 0, w[0], w[1], 0, 0);
            g.offer(GO, 0);
            g.dueBroken("address " + w[0] + ", length " + w[1], GO);
        }
    }

    private static void readsBehindWrites() {
        Guest g = go(4, false);
        g.describe(GO, 0, 2048, 13, W | N, 1);
        g.describe(GO, 1, 2048, 13, 0, 0);
        g.offer(GO, 0);
        g.dueBroken("READS behind WRITES", GO);
        Guest h = go(4, false);
        h.describe(GO, 0, 2048, 0, W | N, 1);
        h.describe(GO, 1, 2048, 0, 0, 0);
        h.offer(GO, 0);
        h.dueBroken("READS behind WRITES without length", GO);
        Guest i = go(4, true);
        i.describe(GO, 0, 2048, 1, W | N, 1);
        i.describe(GO, 1, 2304, 16, T, 0);
        i.describeAt(2304, 3000, 13, 0, 0);
        i.offer(GO, 0);
        i.dueBroken("READS in a table behind WRITES", GO);
        Guest j = go(4, true);
        j.describe(GO, 0, 3000, 13, N, 1);
        j.describe(GO, 1, 2304, 32, T | W, 0);
        j.describeAt(2304, 3013, 1, N, 1);
        j.describeAt(2320, 3014, 1, W, 0);
        j.offer(GO, 0);
        dueGoes(j, "WRITES of a table count for nothing", 1);
        CHECKS.due("the FRAME has two bytes", j.x().wire(0, 1), 0);
        CHECKS.due("the FRAME has two bytes", j.x().wire(0, 2), RingDevices.NONE);
        Guest k = go(4, true);
        k.describe(GO, 0, 2048, 1, W | N, 1);
        k.describe(GO, 1, 2304, 16, T, 0);
        k.describeAt(2304, 3000, 13, W, 0);
        k.offer(GO, 0);
        dueGoes(k, "a table without WRITES behind WRITES", 0);
    }

    private static void otherBits() {
        Guest g = go(4, false);
        g.describe(GO, 0, 2048, 13, 0xfff8, 3);
        g.offer(GO, 0);
        dueGoes(g, "bits that mean nothing", 1);
    }

    private static void given() {
        Guest g = go(2, false);
        int used = 2 * 512 + 300;
        g.describe(GO, 1, 2048, 13, 0, 0);
        g.describe(GO, 0, 2048, 0, 0, 0);
        g.fill(used, 4, 0xabcd1234L);
        g.fill(used + 4, 8, -1);
        g.fill(used + 12, 8, -1);
        g.offer(GO, 1);
        CHECKS.due("step", g.x().step(GO), 1);
        CHECKS.due("its BITS stay", g.number(used, 2), 0x1234);
        CHECKS.due("its COUNT, whatever stood there", g.usedCount(GO), 1);
        CHECKS.due("the head", g.usedHead(GO, 0), 1);
        CHECKS.due("the bytes", g.usedBytes(GO, 0), 0);
        CHECKS.due("the place behind", g.number(used + 12, 8), -1);
        g.fill(used + 20, 4, 0xffffffffL);
        g.offer(GO, 0);
        CHECKS.due("step", g.x().step(GO), 1);
        g.offer(GO, 0);
        g.fill(used + 2, 2, 999);
        CHECKS.due("step", g.x().step(GO), 1);
        CHECKS.due("its COUNT", g.usedCount(GO), 3);
        CHECKS.due("the first place again", g.usedHead(GO, 0), 0);
        CHECKS.due("GIVEN", g.x().told(GO, 2), 3);
        CHECKS.due("SIGNALS", g.x().told(GO, 3), 3);
        CHECKS.due("behind the USED ring", g.number(used + 20, 4), 0xffffffffL);
    }

    private static void quiet() {
        int[] bits = {0, 1, 2, 3, 0x100, 0xfffe, 0xffff};
        Guest g = go(1, false);
        int signals = 0;
        for (int b : bits) {
            g.fill(2 * 512 + 256, 2, b);
            g.offer(GO, 0);
            CHECKS.due("step", g.x().step(GO), 1);
            signals += (b & 1) == 0 ? 1 : 0;
            CHECKS.due("SIGNALS with BITS " + b, g.x().told(GO, 3), signals);
        }
        CHECKS.due("SIGNALS of another QUEUE", g.x().told(0, 3), 0);
    }

    private static void brokenStays() {
        Guest g = go(4, false);
        g.describe(GO, 0, 2048, 13, 0, 0);
        g.offer(GO, 0);
        g.describe(0, 0, 4096, 1, 0, 0);
        g.offer(0, 0);
        g.dueBroken("the disk's chain", 0);
        g.dueBroken("the other QUEUE has a good one", GO);
        g.dueBroken("a FRAME comes", 1);
        CHECKS.due("dropped", g.x().count(3), 0);
        g.fill(0, 8, 0);
        CHECKS.due("it is mended too late", g.x().step(0), RingDevices.BROKEN);
        CHECKS.due("reset", g.x().reset(false), 0);
        CHECKS.due("OFF", g.x().step(0), RingDevices.OFF);
    }

    /** A disk's answer that is written over the chain's own DESCRIPTORS changes nothing of the chain. */
    private static void aChainIsLookedAtOnce() {
        Guest g = go(4, false);
        g.diskHead(2048, 8, 0);
        g.describe(0, 0, 2048, 16, N, 1);
        g.describe(0, 1, 16, 32, W | N, 2);
        g.describe(0, 2, 3000, 1, W, 0);
        g.x().poke(3000, 9);
        g.offer(0, 0);
        CHECKS.due("step", g.x().step(0), 1);
        CHECKS.due("the name lies over DESCRIPTOR 1", g.x().peek(16), 'r');
        CHECKS.due("and DESCRIPTOR 2", g.x().peek(32), 0);
        CHECKS.due("behind the 20 bytes", g.x().peek(37), 0);
        CHECKS.due("RESULT is where it was told", g.x().peek(3000), 0);
        CHECKS.due("bytes", g.usedBytes(0, 0), 21);
    }

    private static void untoldQueue() {
        Guest g = new Guest(CHECKS);
        g.lay(0, 1, 0, 256, 300);
        CHECKS.due("run", g.x().run(), 0);
        g.fill(2, 2, 9);
        CHECKS.due("QUEUE 2 is not told", g.x().step(2), 0);
        CHECKS.due("QUEUE 1 is not told", g.x().arrive(1, 1), 0);
        CHECKS.due("RUNS", g.x().count(0), 1);
    }
}
