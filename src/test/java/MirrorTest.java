import java.util.Random;

/** Runs of calls by chance (the same ones every time), of which the class and the mirror must answer every one alike. */
public final class MirrorTest {
    private static final Checks CHECKS = new Checks("MirrorTest");
    private static final int RUNS = 6000, MOST_CALLS = 512;
    private static final int[] EDGES = {-1, 0, 1, 2, 3, 7, 8, 15, 16, 31, 32, 63, 64, 79, 80, 81, 255, 256, 4095, 4096,
        Integer.MAX_VALUE, Integer.MIN_VALUE};
    private static final int[] LENGTHS = {0, 1, 4, 12, 13, 15, 16, 17, 20, 32, 48, 63, 64, 65, 80, 92, 93, 128, 256, 272, 2048};
    private static final int[] KINDS = {0, 0, 0, 1, 1, 1, 4, 8, 8, 2, 255};

    private final Random chance;
    private final RingDevices x = new RingDevices();
    private final Mirror m = new Mirror();
    private final int run;
    private int calls;
    private final int[] layout = {8, 0, 128, 152, 8, 256, 384, 408, 8, 512, 640, 664};

    private MirrorTest(int run) {
        this.run = run;
        chance = new Random(run);
    }

    public static void main(String[] args) {
        int[] seen = new int[4];
        for (int run = 0; run < RUNS; run++) {
            MirrorTest t = new MirrorTest(run);
            if (run % 2 == 0) {
                t.byDriver();
            } else {
                t.byGuest();
            }
            for (int what = 0; what < 4; what++) {
                seen[what] += t.m.count(what) > (what == 0 ? 1 : 0) ? 1 : 0;
            }
            t.lookAround();
        }
        for (int what = 0; what < 4; what++) {
            CHECKS.due("enough runs come to count(" + what + ")", seen[what] > RUNS / 20 ? 1 : 0, 1);
        }
        CHECKS.end();
    }

    private boolean more(int left) {
        return calls < MOST_CALLS - left;
    }

    private void due(String call, int got, int want) {
        calls++;
        if (got != want || calls > MOST_CALLS) {
            CHECKS.due("run " + run + ", call " + calls + ": " + call, got, want);
        } else if (calls % 64 == 0) {
            CHECKS.due("", got, want);
        }
    }

    private int any(int[] row) {
        return row[chance.nextInt(row.length)];
    }

    private int mostly(int below) {
        return chance.nextInt(16) == 0 ? any(EDGES) : chance.nextInt(below);
    }

    private void poke(int address, int b) {
        due("poke(" + address + ", " + b + ")", x.poke(address, b), m.poke(address, b));
    }

    private void number(int address, int bytes, long value) {
        for (int k = 0; k < bytes; k++) {
            int b = (int) (value >>> (8 * k)) & 255;
            if (address + k < 4096 && m.memory[address + k] != b) {
                poke(address + k, b);
            }
        }
    }

    private void step(int q) {
        if (q == 1) {
            int n = mostly(81);
            long w = chance.nextLong();
            due("arrive(" + n + ", " + w + ")", x.arrive(n, w), m.arrive(n, w));
        } else {
            due("step(" + q + ")", x.step(q), m.step(q));
        }
    }

    private void start(boolean tables) {
        due("start(" + tables + ")", x.start(tables), m.start(tables));
    }

    private void reset(boolean tables) {
        due("reset(" + tables + ")", x.reset(tables), m.reset(tables));
    }

    private void byDriver() {
        start(chance.nextBoolean());
        boolean pokes = chance.nextInt(4) != 0;
        while (more(100)) {
            ask();
            if (pokes && chance.nextInt(12) == 0) {
                mischief();
            }
            if (m.count(0) == 2 && chance.nextInt(8) == 0) {
                start(chance.nextBoolean());
            }
            if (chance.nextInt(100) == 0) {
                pause();
            }
        }
    }

    /** A guest that is no DRIVER comes, and now and then does a little, before the DRIVER STARTS again. */
    private void pause() {
        reset(chance.nextBoolean());
        lookAtDriver();
        for (int k = chance.nextInt(8); k > 0; k--) {
            ask();
            if (chance.nextInt(3) == 0) {
                due("run()", x.run(), m.run());
            }
        }
        if (chance.nextInt(8) != 0) {
            start(chance.nextBoolean());
            lookAtDriver();
        }
    }

    private void lookAtDriver() {
        for (int q = 0; q < 3; q++) {
            due("written(" + q + ")", x.written(q), m.written(q));
            due("told(" + q + ", 5)", x.told(q, 5), m.told(q, 5));
            due("told(" + q + ", 6)", x.told(q, 6), m.told(q, 6));
        }
    }

    private void ask() {
        int a = mostly(32);
        int q = mostly(3);
        long w = chance.nextLong();
        switch (chance.nextInt(12)) {
            case 0: due("read(" + a + ")", x.read(a), m.read(a)); break;
            case 1: due("write(" + a + ", " + w + ")", x.write(a, w), m.write(a, w)); break;
            case 2: due("send(" + a + ", " + w + ")", x.send(a, w), m.send(a, w)); break;
            case 3: due("post()", x.post(), m.post()); break;
            case 4: case 5: due("collect(" + q + ")", x.collect(q), m.collect(q)); break;
            case 6: due("written(" + q + ")", x.written(q), m.written(q)); break;
            case 7: tell(); break;
            default: step(q);
        }
    }

    private void tell() {
        int q = mostly(3);
        int what = mostly(7);
        int sector = mostly(32);
        int k = mostly(64);
        switch (chance.nextInt(4)) {
            case 0: due("told(" + q + ", " + what + ")", x.told(q, what), m.told(q, what)); break;
            case 1: due("count(" + what + ")", x.count(what), m.count(what)); break;
            case 2: due("disk(" + sector + ", " + k + ")", x.disk(sector, k), m.disk(sector, k)); break;
            default: due("wire(" + q + ", " + k + ")", x.wire(q, k), m.wire(q, k));
        }
    }

    private void mischief() {
        int q = chance.nextInt(3);
        switch (chance.nextInt(6)) {
            case 0: poke(256 * q + chance.nextInt(224), chance.nextInt(9)); break;
            case 1: poke(256 * q + 128, chance.nextInt(2)); break;
            case 2: poke(1024 + 96 * chance.nextInt(8), any(KINDS)); break;
            case 3: poke(256 * q + 154 + chance.nextInt(66), chance.nextInt(12)); break;
            case 4: poke(1792 + chance.nextInt(512), chance.nextInt(8)); break;
            default: poke(mostly(4096), mostly(256));
        }
    }

    private void byGuest() {
        reset(chance.nextBoolean());
        boolean tight = chance.nextInt(3) == 0;
        for (int q = 0; q < 3; q++) {
            lay(q, tight ? 512 : 4096);
        }
        due("run()", x.run(), m.run());
        while (more(140)) {
            int q = chance.nextInt(3);
            layChain(q);
            step(q);
            if (chance.nextInt(3) == 0) {
                tell();
            }
            if (m.count(0) == 2) {
                return;
            }
        }
    }

    private void lay(int q, int below) {
        int size = 1 << chance.nextInt(5);
        int d = 16 * chance.nextInt(below / 16);
        int a = 2 * chance.nextInt(below / 2);
        int u = 4 * chance.nextInt(below / 4);
        int got = x.queue(q, size, d, a, u);
        due("queue(" + q + ", " + size + ", " + d + ", " + a + ", " + u + ")", got, m.queue(q, size, d, a, u));
        if (got == 0) {
            int[] told = {size, d, a, u};
            System.arraycopy(told, 0, layout, 4 * q, 4);
        }
    }

    private void describe(int place, int length, int bits, int next) {
        int address = chance.nextInt(40) == 0 ? 4096 - chance.nextInt(64) : chance.nextInt(4096 - Math.min(length, 4000));
        describe(place, address, length, bits, next);
    }

    private void describe(int place, int address, int length, int bits, int next) {
        number(place, 8, chance.nextInt(60) == 0 ? chance.nextLong() : address);
        number(place + 8, 4, chance.nextInt(100) == 0 ? chance.nextInt() : length);
        number(place + 12, 2, chance.nextInt(20) == 0 ? chance.nextInt(16) : bits);
        number(place + 14, 2, chance.nextInt(40) == 0 ? chance.nextInt(32) : next);
    }

    /** A chain that is mostly sound: a HEAD for the disk, parts to read, parts to write; now and then in a table. */
    private void layChain(int q) {
        int size = layout[4 * q];
        int base = layout[4 * q + 1];
        int room = size;
        int head = chance.nextInt(size);
        int number = head;
        int before = q == 1 ? 0 : 1 + chance.nextInt(2);
        int parts = Math.min(size, before + (q == 2 ? 0 : 1 + chance.nextInt(2)));
        int disk = 2000 + chance.nextInt(1000);
        if (q == 0) {
            number(disk, 4, any(KINDS));
            number(disk + 8, 8, chance.nextInt(12) == 0 ? chance.nextLong() : chance.nextInt(33));
        }
        if (m.count(4) == 1 && chance.nextInt(2) == 0) {
            int table = chance.nextInt(4096 - 64);
            describe(base + 16 * head, table, 16 * Math.max(parts, 1 + chance.nextInt(4)), 4 + 2 * chance.nextInt(2), 0);
            base = table;
            room = parts;
            number = 0;
        }
        for (int p = 0; p < parts; p++) {
            int next = (number + 1) % room;
            int bits = (p < before ? 0 : 2) + (p < parts - 1 ? 1 : 0);
            if (q == 0 && p == 0) {
                describe(base + 16 * number, disk, chance.nextInt(10) == 0 ? 15 : 16, bits, next);
            } else {
                describe(base + 16 * number, chance.nextInt(3) == 0 && q == 0 ? 64 * chance.nextInt(3) + 1 : any(LENGTHS), bits, next);
            }
            number = next;
        }
        offer(q, head);
    }

    private void offer(int q, int head) {
        int available = layout[4 * q + 2];
        int taken = m.told(q, 1);
        number(available + 4 + 2 * (taken % layout[4 * q]), 2, chance.nextInt(60) == 0 ? chance.nextInt(40) : head);
        number(available + 2, 2, chance.nextInt(60) == 0 ? chance.nextInt(40) : taken + 1);
    }

    /** What calls are left look at MEMORY, where it is written most, and then anywhere. */
    private void lookAround() {
        for (int q = 0; q < 3; q++) {
            for (int what = 0; what < 7 && more(0); what++) {
                due("told(" + q + ", " + what + ")", x.told(q, what), m.told(q, what));
            }
            if (more(0)) {
                due("written(" + q + ")", x.written(q), m.written(q));
            }
        }
        for (int what = 0; what < 5 && more(0); what++) {
            due("count(" + what + ")", x.count(what), m.count(what));
        }
        int from = chance.nextInt(4096);
        while (more(0)) {
            int address = chance.nextInt(3) == 0 ? layout[4 * chance.nextInt(3) + 3] + chance.nextInt(40) : from++ % 4096;
            due("peek(" + address + ")", x.peek(address), m.peek(address));
        }
    }
}
