/** Promises 10 to 15: read, write, send, post, collect, written. */
public final class DriverTest {
    private static final Checks CHECKS = new Checks("DriverTest");

    public static void main(String[] args) {
        readLaysOut();
        readWithTables();
        writeLaysOut();
        onlyWhatTheDeviceReadsIsWritten();
        sendLaysOut();
        postLaysOut();
        wrongOnes();
        tooFewAreFree();
        theLeastIsLentFirst();
        availableGoesRound();
        neighboursStay();
        collectInAnyOrder();
        collectStrange();
        collectFreesWhatWasLent();
        collectGoesByTheUsedRing();
        written();
        writtenBehindReset();
        driverOfABrokenDevice();
        writeAndReadBack();
        CHECKS.end();
    }

    private static Guest started(boolean tables) {
        Guest g = new Guest(CHECKS);
        CHECKS.due("start", g.x().start(tables), 0);
        return g;
    }

    private static void dueDescriptor(Guest g, String why, int place, int address, int length, int bits, int next) {
        CHECKS.due(why + ": address", g.number(place, 8), address);
        CHECKS.due(why + ": length", g.number(place + 8, 4), length);
        CHECKS.due(why + ": BITS", g.number(place + 12, 2), bits);
        CHECKS.due(why + ": next", g.number(place + 14, 2), next);
    }

    private static void readLaysOut() {
        Guest g = started(false);
        g.fill(0, 8, -1);
        g.fill(8, 8, -1);
        g.fill(32, 8, -1);
        g.fill(40, 8, -1);
        g.fill(1024, 8, -1);
        g.fill(1032, 8, -1);
        CHECKS.due("read(31)", g.x().read(31), 0);
        dueDescriptor(g, "HEAD", 0, 1024, 16, 1, 1);
        dueDescriptor(g, "bytes", 16, 1040, 64, 3, 2);
        dueDescriptor(g, "RESULT", 32, 1104, 1, 2, 0);
        CHECKS.due("KIND and 0s", g.number(1024, 8), 0);
        CHECKS.due("SECTOR", g.number(1032, 8), 31);
        CHECKS.due("AVAILABLE", g.number(128, 8), 0x0000_0000_0001_0000L);
        CHECKS.due("FREE", g.x().told(0, 5), 5);
        CHECKS.due("read(7)", g.x().read(7), 3);
        dueDescriptor(g, "HEAD", 48, 1024 + 288, 16, 1, 4);
        dueDescriptor(g, "bytes", 64, 1040 + 288, 64, 3, 5);
        dueDescriptor(g, "RESULT", 80, 1104 + 288, 1, 2, 0);
        CHECKS.due("SECTOR", g.number(1032 + 288, 8), 7);
        CHECKS.due("AVAILABLE", g.number(128, 8), 0x0003_0000_0002_0000L);
        CHECKS.due("FREE", g.x().told(0, 5), 2);
        CHECKS.due("read", g.x().read(7), RingDevices.NONE);
        CHECKS.due("COUNT stays", g.number(130, 2), 2);
        CHECKS.due("the device has not done it", g.x().told(0, 1), 0);
    }

    private static void readWithTables() {
        Guest g = started(true);
        g.fill(8, 8, -1);
        g.fill(1792 + 40, 8, -1);
        CHECKS.due("read(3)", g.x().read(3), 0);
        dueDescriptor(g, "TABLE", 0, 1792, 48, 4, 0);
        dueDescriptor(g, "HEAD", 1792, 1024, 16, 1, 1);
        dueDescriptor(g, "bytes", 1808, 1040, 64, 3, 2);
        dueDescriptor(g, "RESULT", 1824, 1104, 1, 2, 0);
        CHECKS.due("write(4)", g.x().write(4, 0x11), 1);
        dueDescriptor(g, "TABLE", 16, 1856, 48, 4, 0);
        dueDescriptor(g, "HEAD", 1856, 1120, 16, 1, 1);
        dueDescriptor(g, "bytes", 1872, 1136, 64, 1, 2);
        dueDescriptor(g, "RESULT", 1888, 1200, 1, 2, 0);
        CHECKS.due("KIND", g.number(1120, 8), 1);
        CHECKS.due("SECTOR", g.number(1128, 8), 4);
        CHECKS.due("FREE", g.x().told(0, 5), 6);
        for (int j = 2; j < 8; j++) {
            CHECKS.due("read", g.x().read(0), j);
        }
        CHECKS.due("read", g.x().read(0), RingDevices.NONE);
        CHECKS.due("write", g.x().write(0, 0), RingDevices.NONE);
    }

    private static void writeLaysOut() {
        Guest g = started(false);
        CHECKS.due("write(9)", g.x().write(9, 0xf1e2d3c4b5a69788L), 0);
        dueDescriptor(g, "HEAD", 0, 1024, 16, 1, 1);
        dueDescriptor(g, "bytes", 16, 1040, 64, 1, 2);
        dueDescriptor(g, "RESULT", 32, 1104, 1, 2, 0);
        CHECKS.due("KIND and 0s", g.number(1024, 8), 1);
        CHECKS.due("SECTOR", g.number(1032, 8), 9);
        int[] w = {0x88, 0x97, 0xa6, 0xb5, 0xc4, 0xd3, 0xe2, 0xf1};
        for (int k = 0; k < 64; k++) {
            CHECKS.due("byte " + k, g.x().peek(1040 + k), (w[k % 8] + k) % 256);
        }
        CHECKS.due("behind them", g.x().peek(1104), 0);
    }

    private static void onlyWhatTheDeviceReadsIsWritten() {
        Guest g = started(false);
        g.fill(1040, 8, -1);
        g.fill(1096, 8, -1);
        g.fill(1104, 8, -1);
        CHECKS.due("read", g.x().read(0), 0);
        CHECKS.due("the bytes stay", g.number(1040, 8), -1);
        CHECKS.due("the bytes stay", g.number(1096, 8), -1);
        CHECKS.due("RESULT stays", g.number(1104, 8), -1);
        g.fill(1104 + 288, 2, 0xffff);
        CHECKS.due("write", g.x().write(0, 0), 3);
        CHECKS.due("RESULT stays", g.number(1104 + 288, 2), 0xffff);
        g.fill(2304 + 12, 4, 0xffffffffL);
        g.fill(2304 + 4, 8, -1);
        CHECKS.due("send", g.x().send(2, 0), 0);
        CHECKS.due("12 bytes 0 and the FRAME", g.number(2304 + 4, 8), 0);
        CHECKS.due("behind the FRAME", g.number(2304 + 12, 4), 0xffff0100L);
        g.fill(3072, 8, -1);
        CHECKS.due("post", g.x().post(), 0);
        CHECKS.due("a BUFFER that is posted stays", g.number(3072, 8), -1);
    }

    private static void sendLaysOut() {
        for (int t = 0; t < 2; t++) {
            Guest g = started(t == 1);
            CHECKS.due("send(80)", g.x().send(80, 0x0102030405060708L), 0);
            dueDescriptor(g, "the 12 bytes", 512, 2304, 12, 1, 1);
            dueDescriptor(g, "the FRAME", 528, 2316, 80, 0, 0);
            for (int k = 0; k < 80; k++) {
                CHECKS.due("byte " + k, g.x().peek(2316 + k), 8 - k % 8 + k);
            }
            CHECKS.due("send(1)", g.x().send(1, -1), 2);
            dueDescriptor(g, "the 12 bytes", 544, 2496, 12, 1, 3);
            dueDescriptor(g, "the FRAME", 560, 2508, 1, 0, 0);
            CHECKS.due("the byte", g.number(2508, 2), 255);
            CHECKS.due("AVAILABLE", g.number(640, 8), 0x0002_0000_0002_0000L);
            CHECKS.due("FREE", g.x().told(2, 5), 4);
        }
    }

    private static void postLaysOut() {
        Guest g = started(true);
        for (int j = 0; j < 8; j++) {
            CHECKS.due("post", g.x().post(), j);
            dueDescriptor(g, "post", 256 + 16 * j, 3072 + 96 * j, 92, 2, 0);
            CHECKS.due("COUNT", g.number(386, 2), j + 1);
            CHECKS.due("the head", g.number(388 + 2 * j, 2), j);
            CHECKS.due("FREE", g.x().told(1, 5), 7 - j);
        }
        CHECKS.due("post", g.x().post(), RingDevices.NONE);
        CHECKS.due("COUNT", g.number(386, 2), 8);
        CHECKS.due("other QUEUES have all", g.x().told(2, 5), 8);
    }

    private static void wrongOnes() {
        RingDevices off = new RingDevices();
        Guest g = started(false);
        for (int wrong : new int[] {-1, 32, 81, Integer.MIN_VALUE, Integer.MAX_VALUE}) {
            CHECKS.due("read(" + wrong + ")", g.x().read(wrong), RingDevices.BAD);
            CHECKS.due("write(" + wrong + ")", g.x().write(wrong, 5), RingDevices.BAD);
            CHECKS.due("read when OFF", off.read(wrong), RingDevices.BAD);
            CHECKS.due("write when OFF", off.write(wrong, 5), RingDevices.BAD);
        }
        for (int wrong : new int[] {0, -1, 81, Integer.MIN_VALUE, Integer.MAX_VALUE}) {
            CHECKS.due("send(" + wrong + ")", g.x().send(wrong, 5), RingDevices.BAD);
            CHECKS.due("send when OFF", off.send(wrong, 5), RingDevices.BAD);
        }
        for (int wrong : new int[] {3, -1, Integer.MIN_VALUE, Integer.MAX_VALUE}) {
            CHECKS.due("collect(" + wrong + ")", g.x().collect(wrong), RingDevices.BAD);
            CHECKS.due("written(" + wrong + ")", g.x().written(wrong), RingDevices.BAD);
            CHECKS.due("collect when OFF", off.collect(wrong), RingDevices.BAD);
        }
        for (int q = 0; q < 3; q++) {
            CHECKS.due("nothing is lent", g.x().told(q, 5), 8);
            CHECKS.due("nothing is offered", g.number(256 * q + 130, 2), 0);
        }
        CHECKS.due("OFF goes before NONE", off.post(), RingDevices.OFF);
    }

    private static void tooFewAreFree() {
        Guest g = started(false);
        CHECKS.due("read", g.x().read(0), 0);
        CHECKS.due("write", g.x().write(0, 0), 3);
        CHECKS.due("2 are FREE", g.x().write(1, 0), RingDevices.NONE);
        CHECKS.due("2 are FREE", g.x().read(1), RingDevices.NONE);
        CHECKS.due("BAD goes before NONE", g.x().read(32), RingDevices.BAD);
        for (int j = 0; j < 8; j += 2) {
            CHECKS.due("send", g.x().send(1, 0), j);
        }
        CHECKS.due("send", g.x().send(1, 0), RingDevices.NONE);
        CHECKS.due("BAD goes before NONE", g.x().send(0, 0), RingDevices.BAD);
        CHECKS.due("FREE", g.x().told(2, 5), 0);
        CHECKS.due("COUNT", g.number(642, 2), 4);
    }

    /** The least FREE one is lent first, whatever the order in which they came back. */
    private static void theLeastIsLentFirst() {
        Guest g = started(false);
        CHECKS.due("read", g.x().read(0), 0);
        CHECKS.due("read", g.x().read(1), 3);
        CHECKS.due("step", g.x().step(0), 1);
        CHECKS.due("collect", g.x().collect(0), 0);
        CHECKS.due("read", g.x().read(2), 0);
        CHECKS.due("step", g.x().step(0), 1);
        CHECKS.due("collect", g.x().collect(0), 3);
        CHECKS.due("FREE", g.x().told(0, 5), 5);
        CHECKS.due("read", g.x().read(4), 3);
        Guest h = started(true);
        for (int j = 0; j < 8; j++) {
            CHECKS.due("read", h.x().read(j), j);
        }
        h.fill(154, 2, 3);
        h.fill(156, 4, 5);
        h.fill(164, 4, 1);
        h.fill(172, 4, 6);
        CHECKS.due("collect", h.x().collect(0), 5);
        CHECKS.due("collect", h.x().collect(0), 1);
        CHECKS.due("collect", h.x().collect(0), 6);
        CHECKS.due("the least first", h.x().write(9, 1), 1);
        CHECKS.due("then", h.x().read(9), 5);
        dueDescriptor(h, "TABLE", 80, 1792 + 320, 48, 4, 0);
        dueDescriptor(h, "HEAD", 1792 + 320, 1024 + 480, 16, 1, 1);
        CHECKS.due("then", h.x().read(9), 6);
        CHECKS.due("then", h.x().read(9), RingDevices.NONE);
    }

    private static void availableGoesRound() {
        Guest g = started(false);
        for (int k = 0; k < 20; k++) {
            CHECKS.due("post", g.x().post(), k % 2 == 0 ? 0 : 1);
            if (k % 2 == 1) {
                CHECKS.due("arrive", g.x().arrive(1, k), 1);
                CHECKS.due("arrive", g.x().arrive(1, k), 1);
                CHECKS.due("collect", g.x().collect(1), 0);
                CHECKS.due("collect", g.x().collect(1), 1);
            }
            CHECKS.due("COUNT", g.number(386, 2), k + 1);
            CHECKS.due("the head", g.number(388 + 2 * (k % 8), 2), k % 2);
        }
        CHECKS.due("SAW", g.x().told(1, 6), 20);
        CHECKS.due("TAKEN", g.x().told(1, 1), 20);
        g.fill(386, 2, 5);
        CHECKS.due("post", g.x().post(), 0);
        CHECKS.due("COUNT is the DRIVER'S own", g.number(386, 2), 21);
    }

    private static void neighboursStay() {
        Guest g = started(false);
        g.fill(48, 8, -1);
        g.fill(134, 2, 0xffff);
        CHECKS.due("read", g.x().read(0), 0);
        CHECKS.due("the next DESCRIPTOR", g.number(48, 8), -1);
        CHECKS.due("the next place of the AVAILABLE ring", g.number(134, 2), 0xffff);
        g.fill(132, 2, 7);
        CHECKS.due("read", g.x().read(0), 3);
        CHECKS.due("the place before", g.number(132, 2), 7);
        CHECKS.due("the AVAILABLE ring's BITS", g.number(128, 2), 0);
        g.fill(128, 2, 0x0101);
        CHECKS.due("post", g.x().post(), 0);
        CHECKS.due("the AVAILABLE ring's BITS", g.number(128, 2), 0x0101);
    }

    private static void collectInAnyOrder() {
        Guest g = started(false);
        for (int j = 0; j < 8; j++) {
            g.x().post();
        }
        g.fill(256 + 154, 2, 8);
        for (int j = 0; j < 8; j++) {
            g.fill(256 + 156 + 8 * j, 4, 7 - j);
            g.fill(256 + 160 + 8 * j, 4, 100 + j);
        }
        for (int j = 0; j < 8; j++) {
            CHECKS.due("collect", g.x().collect(1), 7 - j);
            CHECKS.due("written", g.x().written(1), 100 + j);
            CHECKS.due("FREE", g.x().told(1, 5), j + 1);
        }
        CHECKS.due("collect", g.x().collect(1), RingDevices.NONE);
        CHECKS.due("SAW", g.x().told(1, 6), 8);
    }

    private static void collectStrange() {
        Guest g = started(false);
        CHECKS.due("read", g.x().read(0), 0);
        long[] heads = {1, 2, 3, 7, 8, 255, 0x100, 0x10000, 0x80000000L, 0xffffffffL};
        g.fill(154, 2, 100);
        for (int k = 0; k < heads.length; k++) {
            g.fill(156 + 8 * (k % 8), 4, heads[k]);
            g.fill(160 + 8 * (k % 8), 4, 9);
            CHECKS.due("head " + heads[k], g.x().collect(0), RingDevices.STRANGE);
            CHECKS.due("SAW", g.x().told(0, 6), k + 1);
            CHECKS.due("FREE", g.x().told(0, 5), 5);
            CHECKS.due("written", g.x().written(0), RingDevices.NONE);
        }
        g.fill(156 + 8 * 2, 4, 0);
        CHECKS.due("a head that it lent out", g.x().collect(0), 0);
        CHECKS.due("written", g.x().written(0), 9);
        g.fill(156 + 8 * 3, 8, 0);
        CHECKS.due("once more", g.x().collect(0), RingDevices.STRANGE);
        CHECKS.due("written stays", g.x().written(0), 9);
        CHECKS.due("FREE", g.x().told(0, 5), 8);
        CHECKS.due("post", g.x().post(), 0);
        CHECKS.due("send", g.x().send(1, 1), 0);
        CHECKS.due("lent out in another QUEUE", g.x().collect(0), RingDevices.STRANGE);
    }

    private static void collectFreesWhatWasLent() {
        Guest g = started(false);
        CHECKS.due("read", g.x().read(0), 0);
        CHECKS.due("step", g.x().step(0), 1);
        g.fill(0, 8, -1);
        g.fill(8, 8, -1);
        g.fill(16, 8, -1);
        g.fill(24, 8, 0);
        CHECKS.due("collect", g.x().collect(0), 0);
        CHECKS.due("FREE", g.x().told(0, 5), 8);
        CHECKS.due("read", g.x().read(0), 0);
        CHECKS.due("read", g.x().read(0), 3);
    }

    private static void collectGoesByTheUsedRing() {
        Guest g = started(false);
        CHECKS.due("read", g.x().read(0), 0);
        CHECKS.due("not done yet", g.x().collect(0), RingDevices.NONE);
        CHECKS.due("step", g.x().step(0), 1);
        g.fill(154, 2, 0);
        CHECKS.due("COUNT is as it SAW", g.x().collect(0), RingDevices.NONE);
        g.fill(154, 2, 0x8000);
        CHECKS.due("COUNT is another", g.x().collect(0), 0);
        CHECKS.due("SAW", g.x().told(0, 6), 1);
        g.fill(154, 2, 0x0101);
        CHECKS.due("both bytes count", g.x().collect(0), RingDevices.STRANGE);
    }

    private static void written() {
        Guest g = started(true);
        CHECKS.due("write", g.x().write(0, 1), 0);
        CHECKS.due("read", g.x().read(0), 1);
        CHECKS.due("send", g.x().send(5, 1), 0);
        CHECKS.due("step", g.x().step(0), 1);
        CHECKS.due("step", g.x().step(0), 1);
        CHECKS.due("step", g.x().step(2), 1);
        CHECKS.due("not COLLECTED yet", g.x().written(0), RingDevices.NONE);
        CHECKS.due("collect", g.x().collect(0), 0);
        CHECKS.due("written", g.x().written(0), 1);
        CHECKS.due("of QUEUE 2", g.x().written(2), RingDevices.NONE);
        g.fill(160 + 8, 4, 0xfedcba98L);
        CHECKS.due("collect", g.x().collect(0), 1);
        g.fill(160 + 8, 4, 5);
        CHECKS.due("its lowest 31 bits, as they were then", g.x().written(0), 0x7edcba98L);
        CHECKS.due("collect", g.x().collect(0), RingDevices.NONE);
        CHECKS.due("written stays", g.x().written(0), 0x7edcba98L);
        CHECKS.due("collect", g.x().collect(2), 0);
        CHECKS.due("a FRAME that went", g.x().written(2), 0);
        CHECKS.due("of QUEUE 1", g.x().written(1), RingDevices.NONE);
        CHECKS.due("start", g.x().start(false), 0);
        CHECKS.due("nothing since START", g.x().written(0), RingDevices.NONE);
        CHECKS.due("nothing since START", g.x().written(2), RingDevices.NONE);
    }

    private static void writtenBehindReset() {
        for (int t = 0; t < 2; t++) {
            RingDevices x = new RingDevices();
            x.start(t == 1);
            x.read(0);
            x.step(0);
            x.post();
            x.arrive(1, 0);
            x.send(1, 0);
            x.step(2);
            int[] due = {65, 13, 0};
            for (int q = 0; q < 3; q++) {
                x.collect(q);
                CHECKS.due("written(" + q + ")", x.written(q), due[q]);
            }
            x.reset(t == 0);
            for (int q = 0; q < 3; q++) {
                CHECKS.due("reset: written(" + q + ")", x.written(q), RingDevices.NONE);
            }
            CHECKS.due("BAD goes first", x.written(3), RingDevices.BAD);
            x.run();
            CHECKS.due("collect", x.collect(0), RingDevices.OFF);
            CHECKS.due("a guest's device RUNS", x.written(0), RingDevices.NONE);
        }
    }

    private static void driverOfABrokenDevice() {
        Guest g = started(false);
        CHECKS.due("read", g.x().read(0), 0);
        CHECKS.due("step", g.x().step(0), 1);
        g.fill(130, 2, 100);
        CHECKS.due("BROKEN", g.x().step(0), RingDevices.BROKEN);
        CHECKS.due("read", g.x().read(1), 3);
        CHECKS.due("write", g.x().write(1, 1), RingDevices.NONE);
        CHECKS.due("send", g.x().send(1, 1), 0);
        CHECKS.due("post", g.x().post(), 0);
        CHECKS.due("collect", g.x().collect(0), 0);
        CHECKS.due("written", g.x().written(0), 65);
        CHECKS.due("FREE", g.x().told(0, 5), 5);
        CHECKS.due("still BROKEN", g.x().step(0), RingDevices.BROKEN);
    }

    private static void writeAndReadBack() {
        for (int t = 0; t < 2; t++) {
            Guest g = started(t == 1);
            CHECKS.due("write", g.x().write(31, 0x8070605040302010L), 0);
            CHECKS.due("step", g.x().step(0), 1);
            CHECKS.due("collect", g.x().collect(0), 0);
            CHECKS.due("RESULT", g.x().peek(1104), 0);
            for (int k = 0; k < 64; k++) {
                int want = (0x10 * (k % 8 + 1) + k) % 256;
                CHECKS.due("disk(31, " + k + ")", g.x().disk(31, k), want);
                g.x().poke(1040 + k, 0);
            }
            CHECKS.due("read", g.x().read(31), 0);
            CHECKS.due("step", g.x().step(0), 1);
            for (int k = 0; k < 64; k++) {
                CHECKS.due("byte " + k, g.x().peek(1040 + k), (0x10 * (k % 8 + 1) + k) % 256);
            }
            CHECKS.due("nothing more", g.x().step(0), 0);
        }
    }
}
