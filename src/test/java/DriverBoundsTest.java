import java.util.HashMap;
import java.util.Map;

/** THE DRIVER: how it lays out, what it lends, asks and COLLECTS. */
public final class DriverBoundsTest {
    private static final int N = Guest.NEXT, W = Guest.WRITES, T = Guest.TABLE;
    private static final int NONE = RingDevices.NONE, STRANGE = RingDevices.STRANGE;

    public static void main(String[] args) throws ReflectiveOperationException {
        Sentences.run(DriverBoundsTest.class);
    }

    /** What one asks for in a QUEUE: a SECTOR, a BUFFER for a FRAME that comes, a FRAME of one byte that goes. */
    private static int ask(RingDevices x, int q) {
        return q == 0 ? x.read(0) : q == 1 ? x.post() : x.send(1, 0);
    }

    private static int needed(int q, boolean tables) {
        return q == 0 ? tables ? 1 : 3 : q == 1 ? 1 : 2;
    }

    private static void dueDescriptor(Checks c, Guest g, String why, int place, int address, int length, int bits, int next) {
        c.due(why + ": address", g.number(place, 8), address);
        c.due(why + ": length", g.number(place + 8, 4), length);
        c.due(why + ": BITS", g.number(place + 12, 2), bits);
        c.due(why + ": next", g.number(place + 14, 2), next);
    }

    /** Spoils what a DRIVER must write all of. */
    private static void spoil(Guest g, int from, int count) {
        for (int k = 0; k < count; k++) {
            g.poke(from + k, 0xee);
        }
    }

    @Holds(promises = {2, 18}, words = "START lays QUEUE q out with SIZE 8, DESCRIPTORS at 256 q, AVAILABLE at 256 q + 128, "
        + "USED at 256 q + 152,")
    static void startLaysTheQueuesOut(Checks c) {
        for (int q = 0; q < 3; q++) {
            Guest g = Guest.started(c, false);
            c.due("SIZE", g.x().told(q, 4), 8);
            // DESCRIPTOR 7, the last one, at place 0; the head 8 breaks it, in the place behind
            g.describeAt(256 * q + 112, 2048, q == 1 ? 0 : 13, 0, 0);
            g.poke(2060, 44);
            g.poke(256 * q + 132, 7);
            g.poke(256 * q + 134, 8);
            g.poke(256 * q + 130, 2);
            g.dueDone("a chain at 256 q + 112", q);
            c.due("its head at 256 q + 156", g.x().peek(256 * q + 156), 7);
            c.due("COUNT at 256 q + 154", g.x().peek(256 * q + 154), 1);
            c.due("its FRAME", g.x().wire(0, 0), q == 2 ? 44 : NONE);
            g.dueBroken("a head of 8", q);
        }
    }

    @Holds(promises = 2, words = "all MEMORY being 0 before;")
    static void startMakesAllMemory0(Checks c) {
        for (int from = 0; from < 4096; from += 240) {
            RingDevices x = new RingDevices();
            for (int a = from; a < Math.min(4096, from + 240); a++) {
                x.poke(a, 255);
            }
            x.start(false);
            for (int a = from; a < Math.min(4096, from + 240); a++) {
                c.due("peek(" + a + ")", x.peek(a), 0);
            }
        }
    }

    @Holds(promises = {2, 5, 19}, words = "the device RUNS then.")
    static void theDeviceRunsThen(Checks c) {
        Guest g = Guest.started(c, false);
        c.due("it RUNS", g.x().count(0), 1);
        c.due("run", g.x().run(), RingDevices.BAD);
        c.due("step", g.x().step(0), 0);
        g.count(0, 9);
        g.dueBroken("COUNT 9", 0);
        c.due("start", g.x().start(true), 0);
        c.due("it RUNS", g.x().count(0), 1);
        c.due("reset", g.x().reset(true), 0);
        c.due("start", g.x().start(true), 0);
        c.due("it RUNS", g.x().count(0), 1);
    }

    @Holds(promises = {10, 11, 12, 13, 18}, words = "Of each QUEUE the DRIVER has FREE DESCRIPTORS (at first all,")
    static void atFirstAllAreFree(Checks c) {
        for (int t = 0; t < 2; t++) {
            for (int q = 0; q < 3; q++) {
                RingDevices x = new RingDevices();
                x.start(t == 1);
                for (int free = 8; free >= needed(q, t == 1); free -= needed(q, t == 1)) {
                    c.due("FREE", x.told(q, 5), free);
                    c.due("lent", ask(x, q), 8 - free);
                }
                int left = 8 % needed(q, t == 1);
                c.due("FREE", x.told(q, 5), left);
                c.due("too few", ask(x, q), NONE);
                c.due("FREE stays", x.told(q, 5), left);
                c.due("FREE of another QUEUE", x.told((q + 1) % 3, 5), 8);
                c.due("FREE of another QUEUE", x.told((q + 2) % 3, 5), 8);
                x.start(t == 1);
                c.due("all are FREE again", x.told(q, 5), 8);
                c.due("and the first is lent first", ask(x, q), 0);
            }
        }
    }

    @Holds(promises = {10, 11, 12, 13}, words = "the least is used first, and they are lent out one by one),")
    static void theLeastIsUsedFirst(Checks c) {
        Guest g = Guest.started(c, true);
        for (int q = 0; q < 2; q++) {
            for (int d = 0; d < 8; d++) {
                c.due("lent", ask(g.x(), q), d);
            }
            g.poke(256 * q + 154, 8);
            int[] back = {6, 2, 7, 0, 3};
            for (int k = 0; k < back.length; k++) {
                g.poke(256 * q + 156 + 8 * k, back[k]);
                c.due("collect", g.x().collect(q), back[k]);
            }
            for (int least : new int[] {0, 2, 3, 6, 7}) {
                c.due("the least", ask(g.x(), q), least);
            }
            c.due("none is left", ask(g.x(), q), NONE);
        }
        for (int d = 0; d < 8; d += 2) {
            c.due("send", g.x().send(1, 0), d);
        }
        g.poke(512 + 154, 8);
        g.poke(512 + 156, 4);
        c.due("collect", g.x().collect(2), 4);
        c.due("collect", g.x().collect(2), 0);
        c.due("the least", g.x().send(1, 0), 0);
        dueDescriptor(c, g, "0", 512, 2304, 12, N, 1);
        c.due("the next", g.x().send(1, 0), 4);
        dueDescriptor(c, g, "4", 512 + 64, 2304 + 384, 12, N, 5);
    }

    @Holds(promises = {10, 14, 18}, words = "a COUNT of the AVAILABLE ring and how many of the USED ring it SAW (both 16 bits, "
        + "at first 0, in its own memory).")
    static void countAndSawAreTheDriversOwn(Checks c) {
        for (int q = 0; q < 3; q++) {
            Guest g = Guest.started(c, true);
            c.due("lent", ask(g.x(), q), 0);
            c.due("COUNT", g.number(256 * q + 130, 2), 1);
            g.fill(256 * q + 130, 2, 0x4321);
            c.due("lent", ask(g.x(), q), q == 2 ? 2 : 1);
            c.due("COUNT, whatever stood there", g.number(256 * q + 130, 2), 2);
            c.due("the head at place 1", g.number(256 * q + 134, 2), q == 2 ? 2 : 1);
            c.due("SAW at first", g.x().told(q, 6), 0);
            g.dueDone("one", q);
            c.due("collect", g.x().collect(q), 0);
            c.due("SAW", g.x().told(q, 6), 1);
            g.fill(256 * q + 154, 2, 0);
            g.poke(256 * q + 164, q == 2 ? 2 : 1);
            c.due("COUNT 0 is not what it SAW", g.x().collect(q), q == 2 ? 2 : 1);
            c.due("SAW", g.x().told(q, 6), 2);
            c.due("start", g.x().start(true), 0);
            c.due("SAW at first", g.x().told(q, 6), 0);
            c.due("lent", ask(g.x(), q), 0);
            c.due("COUNT at first", g.number(256 * q + 130, 2), 1);
        }
    }

    @Holds(promises = {10, 11}, words = "A REQUEST of the DISK has a BUFFER of 96 bytes at 1024 + 96 j, j being its first DESCRIPTOR: "
        + "HEAD at 0, the SECTOR'S bytes at 16, RESULT at 80.")
    static void buffersOfRequests(Checks c) {
        for (int j = 0; j < 8; j++) {
            for (int sector : new int[] {0, 31}) {
                Guest g = Guest.started(c, true);
                for (int before = 0; before < j; before++) {
                    c.due("read", g.x().read(7), before);
                }
                int buffer = 1024 + 96 * j;
                spoil(g, buffer, 16);
                g.poke(buffer - 1, 99);
                g.poke(buffer + 81, 99);
                c.due("write", g.x().write(sector, 0x5150), j);
                c.due("KIND, and 0s", g.number(buffer, 8), 1);
                c.due("SECTOR", g.number(buffer + 8, 8), sector);
                c.due("the first byte", g.x().peek(buffer + 16), 0x50);
                c.due("the second byte", g.x().peek(buffer + 17), 0x52);
                c.due("the last byte", g.x().peek(buffer + 79), 63);
                g.poke(buffer + 80, 99);
                for (int k = 0; k <= j; k++) {
                    c.due("step", g.x().step(0), 1);
                }
                c.due("RESULT", g.x().peek(buffer + 80), 0);
                c.due("the BUFFER before", g.x().peek(buffer - 1), 99);
                c.due("behind RESULT", g.x().peek(buffer + 81), 99);
                c.due("the DISK", g.x().disk(sector, 0), 0x50);
            }
        }
    }

    @Holds(promises = {10, 11}, words = "It needs 3 DESCRIPTORS (HEAD, bytes, RESULT, each with NEXT but the last),")
    static void aRequestNeedsThree(Checks c) {
        for (int t = 0; t < 2; t++) {
            Guest g = Guest.started(c, false);
            for (int j = 0; j <= 3; j += 3) {
                spoil(g, 16 * j, 48);
                c.due("asked", t == 0 ? g.x().read(5) : g.x().write(5, 0), j);
                int buffer = 1024 + 96 * j;
                dueDescriptor(c, g, "HEAD", 16 * j, buffer, 16, N, j + 1);
                dueDescriptor(c, g, "bytes", 16 * j + 16, buffer + 16, 64, t == 0 ? N | W : N, j + 2);
                dueDescriptor(c, g, "RESULT", 16 * j + 32, buffer + 80, 1, W, 0);
            }
            c.due("FREE", g.x().told(0, 5), 2);
            c.due("2 are too few", g.x().read(5), NONE);
            c.due("2 are too few", g.x().write(5, 0), NONE);
            g.dueDone("one", 0);
            c.due("collect", g.x().collect(0), 0);
            c.due("FREE", g.x().told(0, 5), 5);
            c.due("5 are enough", g.x().read(5), 0);
        }
    }

    @Holds(promises = {10, 11}, words = "or, if TABLES are agreed on, 1 DESCRIPTOR with TABLE, whose table of 3 lies at 1792 + 64 j.")
    static void aRequestNeedsOneWithTables(Checks c) {
        for (int j = 0; j < 8; j++) {
            for (int t = 0; t < 2; t++) {
                Guest g = Guest.started(c, true);
                for (int before = 0; before < j; before++) {
                    c.due("read", g.x().read(7), before);
                }
                int table = 1792 + 64 * j;
                int buffer = 1024 + 96 * j;
                spoil(g, 16 * j, 16);
                spoil(g, table, 50);
                c.due("asked", t == 0 ? g.x().read(5) : g.x().write(5, 0), j);
                dueDescriptor(c, g, "TABLE", 16 * j, table, 48, T, 0);
                dueDescriptor(c, g, "HEAD", table, buffer, 16, N, 1);
                dueDescriptor(c, g, "bytes", table + 16, buffer + 16, 64, t == 0 ? N | W : N, 2);
                dueDescriptor(c, g, "RESULT", table + 32, buffer + 80, 1, W, 0);
                c.due("behind the table", g.number(table + 48, 2), 0xeeee);
                c.due("FREE", g.x().told(0, 5), 7 - j);
                c.due("one more", g.x().read(0), j < 7 ? j + 1 : NONE);
            }
        }
    }

    @Holds(promises = 12, words = "A FRAME that goes has a BUFFER of 96 bytes at 2304 + 96 j, 12 bytes 0 and it; it needs 2 DESCRIPTORS: "
        + "the first the 12 bytes, the second the FRAME.")
    static void buffersOfFramesThatGo(Checks c) {
        for (int j = 0; j < 8; j += 2) {
            for (int n : new int[] {1, 80}) {
                Guest g = Guest.started(c, j % 4 == 0);
                for (int before = 0; before < j; before += 2) {
                    c.due("send", g.x().send(5, 7), before);
                }
                int buffer = 2304 + 96 * j;
                spoil(g, 512 + 16 * j, 32);
                spoil(g, buffer, 12 + n + 1);
                c.due("send", g.x().send(n, 0x8f7f6f5f4f3f2f1fL), j);
                dueDescriptor(c, g, "the 12 bytes", 512 + 16 * j, buffer, 12, N, j + 1);
                dueDescriptor(c, g, "the FRAME", 512 + 16 * j + 16, buffer + 12, n, 0, 0);
                for (int k = 0; k < 12; k++) {
                    c.due("byte " + k, g.x().peek(buffer + k), 0);
                }
                for (int k = 0; k < n; k++) {
                    c.due("the FRAME'S byte " + k, g.x().peek(buffer + 12 + k), 0x1f + 16 * (k % 8) + k);
                }
                c.due("behind it", g.x().peek(buffer + 12 + n), 0xee);
                c.due("FREE", g.x().told(2, 5), 6 - j);
            }
        }
    }

    @Holds(promises = 13, words = "One for a FRAME that comes has 92 bytes at 3072 + 96 j, and one DESCRIPTOR.")
    static void buffersForFramesThatCome(Checks c) {
        for (int j = 0; j < 8; j++) {
            Guest g = Guest.started(c, j % 2 == 0);
            for (int before = 0; before < j; before++) {
                c.due("post", g.x().post(), before);
            }
            spoil(g, 256 + 16 * j, 16);
            c.due("post", g.x().post(), j);
            dueDescriptor(c, g, "the BUFFER", 256 + 16 * j, 3072 + 96 * j, 92, W, 0);
            c.due("FREE", g.x().told(1, 5), 7 - j);
            for (int k = 0; k <= j; k++) {
                c.due("a FRAME of 80 bytes", g.x().arrive(80, k), 1);
            }
            c.due("its last byte", g.x().peek(3072 + 96 * j + 91), 79);
            c.due("its first byte", g.x().peek(3072 + 96 * j + 12), j);
            c.due("nothing more is posted", g.x().arrive(1, 0), 0);
        }
    }

    @Holds(promises = {10, 11, 12, 13}, words = "A chain's DESCRIPTORS, BUFFERS are written (all 16 bytes of each, of the last the next "
        + "one's number is 0; of a BUFFER what the device READS, HEAD with 0s where nothing is told),")
    static void onlyWhatTheDeviceReadsIsWritten(Checks c) {
        String[] calls = {"read", "read with TABLES", "write", "post", "send"};
        for (int call = 0; call < calls.length; call++) {
            Map<Integer, Integer> changed = new HashMap<>();
            int kind = call;
            switch (call) {
                case 0: putRequest(changed, 0, false); break;
                case 1: putDescriptor(changed, 0, 1792, 48, T, 0); putRequest(changed, 1792, false); break;
                case 2: putRequest(changed, 0, true); break;
                case 3: putDescriptor(changed, 256, 3072, 92, W, 0); break;
                default: putFrame(changed);
            }
            int q = call < 3 ? 0 : call == 3 ? 1 : 2;
            putNumber(changed, 256 * q + 130, 2, 1);
            putNumber(changed, 256 * q + 132, 2, 0);
            Guest.dueMemory(c, calls[call], changed, g -> {
                g.x().start(kind == 1);
                // what surrounds the DESCRIPTORS, the rings' places and the BUFFERS
                spoil(g, 256 * q, 50);
                spoil(g, 256 * q + 128, 8);
                spoil(g, 1792, 50);
                spoil(g, 1024, 18);
                spoil(g, 1102, 6);
                spoil(g, 2304, 16);
                spoil(g, 3072, 14);
                spoil(g, 3072 + 90, 4);
                int got = kind < 2 ? g.x().read(31) : kind == 2 ? g.x().write(31, 0x1234) : kind == 3 ? g.x().post() : g.x().send(2, 0x1234);
                c.due(calls[kind], got, 0);
            });
        }
    }

    private static void putNumber(Map<Integer, Integer> changed, int place, int count, long value) {
        for (int k = 0; k < count; k++) {
            changed.put(place + k, (int) (value >>> (8 * k)) & 255);
        }
    }

    private static void putDescriptor(Map<Integer, Integer> changed, int place, int address, int length, int bits, int next) {
        putNumber(changed, place, 8, address);
        putNumber(changed, place + 8, 4, length);
        putNumber(changed, place + 12, 2, bits);
        putNumber(changed, place + 14, 2, next);
    }

    /** A REQUEST for SECTOR 31, of BUFFER 0; if it is to be written, of 0x1234. */
    private static void putRequest(Map<Integer, Integer> changed, int base, boolean write) {
        putDescriptor(changed, base, 1024, 16, N, 1);
        putDescriptor(changed, base + 16, 1040, 64, write ? N : N | W, 2);
        putDescriptor(changed, base + 32, 1104, 1, W, 0);
        putNumber(changed, 1024, 8, write ? 1 : 0);
        putNumber(changed, 1032, 8, 31);
        for (int k = 0; write && k < 64; k++) {
            changed.put(1040 + k, (k % 8 == 0 ? 0x34 : k % 8 == 1 ? 0x12 : 0) + k);
        }
    }

    private static void putFrame(Map<Integer, Integer> changed) {
        putDescriptor(changed, 512, 2304, 12, N, 1);
        putDescriptor(changed, 528, 2316, 2, 0, 0);
        putNumber(changed, 2304, 8, 0);
        putNumber(changed, 2312, 4, 0);
        putNumber(changed, 2316, 2, 0x1334);
    }

    @Holds(promises = {10, 11, 12, 13}, words = "then the head at place COUNT % 8 of the AVAILABLE ring, then COUNT is one more, there, too.")
    static void theAvailableRingGoesRound(Checks c) {
        for (int q = 0; q < 3; q++) {
            Guest g = Guest.started(c, false);
            int first = ask(g.x(), q);
            c.due("lent", first, 0);
            int other = needed(q, false);
            for (int count = 1; count <= 17; count++) {
                int head = count % 2 == 0 ? 0 : other;
                int place = 256 * q + 132 + 2 * (count % 8);
                g.fill(place, 2, 0xffff);
                c.due("lent", ask(g.x(), q), head);
                c.due("COUNT " + count + ": the head", g.number(place, 2), head);
                c.due("COUNT is one more", g.number(256 * q + 130, 2), count + 1);
                c.due("the device does one", g.go(q), 1);
                c.due("collect", g.x().collect(q), count % 2 == 0 ? other : 0);
            }
            c.due("TAKEN", g.x().told(q, 1), 17);
        }
    }

    @Holds(promises = {10, 13}, words = "then the head at place COUNT % 8 of the AVAILABLE ring, then COUNT is one more, there, too.")
    static void otherPlacesOfTheAvailableRingStay(Checks c) {
        for (int q = 0; q < 2; q++) {
            Guest g = Guest.started(c, true);
            for (int d = 0; d < 8; d++) {
                c.due("lent", ask(g.x(), q), d);
            }
            g.poke(256 * q + 154, 99);
            for (int k = 0; k < 8; k++) {
                g.poke(256 * q + 156 + 8 * k, 7 - k);
                c.due("collect", g.x().collect(q), 7 - k);
                c.due("lent anew", ask(g.x(), q), 7 - k);
                for (int place = 0; place < 8; place++) {
                    c.due("place " + place, g.number(256 * q + 132 + 2 * place, 2), place <= k ? 7 - place : place);
                }
            }
            c.due("its BITS", g.number(256 * q + 128, 2), 0);
            c.due("COUNT", g.number(256 * q + 130, 2), 16);
        }
    }

    @Holds(promises = 14, words = "COLLECT: if the COUNT of the USED ring is not what it SAW: the head at that place; it SAW one more.")
    static void collectGoesByCountAndSaw(Checks c) {
        for (int q = 0; q < 3; q++) {
            Guest g = Guest.started(c, true);
            c.due("COUNT is what it SAW", g.x().collect(q), NONE);
            c.due("SAW", g.x().told(q, 6), 0);
            c.due("lent", ask(g.x(), q), 0);
            c.due("the device has not done it", g.x().collect(q), NONE);
            g.dueDone("one", q);
            g.poke(256 * q + 154, 0);
            c.due("COUNT 0 is what it SAW", g.x().collect(q), NONE);
            g.poke(256 * q + 154, 1);
            c.due("COUNT 1 is not", g.x().collect(q), 0);
            c.due("SAW", g.x().told(q, 6), 1);
            g.poke(256 * q + 154, 0);
            c.due("COUNT 0 is not any more", g.x().collect(q), STRANGE);
            c.due("SAW", g.x().told(q, 6), 2);
            g.fill(256 * q + 154, 2, 0x0102);
            c.due("COUNT'S second byte", g.x().collect(q), STRANGE);
            c.due("SAW", g.x().told(q, 6), 3);
            g.fill(256 * q + 154, 2, 3);
            c.due("COUNT is what it SAW", g.x().collect(q), NONE);
            c.due("SAW", g.x().told(q, 6), 3);
        }
    }

    @Holds(promises = 14, words = "COLLECT: if the COUNT of the USED ring is not what it SAW: the head at that place; it SAW one more.")
    static void theUsedRingGoesRound(Checks c) {
        Guest g = Guest.started(c, false);
        for (int k = 0; k < 8; k++) {
            c.due("post", g.x().post(), k);
        }
        g.poke(256 + 154, 99);
        for (int saw = 0; saw < 18; saw++) {
            int head = (5 * saw + 3) % 8;
            int place = 256 + 156 + 8 * (saw % 8);
            g.poke(place, head);
            g.poke(place + 4, saw + 1);
            c.due("SAW " + saw, g.x().collect(1), head);
            c.due("SAW one more", g.x().told(1, 6), saw + 1);
            c.due("written", g.x().written(1), saw + 1);
            g.poke(place, 255);
            c.due("post", g.x().post(), head);
        }
    }

    @Holds(promises = {14, 15}, words = "A head that it has not lent out in this QUEUE (or a number above 7): STRANGE, and that is all;")
    static void strangeHeads(Checks c) {
        for (int q = 0; q < 3; q++) {
            Guest g = Guest.started(c, false);
            for (int other = 0; other < 3; other++) {
                if (other != q) {
                    c.due("lent in another QUEUE", ask(g.x(), other), 0);
                    c.due("lent in another QUEUE", ask(g.x(), other), needed(other, false));
                }
            }
            g.fill(256 * q + 154, 2, 0x7fff);
            long[] heads = {0, 1, 2, 3, 7, 8, 9, 15, 255, 256, 0x10000, 0x1000000, 0x7fffffff, 0x80000000L, 0xffffffffL};
            int before = g.x().told(q, 5);
            for (int k = 0; k < heads.length; k++) {
                g.fill(256 * q + 156 + 8 * (k % 8), 4, heads[k]);
                g.poke(256 * q + 160 + 8 * (k % 8), 9);
                c.due("head " + heads[k], g.x().collect(q), STRANGE);
                c.due("it SAW it", g.x().told(q, 6), k + 1);
                c.due("FREE", g.x().told(q, 5), before);
                c.due("written", g.x().written(q), NONE);
            }
            c.due("lent", ask(g.x(), q), 0);
            c.due("another QUEUE'S FREE", g.x().told((q + 1) % 3, 5), 8 - 2 * needed((q + 1) % 3, false));
        }
    }

    @Holds(promises = {14, 15}, words = "A head that it has not lent out in this QUEUE (or a number above 7): STRANGE, and that is all;")
    static void aHeadIsLentOutOnce(Checks c) {
        for (int q = 0; q < 3; q++) {
            Guest g = Guest.started(c, false);
            c.due("lent", ask(g.x(), q), 0);
            g.poke(256 * q + 154, 99);
            // one that is lent out, but not as a head; and one that is FREE
            for (int head : new int[] {needed(q, false) - 1, needed(q, false)}) {
                g.poke(256 * q + 156 + 8 * g.x().told(q, 6), head);
                c.due("head " + head, g.x().collect(q), head == 0 ? 0 : STRANGE);
            }
            if (q != 1) {
                c.due("FREE", g.x().told(q, 5), 8 - needed(q, false));
                c.due("the head", g.x().collect(q), 0);
            }
            c.due("FREE", g.x().told(q, 5), 8);
            int written = g.x().written(q);
            c.due("once more", g.x().collect(q), STRANGE);
            c.due("FREE", g.x().told(q, 5), 8);
            c.due("written stays", g.x().written(q), written);
            c.due("lent anew", ask(g.x(), q), 0);
            c.due("so it is not STRANGE", g.x().collect(q), 0);
        }
    }

    @Holds(promises = {14, 15}, words = "A head that it has not lent out in this QUEUE (or a number above 7): STRANGE, and that is all;")
    static void allFourBytesOfAHeadCount(Checks c) {
        for (int q = 0; q < 3; q++) {
            Guest g = Guest.started(c, true);
            c.due("lent", ask(g.x(), q), 0);
            g.poke(256 * q + 154, 99);
            long[] heads = {8, 16, 128, 0x100, 0x8000, 0x10000, 0x800000, 0x1000000, 0x80000000L};
            for (int k = 0; k < heads.length; k++) {
                g.fill(256 * q + 156 + 8 * (k % 8), 4, heads[k]);
                c.due("head " + heads[k], g.x().collect(q), STRANGE);
                c.due("0 is lent out still", g.x().told(q, 5), q == 2 ? 6 : 7);
            }
            c.due("head 16 becomes 0", g.x().poke(256 * q + 156 + 8, 0), 16);
            c.due("collect", g.x().collect(q), 0);
        }
    }

    @Holds(promises = 14, words = "else the chain's DESCRIPTORS are FREE (as the DRIVER lent them, whatever MEMORY has now).")
    static void whatWasLentIsFree(Checks c) {
        for (int t = 0; t < 2; t++) {
            for (int q = 0; q < 3; q++) {
                Guest g = Guest.started(c, t == 1);
                int needed = needed(q, t == 1);
                c.due("lent", ask(g.x(), q), 0);
                c.due("lent", ask(g.x(), q), needed);
                g.dueDone("one", q);
                // all of its DESCRIPTORS and of the AVAILABLE ring is spoilt, and then nothing of them has NEXT
                spoil(g, 256 * q, 16 * needed);
                spoil(g, 256 * q + 128, 8);
                c.due("collect", g.x().collect(q), 0);
                c.due("FREE", g.x().told(q, 5), 8 - needed);
                g.poke(256 * q + 154, 2);
                g.poke(256 * q + 164, needed);
                for (int k = 0; k < needed; k++) {
                    g.fill(256 * q + 16 * (needed + k) + 12, 4, 0);
                }
                c.due("collect", g.x().collect(q), needed);
                c.due("FREE", g.x().told(q, 5), 8);
                c.due("lent anew", ask(g.x(), q), 0);
                c.due("lent anew", ask(g.x(), q), needed);
            }
        }
    }
}
