/** The terms that stand before TO TAKE: MEMORY, the DISK, QUEUES, how rings lie in MEMORY, the device's states. */
public final class TermsBoundsTest {
    private static final int N = Guest.NEXT, W = Guest.WRITES, T = Guest.TABLE;
    private static final int[] SIZES = {1, 2, 4, 8, 16};
    private static final int BAD = RingDevices.BAD, BROKEN = RingDevices.BROKEN;

    public static void main(String[] args) throws ReflectiveOperationException {
        Sentences.run(TermsBoundsTest.class);
    }

    @Holds(promises = 6, words = "The guest may write any byte of its memory at any time.")
    static void guestWritesAtAnyTime(Checks c) {
        String[] times = {"new", "reset", "told", "RUNS", "STARTED", "BROKEN"};
        RingDevices x = new RingDevices();
        for (int t = 0; t < times.length; t++) {
            switch (t) {
                case 1: x.reset(true); break;
                case 2: x.queue(0, 8, 0, 128, 152); break;
                case 3: x.run(); break;
                case 4: x.start(false); break;
                case 5: x.poke(132, 8); x.poke(130, 1); c.due("BROKEN", x.step(0), BROKEN); break;
                default:
            }
            int state = x.count(0);
            // a DESCRIPTOR, an AVAILABLE ring's number, a USED ring's BITS, COUNT and place, BUFFERS, the edges of MEMORY
            for (int address : new int[] {0, 15, 146, 147, 152, 155, 219, 1024, 3839, 4094, 4095}) {
                int before = x.peek(address);
                c.due(times[t] + ": poke(" + address + ")", x.poke(address, 201 + t), before);
                c.due(times[t] + ": peek(" + address + ")", x.peek(address), 201 + t);
            }
            c.due(times[t] + ": the device is as it was", x.count(0), state);
        }
    }

    @Holds(promises = {1, 6, 7}, words = "MEMORY has 4096 bytes, at first 0;")
    static void memoryHas4096Bytes(Checks c) {
        for (int from = 0; from < 4096; from += 512) {
            RingDevices x = new RingDevices();
            for (int a = from; a < from + 512; a++) {
                c.due("peek(" + a + ")", x.peek(a), 0);
            }
        }
        RingDevices x = new RingDevices();
        c.due("the last byte", x.poke(4095, 255), 0);
        c.due("the last byte", x.peek(4095), 255);
        c.due("it is not the first", x.peek(0), 0);
        c.due("one behind", x.peek(4096), BAD);
        c.due("one behind", x.poke(4096, 1), BAD);
        c.due("one before", x.peek(-1), BAD);
        c.due("one before", x.poke(-1, 1), BAD);
    }

    @Holds(promises = {8, 18}, words = "numbers of several bytes have the lowest first.")
    static void theDevicesNumbersHaveTheLowestFirst(Checks c) {
        Guest g = Guest.running(c, 16, false);
        g.poke(2 * 512 + 256 + 3, 1);
        g.dueBroken("COUNT with 1 in its second byte is 256", 2);
        Guest h = Guest.running(c, 16, false);
        for (int k = 0; k < 255; k++) {
            if (k % 16 == 0) {
                h.poke(2 * 512 + 256 + 2, Math.min(255, k + 16));
            }
            h.x().step(2);
        }
        c.due("TAKEN", h.x().told(2, 1), 255);
        c.due("the USED ring's COUNT", h.usedCount(2), 255);
        h.count(2, 257);
        h.dueDone("the 256th", 2);
        c.due("COUNT's lowest byte", h.x().peek(2 * 512 + 302), 0);
        c.due("COUNT's second byte", h.x().peek(2 * 512 + 303), 1);
        c.due("place 255 % 16", h.usedHead(2, 15), 0);
        h.dueDone("the 257th", 2);
        c.due("COUNT", h.usedCount(2), 257);
        c.due("nothing more", h.x().step(2), 0);
    }

    @Holds(promises = {13, 14, 18}, words = "numbers of several bytes have the lowest first.")
    static void theDriversNumbersHaveTheLowestFirst(Checks c) {
        Guest g = Guest.started(c, false);
        g.poke(256 + 155, 1);
        int wrong = 0;
        for (int k = 0; k < 249; k++) {
            wrong += g.x().post() == 0 && g.x().collect(1) == 0 ? 0 : 1;
        }
        c.due("posts and collects that are not as due", wrong, 0);
        for (int k = 0; k < 8; k++) {
            c.due("post", g.x().post(), k);
        }
        c.due("COUNT 257: its lowest byte", g.x().peek(386), 1);
        c.due("COUNT 257: its second byte", g.x().peek(387), 1);
        Guest h = Guest.started(c, false);
        h.poke(155, 1);
        for (int k = 0; k < 256; k++) {
            wrong += h.x().collect(0) == RingDevices.STRANGE ? 0 : 1;
        }
        c.due("collects that are not STRANGE", wrong, 0);
        c.due("it SAW 256, as COUNT is", h.x().collect(0), RingDevices.NONE);
        c.due("SAW", h.x().told(0, 6), 256);
    }

    @Holds(promises = {1, 17}, words = "The DISK has SECTORS 0 .. 31 of 64 bytes, at first 0.")
    static void theDiskHas32SectorsOf64Bytes(Checks c) {
        for (int from = 0; from < 32; from += 8) {
            RingDevices x = new RingDevices();
            for (int k = 0; k < 512; k++) {
                c.due("disk(" + (from + k / 64) + ", " + k % 64 + ")", x.disk(from + k / 64, k % 64), 0);
            }
        }
        RingDevices x = new RingDevices();
        c.due("SECTOR 32", x.disk(32, 0), BAD);
        c.due("SECTOR -1", x.disk(-1, 0), BAD);
        c.due("byte 64", x.disk(30, 64), BAD);
        c.due("byte -1", x.disk(1, -1), BAD);
        x.start(false);
        x.write(31, 0x0101010101010101L);
        x.step(0);
        c.due("the first byte of the last SECTOR", x.disk(31, 0), 1);
        c.due("the last byte of the last SECTOR", x.disk(31, 63), 64);
        c.due("the last byte of the one before", x.disk(30, 63), 0);
        c.due("the first SECTOR", x.disk(0, 0), 0);
    }

    @Holds(promises = {4, 8, 9, 14, 15, 18}, words = "QUEUES are 0 (disk), 1 (frames that come), 2 (frames that go).")
    static void thereAreThreeQueues(Checks c) {
        for (int q = 0; q < 3; q++) {
            Guest g = Guest.running(c, 4, false);
            g.diskHead(2048, 4, 0);
            if (q != 1) {
                g.chain(q, Guest.part(2048, 16, 0), Guest.part(3000, 64, W));
            } else {
                g.chain(q, Guest.part(3000, 64, W));
            }
            for (int other = 0; other < 3; other++) {
                c.due("TAKEN of another", g.go(other), other == q ? 1 : 0);
                c.due("TAKEN", g.x().told(q, 1), other >= q ? 1 : 0);
            }
            c.due("FRAMES that went", g.x().count(1), q == 2 ? 1 : 0);
            c.due("FRAMES that came", g.x().count(2), q == 1 ? 1 : 0);
            c.due("FRAMES that were dropped", g.x().count(3), q == 1 ? 0 : 1);
            c.due("written by the disk: RESULT", g.usedBytes(q, 0), q == 0 ? 1 : q == 1 ? 13 : 0);
        }
        RingDevices x = new RingDevices();
        for (int none : new int[] {-1, 3}) {
            c.due("queue(" + none + ", ..)", x.queue(none, 8, 0, 128, 152), BAD);
            c.due("told(" + none + ", 0)", x.told(none, 0), BAD);
            c.due("written(" + none + ")", x.written(none), BAD);
            c.due("collect(" + none + ")", x.collect(none), BAD);
            c.due("step(" + none + ")", x.step(none), BAD);
        }
    }

    @Holds(promises = {4, 18}, words = "A QUEUE that is told has a SIZE n (1, 2, 4, 8, 16) and places in MEMORY:")
    static void sizes(Checks c) {
        for (int size = -1; size <= 33; size++) {
            boolean fine = size == 1 || size == 2 || size == 4 || size == 8 || size == 16;
            RingDevices x = new RingDevices();
            c.due("SIZE " + size, x.queue(1, size, 0, 1024, 2048), fine ? 0 : BAD);
            c.due("told", x.told(1, 0), fine ? 1 : 0);
            c.due("SIZE", x.told(1, 4), fine ? size : 0);
        }
        for (int size : new int[] {64, 128, 256, 32768, 65536, 1 << 30, Integer.MIN_VALUE, Integer.MIN_VALUE + 1, Integer.MAX_VALUE}) {
            c.due("SIZE " + size, new RingDevices().queue(1, size, 0, 1024, 2048), BAD);
        }
    }

    @Holds(promises = 8, words = "of n DESCRIPTORS (16 bytes each: 0 .. 7 an address, 8 .. 11 a length, 12, 13 BITS: "
        + "1 NEXT, 2 WRITES, 4 TABLE; 14, 15 the next one's number);")
    static void everyByteOfADescriptorCounts(Checks c) {
        for (int q = 0; q < 3; q++) {
            for (int k = 0; k < 16; k++) {
                Guest g = Guest.running(c, 4, true);
                g.describe(q, 0, 2048, 13, q == 1 ? W | N : N, 1);
                g.describe(q, 1, 2061, 3, W, 0);
                g.poke(512 * q + k, k == 0 || k == 8 ? 20 : k == 12 ? T | N : k == 1 ? 15 : k == 9 ? 2 : 4);
                g.offer(q, 0);
                // the address's and the length's two lowest bytes may be so; no BIT is told in byte 13
                if (k < 2 || k == 8 || k == 9 || k == 13) {
                    g.dueDone("byte " + k, q);
                } else {
                    g.dueBroken("byte " + k, q);
                }
            }
        }
    }

    @Holds(promises = 8, words = "of n DESCRIPTORS (16 bytes each: 0 .. 7 an address, 8 .. 11 a length, 12, 13 BITS: "
        + "1 NEXT, 2 WRITES, 4 TABLE; 14, 15 the next one's number);")
    static void thereIsADescriptorAtEveryNumber(Checks c) {
        for (int d = 0; d < 16; d++) {
            Guest g = Guest.running(c, 16, false);
            g.describe(2, d, 2048 + d, 13, 0, 0);
            g.poke(2060 + d, 100 + d);
            g.offer(2, d);
            g.dueDone("DESCRIPTOR " + d, 2);
            c.due("its FRAME", g.x().wire(0, 0), 100 + d);
            c.due("its number", g.usedHead(2, 0), d);
        }
    }

    @Holds(promises = 8, words = "of n DESCRIPTORS (16 bytes each: 0 .. 7 an address, 8 .. 11 a length, 12, 13 BITS: "
        + "1 NEXT, 2 WRITES, 4 TABLE; 14, 15 the next one's number);")
    static void otherBitsMeanNothing(Checks c) {
        for (int bits : new int[] {8, 16, 32, 64, 128, 0x100, 0x8000, 0xfff8}) {
            Guest g = Guest.running(c, 4, true);
            g.describe(2, 0, 2048, 13, bits, 9);
            g.offer(2, 0);
            g.dueDone("BITS " + bits, 2);
            c.due("it READS, and has no next one", g.x().count(1), 1);
        }
    }

    @Holds(promises = 8, words = "of the AVAILABLE ring (0, 1 its BITS: 1 QUIET; 2, 3 its COUNT; from 4 on n numbers of "
        + "DESCRIPTORS, two bytes each);")
    static void thereIsANumberAtEveryPlaceOfTheAvailableRing(Checks c) {
        for (int n : SIZES) {
            Guest g = Guest.running(c, n, false);
            int ring = g.availableAt(2);
            for (int k = 0; k < n; k++) {
                g.poke(ring + 4 + 2 * k, n - 1 - k);
            }
            // two bytes behind the last place are no more of the ring
            g.fill(ring + 4 + 2 * n, 2, 0xffff);
            g.count(2, n);
            for (int k = 0; k < n; k++) {
                c.due("SIZE " + n + ": step", g.x().step(2), 1);
                c.due("SIZE " + n + ": the number at place " + k, g.usedHead(2, k), n - 1 - k);
            }
            c.due("SIZE " + n + ": nothing more", g.x().step(2), 0);
            g.fill(ring + 4, 2, 256 + n - 1);
            g.count(2, n + 1);
            g.dueBroken("SIZE " + n + ": the second byte of a number", 2);
        }
    }

    @Holds(promises = 8, words = "of the USED ring (0, 1 its BITS, 0; 2, 3 its COUNT; from 4 on n places of 8 bytes: "
        + "a number of a DESCRIPTOR, how many bytes were written, four each).")
    static void thereAreEightBytesAtEveryPlaceOfTheUsedRing(Checks c) {
        for (int n : SIZES) {
            Guest g = Guest.running(c, n, false);
            int ring = g.usedAt(2);
            g.fill(ring, 4, 0xddccbbaaL);
            for (int k = 0; k < n; k++) {
                g.fill(ring + 4 + 8 * k, 8, -1);
                g.poke(g.availableAt(2) + 4 + 2 * k, k);
            }
            g.fill(ring + 4 + 8 * n, 4, 0xffffffffL);
            g.count(2, n);
            for (int k = 0; k < n; k++) {
                c.due("SIZE " + n + ": step", g.x().step(2), 1);
                c.due("all 8 bytes of place " + k, g.number(ring + 4 + 8 * k, 8), k);
            }
            c.due("its BITS", g.number(ring, 2), 0xbbaa);
            c.due("its COUNT", g.number(ring + 2, 2), n);
            c.due("behind it", g.number(ring + 4 + 8 * n, 4), 0xffffffffL);
        }
    }

    @Holds(promises = {8, 9, 18}, words = "The device has for each QUEUE a TAKEN and a GIVEN (16 bits, at first 0).")
    static void takenAndGivenOfEachQueue(Checks c) {
        Guest g = Guest.running(c, 4, false);
        int[] done = new int[3];
        for (int q : new int[] {2, 0, 0, 1, 1, 1, 2, 0}) {
            for (int other = 0; other < 3; other++) {
                c.due("TAKEN of QUEUE " + other, g.x().told(other, 1), done[other]);
                c.due("GIVEN of QUEUE " + other, g.x().told(other, 2), done[other]);
            }
            g.offer(q, 0);
            g.dueDone("QUEUE " + q, q);
            done[q]++;
        }
    }

    @Holds(promises = {1, 5, 19}, words = "THE DEVICE is OFF (at first), RUNS, or is BROKEN.")
    static void statesOfTheDevice(Checks c) {
        Guest g = new Guest(c);
        c.due("at first", g.x().count(0), 0);
        g.lay(0, 1, 0, 256, 300);
        c.due("a QUEUE is told", g.x().count(0), 0);
        c.due("run", g.x().run(), 0);
        c.due("it RUNS", g.x().count(0), 1);
        c.due("it has nothing", g.x().step(0), 0);
        c.due("it RUNS on", g.x().count(0), 1);
        g.offer(0, 1);
        g.dueBroken("a head of 1", 0);
        c.due("step when BROKEN", g.x().step(0), BROKEN);
        c.due("it is BROKEN", g.x().count(0), 2);
    }
}
