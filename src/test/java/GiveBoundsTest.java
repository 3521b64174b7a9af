import java.util.HashMap;
import java.util.Map;

/** TO GIVE a chain back: the USED ring, SIGNALS, and the bytes of MEMORY that the device may write. */
public final class GiveBoundsTest {
    private static final int W = Guest.WRITES;
    private static final int[] SIZES = {1, 2, 4, 8, 16};
    private static final int HEAD = 1600, DATA = 2048, RESULT = 4000;

    public static void main(String[] args) throws ReflectiveOperationException {
        Sentences.run(GiveBoundsTest.class);
    }

    private static long[] part(long address, long length, int bits) {
        return Guest.part(address, length, bits);
    }

    @Holds(promises = {8, 9}, words = "TO GIVE a chain back, w bytes being written: at place GIVEN % n of the USED ring its head and w;")
    static void thePlaceIsGivenModuloSize(Checks c) {
        for (int n : SIZES) {
            for (int q = 0; q < 3; q++) {
                Guest g = Guest.running(c, n, false);
                int places = g.usedAt(q) + 4;
                for (int k = 0; k <= n + 1; k++) {
                    int place = places + 8 * (k % n);
                    g.poke(place, 99);
                    g.poke(place + 4, 99);
                    g.offer(q, (k + 1) % n);
                    g.dueDone("SIZE " + n + ", GIVEN " + k, q);
                    c.due("its head", g.x().peek(place), (k + 1) % n);
                    c.due("w", g.x().peek(place + 4), 0);
                }
            }
        }
    }

    @Holds(promises = {8, 9}, words = "TO GIVE a chain back, w bytes being written: at place GIVEN % n of the USED ring its head and w;")
    static void theHeadAndTheBytesHaveFourBytesEach(Checks c) {
        Guest g = Guest.running(c, 4, false);
        g.diskHead(HEAD, 0, 0);
        g.fill(g.usedAt(0) + 4, 8, -1);
        g.chain(0, part(HEAD, 16, 0), part(DATA, 512, W), part(RESULT, 1, W));
        g.dueDone("read 8 SECTORS", 0);
        c.due("head", g.usedHead(0, 0), 0);
        c.due("513 bytes", g.usedBytes(0, 0), 513);
        c.due("the lowest byte of 513", g.x().peek(g.usedAt(0) + 8), 1);
        c.due("the next one", g.x().peek(g.usedAt(0) + 9), 2);
    }

    @Holds(promises = {8, 9, 18}, words = "then GIVEN is one more, and its COUNT becomes GIVEN (whatever stood there);")
    static void countBecomesGiven(Checks c) {
        for (int q = 0; q < 3; q++) {
            Guest g = Guest.running(c, 4, false);
            int[] stood = {0, 1, 255, 256, 65535, 4};
            for (int k = 0; k < stood.length; k++) {
                g.fill(g.usedAt(q) + 2, 2, stood[k]);
                g.offer(q, 0);
                g.dueDone("COUNT was " + stood[k], q);
                c.due("GIVEN", g.x().told(q, 2), k + 1);
                c.due("COUNT", g.usedCount(q), k + 1);
            }
        }
    }

    @Holds(promises = {8, 9, 18}, words = "if the AVAILABLE ring's BITS have not QUIET it is a SIGNAL of the QUEUE "
        + "(its number of SIGNALS is one more).")
    static void signalsUnlessQuiet(Checks c) {
        for (int q = 0; q < 3; q++) {
            Guest g = Guest.running(c, 1, false);
            int signals = 0;
            for (int bits : new int[] {0, 1, 2, 3, 0x80, 0x81, 0x100, 0x101, 0xfffe, 0xffff, 0}) {
                g.fill(g.availableAt(q), 2, bits);
                g.offer(q, 0);
                g.dueDone("BITS " + bits, q);
                signals += bits % 2 == 0 ? 1 : 0;
                c.due("SIGNALS with BITS " + bits, g.x().told(q, 3), signals);
            }
            c.due("another QUEUE'S SIGNALS", g.x().told((q + 1) % 3, 3), 0);
            c.due("another QUEUE'S SIGNALS", g.x().told((q + 2) % 3, 3), 0);
            c.due("nothing to give", g.go(q), 0);
            c.due("is no SIGNAL", g.x().told(q, 3), signals);
        }
    }

    @Holds(promises = {8, 9, 18}, words = "if the AVAILABLE ring's BITS have not QUIET it is a SIGNAL of the QUEUE "
        + "(its number of SIGNALS is one more).")
    static void chainsThatAreGivenBackWith0SignalToo(Checks c) {
        Guest g = Guest.running(c, 2, false);
        g.chain(0, part(HEAD, 15, 0), part(RESULT, 1, W));
        g.dueDone("a DISK'S chain without a HEAD", 0);
        c.due("SIGNALS", g.x().told(0, 3), 1);
        g.chain(2, part(HEAD, 12, 0));
        g.dueDone("no FRAME", 2);
        c.due("SIGNALS", g.x().told(2, 3), 1);
        g.chain(1, part(HEAD, 12, W));
        g.dueDone("a BUFFER that is too small", 1);
        c.due("SIGNALS", g.x().told(1, 3), 1);
    }

    @Holds(promises = 8, words = "(A byte that is WRITTEN beyond what a chain may WRITE is lost.)")
    static void bytesBeyondAreLost(Checks c) {
        for (int room : new int[] {0, 1, 4, 5, 6, 19}) {
            Map<Integer, Integer> changed = new HashMap<>();
            for (int k = 0; k < room; k++) {
                changed.put(DATA + k, nameByte(k));
            }
            changed.put(RESULT, 0);
            gives(changed, 0, room + 1);
            Guest.dueMemory(c, "KIND 8 with " + room + " bytes before RESULT", changed, g -> {
                g.layAll(4, false);
                g.diskHead(HEAD, 8, 0);
                g.fill(DATA, 8, -1);
                g.fill(DATA + 18, 4, -1);
                g.poke(RESULT, 77);
                g.chain(0, part(HEAD, 16, 0), part(DATA, room, W), part(RESULT, 1, W));
                c.due("step", g.x().step(0), 1);
            });
        }
    }

    private static int nameByte(int k) {
        return k < 5 ? "rings".charAt(k) : 0;
    }

    /** What stands in the USED ring of a QUEUE of a running() guest behind its first chain, of head 0 and w bytes. */
    private static void gives(Map<Integer, Integer> changed, int q, int w) {
        int ring = 512 * q + 300;
        changed.put(ring + 2, 1);
        changed.put(ring + 3, 0);
        for (int k = 0; k < 8; k++) {
            changed.put(ring + 4 + k, 0);
        }
        changed.put(ring + 8, w % 256);
        changed.put(ring + 9, w / 256);
    }

    @Holds(promises = 8, words = "The device never writes to other bytes of MEMORY than those that a chain may WRITE, "
        + "and its USED ring's places and COUNT.")
    static void whatTheDiskWrites(Checks c) {
        // by KIND: how many bytes are written before RESULT, and RESULT
        int[][] kinds = {{0, 64, 0}, {1, 0, 1}, {2, 0, 2}, {4, 0, 0}, {8, 20, 0}};
        for (int[] kind : kinds) {
            Map<Integer, Integer> changed = new HashMap<>();
            for (int k = 0; k < kind[1]; k++) {
                changed.put(DATA + k, kind[0] == 8 ? nameByte(k) : 0);
            }
            changed.put(RESULT, kind[2]);
            gives(changed, 0, kind[1] + 1);
            Guest.dueMemory(c, "KIND " + kind[0], changed, g -> {
                g.layAll(4, false);
                g.diskHead(HEAD, kind[0], 3);
                g.fill(HEAD + 16, 3, 0x999999);
                g.fill(DATA - 2, 4, 0x99999999L);
                g.fill(DATA + 18, 4, 0x99999999L);
                g.fill(DATA + 62, 4, 0x99999999L);
                g.fill(RESULT - 1, 3, 0x999999);
                g.fill(g.usedAt(0), 8, 0x9999999999999999L);
                g.fill(g.usedAt(0) + 8, 8, 0x9999999999999999L);
                // one byte behind the HEAD is no SECTOR for KIND 1
                g.chain(0, part(HEAD, 17, 0), part(DATA, 64, W), part(RESULT, 1, W));
                c.due("step", g.x().step(0), 1);
            });
        }
    }

    @Holds(promises = {8, 9}, words = "The device never writes to other bytes of MEMORY than those that a chain may WRITE, "
        + "and its USED ring's places and COUNT.")
    static void whatIsWrittenForFrames(Checks c) {
        Map<Integer, Integer> went = new HashMap<>();
        gives(went, 2, 0);
        Guest.dueMemory(c, "a FRAME that goes", went, g -> {
            g.layAll(4, false);
            g.fill(DATA - 1, 8, 0x9999999999999999L);
            g.fill(g.usedAt(2) + 1, 8, 0x9999999999999999L);
            g.fill(g.usedAt(2) + 9, 8, 0x9999999999999999L);
            g.chain(2, part(DATA, 20, 0), part(RESULT, 5, W));
            c.due("step", g.x().step(2), 1);
        });
        Map<Integer, Integer> came = new HashMap<>();
        for (int k = 0; k < 14; k++) {
            came.put(DATA + k, k < 12 ? 0 : k == 12 ? 0x21 : 0x44);
        }
        gives(came, 1, 14);
        Guest.dueMemory(c, "a FRAME that comes", came, g -> {
            g.layAll(4, false);
            g.fill(DATA - 1, 8, 0x9999999999999999L);
            g.fill(DATA + 9, 8, 0x9999999999999999L);
            g.chain(1, part(DATA, 92, W), part(RESULT, 5, W));
            c.due("arrive", g.x().arrive(2, 0x4321), 1);
        });
        Map<Integer, Integer> small = new HashMap<>();
        gives(small, 1, 0);
        Guest.dueMemory(c, "a BUFFER that is too small", small, g -> {
            g.layAll(4, false);
            g.fill(DATA - 1, 8, 0x9999999999999999L);
            g.fill(DATA + 9, 8, 0x9999999999999999L);
            g.chain(1, part(DATA, 13, W));
            c.due("arrive", g.x().arrive(2, 0x4321), 0);
        });
    }

    @Holds(promises = {8, 9}, words = "The device never writes to other bytes of MEMORY than those that a chain may WRITE, "
        + "and its USED ring's places and COUNT.")
    static void nothingIsWrittenOtherwise(Checks c) {
        for (int q = 0; q < 3; q++) {
            int queue = q;
            Guest.dueMemory(c, "BROKEN, QUEUE " + q, Map.of(), g -> {
                g.layAll(4, false);
                g.diskHead(HEAD, 8, 0);
                g.fill(DATA, 8, 0x9999999999999999L);
                g.chain(queue, part(HEAD, queue == 1 ? 0 : 16, 0), part(DATA, 92, W), part(4096, 1, W));
                c.due("BROKEN", g.go(queue), RingDevices.BROKEN);
            });
            Guest.dueMemory(c, "nothing to do, QUEUE " + q, Map.of(), g -> {
                g.layAll(4, false);
                g.fill(g.usedAt(queue), 8, 0x9999999999999999L);
                g.fill(0, 8, 0x9999999999999999L);
                c.due("nothing", g.go(queue), 0);
            });
        }
    }
}
