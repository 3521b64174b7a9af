/** TO TAKE a chain: what a QUEUE has, what makes the device BROKEN, and what a chain READS and may WRITE. */
public final class TakeBoundsTest {
    private static final int N = Guest.NEXT, W = Guest.WRITES, T = Guest.TABLE;
    private static final int GO = 2;
    private static final int[] SIZES = {1, 2, 4, 8, 16};
    private static final int OFF = RingDevices.OFF, BAD = RingDevices.BAD, BROKEN = RingDevices.BROKEN;

    public static void main(String[] args) throws ReflectiveOperationException {
        Sentences.run(TakeBoundsTest.class);
    }

    private static long[] part(long address, long length, int bits) {
        return Guest.part(address, length, bits);
    }

    /** A chain of QUEUE 2 alone, of one DESCRIPTOR. */
    private static Guest one(Checks c, boolean tables, long address, long length, int bits) {
        Guest g = Guest.running(c, 4, tables);
        g.chain(GO, part(address, length, bits));
        return g;
    }

    @Holds(promises = {8, 9}, words = "A QUEUE has something if the device RUNS, the QUEUE is told, and the COUNT of its "
        + "AVAILABLE ring is not TAKEN.")
    static void aQueueHasSomething(Checks c) {
        for (int q = 0; q < 3; q++) {
            Guest g = new Guest(c);
            g.lay(q, 4, 0, 256, 300);
            g.count(q, 1);
            c.due("it is told, and OFF", g.go(q), OFF);
            c.due("run", g.x().run(), 0);
            for (int other = 0; other < 3; other++) {
                c.due("only QUEUE " + q + " is told", other == q ? 0 : g.go(other), 0);
            }
            g.dueDone("it RUNS, and COUNT is 1", q);
            c.due("COUNT is TAKEN", g.go(q), 0);
            c.due("TAKEN", g.x().told(q, 1), 1);
            c.due("GIVEN", g.x().told(q, 2), 1);
            g.count(q, 2);
            g.dueDone("COUNT is one more", q);
            c.due("reset", g.x().reset(false), 0);
            c.due("run", g.x().run(), 0);
            c.due("it is told no more", g.go(q), 0);
        }
    }

    @Holds(promises = {8, 9}, words = "If COUNT less TAKEN (modulo 65536) is more than n: BROKEN.")
    static void countIsNoMoreThanSizeAhead(Checks c) {
        for (int n : SIZES) {
            for (int q = 0; q < 3; q++) {
                for (int count : new int[] {n + 1, n + 2, 256 + n, 32768, 65535}) {
                    Guest g = Guest.running(c, n, false);
                    g.count(q, count);
                    g.dueBroken("SIZE " + n + ", COUNT " + count, q);
                }
                Guest g = Guest.running(c, n, false);
                g.count(q, n);
                for (int k = 0; k < n; k++) {
                    g.dueDone("SIZE " + n + ", COUNT n", q);
                }
                c.due("nothing more", g.go(q), 0);
                g.count(q, 2 * n);
                g.dueDone("COUNT n more than TAKEN", q);
                g.count(q, 2 * n + 2);
                g.dueBroken("COUNT n + 1 more than TAKEN", q);
            }
        }
    }

    @Holds(promises = {8, 9}, words = "If COUNT less TAKEN (modulo 65536) is more than n: BROKEN.")
    static void countBehindTakenIsFarAhead(Checks c) {
        for (int q = 0; q < 3; q++) {
            for (int behind = 1; behind <= 2; behind++) {
                Guest g = Guest.running(c, 16, false);
                g.count(q, 2);
                g.dueDone("the first", q);
                g.dueDone("the second", q);
                g.count(q, 2 - behind);
                g.dueBroken("COUNT " + behind + " behind TAKEN", q);
            }
        }
    }

    @Holds(promises = 8, words = "TO TAKE a chain: the number at place TAKEN % n of the AVAILABLE ring is its head:")
    static void theHeadIsAtPlaceTakenModuloSize(Checks c) {
        for (int n : SIZES) {
            Guest g = Guest.running(c, n, false);
            int numbers = g.availableAt(GO) + 4;
            for (int k = 0; k < n; k++) {
                g.poke(numbers + 2 * k, 255);
            }
            for (int k = 0; k <= n + 1; k++) {
                int head = (k + 1) % n;
                g.poke(numbers + 2 * (k % n), head);
                g.count(GO, k + 1);
                c.due("SIZE " + n + ", TAKEN " + k, g.x().step(GO), 1);
                c.due("its head", g.x().peek(g.usedAt(GO) + 4 + 8 * (k % n)), head);
                g.poke(numbers + 2 * (k % n), 255);
            }
        }
    }

    @Holds(promises = {8, 9}, words = "BROKEN, if it is n or more.")
    static void aHeadIsBelowSize(Checks c) {
        for (int n : SIZES) {
            for (int q = 0; q < 3; q++) {
                Guest g = Guest.running(c, n, false);
                g.offer(q, n - 1);
                g.dueDone("SIZE " + n + ", head n - 1", q);
                c.due("its head", g.usedHead(q, 0), n - 1);
                for (int head : new int[] {n, n + 1, 255, 256, 256 + n - 1, 32768, 65535}) {
                    Guest h = Guest.running(c, n, false);
                    h.offer(q, head);
                    h.dueBroken("SIZE " + n + ", head " + head, q);
                }
            }
        }
    }

    @Holds(promises = 8, words = "From it on, as long as one has NEXT: DESCRIPTORS of the QUEUE;")
    static void aChainGoesOnAsLongAsOneHasNext(Checks c) {
        Guest g = Guest.running(c, 4, false);
        g.describe(GO, 2, 2048, 12, N, 0);
        g.describe(GO, 0, 2060, 1, N, 3);
        g.describe(GO, 3, 2061, 1, 0, 1);
        g.describe(GO, 1, 2062, 1, 0, 0);
        g.fill(2060, 3, 0x030201);
        g.offer(GO, 2);
        g.dueDone("2, 0, 3", GO);
        c.due("the byte of 0", g.x().wire(0, 0), 1);
        c.due("the byte of 3", g.x().wire(0, 1), 2);
        c.due("1 is none of it", g.x().wire(0, 2), RingDevices.NONE);
        Guest h = one(c, false, 2048, 13, 0);
        h.fill(GO * 512 + 14, 2, 65535);
        h.dueDone("without NEXT its number counts for nothing", GO);
        c.due("the FRAME", h.x().count(1), 1);
    }

    @Holds(promises = {8, 9}, words = "BROKEN, the first that is so: it is n or more;")
    static void aNextOneIsBelowSize(Checks c) {
        for (int n : SIZES) {
            for (int q = 0; q < 3; q++) {
                if (n > 1) {
                    Guest g = Guest.running(c, n, false);
                    g.describe(q, 0, 2048, 0, N, n - 1);
                    g.offer(q, 0);
                    g.dueDone("SIZE " + n + ", next n - 1", q);
                }
                for (int next : new int[] {n, n + 1, 255, 256, 65535}) {
                    Guest h = Guest.running(c, n, false);
                    h.describe(q, 0, 2048, 0, N, next);
                    h.offer(q, 0);
                    h.dueBroken("SIZE " + n + ", next " + next, q);
                }
            }
        }
    }

    @Holds(promises = 8, words = "it is the 17th of the chain;")
    static void aChainHasSixteenAtMost(Checks c) {
        Guest g = Guest.running(c, 16, false);
        for (int d = 0; d < 16; d++) {
            g.describe(GO, 15 - d, 2048 + d, 1, d < 15 ? N : 0, d < 15 ? 14 - d : 0);
        }
        g.fill(2060, 4, 0x44332211);
        g.offer(GO, 15);
        g.dueDone("16", GO);
        c.due("the 13th's byte", g.x().wire(0, 0), 0x11);
        c.due("the 16th's byte", g.x().wire(0, 3), 0x44);
        Guest h = Guest.running(c, 16, false);
        for (int d = 0; d < 16; d++) {
            h.describe(GO, d, 2048, 1, N, (d + 1) % 16);
        }
        h.offer(GO, 0);
        h.dueBroken("a ring of 16", GO);
    }

    @Holds(promises = {8, 9}, words = "it is the 17th of the chain;")
    static void aRingOfDescriptorsHasA17th(Checks c) {
        for (int n : SIZES) {
            for (int q = 0; q < 3; q++) {
                Guest g = Guest.running(c, n, false);
                g.describe(q, n - 1, 99999, 0, N, n - 1);
                g.offer(q, n - 1);
                g.dueBroken("SIZE " + n + ": one that is its own next one", q);
            }
        }
        Guest h = Guest.running(c, 4, false);
        h.describe(GO, 0, 2048, 1, N, 1);
        h.describe(GO, 1, 2048, 1, N, 3);
        h.describe(GO, 3, 2048, 1, N, 1);
        h.offer(GO, 0);
        h.dueBroken("a ring of two behind one", GO);
    }

    @Holds(promises = {2, 3, 8}, words = "it has TABLE, and TABLES are not agreed on,")
    static void tablesMustBeAgreedOn(Checks c) {
        Guest g = one(c, false, 2048, 16, T);
        g.dueBroken("TABLES are not agreed on", GO);
        Guest h = one(c, true, 2048, 16, T);
        h.dueDone("TABLES are agreed on", GO);
        for (int t = 0; t < 2; t++) {
            Guest i = Guest.started(c, t == 0);
            c.due("start", i.x().start(t == 1), 0);
            i.chain(0, part(2048, 16, T));
            if (t == 1) {
                i.dueDone("a DRIVER'S device with TABLES", 0);
            } else {
                i.dueBroken("a DRIVER'S device without TABLES", 0);
            }
        }
    }

    @Holds(promises = 8, words = "or it has NEXT,")
    static void aTableHasNoNext(Checks c) {
        for (int next : new int[] {0, 1, 3}) {
            Guest g = Guest.running(c, 4, true);
            g.describe(GO, 0, 2048, 16, T | N, next);
            g.offer(GO, 0);
            g.dueBroken("TABLE and NEXT, next " + next, GO);
        }
        Guest h = Guest.running(c, 4, true);
        h.describe(GO, 0, 2048, 16, T, 9);
        h.offer(GO, 0);
        h.dueDone("TABLE without NEXT, next 9", GO);
    }

    @Holds(promises = 8, words = "or is in a TABLE,")
    static void aTableIsNotInATable(Checks c) {
        Guest g = one(c, true, 2048, 32, T);
        g.describeAt(2048, 2080, 16, T, 0);
        g.dueBroken("the first in a TABLE", GO);
        Guest h = one(c, true, 2048, 32, T);
        h.table(2048, part(3000, 13, 0), part(2080 + 16, 16, T));
        h.dueBroken("the last in a TABLE", GO);
        Guest i = one(c, true, 2048, 32, T);
        i.table(2048, part(3000, 13, 0));
        i.describeAt(2064, 2080, 16, T, 0);
        i.dueDone("one in the table that is none of the chain", GO);
    }

    @Holds(promises = 8, words = "or its length is no multiple of 16 or 0,")
    static void aTablesLengthIsAMultipleOf16(Checks c) {
        for (long length : new long[] {0, 1, 8, 15, 17, 31, 33, 47, 49, 239, 241, 255}) {
            one(c, true, 2048, length, T).dueBroken("a table of " + length + " bytes", GO);
        }
        for (int length = 16; length <= 256; length += 16) {
            one(c, true, 2048, length, T).dueDone("a table of " + length + " bytes", GO);
        }
    }

    @Holds(promises = 8, words = "or more than 256;")
    static void aTablesLengthIsNoMoreThan256(Checks c) {
        one(c, true, 2048, 256, T).dueDone("a table of 256 bytes", GO);
        one(c, true, 4096 - 256, 256, T).dueDone("a table of 256 bytes at the end", GO);
        for (long length : new long[] {257, 272, 512, 0x110, 0x1010, 0x10010, 0x1000010, 0x80000010L, 0xfffffff0L}) {
            one(c, true, 1536, length, T).dueBroken("a table of " + length + " bytes", GO);
        }
    }

    @Holds(promises = {8, 9}, words = "its bytes do not all lie in MEMORY")
    static void bytesLieInMemory(Checks c) {
        long[][] fine = {{0, 1}, {4095, 1}, {0, 4096}, {1, 4095}, {4083, 13}};
        long[][] wrong = {{4096, 1}, {4095, 2}, {4084, 13}, {0, 4097}, {1, 4096}, {-1, 1}, {-1, 2}, {-13, 13}, {-12, 13},
            {Long.MIN_VALUE, 1}, {Long.MAX_VALUE, 1}, {Long.MAX_VALUE, 0xffffffffL}, {0x100000000L, 13}, {0x10000, 13},
            {0, 0xffffffffL}, {0, 0x80000000L}, {16, 0xfffffff0L}, {4095, 0x80000001L}, {0x8000000000000010L, 13}};
        for (int q = 0; q < 3; q++) {
            for (int bits : new int[] {0, W}) {
                for (long[] f : fine) {
                    Guest g = Guest.running(c, 2, false);
                    g.chain(q, part(f[0], f[1], bits));
                    // a FRAME that comes would go over the rings themselves
                    if (q != 1 || bits == 0 || f[1] < 4000) {
                        g.dueDone(f[1] + " bytes at " + f[0] + ", BITS " + bits, q);
                    }
                }
                for (long[] w : wrong) {
                    Guest g = Guest.running(c, 2, false);
                    g.chain(q, part(w[0], w[1], bits));
                    g.dueBroken(w[1] + " bytes at " + w[0] + ", BITS " + bits, q);
                }
            }
        }
    }

    @Holds(promises = 8, words = "its bytes do not all lie in MEMORY")
    static void aTableLiesInMemory(Checks c) {
        for (long length : new long[] {16, 48, 256}) {
            one(c, true, 4096 - length, length, T).dueDone("a table at the end", GO);
            // nothing is told of where a table may begin
            one(c, true, 4096 - length - 1, length, T).dueDone("a table one before", GO);
            for (long address : new long[] {4096 - length + 1, 4096, 65536 + 2048, 0x100000800L, Long.MIN_VALUE + 2048, -16, -1}) {
                one(c, true, address, length, T).dueBroken("a table at " + address, GO);
            }
        }
    }

    @Holds(promises = {8, 9}, words = "(without length: whatever its address);")
    static void withoutLengthWhateverItsAddress(Checks c) {
        for (long address : new long[] {0, 4095, 4096, 4097, 65536, 0x100000000L, Long.MAX_VALUE, Long.MIN_VALUE, -1}) {
            for (int q = 0; q < 3; q++) {
                Guest g = Guest.running(c, 4, true);
                g.chain(q, part(address, 0, 0), part(address, 0, W), part(2048, 32, T | W));
                g.table(2048, part(address, 0, W), part(address, 0, W));
                g.dueDone("without length at " + address, q);
            }
        }
    }

    @Holds(promises = {8, 9}, words = "it has neither WRITES nor TABLE, and one before it has WRITES.")
    static void noReadsBehindWrites(Checks c) {
        for (int q = 0; q < 3; q++) {
            for (int length : new int[] {0, 1, 16}) {
                Guest g = Guest.running(c, 4, true);
                g.chain(q, part(2048, length, W), part(2100, length, 0));
                g.dueBroken("READS right behind WRITES, length " + length, q);
                Guest h = Guest.running(c, 4, true);
                h.chain(q, part(2048, 16, 0), part(2048, length, W), part(2048, 1, W), part(2100, length, 0));
                h.dueBroken("READS behind two, length " + length, q);
                Guest i = Guest.running(c, 4, true);
                i.chain(q, part(2048, length, W), part(2304, 16, T));
                i.table(2304, part(2100, length, 0));
                i.dueBroken("READS in a table behind WRITES, length " + length, q);
                Guest j = Guest.running(c, 4, true);
                j.chain(q, part(2304, 32, T));
                j.table(2304, part(2100, length, W), part(2100, length, 0));
                j.dueBroken("READS behind WRITES in a table, length " + length, q);
            }
        }
    }

    @Holds(promises = {8, 9}, words = "it has neither WRITES nor TABLE, and one before it has WRITES.")
    static void aTableMayComeBehindWrites(Checks c) {
        for (int q = 0; q < 3; q++) {
            for (int bits : new int[] {T, T | W}) {
                Guest g = Guest.running(c, 4, true);
                g.chain(q, part(2048, 16, 0), part(2100, 1, W), part(2304, 16, bits));
                g.table(2304, part(2101, 1, W));
                g.dueDone("a table behind WRITES, BITS " + bits, q);
            }
        }
    }

    @Holds(promises = {8, 9}, words = "One with TABLE (its WRITES count for nothing;")
    static void aTablesWritesCountForNothing(Checks c) {
        Guest g = Guest.running(c, 4, true);
        g.chain(GO, part(2304, 32, T | W));
        g.table(2304, part(2048, 12, 0), part(2060, 1, 0));
        g.poke(2060, 77);
        g.dueDone("READS in a table with WRITES", GO);
        c.due("the FRAME", g.x().wire(0, 0), 77);
        Guest h = Guest.running(c, 4, true);
        h.chain(1, part(2304, 16, T));
        h.table(2304, part(2048, 13, W));
        c.due("WRITES in a table without", h.x().arrive(1, 88), 1);
        c.due("the FRAME", h.x().peek(2060), 88);
    }

    /** A chain of some DESCRIPTORS of the QUEUE, two bytes each, and a TABLE that stands for some more. */
    private static Guest mixed(Checks c, int before, int inTable) {
        Guest g = Guest.running(c, 16, true);
        for (int d = 0; d < before; d++) {
            g.describe(GO, d, 3000, 2, N, d + 1);
        }
        g.describe(GO, before, 2048, 16 * inTable, T, 0);
        for (int d = 0; d < inTable; d++) {
            g.describeAt(2048 + 16 * d, 3000 + d, 2, d < inTable - 1 ? N : 0, d + 1);
        }
        g.offer(GO, 0);
        return g;
    }

    @Holds(promises = 8, words = "it is none of the 16 itself, if it comes behind no more than 15)")
    static void aTableIsNoneOfThe16(Checks c) {
        for (int[] of : new int[][] {{15, 1}, {14, 2}, {8, 8}, {1, 15}, {0, 16}}) {
            Guest g = mixed(c, of[0], of[1]);
            g.dueDone(of[0] + " and a table of " + of[1], GO);
            c.due("20 bytes go", g.x().wire(0, 19), 0);
            c.due("20 bytes go", g.x().wire(0, 20), RingDevices.NONE);
        }
        for (int[] of : new int[][] {{15, 2}, {14, 3}, {8, 9}, {1, 16}}) {
            mixed(c, of[0], of[1]).dueBroken(of[0] + " and a table of " + of[1], GO);
        }
    }

    @Holds(promises = {8, 9}, words = "stands for the DESCRIPTORS of a table at its address, of as many as its length has room for "
        + "(numbered from 0 on, from 0 on;")
    static void aTableIsNumberedFrom0On(Checks c) {
        Guest g = Guest.running(c, 4, true);
        g.describe(GO, 3, 2048, 48, T, 2);
        g.describeAt(2048, 3000, 12, N, 2);
        g.describeAt(2064, 3100, 1, 0, 0);
        g.describeAt(2080, 3200, 1, 0, 0);
        g.poke(3100, 1);
        g.poke(3200, 2);
        g.offer(GO, 3);
        g.dueDone("a table of DESCRIPTOR 3", GO);
        c.due("it begins with 0, whose next one is 2", g.x().wire(0, 0), 2);
        c.due("the head is the QUEUE'S", g.usedHead(GO, 0), 3);
        c.due("one byte goes", g.x().wire(0, 1), RingDevices.NONE);
    }

    @Holds(promises = {8, 9}, words = "what is told of n is that many there).")
    static void aTableHasANumberOfItsOwn(Checks c) {
        for (int n : SIZES) {
            for (int room : new int[] {1, 2, 3, 4, 9, 16}) {
                if (room > 1) {
                    Guest g = Guest.running(c, n, true);
                    g.chain(GO, part(2048, 16 * room, T));
                    g.describeAt(2048, 3000, 13, N, room - 1);
                    g.dueDone("SIZE " + n + ", a table of " + room + ", next " + (room - 1), GO);
                }
                Guest h = Guest.running(c, n, true);
                h.chain(GO, part(2048, 16 * room, T));
                h.describeAt(2048, 3000, 13, N, room);
                h.dueBroken("SIZE " + n + ", a table of " + room + ", next " + room, GO);
            }
        }
        Guest i = Guest.running(c, 16, true);
        i.chain(GO, part(2048, 32, T));
        i.table(2048, part(3000, 0, 0), part(3000, 0, 0));
        i.describeAt(2064, 3000, 0, N, 0);
        i.dueBroken("a ring in a table", GO);
    }

    @Holds(promises = 8, words = "The chain READS what those without WRITES have, one behind the other,")
    static void aChainReadsItsPartsInOrder(Checks c) {
        Guest g = Guest.running(c, 8, false);
        g.fill(2048, 8, 0x0807060504030201L);
        g.chain(GO, part(2050, 5, 0), part(77777, 0, 0), part(2048, 8, 0), part(2053, 3, 0), part(2048, 1, 0), part(2048, 1, 0),
            part(2055, 1, W));
        g.dueDone("parts of any length", GO);
        int[] frame = {8, 6, 7, 8, 1, 1};
        for (int k = 0; k < frame.length; k++) {
            c.due("byte " + k, g.x().wire(0, k), frame[k]);
        }
        c.due("what it may WRITE is none of it", g.x().wire(0, frame.length), RingDevices.NONE);
    }

    @Holds(promises = 9, words = "and may WRITE to those with.")
    static void aChainMayWriteToItsPartsInOrder(Checks c) {
        Guest g = Guest.running(c, 8, false);
        g.fill(2048, 8, -1);
        g.fill(2056, 8, -1);
        g.chain(1, part(77777, 0, 0), part(2060, 3, W), part(88888, 0, W), part(2048, 10, W), part(2058, 1, W));
        c.due("14 bytes for 12 and the FRAME", g.x().arrive(2, 0x0b0a), 1);
        c.due("the second part", g.number(2048, 8), 0);
        c.due("its last byte, the third part, what is no part, the first part", g.number(2056, 8), 0xff00_0000_ff0c_0a00L);
        c.due("bytes", g.usedBytes(1, 0), 14);
    }

    @Holds(promises = {8, 9}, words = "and may WRITE to those with.")
    static void nothingIsLeftOfTheChainBefore(Checks c) {
        Guest g = Guest.running(c, 4, false);
        g.chain(GO, part(2048, 5, 0), part(2048, 5, 0), part(2048, 5, 0), part(3000, 64, W));
        g.dueDone("a chain of four parts", GO);
        g.chain(1, part(2100, 13, W));
        c.due("one that WRITES alone", g.x().arrive(1, 99), 1);
        c.due("its last byte", g.x().peek(2112), 99);
        g.chain(0, part(3000, 16, 0), part(2200, 1, W));
        g.poke(3000, 3);
        g.dueDone("one of a HEAD and RESULT", 0);
        c.due("RESULT", g.x().peek(2200), 2);
        g.chain(GO, part(2048, 13, 0), part(3000, 64, W));
        g.dueDone("one that READS again", GO);
        c.due("FRAMES that went", g.x().count(1), 2);
        c.due("of one byte", g.x().wire(0, 1), RingDevices.NONE);
        g.chain(1, part(3000, 64, W), part(3000, 64, 0));
        g.dueBroken("one that READS behind WRITES", 1);
    }

    @Holds(promises = {8, 9, 18}, words = "Then TAKEN is one more.")
    static void takenIsOneMore(Checks c) {
        for (int q = 0; q < 3; q++) {
            Guest g = Guest.running(c, 2, false);
            g.count(q, 2);
            g.dueDone("a chain of nothing", q);
            c.due("TAKEN", g.x().told(q, 1), 1);
            g.dueDone("one more", q);
            c.due("TAKEN", g.x().told(q, 1), 2);
            c.due("nothing more", g.go(q), 0);
            c.due("TAKEN stays", g.x().told(q, 1), 2);
        }
    }

    @Holds(promises = {8, 9}, words = "BROKEN: nothing more is done (TAKEN as it was);")
    static void nothingIsDoneWhenItBreaks(Checks c) {
        // a DISK's write, a FRAME that goes and a BUFFER for one that comes, each with a last part that is wrong
        Guest g = Guest.running(c, 4, false);
        g.diskHead(2048, 1, 0);
        g.fill(2064, 2, 0x0505);
        g.chain(0, part(2048, 80, 0), part(3000, 1, W), part(4096, 1, W));
        g.poke(3000, 77);
        g.dueBroken("a DISK'S chain", 0);
        c.due("the DISK", g.x().disk(0, 0), 0);
        c.due("no RESULT", g.x().peek(3000), 77);
        Guest h = Guest.running(c, 4, false);
        h.chain(GO, part(2048, 13, 0), part(4096, 1, W));
        h.dueBroken("a FRAME that goes", GO);
        c.due("no FRAME went", h.x().count(1), 0);
        c.due("no FRAME went", h.x().wire(0, 0), RingDevices.NONE);
        Guest i = Guest.running(c, 4, false);
        i.chain(1, part(2048, 13, W), part(4096, 1, W));
        i.poke(2048, 77);
        i.dueBroken("a FRAME that comes", 1);
        c.due("no FRAME came", i.x().count(2), 0);
        c.due("none was dropped", i.x().count(3), 0);
        c.due("nothing is written", i.x().peek(2048), 77);
    }

    @Holds(promises = {8, 9}, words = "BROKEN: nothing more is done (TAKEN as it was);")
    static void takenStaysBehindGoodOnes(Checks c) {
        for (int q = 0; q < 3; q++) {
            Guest g = Guest.running(c, 4, false);
            g.offer(q, 0);
            g.offer(q, 1);
            g.offer(q, 4);
            g.dueDone("the first", q);
            g.dueDone("the second", q);
            g.dueBroken("the third, whose head is 4", q);
            c.due("TAKEN", g.x().told(q, 1), 2);
        }
    }

    @Holds(promises = {2, 3, 4, 5, 8, 9}, words = "the device is so till it is told anew.")
    static void brokenTillItIsToldAnew(Checks c) {
        Guest g = Guest.running(c, 4, false);
        g.offer(0, 4);
        g.dueBroken("a head of 4", 0);
        g.offer(1, 0);
        g.offer(2, 0);
        for (int q = 0; q < 3; q++) {
            c.due("QUEUE " + q, g.go(q), BROKEN);
        }
        g.fill(256 + 4, 2, 0);
        c.due("the guest mends the head", g.x().step(0), BROKEN);
        c.due("run", g.x().run(), BAD);
        c.due("queue", g.x().queue(0, 4, 0, 256, 300), BAD);
        c.due("still BROKEN", g.x().count(0), 2);
        c.due("reset", g.x().reset(false), 0);
        c.due("it is OFF", g.x().count(0), 0);
        g.lay(0, 4, 0, 256, 300);
        c.due("run", g.x().run(), 0);
        g.dueDone("told anew", 0);
        g.count(0, 9);
        g.dueBroken("again", 0);
        c.due("start", g.x().start(false), 0);
        c.due("it RUNS", g.x().count(0), 1);
        c.due("it has nothing", g.x().step(0), 0);
    }
}
