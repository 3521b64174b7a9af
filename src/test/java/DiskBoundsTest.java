/** THE DISK: what a chain of QUEUE 0 asks for, and what it is given back with. */
public final class DiskBoundsTest {
    private static final int W = Guest.WRITES;
    private static final int HEAD = 1600, DATA = 1792, RESULT = 4000;
    private static final int GOOD = 0, ERROR = 1, NO_SUCH_KIND = 2;

    public static void main(String[] args) throws ReflectiveOperationException {
        Sentences.run(DiskBoundsTest.class);
    }

    private static long[] part(long address, long length, int bits) {
        return Guest.part(address, length, bits);
    }

    /** A chain of HEAD, some bytes to read or to write, and RESULT, which holds 77 before. */
    private static Guest asked(Checks c, long kind, long sector, int bytes, int bits) {
        Guest g = Guest.running(c, 4, false);
        again(g, kind, sector, bytes, bits);
        return g;
    }

    private static void again(Guest g, long kind, long sector, int bytes, int bits) {
        g.diskHead(HEAD, kind, sector);
        g.poke(RESULT, 77);
        g.chain(0, part(HEAD, 16, 0), part(DATA, bytes, bits), part(RESULT, 1, W));
    }

    private static void due(Checks c, Guest g, String why, int result, int bytes) {
        g.dueDone(why, 0);
        c.due(why + ": RESULT", g.x().peek(RESULT), result);
        c.due(why + ": bytes written", g.usedBytes(0, (g.x().told(0, 2) + 3) % 4), bytes);
    }

    @Holds(promises = 8, words = "THE DISK. A chain READS a HEAD of 16 bytes: 0 .. 3 a KIND,")
    static void kindHasFourBytes(Checks c) {
        for (int k = 0; k < 4; k++) {
            for (int kind : new int[] {0, 1, 4, 8}) {
                Guest g = asked(c, kind, 0, 64, W);
                g.poke(HEAD + k, k == 0 ? kind + 2 : 1);
                due(c, g, "KIND " + kind + " with another byte " + k, NO_SUCH_KIND, 1);
            }
        }
    }

    @Holds(promises = 8, words = "8 .. 15 a SECTOR")
    static void sectorHasEightBytes(Checks c) {
        for (int k = 8; k < 16; k++) {
            for (int b : new int[] {1, 128}) {
                Guest g = asked(c, 0, 0, 64, W);
                g.poke(HEAD + k, b);
                boolean there = k == 8 && b == 1;
                due(c, g, "byte " + k + " of HEAD is " + b, there ? GOOD : ERROR, there ? 65 : 1);
                Guest h = asked(c, 1, 0, 64, 0);
                h.poke(HEAD + k, b);
                h.poke(DATA, 9);
                due(c, h, "byte " + k + " of HEAD is " + b, there ? GOOD : ERROR, 1);
                c.due("SECTOR 1", h.x().disk(1, 0), there ? 9 : 0);
                c.due("SECTOR 0", h.x().disk(0, 0), 0);
            }
        }
    }

    @Holds(promises = 8, words = "(4 .. 7 count for nothing);")
    static void headsBytes4To7CountForNothing(Checks c) {
        for (int kind : new int[] {0, 1, 4, 8}) {
            Guest g = asked(c, kind, 31, 64, kind == 1 ? 0 : W);
            g.fill(HEAD + 4, 4, 0xffffffffL);
            due(c, g, "KIND " + kind, GOOD, kind == 0 ? 65 : kind == 8 ? 21 : 1);
        }
        Guest h = asked(c, 3, 31, 64, W);
        h.fill(HEAD + 4, 4, 0xffffffffL);
        due(c, h, "KIND 3", NO_SUCH_KIND, 1);
    }

    @Holds(promises = 8, words = "the last byte it may WRITE is its RESULT: 0 good, 1 an error, 2 no such KIND.")
    static void resultIsTheLastByte(Checks c) {
        int[][] kinds = {{4, GOOD}, {0, ERROR}, {3, NO_SUCH_KIND}};
        for (int[] kind : kinds) {
            Guest g = Guest.running(c, 8, false);
            g.diskHead(HEAD, kind[0], 0);
            g.fill(DATA, 8, -1);
            // no part of a length comes behind the one that ends with RESULT
            g.chain(0, part(HEAD, 16, 0), part(DATA, 2, W), part(DATA + 4, 3, W), part(99999, 0, W), part(99999, 0, W));
            g.dueDone("KIND " + kind[0], 0);
            c.due("RESULT, and nothing else", g.number(DATA, 8), 0xff00ffffffffffffL | (long) kind[1] << 48);
            c.due("one byte", g.usedBytes(0, 0), 1);
        }
    }

    @Holds(promises = 8, words = "the last byte it may WRITE is its RESULT: 0 good, 1 an error, 2 no such KIND.")
    static void otherKindsAreNoSuchKind(Checks c) {
        for (long kind : new long[] {2, 3, 5, 6, 7, 9, 10, 16, 255, 256, 260, 0x10000, 0x80000000L, 0x80000001L, 0xffffffffL}) {
            for (int bits : new int[] {0, W}) {
                Guest g = asked(c, kind, 0, 64, bits);
                g.poke(DATA, 5);
                due(c, g, "KIND " + kind, NO_SUCH_KIND, 1);
                c.due("the bytes", g.x().peek(DATA), 5);
                c.due("the DISK", g.x().disk(0, 0), 0);
            }
        }
    }

    @Holds(promises = 8, words = "If it READS less than 16 bytes, or may WRITE none: it is given back, with 0, and nothing is done.")
    static void noHead(Checks c) {
        for (int reads : new int[] {0, 1, 15, 16}) {
            Guest g = Guest.running(c, 4, false);
            g.diskHead(HEAD, 8, 0);
            g.fill(DATA, 2, 0x9999);
            g.fill(g.usedAt(0) + 8, 4, 0x99999999L);
            g.chain(0, part(HEAD, reads, 0), part(DATA, 64, W));
            g.dueDone("it READS " + reads, 0);
            c.due("the first byte", g.x().peek(DATA), reads < 16 ? 0x99 : 'r');
            c.due("with", g.usedBytes(0, 0), reads < 16 ? 0 : 21);
            c.due("RESULT", g.x().peek(DATA + 63), 0);
        }
        Guest h = Guest.running(c, 4, false);
        h.diskHead(HEAD, 7, 0);
        h.poke(RESULT, 77);
        h.chain(0, part(HEAD, 8, 0), part(HEAD + 8, 7, 0), part(RESULT, 1, W));
        due(c, h, "8 and 7 bytes", 77, 0);
    }

    @Holds(promises = 8, words = "If it READS less than 16 bytes, or may WRITE none: it is given back, with 0, and nothing is done.")
    static void noRoomForResult(Checks c) {
        for (int room : new int[] {0, 1}) {
            Guest g = Guest.running(c, 4, false);
            g.diskHead(HEAD, 1, 0);
            g.poke(HEAD + 16, 5);
            g.poke(RESULT, 77);
            g.chain(0, part(HEAD, 80, 0), part(RESULT, room, W));
            due(c, g, "room for " + room, room == 0 ? 77 : GOOD, room);
            c.due("the DISK", g.x().disk(0, 0), room == 0 ? 0 : 5);
        }
        Guest h = Guest.running(c, 4, false);
        h.diskHead(HEAD, 1, 0);
        h.poke(HEAD + 16, 5);
        h.chain(0, part(HEAD, 80, 0));
        h.dueDone("no part with WRITES", 0);
        c.due("with 0", h.usedBytes(0, 0), 0);
        c.due("the DISK", h.x().disk(0, 0), 0);
    }

    @Holds(promises = 8, words = "KIND 0: what it may WRITE before RESULT, in whole SECTORS, becomes the DISK from SECTOR on:")
    static void readWholeSectors(Checks c) {
        Guest g = asked(c, 1, 30, 128, 0);
        g.fill(DATA, 1, 1);
        g.fill(DATA + 63, 2, 0x0302);
        g.fill(DATA + 127, 1, 4);
        due(c, g, "write 30 and 31", GOOD, 1);
        for (int sector : new int[] {29, 30, 31}) {
            g.fill(DATA, 1, 9);
            g.fill(DATA + 63, 2, 0x0909);
            again(g, 0, sector, 64, W);
            due(c, g, "read " + sector, GOOD, 65);
            c.due("its first byte", g.x().peek(DATA), sector == 29 ? 0 : sector == 30 ? 1 : 3);
            c.due("its last byte", g.x().peek(DATA + 63), sector == 29 ? 0 : sector == 30 ? 2 : 4);
            c.due("behind it", g.x().peek(DATA + 64), 9);
        }
    }

    @Holds(promises = 8, words = "KIND 0: what it may WRITE before RESULT, in whole SECTORS, becomes the DISK from SECTOR on:")
    static void sectorsNeedNotFitTheParts(Checks c) {
        Guest g = asked(c, 1, 7, 128, 0);
        g.fill(DATA, 3, 0x030201);
        g.fill(DATA + 126, 2, 0x0504);
        due(c, g, "write 7 and 8", GOOD, 1);
        g.diskHead(HEAD, 0, 7);
        // all of the second SECTOR's end, and RESULT, lie in the last part
        g.chain(0, part(HEAD, 16, 0), part(3000, 1, W), part(3100, 1, W), part(3200, 127, W));
        g.dueDone("read 7 and 8 into three parts", 0);
        c.due("byte 0", g.x().peek(3000), 1);
        c.due("byte 1", g.x().peek(3100), 2);
        c.due("byte 2", g.x().peek(3200), 3);
        c.due("byte 126", g.x().peek(3324), 4);
        c.due("byte 127", g.x().peek(3325), 5);
        c.due("RESULT", g.x().peek(3326), GOOD);
        c.due("behind the first part", g.x().peek(3001), 0);
        c.due("bytes", g.usedBytes(0, 1), 129);
    }

    @Holds(promises = 8, words = "error, and nothing of it, if these are no whole ones,")
    static void noWholeSectors(Checks c) {
        for (int bytes : new int[] {1, 2, 32, 63, 65, 127, 129, 2047}) {
            Guest g = asked(c, 0, 0, bytes, W);
            g.poke(DATA, 5);
            due(c, g, "read " + bytes, ERROR, 1);
            c.due("nothing of it", g.x().peek(DATA), 5);
            Guest h = asked(c, 1, 0, bytes, 0);
            h.poke(DATA, 5);
            due(c, h, "write " + bytes, ERROR, 1);
            c.due("nothing of it", h.x().disk(0, 0), 0);
        }
        // 64 bytes in all are no whole SECTOR before RESULT
        Guest i = Guest.running(c, 4, false);
        i.diskHead(HEAD, 0, 0);
        i.poke(DATA, 5);
        i.chain(0, part(HEAD, 16, 0), part(DATA, 64, W));
        i.dueDone("63 and RESULT", 0);
        c.due("RESULT", i.x().peek(DATA + 63), ERROR);
        c.due("nothing of it", i.x().peek(DATA), 5);
        c.due("with 1", i.usedBytes(0, 0), 1);
    }

    @Holds(promises = 8, words = "or not all are there")
    static void sectorsThatAreNotThere(Checks c) {
        // by SECTOR and how many: the last ones that are there, and the first that are not
        long[][] fine = {{31, 1}, {30, 2}, {0, 32}, {1, 31}, {29, 3}};
        long[][] wrong = {{32, 1}, {31, 2}, {30, 3}, {1, 32}, {0, 33}, {33, 1}, {63, 1}, {64, 1}, {255, 1}, {256, 1}, {65536, 1},
            {0x100000000L, 1}, {-1, 1}, {-1, 2}, {-32, 1}, {Long.MIN_VALUE, 1}, {Long.MIN_VALUE, 32}, {Long.MAX_VALUE, 1}, {Long.MAX_VALUE, 2}};
        for (long[] f : fine) {
            int bytes = (int) f[1] * 64;
            due(c, asked(c, 0, f[0], bytes, W), "read " + f[1] + " from " + f[0], GOOD, bytes + 1);
            Guest g = asked(c, 1, f[0], bytes, 0);
            g.poke(DATA + bytes - 1, 6);
            due(c, g, "write " + f[1] + " from " + f[0], GOOD, 1);
            c.due("its last byte", g.x().disk((int) (f[0] + f[1]) - 1, 63), 6);
        }
        for (long[] w : wrong) {
            int bytes = (int) w[1] * 64;
            Guest g = asked(c, 0, w[0], bytes, W);
            g.poke(DATA, 5);
            due(c, g, "read " + w[1] + " from " + w[0], ERROR, 1);
            c.due("nothing of it", g.x().peek(DATA), 5);
            Guest h = asked(c, 1, w[0], bytes, 0);
            h.poke(DATA, 5);
            h.poke(DATA + 64, 6);
            due(c, h, "write " + w[1] + " from " + w[0], ERROR, 1);
            for (int sector : new int[] {0, 1, 2, 30, 31}) {
                c.due("nothing of it", h.x().disk(sector, 0), 0);
            }
        }
    }

    @Holds(promises = 8, words = "(no byte is no SECTOR, good).")
    static void noByteIsNoSector(Checks c) {
        for (long sector : new long[] {0, 31, 32, 33, 1000, -1, Long.MIN_VALUE, Long.MAX_VALUE}) {
            Guest g = asked(c, 0, sector, 0, W);
            due(c, g, "read no byte from " + sector, GOOD, 1);
            again(g, 1, sector, 0, 0);
            due(c, g, "write no byte from " + sector, GOOD, 1);
        }
    }

    @Holds(promises = 8, words = "1: SECTORS from SECTOR on become what it READS behind the HEAD, likewise.")
    static void writeSectors(Checks c) {
        Guest g = asked(c, 1, 4, 192, 0);
        g.fill(DATA, 1, 1);
        g.fill(DATA + 63, 2, 0x0302);
        g.fill(DATA + 127, 2, 0x0504);
        g.fill(DATA + 191, 2, 0x0706);
        due(c, g, "write 4, 5, 6", GOOD, 1);
        int[] first = {0, 1, 3, 5, 0};
        int[] last = {0, 2, 4, 6, 0};
        for (int k = 0; k < 5; k++) {
            c.due("the first byte of SECTOR " + (3 + k), g.x().disk(3 + k, 0), first[k]);
            c.due("the last byte of SECTOR " + (3 + k), g.x().disk(3 + k, 63), last[k]);
        }
        g.poke(DATA, 8);
        again(g, 1, 5, 64, 0);
        due(c, g, "write 5 anew", GOOD, 1);
        c.due("SECTOR 4 stays", g.x().disk(4, 63), 2);
        c.due("SECTOR 5", g.x().disk(5, 0), 8);
        c.due("SECTOR 6 stays", g.x().disk(6, 0), 5);
    }

    @Holds(promises = 8, words = "1: SECTORS from SECTOR on become what it READS behind the HEAD, likewise.")
    static void bytesBehindAHeadInAnyParts(Checks c) {
        Guest g = Guest.running(c, 8, false);
        g.diskHead(HEAD, 1, 31);
        g.fill(HEAD + 16, 3, 0x0c0b0a);
        g.poke(DATA + 60, 0x0d);
        g.poke(RESULT, 77);
        g.fill(RESULT - 64, 1, 99);
        // HEAD ends in the middle of the third part; what may be written before RESULT is not looked at
        g.chain(0, part(HEAD, 5, 0), part(99999, 0, 0), part(HEAD + 5, 14, 0), part(DATA, 61, 0), part(RESULT - 64, 65, W));
        due(c, g, "a HEAD of two parts", GOOD, 1);
        c.due("byte 0", g.x().disk(31, 0), 0x0a);
        c.due("byte 2", g.x().disk(31, 2), 0x0c);
        c.due("byte 3", g.x().disk(31, 3), 0);
        c.due("byte 63", g.x().disk(31, 63), 0x0d);
        c.due("nothing is written before RESULT", g.x().peek(RESULT - 64), 99);
    }

    @Holds(promises = 8, words = "4: nothing, good.")
    static void kind4DoesNothing(Checks c) {
        for (long sector : new long[] {0, 32, -1}) {
            for (int bytes : new int[] {0, 1, 64}) {
                for (int bits : new int[] {0, W}) {
                    Guest g = asked(c, 4, sector, bytes, bits);
                    g.poke(DATA, 5);
                    due(c, g, "KIND 4", GOOD, 1);
                    c.due("the bytes", g.x().peek(DATA), 5);
                    c.due("the DISK", g.x().disk(0, 0), 0);
                }
            }
        }
    }

    @Holds(promises = 8, words = "8: the first 20 bytes of what it may WRITE before RESULT become the letters \"rings\" and 0s.")
    static void theName(Checks c) {
        for (int room : new int[] {20, 21, 64}) {
            Guest g = asked(c, 8, -1, room, W);
            g.fill(DATA, 8, -1);
            g.fill(DATA + 8, 8, -1);
            g.fill(DATA + 16, 8, -1);
            due(c, g, "room for " + room, GOOD, 21);
            c.due("the letters", g.number(DATA, 8), 0x73676e6972L);
            c.due("0s", g.number(DATA + 8, 8), 0);
            c.due("up to 20", g.number(DATA + 16, 8), 0xffffffff00000000L);
        }
        Guest h = Guest.running(c, 8, false);
        h.diskHead(HEAD, 8, 0);
        h.fill(3000, 8, -1);
        h.fill(3200, 8, -1);
        h.fill(3208, 8, -1);
        h.fill(3216, 8, -1);
        h.chain(0, part(HEAD, 16, 0), part(3000, 3, W), part(99999, 0, W), part(3200, 18, W));
        h.dueDone("in two parts, the last one with RESULT", 0);
        c.due("the first part", h.number(3000, 8), 0xffffffffff6e6972L);
        c.due("the second part", h.number(3200, 8), 0x7367);
        c.due("0s", h.number(3208, 8), 0);
        c.due("and RESULT", h.number(3216, 8), 0xffffffffffff0000L);
        c.due("bytes", h.usedBytes(0, 0), 21);
    }

    @Holds(promises = 8, words = "8: the first 20 bytes of what it may WRITE before RESULT become the letters \"rings\" and 0s.")
    static void theNameIsCutShort(Checks c) {
        for (int room : new int[] {0, 1, 4, 5, 6, 19}) {
            Guest g = asked(c, 8, 0, room, W);
            g.fill(DATA, 8, -1);
            g.fill(DATA + 16, 8, -1);
            due(c, g, "room for " + room, GOOD, room + 1);
            for (int k = 0; k < 8; k++) {
                c.due("byte " + k, g.x().peek(DATA + k), k >= room ? 255 : k < 5 ? "rings".charAt(k) : 0);
            }
            c.due("byte 18", g.x().peek(DATA + 18), room == 19 ? 0 : 255);
            c.due("byte 19", g.x().peek(DATA + 19), 255);
        }
    }

    @Holds(promises = 8, words = "Given back with all bytes WRITTEN, RESULT too.")
    static void givenBackWithAllBytes(Checks c) {
        int[][] asks = {{0, 0, 1}, {0, 64, 65}, {0, 192, 193}, {0, 256, 257}, {0, 2048, 2049}, {0, 65, 1}, {1, 64, 1}, {4, 64, 1}, {5, 64, 1},
            {8, 64, 21}, {8, 20, 21}, {8, 7, 8}};
        for (int[] a : asks) {
            Guest g = asked(c, a[0], 0, a[1], a[0] == 1 ? 0 : W);
            g.dueDone("KIND " + a[0] + ", " + a[1] + " bytes", 0);
            c.due("KIND " + a[0] + ", " + a[1] + " bytes: w", g.usedBytes(0, 0), a[2]);
        }
    }

    @Holds(promises = 8, words = "Given back with all bytes WRITTEN, RESULT too.")
    static void resultIsWrittenLast(Checks c) {
        Guest g = Guest.running(c, 4, false);
        g.diskHead(HEAD, 8, 0);
        // the bytes and RESULT lie over HEAD, which was read before
        g.chain(0, part(HEAD, 16, 0), part(HEAD, 20, W), part(HEAD + 1, 1, W));
        g.dueDone("one over the other", 0);
        c.due("RESULT over the second letter", g.number(HEAD, 8), 0x73676e0072L);
        c.due("bytes", g.usedBytes(0, 0), 21);
    }
}
