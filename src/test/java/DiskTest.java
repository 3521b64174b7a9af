/** Promises 8 and 17: what THE DISK does with a chain, and disk(). */
public final class DiskTest {
    private static final Checks CHECKS = new Checks("DiskTest");
    private static final int N = Guest.NEXT, W = Guest.WRITES;
    private static final int HEAD = 1600, DATA = 2048, RESULT = 4000;

    public static void main(String[] args) {
        wrongPlaces();
        writeAndReadBack();
        partsNeedNotFit();
        resultIsTheLastByte();
        noWholeSectors();
        sectorsThatAreNotThere();
        noByteIsGood();
        otherKinds();
        nameIsCutShort();
        notEvenAHead();
        resultGoesOverTheBytes();
        wholeDisk();
        neighboursStay();
        CHECKS.end();
    }

    /** A chain of HEAD, some bytes to read or to write, and RESULT, which holds 77 before. */
    private static Guest asked(long kind, long sector, int bytes, boolean writes) {
        Guest g = Guest.running(CHECKS, 4, false);
        again(g, kind, sector, bytes, writes);
        return g;
    }

    private static void again(Guest g, long kind, long sector, int bytes, boolean writes) {
        g.diskHead(HEAD, kind, sector);
        g.describe(0, 0, HEAD, 16, N, 1);
        g.describe(0, 1, DATA, bytes, writes ? N | W : N, 2);
        g.describe(0, 2, RESULT, 1, W, 0);
        g.x().poke(RESULT, 77);
        g.offer(0, 0);
    }

    private static void due(Guest g, String why, int result, int bytes) {
        CHECKS.due(why + ": step", g.x().step(0), 1);
        CHECKS.due(why + ": RESULT", g.x().peek(RESULT), result);
        int place = (g.x().told(0, 2) + 3) % 4;
        CHECKS.due(why + ": bytes written", g.usedBytes(0, place), bytes);
        CHECKS.due(why + ": RUNS", g.x().count(0), 1);
    }

    private static void wrongPlaces() {
        RingDevices x = new RingDevices();
        for (int wrong : new int[] {-1, 64, Integer.MIN_VALUE, Integer.MAX_VALUE}) {
            CHECKS.due("disk(" + wrong + ", 0)", x.disk(wrong, 0), RingDevices.BAD);
            CHECKS.due("disk(0, " + wrong + ")", x.disk(0, wrong), RingDevices.BAD);
        }
        CHECKS.due("disk(32, 0)", x.disk(32, 0), RingDevices.BAD);
        CHECKS.due("disk(31, 63)", x.disk(31, 63), 0);
        CHECKS.due("disk(0, 63)", x.disk(0, 63), 0);
    }

    private static void writeAndReadBack() {
        Guest g = asked(1, 30, 128, false);
        g.x().poke(HEAD + 5, 99);
        g.x().poke(DATA, 200);
        g.x().poke(DATA + 63, 201);
        g.x().poke(DATA + 64, 202);
        g.x().poke(DATA + 127, 203);
        g.x().poke(DATA + 128, 204);
        due(g, "write two", 0, 1);
        CHECKS.due("disk(30, 0)", g.x().disk(30, 0), 200);
        CHECKS.due("disk(30, 1)", g.x().disk(30, 1), 0);
        CHECKS.due("disk(30, 63)", g.x().disk(30, 63), 201);
        CHECKS.due("disk(31, 0)", g.x().disk(31, 0), 202);
        CHECKS.due("disk(31, 63)", g.x().disk(31, 63), 203);
        CHECKS.due("disk(29, 63)", g.x().disk(29, 63), 0);
        CHECKS.due("disk(0, 0)", g.x().disk(0, 0), 0);
        g.x().poke(DATA + 1, 55);
        again(g, 0, 31, 64, true);
        due(g, "read one", 0, 65);
        CHECKS.due("byte 0", g.x().peek(DATA), 202);
        CHECKS.due("byte 1", g.x().peek(DATA + 1), 0);
        CHECKS.due("byte 63", g.x().peek(DATA + 63), 203);
        CHECKS.due("byte 64", g.x().peek(DATA + 64), 202);
        CHECKS.due("SIGNALS", g.x().told(0, 3), 2);
    }

    /** HEAD, bytes and RESULT lie across parts in any way, and a part may have no length. */
    private static void partsNeedNotFit() {
        Guest g = Guest.running(CHECKS, 8, false);
        g.diskHead(HEAD, 1, 5);
        g.fill(HEAD + 16, 3, 0x0c0b0a);
        g.x().poke(DATA + 60, 0x0d);
        g.describe(0, 0, HEAD, 5, N, 6);
        g.describe(0, 6, 99999, 0, N, 1);
        g.describe(0, 1, HEAD + 5, 14, N, 2);
        g.describe(0, 2, DATA, 61, N, 3);
        g.describe(0, 3, RESULT - 3, 4, W | N, 4);
        g.describe(0, 4, 99999, 0, W, 0);
        g.offer(0, 0);
        g.x().poke(RESULT, 77);
        due(g, "write across parts", 0, 1);
        CHECKS.due("disk(5, 0)", g.x().disk(5, 0), 0x0a);
        CHECKS.due("disk(5, 2)", g.x().disk(5, 2), 0x0c);
        CHECKS.due("disk(5, 3)", g.x().disk(5, 3), 0);
        CHECKS.due("disk(5, 63)", g.x().disk(5, 63), 0x0d);
        CHECKS.due("disk(6, 0)", g.x().disk(6, 0), 0);
        CHECKS.due("before RESULT nothing is written", g.number(RESULT - 3, 3), 0);
        g.diskHead(HEAD, 0, 5);
        g.describe(0, 3, 3000, 1, W | N, 4);
        g.describe(0, 4, 3100, 64, W, 0);
        g.offer(0, 0);
        CHECKS.due("read across parts", g.x().step(0), 1);
        CHECKS.due("byte 0", g.x().peek(3000), 0x0a);
        CHECKS.due("byte 1", g.x().peek(3100), 0x0b);
        CHECKS.due("byte 63", g.x().peek(3162), 0x0d);
        CHECKS.due("RESULT", g.x().peek(3163), 0);
        CHECKS.due("behind", g.x().peek(3001), 0);
        CHECKS.due("bytes", g.usedBytes(0, 1), 65);
    }

    private static void resultIsTheLastByte() {
        Guest g = Guest.running(CHECKS, 4, false);
        g.diskHead(HEAD, 0, 7);
        g.fill(3000, 8, -1);
        g.describe(0, 0, HEAD, 16, N, 1);
        g.describe(0, 1, 3000, 8, W, 0);
        g.offer(0, 0);
        CHECKS.due("7 bytes are no SECTOR", g.x().step(0), 1);
        CHECKS.due("nothing but RESULT", g.number(3000, 8), 0x01ffffffffffffffL);
        CHECKS.due("bytes", g.usedBytes(0, 0), 1);
    }

    private static void noWholeSectors() {
        for (int bytes : new int[] {1, 63, 65, 127}) {
            Guest g = asked(0, 0, bytes, true);
            g.fill(DATA, 2, 0xffff);
            due(g, "read " + bytes, 1, 1);
            CHECKS.due("nothing of it", g.number(DATA, 1), 0xff);
            Guest h = asked(1, 0, bytes, false);
            h.fill(DATA, 2, 0xffff);
            due(h, "write " + bytes, 1, 1);
            CHECKS.due("nothing of it", h.x().disk(0, 0), 0);
        }
    }

    private static void sectorsThatAreNotThere() {
        for (long sector : new long[] {32, 33, 255, 256, 0x100000000L, -1, -32, Long.MIN_VALUE, Long.MAX_VALUE}) {
            Guest g = asked(0, sector, 64, true);
            g.x().poke(DATA, 5);
            due(g, "read SECTOR " + sector, 1, 1);
            CHECKS.due("nothing of it", g.x().peek(DATA), 5);
            Guest h = asked(1, sector, 64, false);
            h.x().poke(DATA, 5);
            due(h, "write SECTOR " + sector, 1, 1);
            CHECKS.due("nothing of it", h.x().disk(0, 0), 0);
            CHECKS.due("nothing of it", h.x().disk(31, 0), 0);
        }
        Guest g = asked(1, 31, 128, false);
        g.x().poke(DATA, 5);
        due(g, "one of two is there", 1, 1);
        CHECKS.due("nothing of it", g.x().disk(31, 0), 0);
        again(g, 0, 31, 128, true);
        due(g, "one of two is there", 1, 1);
        CHECKS.due("nothing of it", g.x().peek(DATA), 5);
    }

    private static void noByteIsGood() {
        for (long sector : new long[] {0, 31, 32, 1000, -1, Long.MIN_VALUE}) {
            Guest g = asked(0, sector, 0, true);
            due(g, "read no byte of SECTOR " + sector, 0, 1);
            again(g, 1, sector, 0, false);
            due(g, "write no byte of SECTOR " + sector, 0, 1);
        }
    }

    private static void otherKinds() {
        for (long kind : new long[] {2, 3, 5, 6, 7, 9, 256, 0x10000, 0x80000000L, 0xffffffffL, 0x01000001L}) {
            Guest g = asked(kind, 0, 64, true);
            g.x().poke(DATA, 5);
            due(g, "KIND " + kind, 2, 1);
            CHECKS.due("nothing else", g.x().peek(DATA), 5);
        }
        Guest g = asked(4, -1, 64, true);
        g.x().poke(DATA, 5);
        due(g, "KIND 4", 0, 1);
        CHECKS.due("nothing else", g.x().peek(DATA), 5);
        Guest h = asked(8, -1, 64, true);
        h.fill(DATA, 8, -1);
        h.fill(DATA + 16, 8, -1);
        due(h, "KIND 8", 0, 21);
        CHECKS.due("the letters", h.number(DATA, 8), 0x73676e6972L);
        CHECKS.due("0s", h.number(DATA + 8, 8), 0);
        CHECKS.due("up to 20", h.number(DATA + 16, 8), 0xffffffff00000000L);
    }

    private static void nameIsCutShort() {
        Guest g = asked(8, 0, 19, true);
        g.fill(DATA + 18, 2, 0xffff);
        due(g, "KIND 8 with 19 bytes", 0, 20);
        CHECKS.due("the 19th and what is behind", g.number(DATA + 18, 2), 0xff00);
        Guest h = asked(8, 0, 3, true);
        due(h, "KIND 8 with 3 bytes", 0, 4);
        CHECKS.due("the letters", h.number(DATA, 4), 0x6e6972);
        Guest i = asked(8, 0, 0, true);
        due(i, "KIND 8 with no byte", 0, 1);
        CHECKS.due("no letter", i.number(DATA, 2), 0);
    }

    private static void notEvenAHead() {
        Guest g = Guest.running(CHECKS, 4, false);
        g.diskHead(HEAD, 4, 0);
        g.describe(0, 0, HEAD, 15, N, 1);
        g.describe(0, 1, RESULT, 1, W, 0);
        g.x().poke(RESULT, 77);
        g.offer(0, 0);
        due(g, "15 bytes", 77, 0);
        CHECKS.due("it is given back", g.x().told(0, 2), 1);
        CHECKS.due("with a SIGNAL", g.x().told(0, 3), 1);
        Guest h = Guest.running(CHECKS, 4, false);
        h.diskHead(HEAD, 1, 0);
        h.x().poke(HEAD + 16, 5);
        h.describe(0, 0, HEAD, 80, N, 1);
        h.describe(0, 1, RESULT, 0, W, 0);
        h.offer(0, 0);
        due(h, "it may WRITE none", 0, 0);
        CHECKS.due("nothing is done", h.x().disk(0, 0), 0);
        Guest i = Guest.running(CHECKS, 4, false);
        i.describe(0, 0, RESULT, 1, W, 0);
        i.x().poke(RESULT, 77);
        i.offer(0, 0);
        due(i, "it READS none", 77, 0);
    }

    /** RESULT and HEAD may lie on the bytes: HEAD is read first, and RESULT written last. */
    private static void resultGoesOverTheBytes() {
        Guest g = Guest.running(CHECKS, 4, false);
        g.diskHead(HEAD, 8, 0);
        g.describe(0, 0, HEAD, 16, N, 1);
        g.describe(0, 1, HEAD, 20, N | W, 2);
        g.describe(0, 2, HEAD, 1, W, 0);
        g.offer(0, 0);
        CHECKS.due("step", g.x().step(0), 1);
        CHECKS.due("RESULT over the first letter", g.number(HEAD, 8), 0x73676e6900L);
        CHECKS.due("bytes", g.usedBytes(0, 0), 21);
    }

    private static void neighboursStay() {
        Guest g = asked(1, 4, 192, false);
        g.x().poke(DATA + 63, 3);
        g.x().poke(DATA + 64, 4);
        g.x().poke(DATA + 127, 5);
        g.x().poke(DATA + 128, 6);
        due(g, "write three", 0, 1);
        g.x().poke(DATA, 7);
        again(g, 1, 5, 64, false);
        due(g, "write the one between", 0, 1);
        CHECKS.due("the last byte before", g.x().disk(4, 63), 3);
        CHECKS.due("the first byte", g.x().disk(5, 0), 7);
        CHECKS.due("the last byte", g.x().disk(5, 63), 3);
        CHECKS.due("the first byte behind", g.x().disk(6, 0), 6);
        again(g, 0, 4, 64, true);
        g.x().poke(DATA - 1, 8);
        g.x().poke(RESULT - 1, 9);
        g.x().poke(RESULT + 1, 10);
        due(g, "read the one before", 0, 65);
        CHECKS.due("before the bytes", g.x().peek(DATA - 1), 8);
        CHECKS.due("behind the bytes", g.x().peek(DATA + 64), 4);
        CHECKS.due("before RESULT", g.x().peek(RESULT - 1), 9);
        CHECKS.due("behind RESULT", g.x().peek(RESULT + 1), 10);
    }

    private static void wholeDisk() {
        Guest g = asked(1, 0, 2048, false);
        g.x().poke(DATA, 3);
        g.x().poke(DATA + 1951, 4);
        due(g, "write all", 0, 1);
        CHECKS.due("the first", g.x().disk(0, 0), 3);
        CHECKS.due("a late one", g.x().disk(30, 31), 4);
        CHECKS.due("RESULT, as it was", g.x().disk(30, 32), 77);
        again(g, 1, 1, 2048, false);
        due(g, "write all from 1", 1, 1);
        again(g, 0, 0, 2048 - 64, true);
        due(g, "read all but one", 0, 1985);
    }
}
