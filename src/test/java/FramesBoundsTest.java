/** FRAMES that go and FRAMES that come: QUEUES 2 and 1. */
public final class FramesBoundsTest {
    private static final int W = Guest.WRITES;
    private static final int FROM = 2048, NONE = RingDevices.NONE;

    public static void main(String[] args) throws ReflectiveOperationException {
        Sentences.run(FramesBoundsTest.class);
    }

    private static long[] part(long address, long length, int bits) {
        return Guest.part(address, length, bits);
    }

    @Holds(promises = {8, 16}, words = "FRAMES that go: a chain READS 12 bytes, which count for nothing, and the FRAME behind them,")
    static void twelveBytesCountForNothing(Checks c) {
        Guest g = Guest.running(c, 4, false);
        for (int k = 0; k < 16; k++) {
            g.poke(FROM + k, 200 + k);
        }
        g.chain(2, part(FROM, 16, 0));
        g.dueDone("12 and 4", 2);
        for (int k = 0; k < 4; k++) {
            c.due("byte " + k, g.x().wire(0, k), 212 + k);
        }
        c.due("byte 4", g.x().wire(0, 4), NONE);
        g.fill(FROM, 8, 0);
        g.chain(2, part(FROM, 16, 0));
        g.dueDone("other 12, and the same 4", 2);
        for (int k = 0; k < 4; k++) {
            c.due("byte " + k, g.x().wire(0, k), 212 + k);
        }
    }

    @Holds(promises = {8, 16, 19}, words = "of 1 to 80 bytes (others are no FRAME: it is given back, and nothing goes).")
    static void framesThatGoHave1To80Bytes(Checks c) {
        for (int length : new int[] {0, 1, 11, 12, 13, 14, 91, 92, 93, 94, 268, 1000, 2048}) {
            Guest g = Guest.running(c, 4, false);
            g.poke(FROM + 12, 250);
            g.poke(FROM + 91, 251);
            g.chain(2, part(FROM, length, 0));
            boolean frame = length >= 13 && length <= 92;
            String why = length + " bytes";
            g.dueDone(why, 2);
            c.due(why + ": FRAMES that went", g.x().count(1), frame ? 1 : 0);
            c.due(why + ": its first byte", g.x().wire(0, 0), frame ? 250 : NONE);
            c.due(why + ": its last byte", g.x().wire(0, length - 13), !frame ? NONE : length == 13 ? 250 : length == 92 ? 251 : 0);
            c.due(why + ": behind it", g.x().wire(0, length - 12), NONE);
            c.due(why + ": there is no other", g.x().wire(1, 0), NONE);
            c.due(why + ": the USED ring's COUNT", g.usedCount(2), 1);
        }
    }

    @Holds(promises = {8, 16, 19}, words = "of 1 to 80 bytes (others are no FRAME: it is given back, and nothing goes).")
    static void whatIsNoFrameLeavesTheWireAsItWas(Checks c) {
        Guest g = Guest.running(c, 4, false);
        g.poke(FROM + 12, 66);
        g.chain(2, part(FROM, 13, 0));
        g.dueDone("a FRAME", 2);
        for (int length : new int[] {0, 12, 93}) {
            g.chain(2, part(FROM, length, 0));
            g.dueDone(length + " bytes", 2);
            c.due("FRAMES that went", g.x().count(1), 1);
            c.due("the latest", g.x().wire(0, 0), 66);
            c.due("the one before", g.x().wire(1, 0), NONE);
        }
    }

    @Holds(promises = 8, words = "Given back with 0.")
    static void framesThatGoAreGivenBackWith0(Checks c) {
        for (int length : new int[] {0, 12, 13, 92, 93}) {
            Guest g = Guest.running(c, 4, false);
            g.fill(g.usedAt(2) + 4, 8, -1);
            g.fill(3000, 2, 0x9999);
            g.chain(2, part(FROM, length, 0), part(3000, 64, W));
            g.dueDone(length + " bytes", 2);
            c.due("head", g.usedHead(2, 0), 0);
            c.due("with 0", g.usedBytes(2, 0), 0);
            c.due("what it may WRITE", g.number(3000, 2), 0x9999);
        }
    }

    @Holds(promises = 16, words = "THE WIRE keeps the latest 16.")
    static void theWireKeepsTheLatest16(Checks c) {
        RingDevices x = new RingDevices();
        x.start(false);
        for (int f = 1; f <= 35; f++) {
            x.send(f, f);
            c.due("step", x.step(2), 1);
            x.collect(2);
            c.due(f + " went", x.count(1), f);
            c.due(f + ": the latest", x.wire(0, f - 1), f - 1 + ((f - 1) % 8 == 0 ? f : 0));
            c.due(f + ": its length", x.wire(0, f), NONE);
            int oldest = Math.min(f, 16) - 1;
            c.due(f + ": the oldest that is kept", x.wire(oldest, 0), f - oldest);
            c.due(f + ": one before it", x.wire(oldest + 1, 0), NONE);
        }
        for (int i = 0; i < 16; i++) {
            c.due("wire(" + i + ", 0)", x.wire(i, 0), 35 - i);
            c.due("its last byte is there", x.wire(i, 34 - i), 34 - i + ((34 - i) % 8 == 0 ? 35 - i : 0));
            c.due("and none behind", x.wire(i, 35 - i), NONE);
        }
    }

    @Holds(promises = 16, words = "THE WIRE keeps the latest 16.")
    static void sixteenOfFullLengthAreKept(Checks c) {
        for (int sent : new int[] {16, 17, 31, 32, 33}) {
            RingDevices x = new RingDevices();
            x.start(true);
            for (int f = 1; f <= sent; f++) {
                x.send(80, 0x0101010101010101L * f);
                c.due("step", x.step(2), 1);
                x.collect(2);
            }
            for (int i = 0; i < 16; i++) {
                c.due(sent + " went: the first byte of FRAME " + i, x.wire(i, 0), sent - i);
                c.due(sent + " went: the last byte of FRAME " + i, x.wire(i, 79), sent - i + 79);
                c.due(sent + " went: behind FRAME " + i, x.wire(i, 80), NONE);
            }
            c.due("the 17th", x.wire(16, 0), NONE);
        }
    }

    @Holds(promises = {9, 19}, words = "FRAMES that come: if QUEUE 1 has nothing the FRAME is dropped;")
    static void droppedIfThereIsNothing(Checks c) {
        RingDevices x = new RingDevices();
        x.run();
        c.due("QUEUE 1 is not told", x.arrive(1, 5), 0);
        c.due("dropped", x.count(3), 1);
        x.reset(false);
        x.queue(1, 4, 0, 256, 300);
        x.queue(0, 4, 512, 768, 812);
        x.run();
        x.poke(768 + 2, 1);
        c.due("nothing is offered but in another QUEUE", x.arrive(80, 5), 0);
        c.due("dropped", x.count(3), 2);
        c.due("TAKEN", x.told(1, 1), 0);
        c.due("GIVEN", x.told(1, 2), 0);
        c.due("SIGNALS", x.told(1, 3), 0);
        c.due("it RUNS", x.count(0), 1);
        x.start(false);
        c.due("nothing is posted", x.arrive(1, 5), 0);
        x.post();
        c.due("one is posted", x.arrive(1, 5), 1);
        c.due("nothing more is posted", x.arrive(1, 5), 0);
        c.due("dropped", x.count(3), 4);
        c.due("came", x.count(2), 1);
    }

    @Holds(promises = {9, 19}, words = "else a chain is TAKEN (a chain that READS something,")
    static void droppedIfTheChainReads(Checks c) {
        for (int reads : new int[] {0, 1, 92}) {
            Guest g = Guest.running(c, 4, false);
            g.poke(3000, 77);
            g.chain(1, part(FROM, reads, 0), part(3000, 92, W));
            c.due("it READS " + reads, g.x().arrive(5, 0x11), reads == 0 ? 1 : 0);
            c.due("TAKEN", g.x().told(1, 1), 1);
            c.due("GIVEN", g.x().told(1, 2), 1);
            c.due("SIGNALS", g.x().told(1, 3), 1);
            c.due("with", g.usedBytes(1, 0), reads == 0 ? 17 : 0);
            c.due("came", g.x().count(2), reads == 0 ? 1 : 0);
            c.due("dropped", g.x().count(3), reads == 0 ? 0 : 1);
            c.due("the first byte", g.x().peek(3000), reads == 0 ? 0 : 77);
        }
        Guest h = Guest.running(c, 4, false);
        h.chain(1, part(FROM, 92, 0));
        c.due("it READS, and may WRITE none", h.x().arrive(1, 0x11), 0);
    }

    @Holds(promises = {9, 19}, words = "or may WRITE less than 12 and the FRAME, is given back with 0, and the FRAME is dropped),")
    static void droppedIfThereIsTooLittleRoom(Checks c) {
        for (int n : new int[] {1, 2, 40, 79, 80}) {
            for (int room : new int[] {0, 1, 11, 12, 11 + n, 12 + n, 13 + n, 200}) {
                Guest g = Guest.running(c, 4, false);
                g.fill(FROM, 1, 77);
                g.fill(g.usedAt(1) + 4, 8, -1);
                g.chain(1, part(FROM, room, W));
                boolean fits = room >= 12 + n;
                String why = n + " bytes, room for " + room;
                c.due(why, g.x().arrive(n, -1), fits ? 1 : 0);
                c.due(why + ": TAKEN", g.x().told(1, 1), 1);
                c.due(why + ": GIVEN", g.x().told(1, 2), 1);
                c.due(why + ": SIGNALS", g.x().told(1, 3), 1);
                c.due(why + ": head", g.usedHead(1, 0), 0);
                c.due(why + ": with", g.usedBytes(1, 0), fits ? 12 + n : 0);
                c.due(why + ": came", g.x().count(2), fits ? 1 : 0);
                c.due(why + ": dropped", g.x().count(3), fits ? 0 : 1);
                c.due(why + ": the first byte", g.x().peek(FROM), fits ? 0 : 77);
                c.due(why + ": it RUNS", g.x().count(0), 1);
            }
        }
    }

    @Holds(promises = {9, 19}, words = "or may WRITE less than 12 and the FRAME, is given back with 0, and the FRAME is dropped),")
    static void roomIsThatOfAllParts(Checks c) {
        for (int last : new int[] {4, 5}) {
            Guest g = Guest.running(c, 4, false);
            g.chain(1, part(FROM, 7, W), part(FROM + 7, 10, W), part(FROM + 17, last, W));
            c.due("17 and " + last + " for 12 and 10", g.x().arrive(10, 0), last == 5 ? 1 : 0);
            c.due("the last byte", g.x().peek(FROM + 21), last == 5 ? 9 : 0);
        }
    }

    @Holds(promises = 9, words = "12 bytes 0 are WRITTEN, and the FRAME behind.")
    static void twelveBytes0AndTheFrame(Checks c) {
        for (int n : new int[] {1, 7, 8, 9, 80}) {
            Guest g = Guest.running(c, 4, false);
            for (int k = 0; k < 96; k++) {
                g.poke(FROM + k, 0xee);
            }
            g.chain(1, part(FROM, 96, W));
            c.due("arrive", g.x().arrive(n, 0x8877665544332211L), 1);
            for (int k = 0; k < 96; k++) {
                int want = k < 12 ? 0 : k < 12 + n ? 0x11 * ((k - 12) % 8 + 1) + k - 12 : 0xee;
                c.due(n + " bytes: byte " + k, g.x().peek(FROM + k), want % 256);
            }
        }
    }

    @Holds(promises = {9, 15}, words = "Given back with all bytes WRITTEN.")
    static void framesThatComeAreGivenBackWithAllBytes(Checks c) {
        for (int n = 1; n <= 80; n++) {
            RingDevices x = new RingDevices();
            x.start(n % 2 == 0);
            x.post();
            c.due("arrive", x.arrive(n, 1), 1);
            c.due(n + " bytes: w", x.peek(408 + 8), 12 + n);
            c.due("collect", x.collect(1), 0);
            c.due(n + " bytes: written", x.written(1), 12 + n);
        }
    }
}
