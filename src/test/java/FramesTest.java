/** Promises 8, 9 and 16: FRAMES that go and that come, and THE WIRE. */
public final class FramesTest {
    private static final Checks CHECKS = new Checks("FramesTest");
    private static final int N = Guest.NEXT, W = Guest.WRITES;
    private static final int FROM = 2048;

    public static void main(String[] args) {
        lengthsThatGo();
        partsThatGo();
        theLatestSixteen();
        wireWrong();
        arriveWrong();
        arriveInto();
        arriveAcrossParts();
        arriveIsDropped();
        arriveBreaks();
        CHECKS.end();
    }

    private static void lengthsThatGo() {
        for (int length : new int[] {0, 1, 11, 12, 13, 14, 91, 92, 93, 200, 2000}) {
            Guest g = Guest.running(CHECKS, 4, false);
            g.x().poke(FROM + 12, 250);
            g.x().poke(FROM + 91, 251);
            g.describe(2, 0, FROM, length, 0, 0);
            g.offer(2, 0);
            boolean frame = length >= 13 && length <= 92;
            CHECKS.due("step", g.x().step(2), 1);
            CHECKS.due(length + " bytes: count(1)", g.x().count(1), frame ? 1 : 0);
            CHECKS.due(length + " bytes: wire(0, 0)", g.x().wire(0, 0), frame ? 250 : RingDevices.NONE);
            CHECKS.due("the last byte", g.x().wire(0, length - 13), !frame ? RingDevices.NONE : length == 13 ? 250 : length == 92 ? 251 : 0);
            CHECKS.due("behind it", g.x().wire(0, length - 12), RingDevices.NONE);
            CHECKS.due("wire(1, 0)", g.x().wire(1, 0), RingDevices.NONE);
            CHECKS.due("given back", g.usedCount(2), 1);
            CHECKS.due("with 0", g.usedBytes(2, 0), 0);
            CHECKS.due("SIGNALS", g.x().told(2, 3), 1);
        }
    }

    private static void partsThatGo() {
        Guest g = Guest.running(CHECKS, 4, false);
        g.fill(FROM, 8, 0x0807060504030201L);
        g.describe(2, 3, FROM, 5, N, 1);
        g.describe(2, 1, FROM, 8, N, 2);
        g.describe(2, 2, FROM + 6, 2, N, 0);
        g.describe(2, 0, 3000, 50, W, 0);
        g.offer(2, 3);
        CHECKS.due("step", g.x().step(2), 1);
        CHECKS.due("byte 0", g.x().wire(0, 0), 8);
        CHECKS.due("byte 1", g.x().wire(0, 1), 7);
        CHECKS.due("byte 2", g.x().wire(0, 2), 8);
        CHECKS.due("byte 3", g.x().wire(0, 3), RingDevices.NONE);
        CHECKS.due("head", g.usedHead(2, 0), 3);
        CHECKS.due("nothing is written", g.x().peek(3000), 0);
    }

    private static void theLatestSixteen() {
        RingDevices x = new RingDevices();
        x.start(true);
        for (int f = 1; f <= 20; f++) {
            x.send(f, f);
            CHECKS.due("step", x.step(2), 1);
            x.collect(2);
            CHECKS.due("count(1)", x.count(1), f);
            CHECKS.due("the latest", x.wire(0, 0), f);
            CHECKS.due("its length", x.wire(0, f), RingDevices.NONE);
            CHECKS.due("the first, as long as it is kept", x.wire(f - 1, 0), f <= 16 ? 1 : RingDevices.NONE);
        }
        for (int i = 0; i < 16; i++) {
            CHECKS.due("wire(" + i + ")", x.wire(i, 0), 20 - i);
            int last = 19 - i;
            CHECKS.due("its last byte", x.wire(i, last), (last % 8 == 0 ? 20 - i : 0) + last);
            CHECKS.due("behind it", x.wire(i, 20 - i), RingDevices.NONE);
        }
        CHECKS.due("wire(16)", x.wire(16, 0), RingDevices.NONE);
    }

    private static void wireWrong() {
        RingDevices x = new RingDevices();
        x.start(false);
        x.send(80, 0);
        x.step(2);
        CHECKS.due("wire(0, 79)", x.wire(0, 79), 79);
        for (int wrong : new int[] {-1, 80, 16, Integer.MIN_VALUE, Integer.MAX_VALUE}) {
            CHECKS.due("wire(" + wrong + ", 0)", x.wire(wrong, 0), RingDevices.NONE);
            CHECKS.due("wire(0, " + wrong + ")", x.wire(0, wrong), wrong == 16 ? 16 : RingDevices.NONE);
        }
    }

    private static void arriveWrong() {
        RingDevices off = new RingDevices();
        RingDevices x = new RingDevices();
        x.start(false);
        x.post();
        for (int n : new int[] {0, -1, 81, Integer.MIN_VALUE, Integer.MAX_VALUE}) {
            CHECKS.due("arrive(" + n + ")", x.arrive(n, 1), RingDevices.BAD);
            CHECKS.due("BAD goes before OFF", off.arrive(n, 1), RingDevices.BAD);
        }
        CHECKS.due("nothing was taken", x.told(1, 1), 0);
        CHECKS.due("nothing was dropped", x.count(3), 0);
        CHECKS.due("OFF", off.arrive(80, 1), RingDevices.OFF);
    }

    private static void arriveInto() {
        for (int n : new int[] {1, 8, 9, 79, 80}) {
            RingDevices x = new RingDevices();
            x.start(false);
            CHECKS.due("post", x.post(), 0);
            for (int k = 0; k < 96; k++) {
                x.poke(3072 + k, 0xee);
            }
            CHECKS.due("arrive", x.arrive(n, 0xf0e0d0c0b0a09080L), 1);
            CHECKS.due("came", x.count(2), 1);
            CHECKS.due("dropped", x.count(3), 0);
            for (int k = 0; k < 96; k++) {
                int want = k < 12 ? 0 : k < 12 + n ? (0x80 + 0x10 * ((k - 12) % 8) + k - 12) % 256 : 0xee;
                CHECKS.due(n + " bytes: byte " + k, x.peek(3072 + k), want);
            }
            CHECKS.due("collect", x.collect(1), 0);
            CHECKS.due("written", x.written(1), 12 + n);
            CHECKS.due("nothing more is posted", x.arrive(n, 0), 0);
            CHECKS.due("dropped", x.count(3), 1);
        }
    }

    private static void arriveAcrossParts() {
        Guest g = Guest.running(CHECKS, 4, false);
        g.fill(FROM, 8, -1);
        g.fill(FROM + 8, 8, -1);
        g.describe(1, 2, 77777, 0, N, 3);
        g.describe(1, 3, FROM + 10, 4, N | W, 0);
        g.describe(1, 0, FROM, 9, W, 0);
        g.offer(1, 2);
        CHECKS.due("a part without length READS nothing", g.x().arrive(1, 0x55), 1);
        CHECKS.due("bytes", g.number(FROM, 8), 0);
        CHECKS.due("bytes", g.number(FROM + 8, 8), 0xffff_0000_0000_ff55L);
        CHECKS.due("head", g.usedHead(1, 0), 2);
        CHECKS.due("written", g.usedBytes(1, 0), 13);
        CHECKS.due("SIGNALS", g.x().told(1, 3), 1);
    }

    private static void arriveIsDropped() {
        Guest g = Guest.running(CHECKS, 4, false);
        CHECKS.due("nothing is offered", g.x().arrive(1, 0), 0);
        CHECKS.due("dropped", g.x().count(3), 1);
        CHECKS.due("no SIGNAL", g.x().told(1, 3), 0);
        g.describe(1, 0, FROM, 1, N, 1);
        g.describe(1, 1, FROM + 1, 92, W, 0);
        g.describe(1, 2, FROM, 21, W, 0);
        g.fill(FROM, 1, 7);
        g.offer(1, 0);
        CHECKS.due("it READS something", g.x().arrive(1, 0), 0);
        CHECKS.due("dropped", g.x().count(3), 2);
        CHECKS.due("TAKEN", g.x().told(1, 1), 1);
        CHECKS.due("GIVEN", g.x().told(1, 2), 1);
        CHECKS.due("SIGNALS", g.x().told(1, 3), 1);
        CHECKS.due("with 0", g.usedBytes(1, 0), 0);
        g.offer(1, 2);
        CHECKS.due("one byte too few", g.x().arrive(10, -1), 0);
        CHECKS.due("nothing is written", g.x().peek(FROM), 7);
        CHECKS.due("head", g.usedHead(1, 1), 2);
        CHECKS.due("with 0", g.usedBytes(1, 1), 0);
        g.offer(1, 2);
        CHECKS.due("just enough", g.x().arrive(9, -1), 1);
        CHECKS.due("with all", g.usedBytes(1, 2), 21);
        CHECKS.due("12 bytes 0", g.x().peek(FROM), 0);
        CHECKS.due("the last byte", g.x().peek(FROM + 20), 255 + 8 - 256);
        CHECKS.due("came", g.x().count(2), 1);
        CHECKS.due("dropped", g.x().count(3), 3);
        CHECKS.due("went", g.x().count(1), 0);
    }

    private static void arriveBreaks() {
        Guest g = Guest.running(CHECKS, 4, false);
        g.describe(1, 0, FROM, 92, W | N, 1);
        g.describe(1, 1, FROM, 1, 0, 0);
        g.offer(1, 0);
        g.dueBroken("READS behind WRITES", 1);
        CHECKS.due("no FRAME is dropped", g.x().count(3), 0);
        CHECKS.due("it stays", g.x().arrive(1, 0), RingDevices.BROKEN);
        CHECKS.due("no FRAME is dropped", g.x().count(3), 0);
        CHECKS.due("nor did one come", g.x().count(2), 0);
        Guest h = Guest.running(CHECKS, 4, false);
        h.fill(512 + 256 + 2, 2, 5);
        h.dueBroken("COUNT is too far", 1);
    }
}
