/** Promises 1 to 5: a new object, start, reset, queue, run. */
public final class SetUpTest {
    private static final Checks CHECKS = new Checks("SetUpTest");

    public static void main(String[] args) {
        newObject();
        allBytesAreZeroAtFirst();
        start();
        startStartsAnew();
        startKeepsDiskAndWire();
        reset();
        resetOfARunningDriver();
        queueOrdinary();
        queueWrong();
        queuePlacesAtTheEdge();
        run();
        CHECKS.end();
    }

    private static void newObject() {
        RingDevices x = new RingDevices();
        CHECKS.due("new: count(0)", x.count(0), 0);
        for (int what = 1; what <= 4; what++) {
            CHECKS.due("new: count(" + what + ")", x.count(what), 0);
        }
        for (int q = 0; q < 3; q++) {
            for (int what = 0; what <= 6; what++) {
                CHECKS.due("new: told(" + q + ", " + what + ")", x.told(q, what), 0);
            }
            CHECKS.due("new: collect", x.collect(q), RingDevices.OFF);
            CHECKS.due("new: written", x.written(q), RingDevices.NONE);
        }
        CHECKS.due("new: step(0)", x.step(0), RingDevices.OFF);
        CHECKS.due("new: step(2)", x.step(2), RingDevices.OFF);
        CHECKS.due("new: arrive", x.arrive(1, 1), RingDevices.OFF);
        CHECKS.due("new: read", x.read(0), RingDevices.OFF);
        CHECKS.due("new: write", x.write(31, 0), RingDevices.OFF);
        CHECKS.due("new: send", x.send(80, 0), RingDevices.OFF);
        CHECKS.due("new: post", x.post(), RingDevices.OFF);
        CHECKS.due("new: wire", x.wire(0, 0), RingDevices.NONE);
    }

    private static void allBytesAreZeroAtFirst() {
        for (int from = 0; from < 4096; from += 512) {
            RingDevices x = new RingDevices();
            for (int a = from; a < from + 512; a++) {
                CHECKS.due("new: peek(" + a + ")", x.peek(a), 0);
            }
        }
        for (int from = 0; from < 32; from += 8) {
            RingDevices x = new RingDevices();
            for (int k = 0; k < 512; k++) {
                CHECKS.due("new: disk", x.disk(from + k / 64, k % 64), 0);
            }
        }
    }

    private static void start() {
        for (int t = 0; t < 2; t++) {
            RingDevices x = new RingDevices();
            CHECKS.due("start", x.start(t == 1), 0);
            CHECKS.due("start: count(0)", x.count(0), 1);
            CHECKS.due("start: count(4)", x.count(4), t);
            for (int q = 0; q < 3; q++) {
                int[] want = {1, 0, 0, 0, 8, 8, 0};
                for (int what = 0; what <= 6; what++) {
                    CHECKS.due("start: told(" + q + ", " + what + ")", x.told(q, what), want[what]);
                }
                CHECKS.due("start: collect", x.collect(q), RingDevices.NONE);
                CHECKS.due("start: written", x.written(q), RingDevices.NONE);
            }
            CHECKS.due("start: step(0)", x.step(0), 0);
            CHECKS.due("start: step(2)", x.step(2), 0);
            CHECKS.due("start: queue", x.queue(0, 8, 0, 128, 152), RingDevices.BAD);
            CHECKS.due("start: run", x.run(), RingDevices.BAD);
        }
    }

    private static void startStartsAnew() {
        RingDevices x = new RingDevices();
        x.start(false);
        x.poke(4095, 7);
        CHECKS.due("read", x.read(1), 0);
        CHECKS.due("read", x.read(2), 3);
        CHECKS.due("step", x.step(0), 1);
        CHECKS.due("collect", x.collect(0), 0);
        CHECKS.due("written", x.written(0), 65);
        x.poke(134, 8);
        CHECKS.due("a head of 8", x.step(0), RingDevices.BROKEN);
        CHECKS.due("start anew", x.start(true), 0);
        CHECKS.due("it runs", x.count(0), 1);
        CHECKS.due("tables", x.count(4), 1);
        CHECKS.due("MEMORY is 0", x.peek(4095), 0);
        CHECKS.due("the ring is 0", x.peek(134), 0);
        CHECKS.due("COUNT is 0", x.peek(130), 0);
        CHECKS.due("TAKEN", x.told(0, 1), 0);
        CHECKS.due("GIVEN", x.told(0, 2), 0);
        CHECKS.due("SIGNALS", x.told(0, 3), 0);
        CHECKS.due("FREE", x.told(0, 5), 8);
        CHECKS.due("SAW", x.told(0, 6), 0);
        CHECKS.due("written", x.written(0), RingDevices.NONE);
        CHECKS.due("collect", x.collect(0), RingDevices.NONE);
        x.poke(154, 1);
        x.poke(156, 3);
        CHECKS.due("what was lent before START", x.collect(0), RingDevices.STRANGE);
        x.start(true);
        CHECKS.due("the least is lent first", x.read(0), 0);
        CHECKS.due("the AVAILABLE ring's COUNT", x.peek(130), 1);
        CHECKS.due("step", x.step(0), 1);
        CHECKS.due("collect", x.collect(0), 0);
    }

    private static void startKeepsDiskAndWire() {
        RingDevices x = new RingDevices();
        x.start(false);
        x.write(31, 0x0807060504030201L);
        x.step(0);
        x.send(2, 0x4241);
        x.step(2);
        x.arrive(1, 1);
        x.post();
        x.arrive(1, 1);
        for (int t = 0; t < 2; t++) {
            CHECKS.due("start or reset", t == 0 ? x.start(false) : x.reset(false), 0);
            CHECKS.due("disk(31, 0)", x.disk(31, 0), 1);
            CHECKS.due("disk(31, 63)", x.disk(31, 63), 8 + 63);
            CHECKS.due("wire(0, 0)", x.wire(0, 0), 0x41);
            CHECKS.due("wire(0, 1)", x.wire(0, 1), 0x43);
            CHECKS.due("count(1)", x.count(1), 1);
            CHECKS.due("count(2)", x.count(2), 1);
            CHECKS.due("count(3)", x.count(3), 1);
        }
    }

    private static void reset() {
        RingDevices x = new RingDevices();
        CHECKS.due("reset(true)", x.reset(true), 0);
        CHECKS.due("tables", x.count(4), 1);
        CHECKS.due("queue", x.queue(2, 4, 0, 64, 128), 0);
        CHECKS.due("run", x.run(), 0);
        x.poke(100, 9);
        CHECKS.due("reset(false)", x.reset(false), 0);
        CHECKS.due("tables", x.count(4), 0);
        CHECKS.due("OFF", x.count(0), 0);
        CHECKS.due("not told", x.told(2, 0), 0);
        CHECKS.due("SIZE", x.told(2, 4), 0);
        CHECKS.due("MEMORY stays", x.peek(100), 9);
        CHECKS.due("step", x.step(2), RingDevices.OFF);
        CHECKS.due("queue anew", x.queue(2, 8, 16, 256, 512), 0);
        CHECKS.due("SIZE anew", x.told(2, 4), 8);
    }

    private static void resetOfARunningDriver() {
        RingDevices x = new RingDevices();
        x.start(false);
        x.read(0);
        x.step(0);
        x.collect(0);
        x.read(5);
        x.poke(134, 99);
        CHECKS.due("BROKEN", x.step(0), RingDevices.BROKEN);
        CHECKS.due("SIGNALS", x.told(0, 3), 1);
        CHECKS.due("reset", x.reset(false), 0);
        CHECKS.due("OFF", x.count(0), 0);
        CHECKS.due("TAKEN", x.told(0, 1), 0);
        CHECKS.due("GIVEN", x.told(0, 2), 0);
        CHECKS.due("SIGNALS", x.told(0, 3), 0);
        CHECKS.due("FREE", x.told(0, 5), 0);
        CHECKS.due("MEMORY stays", x.peek(130), 2);
        CHECKS.due("read", x.read(0), RingDevices.OFF);
        CHECKS.due("write", x.write(0, 0), RingDevices.OFF);
        CHECKS.due("send", x.send(1, 0), RingDevices.OFF);
        CHECKS.due("post", x.post(), RingDevices.OFF);
        CHECKS.due("collect", x.collect(0), RingDevices.OFF);
        CHECKS.due("arrive", x.arrive(1, 0), RingDevices.OFF);
        CHECKS.due("run", x.run(), 0);
        CHECKS.due("no DRIVER has STARTED", x.post(), RingDevices.OFF);
        CHECKS.due("no QUEUE is told", x.step(0), 0);
        CHECKS.due("no QUEUE is told", x.step(2), 0);
        CHECKS.due("no QUEUE is told", x.arrive(1, 0), 0);
        CHECKS.due("it was dropped", x.count(3), 1);
    }

    private static void queueOrdinary() {
        int[] sizes = {1, 2, 4, 8, 16};
        for (int size : sizes) {
            RingDevices x = new RingDevices();
            for (int q = 2; q >= 0; q--) {
                CHECKS.due("queue(" + q + ", " + size + ")", x.queue(q, size, 16, 2, 4), 0);
                CHECKS.due("told", x.told(q, 0), 1);
                CHECKS.due("SIZE", x.told(q, 4), size);
                CHECKS.due("a second time", x.queue(q, size, 16, 2, 4), RingDevices.BAD);
            }
        }
    }

    private static void queueWrong() {
        RingDevices x = new RingDevices();
        for (int q : new int[] {-1, 3, Integer.MIN_VALUE, Integer.MAX_VALUE}) {
            CHECKS.due("queue(" + q + ")", x.queue(q, 8, 0, 128, 152), RingDevices.BAD);
        }
        for (int size : new int[] {-1, 0, 3, 5, 6, 7, 9, 12, 15, 17, 32, 64, Integer.MIN_VALUE, Integer.MAX_VALUE}) {
            CHECKS.due("SIZE " + size, x.queue(0, size, 0, 128, 152), RingDevices.BAD);
        }
        for (int off : new int[] {1, 2, 4, 8, 15, 17, -16, Integer.MIN_VALUE, Integer.MAX_VALUE}) {
            CHECKS.due("DESCRIPTORS at " + off, x.queue(0, 8, off, 128, 152), RingDevices.BAD);
        }
        for (int off : new int[] {1, 3, 129, -2, Integer.MIN_VALUE, Integer.MAX_VALUE}) {
            CHECKS.due("AVAILABLE at " + off, x.queue(0, 8, 0, off, 152), RingDevices.BAD);
        }
        for (int off : new int[] {1, 2, 3, 153, 154, -4, Integer.MIN_VALUE, Integer.MAX_VALUE}) {
            CHECKS.due("USED at " + off, x.queue(0, 8, 0, 128, off), RingDevices.BAD);
        }
        CHECKS.due("nothing is told", x.told(0, 0), 0);
        CHECKS.due("rings may overlap", x.queue(0, 16, 0, 0, 0), 0);
        CHECKS.due("run", x.run(), 0);
        CHECKS.due("not OFF", x.queue(1, 8, 0, 128, 152), RingDevices.BAD);
        CHECKS.due("not told", x.told(1, 0), 0);
    }

    private static void queuePlacesAtTheEdge() {
        for (int size : new int[] {1, 2, 4, 8, 16}) {
            int descriptors = 4096 - 16 * size;
            int available = 4096 - 4 - 2 * size;
            int used = 4096 - 4 - 8 * size;
            RingDevices x = new RingDevices();
            CHECKS.due("DESCRIPTORS behind", x.queue(0, size, descriptors + 16, 0, 0), RingDevices.BAD);
            CHECKS.due("AVAILABLE behind", x.queue(0, size, 0, available + 2, 0), RingDevices.BAD);
            CHECKS.due("USED behind", x.queue(0, size, 0, 0, used + 4), RingDevices.BAD);
            CHECKS.due("the last places", x.queue(0, size, descriptors, available, used), 0);
        }
    }

    private static void run() {
        RingDevices x = new RingDevices();
        CHECKS.due("run", x.run(), 0);
        CHECKS.due("RUNS", x.count(0), 1);
        CHECKS.due("run twice", x.run(), RingDevices.BAD);
        CHECKS.due("step without a QUEUE", x.step(0), 0);
        CHECKS.due("no DRIVER", x.read(0), RingDevices.OFF);
        Guest g = Guest.running(CHECKS, 1, false);
        g.offer(0, 1);
        g.dueBroken("a head of 1", 0);
        CHECKS.due("run when BROKEN", g.x().run(), RingDevices.BAD);
        CHECKS.due("still BROKEN", g.x().count(0), 2);
        CHECKS.due("queue when BROKEN", g.x().queue(0, 1, 0, 0, 0), RingDevices.BAD);
    }
}
