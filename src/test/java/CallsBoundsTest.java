/** Promises 1 to 19, sentence by sentence: what each call answers, what it refuses, and that it does nothing then. */
public final class CallsBoundsTest {
    private static final int W = Guest.WRITES;
    private static final int NONE = RingDevices.NONE, BAD = RingDevices.BAD, STRANGE = RingDevices.STRANGE;
    private static final int OFF = RingDevices.OFF, BROKEN = RingDevices.BROKEN;
    private static final int LEAST = Integer.MIN_VALUE, MOST = Integer.MAX_VALUE;

    public static void main(String[] args) throws ReflectiveOperationException {
        Sentences.run(CallsBoundsTest.class);
    }

    private static long[] part(long address, long length, int bits) {
        return Guest.part(address, length, bits);
    }

    private static final int WRONG_CALLS = 22;

    /** Calls with arguments that are wrong, by number: of every call that may be BAD for its arguments. */
    private static int wrongCall(RingDevices x, int number) {
        switch (number) {
            case 0: return x.queue(3, 8, 0, 128, 152);
            case 1: return x.queue(0, 3, 0, 128, 152);
            case 2: return x.queue(0, 8, 8, 128, 152);
            case 3: return x.poke(4096, 1);
            case 4: return x.poke(0, 256);
            case 5: return x.peek(-1);
            case 6: return x.step(1);
            case 7: return x.step(3);
            case 8: return x.arrive(0, 1);
            case 9: return x.arrive(81, 1);
            case 10: return x.read(-1);
            case 11: return x.read(32);
            case 12: return x.write(32, 1);
            case 13: return x.send(0, 1);
            case 14: return x.send(81, 1);
            case 15: return x.collect(3);
            case 16: return x.written(-1);
            case 17: return x.disk(32, 0);
            case 18: return x.disk(0, 64);
            case 19: return x.told(3, 0);
            case 20: return x.told(0, 7);
            case 21: return x.count(5);
            default: return 0;
        }
    }

    /** A guest in one of five states: new, a guest's device that RUNS, STARTED, BROKEN, STARTED with nothing FREE. */
    private static Guest inState(Checks c, int state) {
        Guest g = new Guest(c);
        switch (state) {
            case 1: g.layAll(8, true); break;
            case 2: g.x().start(false); g.x().read(1); g.x().step(0); g.x().collect(0); g.x().post(); g.x().send(5, 5); break;
            case 3: g.x().start(true); g.x().post(); g.count(0, 9); g.x().step(0); break;
            case 4: g.x().start(true); lendAll(g); break;
            default:
        }
        return g;
    }

    private static void lendAll(Guest g) {
        for (int k = 0; k < 8; k++) {
            g.x().read(0);
            g.x().post();
            g.x().send(1, 1);
        }
    }

    @Holds(promises = {4, 6, 7, 8, 9, 10, 11, 12, 14, 15, 17, 18, 19}, words = "BAD goes first; nothing is done then.")
    static void badGoesFirst(Checks c) {
        for (int state = 0; state < 5; state++) {
            Guest g = inState(c, state);
            String before = g.state();
            int[] places = {0, 130, 132, 154, 156, 386, 410, 642, 666, 1024, 2304, 3072, 4095};
            long[] bytes = new long[places.length];
            for (int k = 0; k < places.length; k++) {
                bytes[k] = g.x().peek(places[k]);
            }
            for (int call = 0; call < WRONG_CALLS; call++) {
                c.due("state " + state + ", wrong call " + call, wrongCall(g.x(), call), BAD);
            }
            c.same("state " + state + ": all that is told", g.state(), before);
            for (int k = 0; k < places.length; k++) {
                c.due("state " + state + ": peek(" + places[k] + ")", g.x().peek(places[k]), bytes[k]);
            }
        }
    }

    @Holds(promises = 1, words = "The device is OFF, all MEMORY and the DISK 0; the DRIVER has not STARTED.")
    static void aNewObject(Checks c) {
        Guest g = new Guest(c);
        c.same("all that is told", g.state(), "0 0 0 0 0 0 0 written -1; 0 0 0 0 0 0 0 written -1; 0 0 0 0 0 0 0 written -1; 0 0 0 0 0 ");
        c.due("read", g.x().read(0), OFF);
        c.due("write", g.x().write(0, 1), OFF);
        c.due("send", g.x().send(1, 1), OFF);
        c.due("post", g.x().post(), OFF);
        for (int q = 0; q < 3; q++) {
            c.due("collect", g.x().collect(q), OFF);
            c.due("the device", g.go(q), OFF);
        }
        c.due("MEMORY's first byte", g.x().peek(0), 0);
        c.due("MEMORY's last byte", g.x().peek(4095), 0);
        c.due("the DISK's first byte", g.x().disk(0, 0), 0);
        c.due("the DISK's last byte", g.x().disk(31, 63), 0);
        c.due("THE WIRE", g.x().wire(0, 0), NONE);
        c.due("a QUEUE may be told", g.x().queue(0, 8, 0, 128, 152), 0);
        c.due("the device may run", g.x().run(), 0);
        c.due("then no DRIVER has STARTED", g.x().read(0), OFF);
    }

    @Holds(promises = 2, words = "START (whatever was; the DISK and THE WIRE stay),")
    static void startWhateverWas(Checks c) {
        for (int state = 0; state < 5; state++) {
            Guest g = inState(c, state);
            int went = g.x().count(1);
            int came = g.x().count(2);
            int dropped = g.x().count(3);
            c.due("start", g.x().start(false), 0);
            String queue = "1 0 0 0 8 8 0 written -1; ";
            c.same("state " + state, g.state(), queue + queue + queue + "1 " + went + " " + came + " " + dropped + " 0 ");
            for (int a : new int[] {0, 130, 154, 386, 642, 1024, 2304, 2316}) {
                c.due("state " + state + ": peek(" + a + ")", g.x().peek(a), 0);
            }
            for (int q = 0; q < 3; q++) {
                c.due("COUNT", g.x().poke(256 * q + 154, 8), 0);
                for (int head = 0; head < 8; head++) {
                    c.due("head " + head, g.x().poke(256 * q + 156 + 8 * head, head), 0);
                    c.due("what was lent before START", g.x().collect(q), STRANGE);
                }
            }
            c.due("the DRIVER has STARTED", g.x().read(0), 0);
            c.due("the device does it", g.x().step(0), 1);
        }
    }

    @Holds(promises = {2, 16, 17}, words = "START (whatever was; the DISK and THE WIRE stay),")
    static void startKeepsTheDiskAndTheWire(Checks c) {
        RingDevices x = new RingDevices();
        x.start(false);
        x.write(31, 0x0807060504030201L);
        x.step(0);
        for (int f = 1; f <= 3; f++) {
            x.send(f, 0x40 + f);
            x.step(2);
        }
        for (int t = 0; t < 4; t++) {
            c.due("start or reset", t < 2 ? x.start(t == 1) : x.reset(t == 2), 0);
            c.due("disk(31, 0)", x.disk(31, 0), 1);
            c.due("disk(31, 63)", x.disk(31, 63), 8 + 63);
            c.due("disk(30, 63)", x.disk(30, 63), 0);
            for (int i = 0; i < 3; i++) {
                c.due("wire(" + i + ", 0)", x.wire(i, 0), 0x43 - i);
                c.due("wire(" + i + ", behind)", x.wire(i, 3 - i), NONE);
            }
            c.due("wire(3, 0)", x.wire(3, 0), NONE);
        }
        x.start(true);
        x.send(1, 0x50);
        x.step(2);
        c.due("one more behind start()", x.wire(0, 0), 0x50);
        c.due("the one before", x.wire(1, 0), 0x43);
        x.read(31);
        x.step(0);
        c.due("the DISK is read as it was", x.peek(1040 + 63), 8 + 63);
    }

    @Holds(promises = {2, 19}, words = "TABLES agreed on or not: 0.")
    static void startAgreesOnTables(Checks c) {
        RingDevices x = new RingDevices();
        for (int t : new int[] {1, 0, 0, 1, 1}) {
            c.due("start", x.start(t == 1), 0);
            c.due("TABLES", x.count(4), t);
            c.due("read", x.read(0), 0);
            c.due("a TABLE or not", x.peek(12), t == 1 ? 4 : 1);
            c.due("FREE", x.told(0, 5), t == 1 ? 7 : 5);
            c.due("step", x.step(0), 1);
        }
    }

    @Holds(promises = {2, 18}, words = "SIGNALS are 0.")
    static void startMakesSignals0(Checks c) {
        Guest g = Guest.started(c, false);
        for (int q = 0; q < 3; q++) {
            g.offer(q, 0);
            g.dueDone("one", q);
            c.due("SIGNALS", g.x().told(q, 3), 1);
        }
        c.due("start", g.x().start(false), 0);
        for (int q = 0; q < 3; q++) {
            c.due("SIGNALS", g.x().told(q, 3), 0);
            c.due("TAKEN", g.x().told(q, 1), 0);
            c.due("GIVEN", g.x().told(q, 2), 0);
        }
    }

    @Holds(promises = {3, 10, 11, 12, 13, 14, 15, 18}, words = "A guest that is no DRIVER: the device is OFF, no QUEUE is told, "
        + "TAKEN, GIVEN and SIGNALS are 0;")
    static void resetOfEveryState(Checks c) {
        for (int state = 0; state < 5; state++) {
            Guest g = inState(c, state);
            int went = g.x().count(1);
            int came = g.x().count(2);
            int dropped = g.x().count(3);
            c.due("reset", g.x().reset(false), 0);
            String queue = "0 0 0 0 0 0 0 written -1; ";
            c.same("state " + state, g.state(), queue + queue + queue + "0 " + went + " " + came + " " + dropped + " 0 ");
            for (int q = 0; q < 3; q++) {
                c.due("the device is OFF", g.go(q), OFF);
                c.due("collect", g.x().collect(q), OFF);
            }
            c.due("read", g.x().read(0), OFF);
            c.due("write", g.x().write(0, 1), OFF);
            c.due("send", g.x().send(1, 1), OFF);
            c.due("post", g.x().post(), OFF);
            c.due("a FRAME that comes when it is OFF is not dropped", g.x().count(3), dropped);
            for (int q = 0; q < 3; q++) {
                c.due("each QUEUE may be told anew", g.x().queue(q, 4, 0, 256, 300), 0);
            }
            c.due("run", g.x().run(), 0);
        }
    }

    @Holds(promises = 3, words = "A guest that is no DRIVER: the device is OFF, no QUEUE is told, TAKEN, GIVEN and SIGNALS are 0;")
    static void resetMakesTakenGivenAndSignals0(Checks c) {
        Guest g = Guest.running(c, 4, false);
        for (int q = 0; q < 3; q++) {
            g.offer(q, 0);
            g.dueDone("one", q);
            g.offer(q, 0);
            g.dueDone("two", q);
            c.due("SIGNALS", g.x().told(q, 3), 2);
        }
        c.due("reset", g.x().reset(false), 0);
        for (int q = 0; q < 3; q++) {
            for (int what = 0; what <= 6; what++) {
                c.due("told(" + q + ", " + what + ")", g.x().told(q, what), 0);
            }
            g.lay(q, 4, 512 * q, 512 * q + 256, 512 * q + 300);
        }
        c.due("run", g.x().run(), 0);
        g.dueDone("COUNT is 2 still, so the first is TAKEN once more", 0);
        c.due("the USED ring's COUNT", g.usedCount(0), 1);
    }

    @Holds(promises = 3, words = "MEMORY stays.")
    static void resetLeavesMemory(Checks c) {
        for (int from = 0; from < 4096; from += 240) {
            RingDevices x = new RingDevices();
            x.start(true);
            for (int a = from; a < Math.min(4096, from + 240); a++) {
                x.poke(a, 1 + a % 255);
            }
            x.reset(false);
            for (int a = from; a < Math.min(4096, from + 240); a++) {
                c.due("peek(" + a + ")", x.peek(a), 1 + a % 255);
            }
        }
    }

    @Holds(promises = {3, 19}, words = "TABLES agreed on or not; 0.")
    static void resetAgreesOnTables(Checks c) {
        RingDevices x = new RingDevices();
        for (int t : new int[] {1, 0, 0, 1, 1}) {
            c.due("reset", x.reset(t == 1), 0);
            c.due("TABLES", x.count(4), t);
            c.due("run", x.run(), 0);
            c.due("TABLES", x.count(4), t);
            c.due("start", x.start(t == 0), 0);
            c.due("TABLES", x.count(4), 1 - t);
        }
    }

    @Holds(promises = {4, 18}, words = "A QUEUE is told: 0. BAD: no such one, or it is told;")
    static void aQueueIsToldOnce(Checks c) {
        RingDevices x = new RingDevices();
        for (int q : new int[] {-1, 3, 4, 256, LEAST, MOST}) {
            c.due("queue(" + q + ")", x.queue(q, 8, 0, 128, 152), BAD);
        }
        for (int q = 2; q >= 0; q--) {
            c.due("not told", x.told(q, 0), 0);
            c.due("SIZE", x.told(q, 4), 0);
            c.due("queue(" + q + ")", x.queue(q, 4, 0, 128, 152), 0);
            c.due("told", x.told(q, 0), 1);
            c.due("told again", x.queue(q, 8, 0, 128, 152), BAD);
            c.due("told again, the same", x.queue(q, 4, 0, 128, 152), BAD);
            c.due("its SIZE stays", x.told(q, 4), 4);
        }
        x.reset(false);
        c.due("behind reset()", x.queue(1, 8, 0, 128, 152), 0);
    }

    @Holds(promises = 4, words = "the device is not OFF;")
    static void aQueueIsToldWhenOff(Checks c) {
        RingDevices x = new RingDevices();
        x.run();
        c.due("it RUNS", x.queue(1, 8, 0, 128, 152), BAD);
        c.due("not told", x.told(1, 0), 0);
        x.start(false);
        c.due("it RUNS for a DRIVER", x.queue(1, 8, 0, 128, 152), BAD);
        x.reset(false);
        x.queue(0, 1, 0, 128, 152);
        x.run();
        x.poke(130, 2);
        c.due("BROKEN", x.step(0), BROKEN);
        c.due("it is BROKEN", x.queue(1, 8, 0, 128, 152), BAD);
        c.due("not told", x.told(1, 0), 0);
        x.reset(false);
        c.due("it is OFF", x.queue(1, 8, 0, 128, 152), 0);
    }

    @Holds(promises = 4, words = "SIZE; places that are no multiples of 16, 2, 4,")
    static void placesAreMultiples(Checks c) {
        for (int off = 0; off <= 32; off++) {
            c.due("DESCRIPTORS at " + off, new RingDevices().queue(0, 8, 1024 + off, 0, 0), off % 16 == 0 ? 0 : BAD);
            c.due("AVAILABLE at " + off, new RingDevices().queue(0, 8, 0, 1024 + off, 0), off % 2 == 0 ? 0 : BAD);
            c.due("USED at " + off, new RingDevices().queue(0, 8, 0, 0, 1024 + off), off % 4 == 0 ? 0 : BAD);
        }
        RingDevices x = new RingDevices();
        c.due("SIZE 0", x.queue(0, 0, 0, 0, 0), BAD);
        c.due("SIZE 3", x.queue(0, 3, 0, 0, 0), BAD);
        c.due("SIZE 32", x.queue(0, 32, 0, 0, 0), BAD);
        c.due("SIZE -8", x.queue(0, -8, 0, 0, 0), BAD);
        c.due("not told", x.told(0, 0), 0);
        c.due("places may be the same", x.queue(0, 16, 0, 0, 0), 0);
    }

    @Holds(promises = 4, words = "or not all in MEMORY.")
    static void placesLieInMemory(Checks c) {
        for (int size : new int[] {1, 2, 4, 8, 16}) {
            int descriptors = 4096 - 16 * size;
            int available = 4096 - 4 - 2 * size;
            int used = 4096 - 4 - 8 * size;
            RingDevices x = new RingDevices();
            for (int wrong : new int[] {descriptors + 16, 4096, 65536, -16, LEAST, MOST - 15}) {
                c.due("SIZE " + size + ", DESCRIPTORS at " + wrong, x.queue(0, size, wrong, 0, 0), BAD);
            }
            for (int wrong : new int[] {available + 2, 4096, 65536, -2, LEAST, MOST - 1}) {
                c.due("SIZE " + size + ", AVAILABLE at " + wrong, x.queue(0, size, 0, wrong, 0), BAD);
            }
            for (int wrong : new int[] {used + 4, 4096, 65536, -4, LEAST, MOST - 3}) {
                c.due("SIZE " + size + ", USED at " + wrong, x.queue(0, size, 0, 0, wrong), BAD);
            }
            c.due("not told", x.told(0, 0), 0);
            c.due("DESCRIPTORS at the end", x.queue(0, size, descriptors, 0, 0), 0);
            c.due("AVAILABLE at the end", x.queue(1, size, 0, available, 0), 0);
            c.due("USED at the end", x.queue(2, size, 0, 0, used), 0);
        }
    }

    @Holds(promises = {4, 8}, words = "or not all in MEMORY.")
    static void ringsWorkAtTheEndOfMemory(Checks c) {
        for (int n : new int[] {1, 2, 4, 8, 16}) {
            for (int which = 0; which < 3; which++) {
                Guest g = new Guest(c);
                g.lay(2, n, which == 0 ? 4096 - 16 * n : 0, which == 1 ? 4092 - 2 * n : 512, which == 2 ? 4092 - 8 * n : 1024);
                c.due("run", g.x().run(), 0);
                for (int k = 0; k < n; k++) {
                    g.offer(2, k);
                }
                for (int k = 0; k < n; k++) {
                    c.due("SIZE " + n + ": step", g.x().step(2), 1);
                }
                c.due("SIZE " + n + ": the last head", g.usedHead(2, n - 1), n - 1);
                c.due("SIZE " + n + ": COUNT", g.usedCount(2), n);
                c.due("it RUNS", g.x().count(0), 1);
            }
        }
    }

    @Holds(promises = {5, 19}, words = "The device RUNS: 0. BAD: it is not OFF.")
    static void runOnlyWhenOff(Checks c) {
        RingDevices x = new RingDevices();
        c.due("run", x.run(), 0);
        c.due("it RUNS", x.count(0), 1);
        c.due("run when it RUNS", x.run(), BAD);
        c.due("it RUNS", x.count(0), 1);
        x.start(false);
        c.due("run when a DRIVER has STARTED", x.run(), BAD);
        x.poke(130, 9);
        c.due("BROKEN", x.step(0), BROKEN);
        c.due("run when BROKEN", x.run(), BAD);
        c.due("it is BROKEN", x.count(0), 2);
        x.reset(false);
        c.due("run behind reset()", x.run(), 0);
        c.due("it RUNS", x.count(0), 1);
    }

    @Holds(promises = 6, words = "The guest writes a byte: what it was. BAD: no such place or byte.")
    static void pokeAnswersWhatItWas(Checks c) {
        RingDevices x = new RingDevices();
        for (int address : new int[] {0, 1, 2047, 2048, 4094, 4095}) {
            int was = 0;
            for (int b : new int[] {1, 127, 128, 255, 0, 254, 254}) {
                c.due("poke(" + address + ", " + b + ")", x.poke(address, b), was);
                was = b;
            }
        }
        for (int wrong : new int[] {-1, -4096, 4096, 4097, 65536, LEAST, MOST}) {
            c.due("poke(" + wrong + ", 1)", x.poke(wrong, 1), BAD);
        }
        for (int wrong : new int[] {-1, -128, -256, 256, 257, 65536, LEAST, MOST}) {
            c.due("poke(7, " + wrong + ")", x.poke(7, wrong), BAD);
        }
        c.due("nothing is written", x.peek(7), 0);
        for (int address : new int[] {0, 1, 2047, 2048, 4094, 4095}) {
            c.due("nothing is written", x.peek(address), 254);
        }
    }

    @Holds(promises = 7, words = "A byte of MEMORY. BAD.")
    static void peekAnswersAByte(Checks c) {
        RingDevices x = new RingDevices();
        for (int address : new int[] {0, 4095}) {
            for (int b : new int[] {1, 128, 255, 0}) {
                x.poke(address, b);
                c.due("peek(" + address + ")", x.peek(address), b);
                c.due("peek(" + address + ") once more", x.peek(address), b);
            }
        }
        for (int wrong : new int[] {-1, -4096, 4096, 4097, 65536, LEAST, MOST}) {
            c.due("peek(" + wrong + ")", x.peek(wrong), BAD);
        }
    }

    @Holds(promises = 8, words = "The device does one chain of QUEUE 0 or 2: 1; 0: it has nothing. BAD: QUEUE; OFF;")
    static void stepDoesOneChain(Checks c) {
        Guest g = Guest.running(c, 4, false);
        g.offer(1, 0);
        for (int q : new int[] {-1, 1, 3, 256, LEAST, MOST}) {
            c.due("step(" + q + ")", g.x().step(q), BAD);
            c.due("step(" + q + ") of a new object", new RingDevices().step(q), BAD);
        }
        c.due("QUEUE 1 is as it was", g.x().told(1, 1), 0);
        for (int q = 0; q <= 2; q += 2) {
            c.due("OFF", new RingDevices().step(q), OFF);
            c.due("nothing", g.x().step(q), 0);
            g.offer(q, 0);
            g.offer(q, 0);
            g.offer(q, 0);
            for (int k = 1; k <= 3; k++) {
                c.due("step", g.x().step(q), 1);
                c.due("one of three", g.x().told(q, 2), k);
            }
            c.due("nothing more", g.x().step(q), 0);
            c.due("nothing more", g.x().told(q, 2), 3);
        }
    }

    @Holds(promises = 8, words = "BROKEN: it is, or comes to be so.")
    static void stepOfABrokenDevice(Checks c) {
        for (int q = 0; q <= 2; q += 2) {
            Guest g = Guest.running(c, 4, false);
            g.offer(q, 4);
            c.due("it comes to be so", g.x().step(q), BROKEN);
            c.due("it is", g.x().step(q), BROKEN);
            c.due("it is", g.x().step(2 - q), BROKEN);
            c.due("BAD goes first", g.x().step(1), BAD);
            c.due("behind reset()", g.x().reset(false), 0);
            c.due("OFF", g.x().step(q), OFF);
        }
    }

    @Holds(promises = 9, words = "A FRAME of n (1 .. 80) bytes comes,")
    static void arriveOf1To80Bytes(Checks c) {
        RingDevices x = new RingDevices();
        for (int n : new int[] {0, 1, 2, 79, 80, 81}) {
            x.start(false);
            x.post();
            boolean fine = n >= 1 && n <= 80;
            c.due("arrive(" + n + ")", x.arrive(n, 3), fine ? 1 : BAD);
            c.due("TAKEN", x.told(1, 1), fine ? 1 : 0);
            c.due("collect", x.collect(1), fine ? 0 : NONE);
            c.due("written", x.written(1), fine ? 12 + n : NONE);
        }
        c.due("came", x.count(2), 4);
        c.due("dropped", x.count(3), 0);
    }

    @Holds(promises = {9, 11, 12}, words = "byte k being that of w at place k % 8, the lowest first, and k added (modulo 256):")
    static void bytesOfW(Checks c) {
        long[] ws = {0, -1, 0x0102030405060708L, 0x80ff7f0180ff7f00L, Long.MIN_VALUE, Long.MAX_VALUE, 0xf8f9fafbfcfdfeffL};
        for (long w : ws) {
            int[] want = new int[80];
            for (int k = 0; k < 80; k++) {
                want[k] = (int) ((w >> (8 * (k % 8)) & 0xff) + k) % 256;
            }
            RingDevices x = new RingDevices();
            x.start(false);
            x.post();
            x.arrive(80, w);
            x.send(80, w);
            x.step(2);
            x.write(31, w);
            x.step(0);
            for (int k = 0; k < 80; k++) {
                c.due("arrive(80, " + w + "): byte " + k, x.peek(3072 + 12 + k), want[k]);
                c.due("send(80, " + w + "): byte " + k, x.peek(2304 + 12 + k), want[k]);
                c.due("send(80, " + w + "): byte " + k + " of THE WIRE", x.wire(0, k), want[k]);
            }
            for (int k = 0; k < 64; k++) {
                c.due("write(31, " + w + "): byte " + k, x.peek(1024 + 16 + k), want[k]);
                c.due("write(31, " + w + "): byte " + k + " of the DISK", x.disk(31, k), want[k]);
            }
        }
    }

    @Holds(promises = {9, 19}, words = "1 it got into a chain, 0 it was dropped.")
    static void arriveAnswers(Checks c) {
        Guest g = Guest.running(c, 4, false);
        c.due("nothing is offered", g.x().arrive(1, 0), 0);
        g.chain(1, part(2048, 12, W));
        c.due("too little room", g.x().arrive(1, 0), 0);
        g.chain(1, part(2048, 13, W));
        c.due("room enough", g.x().arrive(1, 0), 1);
        g.chain(1, part(2048, 13, 0));
        c.due("it READS", g.x().arrive(1, 0), 0);
        c.due("came", g.x().count(2), 1);
        c.due("dropped", g.x().count(3), 3);
        c.due("TAKEN", g.x().told(1, 1), 3);
    }

    @Holds(promises = {9, 19}, words = "BAD: n; OFF; BROKEN, as before.")
    static void arriveIsRefused(Checks c) {
        int[] wrong = {0, -1, 81, 92, 256, LEAST, MOST};
        for (int state = 0; state < 5; state++) {
            Guest g = inState(c, state);
            String before = g.state();
            for (int n : wrong) {
                c.due("state " + state + ": arrive(" + n + ")", g.x().arrive(n, 1), BAD);
            }
            if (state == 0 || state == 3) {
                c.due("state " + state + ": arrive(1)", g.x().arrive(1, 1), state == 0 ? OFF : BROKEN);
                c.due("state " + state + ": arrive(80)", g.x().arrive(80, 1), state == 0 ? OFF : BROKEN);
            }
            c.same("state " + state, g.state(), before);
        }
        Guest h = Guest.running(c, 4, false);
        h.count(1, 5);
        c.due("it comes to be BROKEN", h.x().arrive(1, 1), BROKEN);
        c.due("it is", h.x().arrive(1, 1), BROKEN);
        c.due("none was dropped", h.x().count(3), 0);
        c.due("none came", h.x().count(2), 0);
    }

    @Holds(promises = 10, words = "The DRIVER asks to READ a SECTOR: its first DESCRIPTOR. BAD: no such SECTOR;")
    static void readAsksForASector(Checks c) {
        for (int sector = 0; sector < 32; sector++) {
            RingDevices x = new RingDevices();
            x.start(sector % 2 == 0);
            c.due("write", x.write(sector, 100 + sector), 0);
            c.due("step", x.step(0), 1);
            c.due("read(" + sector + ")", x.read(sector), sector % 2 == 0 ? 1 : 3);
            c.due("SECTOR", x.peek(1024 + 96 * (sector % 2 == 0 ? 1 : 3) + 8), sector);
            c.due("step", x.step(0), 1);
            c.due("its first byte", x.peek(1024 + 96 * (sector % 2 == 0 ? 1 : 3) + 16), 100 + sector);
            c.due("RESULT", x.peek(1024 + 96 * (sector % 2 == 0 ? 1 : 3) + 80), 0);
        }
        RingDevices x = new RingDevices();
        x.start(false);
        for (int wrong : new int[] {-1, 32, 33, 64, 256, LEAST, MOST}) {
            c.due("read(" + wrong + ")", x.read(wrong), BAD);
            c.due("write(" + wrong + ")", x.write(wrong, 1), BAD);
        }
        c.due("FREE", x.told(0, 5), 8);
        c.due("COUNT", x.peek(130), 0);
    }

    @Holds(promises = {10, 11, 12, 13, 14}, words = "OFF: it has not STARTED (so also behind reset());")
    static void offIfNotStarted(Checks c) {
        RingDevices x = new RingDevices();
        for (int t = 0; t < 4; t++) {
            c.due("read", x.read(31), OFF);
            c.due("write", x.write(0, 1), OFF);
            c.due("send", x.send(80, 1), OFF);
            c.due("post", x.post(), OFF);
            c.due("collect", x.collect(2), OFF);
            c.due("BAD goes first", x.read(32), BAD);
            c.due("BAD goes first", x.write(-1, 1), BAD);
            c.due("BAD goes first", x.send(81, 1), BAD);
            c.due("BAD goes first", x.collect(3), BAD);
            c.due("nothing is written", x.peek(130), t < 2 ? 0 : 1);
            switch (t) {
                case 0: x.run(); break;
                case 1: x.start(true); x.read(0); x.reset(true); break;
                default: x.queue(0, 8, 0, 128, 152); x.run();
            }
        }
        x.start(false);
        c.due("STARTED again", x.post(), 0);
    }

    @Holds(promises = {10, 11, 12, 13}, words = "NONE: too few DESCRIPTORS are FREE. (So with all of these.)")
    static void noneIfTooFewAreFree(Checks c) {
        for (int t = 0; t < 2; t++) {
            Guest g = Guest.started(c, t == 1);
            lendAll(g);
            String before = g.state();
            long[] rings = {g.number(128, 8), g.number(384, 8), g.number(640, 8)};
            c.due("read", g.x().read(5), NONE);
            c.due("write", g.x().write(5, 1), NONE);
            c.due("send", g.x().send(5, 1), NONE);
            c.due("post", g.x().post(), NONE);
            c.due("BAD goes first", g.x().read(32), BAD);
            c.due("BAD goes first", g.x().write(32, 1), BAD);
            c.due("BAD goes first", g.x().send(0, 1), BAD);
            c.same("nothing is lent", g.state(), before);
            for (int q = 0; q < 3; q++) {
                c.due("nothing is offered", g.number(256 * q + 128, 8), rings[q]);
                c.due("the device does one", g.go(q), 1);
                c.due("collect", g.x().collect(q), 0);
            }
            c.due("read", g.x().read(5), 0);
            c.due("send", g.x().send(5, 1), 0);
            c.due("post", g.x().post(), 0);
            c.due("write", g.x().write(5, 1), NONE);
        }
    }

    @Holds(promises = 11, words = "Likewise to write it, byte k being as with arrive().")
    static void writeAsksForASector(Checks c) {
        for (int sector : new int[] {0, 1, 30, 31}) {
            RingDevices x = new RingDevices();
            x.start(sector % 2 == 0);
            c.due("write", x.write(sector, 0xfffefdfcfbfaf9f8L), 0);
            c.due("nothing is done yet", x.disk(sector, 0), 0);
            c.due("step", x.step(0), 1);
            for (int k = 0; k < 64; k++) {
                c.due("byte " + k, x.disk(sector, k), (0xf8 + k % 8 + k) % 256);
            }
            c.due("the SECTOR before", sector == 0 ? 0 : x.disk(sector - 1, 63), 0);
            c.due("the SECTOR behind", sector == 31 ? 0 : x.disk(sector + 1, 0), 0);
            c.due("collect", x.collect(0), 0);
            c.due("written", x.written(0), 1);
        }
    }

    @Holds(promises = {12, 16}, words = "A FRAME is to go, as with arrive(): its first DESCRIPTOR. BAD: n.")
    static void sendAFrame(Checks c) {
        for (int n : new int[] {1, 2, 79, 80}) {
            RingDevices x = new RingDevices();
            x.start(n % 2 == 0);
            c.due("send(" + n + ")", x.send(n, 0xfffefdfcfbfaf9f8L), 0);
            c.due("it has not gone yet", x.wire(0, 0), NONE);
            c.due("send(1)", x.send(1, 7), 2);
            c.due("step", x.step(2), 1);
            for (int k = 0; k < n; k++) {
                c.due("byte " + k, x.wire(0, k), (0xf8 + k % 8 + k) % 256);
            }
            c.due("behind it", x.wire(0, n), NONE);
            c.due("step", x.step(2), 1);
            c.due("the second", x.wire(0, 0), 7);
        }
        RingDevices x = new RingDevices();
        x.start(false);
        for (int wrong : new int[] {0, -1, 81, 92, 256, LEAST, MOST}) {
            c.due("send(" + wrong + ")", x.send(wrong, 1), BAD);
        }
        c.due("FREE", x.told(2, 5), 8);
        c.due("COUNT", x.peek(642), 0);
    }

    @Holds(promises = 13, words = "A BUFFER for a FRAME that comes: its DESCRIPTOR.")
    static void postABuffer(Checks c) {
        RingDevices x = new RingDevices();
        x.start(false);
        for (int d = 0; d < 8; d++) {
            c.due("post", x.post(), d);
        }
        c.due("none is FREE", x.post(), NONE);
        for (int d = 0; d < 8; d++) {
            c.due("arrive", x.arrive(80, d), 1);
            c.due("its first byte", x.peek(3072 + 96 * d + 12), d);
        }
        c.due("none is posted", x.arrive(1, 0), 0);
        for (int d = 0; d < 8; d++) {
            c.due("collect", x.collect(1), d);
            c.due("post", x.post(), d);
        }
    }

    @Holds(promises = 14, words = "COLLECT of a QUEUE: the chain's first DESCRIPTOR; NONE: nothing new; STRANGE. BAD: no such QUEUE; OFF.")
    static void collectAnswers(Checks c) {
        RingDevices x = new RingDevices();
        for (int q = 0; q < 3; q++) {
            c.due("OFF", x.collect(q), OFF);
        }
        for (int wrong : new int[] {-1, 3, 256, LEAST, MOST}) {
            c.due("BAD goes first", x.collect(wrong), BAD);
        }
        x.start(false);
        x.read(1);
        x.read(2);
        for (int k = 0; k < 2; k++) {
            c.due("nothing new", x.collect(0), NONE);
            c.due("step", x.step(0), 1);
            c.due("collect", x.collect(0), 3 * k);
        }
        x.poke(154, 3);
        c.due("STRANGE", x.collect(0), STRANGE);
        c.due("nothing new", x.collect(0), NONE);
        for (int wrong : new int[] {-1, 3, 256, LEAST, MOST}) {
            c.due("collect(" + wrong + ")", x.collect(wrong), BAD);
        }
    }

    @Holds(promises = 14, words = "COLLECT of a QUEUE: the chain's first DESCRIPTOR; NONE: nothing new; STRANGE. BAD: no such QUEUE; OFF.")
    static void aDriverGoesOnWhenTheDeviceIsBroken(Checks c) {
        Guest g = Guest.started(c, false);
        c.due("read", g.x().read(0), 0);
        c.due("step", g.x().step(0), 1);
        g.count(0, 99);
        c.due("BROKEN", g.x().step(0), BROKEN);
        c.due("collect", g.x().collect(0), 0);
        c.due("written", g.x().written(0), 65);
        c.due("read", g.x().read(0), 0);
        c.due("write", g.x().write(0, 1), 3);
        c.due("send", g.x().send(1, 1), 0);
        c.due("post", g.x().post(), 0);
        c.due("nothing new", g.x().collect(0), NONE);
    }

    @Holds(promises = 15, words = "Of what was COLLECTED latest from a QUEUE (not STRANGE): how many bytes were written, by the USED ring then,")
    static void writtenIsOfTheLatest(Checks c) {
        Guest g = Guest.started(c, true);
        g.x().write(0, 1);
        g.x().read(0);
        g.x().step(0);
        g.x().step(0);
        c.due("done, but not COLLECTED", g.x().written(0), NONE);
        c.due("collect", g.x().collect(0), 0);
        c.due("a write", g.x().written(0), 1);
        c.due("collect", g.x().collect(0), 1);
        c.due("a read", g.x().written(0), 65);
        g.poke(152 + 4 + 12, 3);
        c.due("by the USED ring then", g.x().written(0), 65);
        c.due("collect", g.x().collect(0), NONE);
        c.due("nothing new", g.x().written(0), 65);
        g.poke(154, 9);
        g.poke(152 + 4 + 20, 9);
        c.due("collect", g.x().collect(0), STRANGE);
        c.due("not STRANGE", g.x().written(0), 65);
        c.due("of another QUEUE", g.x().written(1), NONE);
        g.x().send(1, 1);
        g.x().step(2);
        c.due("collect", g.x().collect(2), 0);
        c.due("a FRAME that went", g.x().written(2), 0);
        c.due("of QUEUE 0", g.x().written(0), 65);
    }

    @Holds(promises = 15, words = "as it stands there (its lowest 31 bits).")
    static void writtenAsItStandsThere(Checks c) {
        Guest g = Guest.started(c, false);
        g.poke(256 + 155, 1);
        long[] stands = {0, 1, 255, 256, 65536, 0x7fffffff, 0x80000000L, 0x80000001L, 0xfedcba98L, 0xffffffffL, 13};
        for (int k = 0; k < stands.length; k++) {
            c.due("post", g.x().post(), 0);
            g.fill(256 + 160 + 8 * (k % 8), 4, stands[k]);
            c.due("collect", g.x().collect(1), 0);
            c.due("written", g.x().written(1), stands[k] & 0x7fffffff);
        }
    }

    @Holds(promises = 15, words = "NONE: nothing was since START. BAD: no such QUEUE.")
    static void writtenOfNothing(Checks c) {
        RingDevices x = new RingDevices();
        for (int t = 0; t < 3; t++) {
            for (int q = 0; q < 3; q++) {
                c.due("written(" + q + ")", x.written(q), NONE);
            }
            for (int wrong : new int[] {-1, 3, 256, LEAST, MOST}) {
                c.due("written(" + wrong + ")", x.written(wrong), BAD);
            }
            x.start(t == 0);
            for (int q = 0; q < 3; q++) {
                c.due("nothing since START", x.written(q), NONE);
            }
            x.read(0);
            x.step(0);
            x.post();
            x.arrive(4, 1);
            x.send(1, 1);
            x.step(2);
            int[] want = {65, 16, 0};
            for (int q = 0; q < 3; q++) {
                x.collect(q);
                c.due("written(" + q + ")", x.written(q), want[q]);
            }
            x.reset(false);
        }
    }

    @Holds(promises = 16, words = "Byte k of THE WIRE'S FRAME i (0 the latest one); NONE: there is none such.")
    static void bytesOfTheWire(Checks c) {
        RingDevices x = new RingDevices();
        for (int i : new int[] {0, 15, 16, -1, LEAST, MOST}) {
            for (int k : new int[] {0, 79, -1, LEAST, MOST}) {
                c.due("nothing went: wire(" + i + ", " + k + ")", x.wire(i, k), NONE);
            }
        }
        x.start(false);
        x.send(80, 0xff);
        x.step(2);
        x.send(1, 0xfe);
        x.step(2);
        c.due("the latest", x.wire(0, 0), 0xfe);
        c.due("the one before", x.wire(1, 0), 0xff);
        c.due("its last byte", x.wire(1, 79), 79);
        for (int wrong : new int[] {-1, 80, 81, 256, LEAST, MOST}) {
            c.due("wire(1, " + wrong + ")", x.wire(1, wrong), NONE);
            c.due("wire(0, " + wrong + ")", x.wire(0, wrong), NONE);
            c.due("wire(" + wrong + ", 0)", x.wire(wrong, 0), NONE);
        }
        c.due("the latest has one byte", x.wire(0, 1), NONE);
        for (int i = 2; i <= 33; i++) {
            c.due("wire(" + i + ", 0)", x.wire(i, 0), NONE);
        }
    }

    @Holds(promises = 17, words = "Byte k of a SECTOR. BAD.")
    static void bytesOfASector(Checks c) {
        RingDevices x = new RingDevices();
        x.start(true);
        for (int sector = 0; sector < 32; sector++) {
            x.write(sector, 1 + sector);
            x.step(0);
            x.collect(0);
        }
        for (int sector = 0; sector < 32; sector++) {
            c.due("disk(" + sector + ", 0)", x.disk(sector, 0), 1 + sector);
            c.due("disk(" + sector + ", 8)", x.disk(sector, 8), 9 + sector);
            c.due("disk(" + sector + ", 63)", x.disk(sector, 63), 63);
            c.due("disk(" + sector + ", 64)", x.disk(sector, 64), BAD);
            c.due("disk(" + sector + ", -1)", x.disk(sector, -1), BAD);
        }
        for (int wrong : new int[] {-1, 32, 33, 256, LEAST, MOST}) {
            c.due("disk(" + wrong + ", 0)", x.disk(wrong, 0), BAD);
        }
        for (int wrong : new int[] {65, 256, 2047, LEAST, MOST}) {
            c.due("disk(0, " + wrong + ")", x.disk(0, wrong), BAD);
        }
    }

    @Holds(promises = 18, words = "Of a QUEUE: what = 0 whether it is told (1 or 0), 1 TAKEN, 2 GIVEN, 3 SIGNALS, 4 SIZE (0 if it is not told), "
        + "5 FREE DESCRIPTORS of the DRIVER (0 if it has not STARTED), 6 how many it SAW. BAD.")
    static void toldOfEachQueue(Checks c) {
        for (int q = 0; q < 3; q++) {
            Guest g = Guest.started(c, true);
            int needed = q == 2 ? 2 : 1;
            for (int k = 0; k < 3; k++) {
                c.due("lent", q == 0 ? g.x().read(k) : q == 1 ? g.x().post() : g.x().send(1, k), k * needed);
            }
            dueTold(c, g, q, 1, 0, 0, 0, 8, 8 - 3 * needed, 0);
            c.due("one", g.go(q), 1);
            g.poke(256 * q + 128, 1);
            c.due("a QUIET one", g.go(q), 1);
            dueTold(c, g, q, 1, 2, 2, 1, 8, 8 - 3 * needed, 0);
            c.due("collect", g.x().collect(q), 0);
            dueTold(c, g, q, 1, 2, 2, 1, 8, 8 - 2 * needed, 1);
            for (int other = 0; other < 3; other++) {
                if (other != q) {
                    dueTold(c, g, other, 1, 0, 0, 0, 8, 8, 0);
                }
            }
            g.x().reset(true);
            dueTold(c, g, q, 0, 0, 0, 0, 0, 0, 0);
            g.x().queue(q, 16, 1024, 2048, 3072);
            dueTold(c, g, q, 1, 0, 0, 0, 16, 0, 0);
        }
        for (int state = 0; state < 5; state++) {
            Guest g = inState(c, state);
            for (int wrong : new int[] {-1, 7, 8, 256, LEAST, MOST}) {
                c.due("told(0, " + wrong + ")", g.x().told(0, wrong), BAD);
                c.due("told(2, " + wrong + ")", g.x().told(2, wrong), BAD);
            }
            for (int wrong : new int[] {-1, 3, 256, LEAST, MOST}) {
                for (int what = -1; what <= 7; what++) {
                    c.due("told(" + wrong + ", " + what + ")", g.x().told(wrong, what), BAD);
                }
            }
        }
    }

    private static void dueTold(Checks c, Guest g, int q, int... want) {
        for (int what = 0; what < want.length; what++) {
            c.due("told(" + q + ", " + what + ")", g.x().told(q, what), want[what]);
        }
    }

    @Holds(promises = 19, words = "What = 0 whether the device is OFF (0), RUNS (1), is BROKEN (2), 1 FRAMES that went, 2 that came into chains, "
        + "3 that were dropped")
    static void countsOfTheDevice(Checks c) {
        Guest g = Guest.running(c, 4, false);
        c.due("it RUNS", g.x().count(0), 1);
        int[] want = new int[4];
        for (int k = 0; k < 4; k++) {
            g.chain(2, part(2048, 12 + k % 3, 0));
            g.dueDone("a FRAME of " + k % 3 + " bytes", 2);
            want[1] += k % 3 == 0 ? 0 : 1;
            g.chain(1, part(2048, 14, W));
            c.due("arrive", g.x().arrive(1 + k, 0), k < 2 ? 1 : 0);
            want[k < 2 ? 2 : 3]++;
            for (int what = 1; what <= 3; what++) {
                c.due("count(" + what + ")", g.x().count(what), want[what]);
            }
        }
        g.count(0, 5);
        g.dueBroken("COUNT 5", 0);
        c.due("it is BROKEN", g.x().count(0), 2);
        c.due("reset", g.x().reset(false), 0);
        c.due("it is OFF", g.x().count(0), 0);
    }

    @Holds(promises = 19, words = "(not those with which it comes to be BROKEN, or is; all three ever, over start() and reset()),")
    static void countsStayOverStartAndReset(Checks c) {
        RingDevices x = new RingDevices();
        for (int t = 1; t <= 4; t++) {
            x.start(t % 2 == 0);
            x.send(1, 1);
            x.step(2);
            x.post();
            x.post();
            x.arrive(1, 1);
            x.arrive(80, 1);
            for (int k = 0; k < 3; k++) {
                x.arrive(1, 1);
            }
            x.poke(386, 99);
            c.due("a FRAME with which it comes to be BROKEN", x.arrive(1, 1), BROKEN);
            c.due("a FRAME when it is BROKEN", x.arrive(1, 1), BROKEN);
            for (int k = 0; k < 2; k++) {
                c.due("went", x.count(1), t);
                c.due("came", x.count(2), 2 * t);
                c.due("dropped", x.count(3), 3 * t);
                x.reset(false);
                c.due("a FRAME when it is OFF", x.arrive(1, 1), OFF);
            }
        }
    }

    @Holds(promises = 19, words = "4 whether TABLES are agreed on. BAD.")
    static void countOfTablesAndWrongOnes(Checks c) {
        for (int state = 0; state < 5; state++) {
            Guest g = inState(c, state);
            c.due("TABLES", g.x().count(4), state == 0 || state == 2 ? 0 : 1);
            for (int wrong : new int[] {-1, 5, 6, 256, LEAST, MOST}) {
                c.due("count(" + wrong + ")", g.x().count(wrong), BAD);
            }
        }
    }
}
