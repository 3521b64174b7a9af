/** Promises 18 and 19: told and count. */
public final class TellingTest {
    private static final Checks CHECKS = new Checks("TellingTest");

    public static void main(String[] args) {
        wrongOnes();
        toldOfADriver();
        sawBehindReset();
        toldOfAGuest();
        counts();
        countsStay();
        CHECKS.end();
    }

    private static void wrongOnes() {
        RingDevices x = new RingDevices();
        for (int t = 0; t < 2; t++) {
            for (int wrong : new int[] {-1, 7, Integer.MIN_VALUE, Integer.MAX_VALUE}) {
                CHECKS.due("told(0, " + wrong + ")", x.told(0, wrong), RingDevices.BAD);
                CHECKS.due("told(" + wrong + ", 0)", x.told(wrong, 0), RingDevices.BAD);
                CHECKS.due("count(" + wrong + ")", x.count(wrong), RingDevices.BAD);
            }
            CHECKS.due("told(3, 0)", x.told(3, 0), RingDevices.BAD);
            CHECKS.due("told(3, 7)", x.told(3, 7), RingDevices.BAD);
            CHECKS.due("count(5)", x.count(5), RingDevices.BAD);
            x.start(true);
        }
    }

    private static void due(RingDevices x, String why, int q, int... want) {
        for (int what = 0; what < want.length; what++) {
            CHECKS.due(why + ": told(" + q + ", " + what + ")", x.told(q, what), want[what]);
        }
    }

    private static void toldOfADriver() {
        RingDevices x = new RingDevices();
        x.start(false);
        x.send(1, 1);
        due(x, "send", 2, 1, 0, 0, 0, 8, 6, 0);
        x.send(1, 1);
        x.step(2);
        due(x, "step", 2, 1, 1, 1, 1, 8, 4, 0);
        x.collect(2);
        due(x, "collect", 2, 1, 1, 1, 1, 8, 6, 1);
        x.poke(640, 1);
        x.step(2);
        due(x, "a QUIET step", 2, 1, 2, 2, 1, 8, 6, 1);
        x.poke(640, 0);
        x.post();
        x.arrive(1, 1);
        due(x, "arrive", 1, 1, 1, 1, 1, 8, 7, 0);
        due(x, "nothing", 0, 1, 0, 0, 0, 8, 8, 0);
        x.reset(true);
        for (int q = 0; q < 3; q++) {
            due(x, "reset", q, 0, 0, 0, 0, 0, 0, 0);
        }
    }

    private static void sawBehindReset() {
        RingDevices x = new RingDevices();
        for (int t = 0; t < 2; t++) {
            x.start(t == 1);
            x.read(0);
            x.step(0);
            x.post();
            x.arrive(1, 0);
            x.send(1, 0);
            x.step(2);
            for (int q = 0; q < 3; q++) {
                x.collect(q);
                CHECKS.due("SAW one of QUEUE " + q, x.told(q, 6), 1);
            }
            x.poke(154, 9);
            CHECKS.due("a head that is not lent out", x.collect(0), RingDevices.STRANGE);
            CHECKS.due("SAW that, too", x.told(0, 6), 2);
            x.reset(t == 0);
            for (int q = 0; q < 3; q++) {
                CHECKS.due("reset: SAW of QUEUE " + q, x.told(q, 6), 0);
                CHECKS.due("reset: FREE of QUEUE " + q, x.told(q, 5), 0);
            }
            x.queue(0, 8, 0, 128, 152);
            x.run();
            CHECKS.due("a guest's QUEUE", x.told(0, 6), 0);
            CHECKS.due("a guest's QUEUE", x.told(0, 5), 0);
        }
        x.start(false);
        for (int q = 0; q < 3; q++) {
            due(x, "start behind reset", q, 1, 0, 0, 0, 8, 8, 0);
        }
    }

    private static void toldOfAGuest() {
        RingDevices x = new RingDevices();
        x.queue(1, 16, 0, 256, 512);
        due(x, "queue", 1, 1, 0, 0, 0, 16, 0, 0);
        due(x, "no queue", 0, 0, 0, 0, 0, 0, 0, 0);
        x.run();
        due(x, "run", 1, 1, 0, 0, 0, 16, 0, 0);
    }

    private static void counts() {
        RingDevices x = new RingDevices();
        CHECKS.due("OFF", x.count(0), 0);
        x.run();
        CHECKS.due("RUNS", x.count(0), 1);
        CHECKS.due("TABLES", x.count(4), 0);
        x.reset(true);
        CHECKS.due("OFF", x.count(0), 0);
        CHECKS.due("TABLES", x.count(4), 1);
        x.start(false);
        CHECKS.due("TABLES", x.count(4), 0);
        x.start(true);
        CHECKS.due("TABLES", x.count(4), 1);
        CHECKS.due("RUNS", x.count(0), 1);
        x.poke(130, 1);
        x.poke(133, 1);
        CHECKS.due("a head of 256", x.step(0), RingDevices.BROKEN);
        CHECKS.due("BROKEN", x.count(0), 2);
    }

    private static void countsStay() {
        RingDevices x = new RingDevices();
        for (int t = 1; t <= 3; t++) {
            x.start(t == 2);
            x.send(1, 1);
            x.step(2);
            x.post();
            x.post();
            x.arrive(1, 1);
            x.arrive(80, 1);
            for (int k = 0; k < 3; k++) {
                x.arrive(1, 1);
            }
            CHECKS.due("went", x.count(1), t);
            CHECKS.due("came", x.count(2), 2 * t);
            CHECKS.due("dropped", x.count(3), 3 * t);
            x.poke(386, 99);
            CHECKS.due("a FRAME with which it comes to be BROKEN", x.arrive(1, 1), RingDevices.BROKEN);
            CHECKS.due("a FRAME when it is BROKEN", x.arrive(1, 1), RingDevices.BROKEN);
            CHECKS.due("dropped", x.count(3), 3 * t);
            x.reset(false);
            CHECKS.due("went", x.count(1), t);
            CHECKS.due("came", x.count(2), 2 * t);
            CHECKS.due("dropped", x.count(3), 3 * t);
        }
    }
}
