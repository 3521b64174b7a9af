/** Promises 6 and 7: poke and peek. */
public final class MemoryTest {
    private static final Checks CHECKS = new Checks("MemoryTest");

    public static void main(String[] args) {
        RingDevices x = new RingDevices();
        for (int address : new int[] {0, 1, 255, 256, 2048, 4094, 4095}) {
            CHECKS.due("poke(" + address + ", 255)", x.poke(address, 255), 0);
            CHECKS.due("peek(" + address + ")", x.peek(address), 255);
            CHECKS.due("poke(" + address + ", 128)", x.poke(address, 128), 255);
            CHECKS.due("poke(" + address + ", 0)", x.poke(address, 0), 128);
            CHECKS.due("peek(" + address + ")", x.peek(address), 0);
        }
        CHECKS.due("poke(7, 9)", x.poke(7, 9), 0);
        CHECKS.due("peek(6)", x.peek(6), 0);
        CHECKS.due("peek(8)", x.peek(8), 0);
        for (int address : new int[] {-1, 4096, 4097, Integer.MIN_VALUE, Integer.MAX_VALUE}) {
            CHECKS.due("poke(" + address + ", 1)", x.poke(address, 1), RingDevices.BAD);
            CHECKS.due("peek(" + address + ")", x.peek(address), RingDevices.BAD);
        }
        for (int b : new int[] {-1, 256, -128, Integer.MIN_VALUE, Integer.MAX_VALUE}) {
            CHECKS.due("poke(7, " + b + ")", x.poke(7, b), RingDevices.BAD);
            CHECKS.due("peek(7)", x.peek(7), 9);
        }
        inEveryState(x);
        CHECKS.end();
    }

    private static void inEveryState(RingDevices x) {
        x.start(false);
        CHECKS.due("poke when it RUNS", x.poke(132, 8), 0);
        CHECKS.due("poke when it RUNS", x.poke(130, 1), 0);
        CHECKS.due("BROKEN", x.step(0), RingDevices.BROKEN);
        CHECKS.due("poke when BROKEN", x.poke(132, 1), 8);
        CHECKS.due("peek when BROKEN", x.peek(132), 1);
        CHECKS.due("still BROKEN", x.step(0), RingDevices.BROKEN);
    }
}
