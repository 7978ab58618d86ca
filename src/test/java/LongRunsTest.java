/**
 * Long runs of mixed calls, every answer compared with PlainModel: after each call that does something one
 * that asks, and at the end all that ask. That keeps each run within the 512 calls of an object.
 */
public final class LongRunsTest {
    private static final int RUNS = 12000;
    private static final int ACTS = 200;
    private static final int[] ADDRESSES = {10, 10, 11, 12, 128, 128, 129, 130, 131, 0, 253};
    private static final int[] ODD = {-1, 254, 256, 5, Integer.MIN_VALUE, Integer.MAX_VALUE};
    private static final int[] TIMES = {1, 49, 50, 51, 100, 249, 250, 499, 500, 550, 750, 1050, 1250, 2000};

    private static long seed;
    private static AddressClaimBus bus;
    private static PlainModel model;

    public static void main(String[] args) {
        for (int run = 0; run < RUNS; run++) {
            seed = run * 7919L + 1L;
            bus = new AddressClaimBus();
            model = new PlainModel();
            Check.of("run " + run);
            for (int i = 0; i < ACTS; i++) {
                act(run % 4);
                ask(below(12), below(7) - 1, below(7) - 1);
            }
            askAll();
        }
        Check.end();
    }

    /** A row of numbers that is the same in every run of the test. */
    private static int below(int bound) {
        seed = seed * 6364136223846793005L + 1442695040888963407L;
        return (int) Math.floorMod(seed >>> 33, (long) bound);
    }

    private static int function() {
        return below(40) == 0 ? ODD[below(ODD.length)] : below(5);
    }

    private static int anAddress() {
        return below(40) == 0 ? ODD[below(ODD.length)] : ADDRESSES[below(ADDRESSES.length)];
    }

    /** The styles differ in how many frames are lost or kept and how many functions are stopped. */
    private static void act(int style) {
        int choice = below(100);
        if (choice < (style == 3 ? 12 : 5)) {
            start();
        } else if (choice < 14) {
            send();
        } else if (choice < 17) {
            busy();
        } else if (choice < 18) {
            int f = function();
            Check.due("request(" + f + ")", bus.request(f), model.request(f));
        } else if (choice < 19 && (style == 2 || below(8) == 0)) {
            int f = function();
            Check.due("stop(" + f + ")", bus.stop(f), model.stop(f));
        } else if (choice < 30) {
            int ms = below(30) == 0 ? below(2) * 2001 : TIMES[below(style == 1 ? TIMES.length : 5)];
            Check.due("tick(" + ms + ")", bus.tick(ms), model.tick(ms));
        } else if (choice < (style == 1 ? 45 : 33)) {
            Check.due("lose()", bus.lose(), model.lose());
        } else {
            boolean keep = below(style == 2 ? 8 : 40) == 0;
            Check.due("deliver(" + keep + ")", bus.deliver(keep), model.deliver(keep));
        }
    }

    private static void start() {
        int f = function();
        long name = below(3) == 0 ? Long.MIN_VALUE + below(4) : below(2) == 0 ? below(8) : -1L - below(4);
        int address = anAddress();
        Check.due("start(" + f + ", " + name + ", " + address + ")",
                bus.start(f, name, address), model.start(f, name, address));
    }

    private static void busy() {
        int f = function();
        boolean on = below(3) == 0;
        Check.due("busy(" + f + ", " + on + ")", bus.busy(f, on), model.busy(f, on));
    }

    private static void send() {
        int f = function();
        int g = below(5);
        int target = below(4) == 0 ? 255 : model.state(g) == 2 && below(8) != 0 ? model.address(g) : anAddress();
        int group = below(30) == 0 ? -1 + below(2) * 262145 : below(2) * 262143;
        int size = below(30) == 0 ? 8 + below(2) * 42 : 9 + below(41);
        long bytes = (long) below(1 << 30) * below(1 << 30) * 8L + below(8);
        Check.due("send(" + f + ", " + target + ", " + group + ", " + size + ", " + bytes + ")",
                bus.send(f, target, group, size, bytes), model.send(f, target, group, size, bytes));
    }

    private static void askAll() {
        for (int question = 0; question < 4; question++) {
            ask(question, 0, 0);
        }
        for (int f = 0; f < 5; f++) {
            for (int question = 4; question < 10; question++) {
                ask(question, f, 0);
            }
            for (int g = 0; g < 5; g++) {
                ask(10, f, g);
                ask(11, f, g);
            }
        }
    }

    /** The first four questions need no function, only the last two need g. */
    private static void ask(int question, int f, int g) {
        int i = below(52) - 1;
        switch (question) {
            case 0 -> Check.due("waiting()", bus.waiting(), model.waiting());
            case 1 -> Check.due("identifier()", bus.identifier(), model.identifier());
            case 2 -> Check.due("data()", bus.data(), model.data());
            case 3 -> Check.due("overflowed()", bus.overflowed(), model.overflowed());
            case 4 -> Check.due("state(" + f + ")", bus.state(f), model.state(f));
            case 5 -> Check.due("address(" + f + ")", bus.address(f), model.address(f));
            case 6 -> Check.due("outgoing(" + f + ")", bus.outgoing(f), model.outgoing(f));
            case 7 -> Check.due("incoming(" + f + ")", bus.incoming(f), model.incoming(f));
            case 8 -> Check.due("delivered(" + f + ")", bus.delivered(f), model.delivered(f));
            case 9 -> Check.due("byteOf(" + f + ", " + i + ")", bus.byteOf(f, i), model.byteOf(f, i));
            case 10 -> Check.due("noted(" + f + ", " + g + ")", bus.noted(f, g), model.noted(f, g));
            default -> Check.due("message(" + f + ", " + g + ")", bus.message(f, g), model.message(f, g));
        }
    }
}
