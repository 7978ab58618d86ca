import java.util.ArrayList;
import java.util.List;
import java.util.function.ToLongFunction;

/**
 * "A call that is refused changes nothing": two objects go through the same run, and at one place after
 * another the second one is also given every call that is refused there, and every call that only asks.
 */
public final class RefusedCallsTest {
    private static final int[] NO_FUNCTIONS = {-1, 5, Integer.MIN_VALUE, Integer.MAX_VALUE};
    private static final int FULL = 48;
    private static final List<ToLongFunction<AddressClaimBus>> RUN = new ArrayList<>();

    public static void main(String[] args) {
        Check.of("A call that is refused changes nothing");
        makeRun();
        for (int place = 0; place <= RUN.size(); place++) {
            AddressClaimBus plain = new AddressClaimBus();
            AddressClaimBus tried = new AddressClaimBus();
            for (int step = 0; step <= RUN.size(); step++) {
                if (step == place) {
                    tryRefusedCalls(tried);
                    ask(tried);
                }
                if (step < RUN.size()) {
                    String call = "step " + step + " after refused calls before step " + place;
                    Check.due(call, RUN.get(step).applyAsLong(tried), RUN.get(step).applyAsLong(plain));
                }
            }
        }
        Check.end();
    }

    private static void step(ToLongFunction<AddressClaimBus> call) {
        RUN.add(call);
    }

    /** Claims, then messages to one other, held and to all, then a bus that is full; all frames are seen. */
    private static void makeRun() {
        step(bus -> bus.start(0, 1L, 10) ? 1 : 0);
        step(bus -> bus.start(1, 2L, 11) ? 1 : 0);
        step(bus -> bus.start(2, -3L, 11) ? 1 : 0);
        step(bus -> bus.tick(100));
        step(RefusedCallsTest::deliverNext);
        step(RefusedCallsTest::deliverNext);
        step(bus -> bus.start(3, 4L, 10) ? 1 : 0);
        step(RefusedCallsTest::deliverAll);
        step(bus -> bus.tick(250));
        step(bus -> bus.tick(50));
        step(bus -> bus.send(0, 11, 7, 30, 99L) ? 1 : 0);
        step(bus -> bus.send(2, 255, 8, 20, 55L) ? 1 : 0);
        step(RefusedCallsTest::deliverNext);
        step(bus -> bus.busy(1, true) ? 1 : 0);
        step(RefusedCallsTest::deliverAll);
        step(bus -> bus.tick(100));
        step(bus -> bus.stop(3) ? 1 : 0);
        step(RefusedCallsTest::deliverAll);
        step(bus -> bus.busy(1, false) ? 1 : 0);
        step(bus -> bus.tick(400));
        step(RefusedCallsTest::deliverNext);
        step(RefusedCallsTest::deliverNext);
        step(RefusedCallsTest::deliverAll);
        step(bus -> bus.byteOf(1, 29) * 1000L + bus.delivered(0));
        step(bus -> fill(bus));
        step(bus -> bus.tick(2000));
        step(RefusedCallsTest::deliverNext);
        step(bus -> bus.overflowed() * 1000L + bus.waiting());
        step(bus -> bus.stop(0) ? 1 : 0);
        step(bus -> bus.stop(1) ? 1 : 0);
        step(RefusedCallsTest::deliverAll);
        step(bus -> bus.tick(2000));
    }

    /** A number that tells the frame from others. */
    private static long deliverNext(AddressClaimBus bus) {
        long frame = bus.data() * 31L + bus.identifier();
        return bus.deliver(false) ? frame : 0L;
    }

    private static long deliverAll(AddressClaimBus bus) {
        long frames = 0L;
        while (bus.waiting() > 0) {
            frames = frames * 37L + deliverNext(bus);
        }
        return frames;
    }

    private static long fill(AddressClaimBus bus) {
        while (bus.waiting() < FULL) {
            bus.request(0);
        }
        return bus.send(0, 11, 7, 30, 99L) ? 1 : 0;
    }

    private static void tryRefusedCalls(AddressClaimBus bus) {
        for (int f : NO_FUNCTIONS) {
            Check.due("start", bus.start(f, 99L, 20), false);
            Check.due("stop", bus.stop(f), false);
            Check.due("busy", bus.busy(f, true), false);
            Check.due("request", bus.request(f), false);
            Check.due("send", bus.send(f, 10, 1, 9, 0L), false);
        }
        for (int f = 0; f < 5; f++) {
            refusedStarts(bus, f);
            refusedSends(bus, f);
            if (bus.state(f) == 0) {
                Check.due("stop", bus.stop(f), false);
                Check.due("request", bus.request(f), false);
            }
        }
        Check.due("tick(0)", bus.tick(0), -1);
        Check.due("tick(2001)", bus.tick(2001), -1);
        Check.due("tick(-250)", bus.tick(-250), -1);
        if (bus.waiting() == 0) {
            Check.due("deliver", bus.deliver(false), false);
            Check.due("deliver", bus.deliver(true), false);
            Check.due("lose", bus.lose(), false);
        }
    }

    private static void refusedStarts(AddressClaimBus bus, int f) {
        Check.due("start at -1", bus.start(f, 99L, -1), false);
        Check.due("start at 254", bus.start(f, 99L, 254), false);
        if (bus.state(f) != 0) {
            Check.due("start of one that is not off", bus.start(f, 99L, 20), false);
        } else if (bus.state(0) != 0) {
            Check.due("start with the name of function 0", bus.start(f, 1L, 20), false);
        }
    }

    private static void refusedSends(AddressClaimBus bus, int f) {
        Check.due("send to 254", bus.send(f, 254, 1, 9, 0L), false);
        Check.due("send to itself", bus.send(f, bus.address(f), 1, 9, 0L), false);
        Check.due("group 262144", bus.send(f, 60, 262144, 9, 0L), false);
        Check.due("size 8", bus.send(f, 60, 1, 8, 0L), false);
        Check.due("size 50", bus.send(f, 255, 1, 50, 0L), false);
        int outgoing = bus.outgoing(f);
        if (bus.state(f) != 2 || outgoing >= 1 && outgoing <= 3) {
            Check.due("send", bus.send(f, 60, 1, 9, 0L), false);
            Check.due("send", bus.send(f, 255, 1, 9, 0L), false);
        }
    }

    /** Nothing that only asks may change anything either. */
    private static void ask(AddressClaimBus bus) {
        for (int f = -1; f <= 5; f++) {
            bus.state(f);
            bus.address(f);
            bus.noted(f, 0);
            bus.noted(0, f);
            bus.outgoing(f);
            bus.incoming(f);
            bus.delivered(f);
            bus.message(f, f);
            bus.byteOf(f, f);
        }
        bus.waiting();
        bus.identifier();
        bus.data();
        bus.overflowed();
    }
}
