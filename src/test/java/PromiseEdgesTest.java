/** For each sentence of a promise that names an edge, an empty or full state or a refused call: a test of its own. */
public final class PromiseEdgesTest {
    private static final int[] NO_FUNCTIONS = {-1, 5, Integer.MIN_VALUE, Integer.MAX_VALUE};

    public static void main(String[] args) {
        startOfNoFunction();
        startOfOneThatIsNotOff();
        startAddresses();
        startWithTheNameOfAnother();
        startAfresh();
        stopRefused();
        stopEndsSessions();
        stopTakesFramesAway();
        stopEmptiesAFullBus();
        busyWhileOff();
        busyChangedSomething();
        stateOfNoFunction();
        addressOfNone();
        notedNothing();
        requestRefused();
        sendOfNoFunction();
        sendTargets();
        sendGroupsAndSizes();
        sendAfterAnEnd();
        identifierOfNone();
        dataOfNone();
        deliverRefused();
        deliverKeeping();
        loseRefused();
        overflowedInAllCalls();
        tickAtTheEdges();
        outgoingOfNone();
        incomingOfNone();
        deliveredOfNone();
        messageOfNone();
        byteOfNone();
        Check.end();
    }

    private static void startOfNoFunction() {
        Check.of("Promise 2: Refused (false) when f is not 0 .. 4");
        AddressClaimBus bus = new AddressClaimBus();
        for (int f : NO_FUNCTIONS) {
            Check.due("start(" + f + ")", bus.start(f, 1L, 10), false);
        }
        Check.due("waiting()", bus.waiting(), 0);
        for (int f = 0; f < 5; f++) {
            Check.due("start(" + f + ")", bus.start(f, f, 10 + f), true);
        }
        Check.due("waiting()", bus.waiting(), 5);
    }

    private static void startOfOneThatIsNotOff() {
        Check.of("Promise 2: Refused (false) when it is not off");
        AddressClaimBus bus = Frames.inEachState();
        for (int f = 1; f <= 3; f++) {
            int address = bus.address(f);
            Check.due("start(" + f + ")", bus.start(f, 99L, 30), false);
            Check.due("state", bus.state(f), f);
            Check.due("address", bus.address(f), address);
        }
        Check.due("waiting()", bus.waiting(), 0);
        Check.due("99 is the name of nobody", bus.start(0, 99L, 30), true);
    }

    private static void startAddresses() {
        Check.of("Promise 2: Refused (false) when address is not 0 .. 253");
        AddressClaimBus bus = new AddressClaimBus();
        for (int address : new int[] {-1, 254, 255, 256, Integer.MIN_VALUE, Integer.MAX_VALUE}) {
            Check.due("start at " + address, bus.start(0, 1L, address), false);
        }
        Check.due("waiting()", bus.waiting(), 0);
        Check.due("state(0)", bus.state(0), 0);
        Check.due("start at 0", bus.start(0, 1L, 0), true);
        Check.due("start at 253", bus.start(4, 2L, 253), true);
        Check.due("address(0)", bus.address(0), 0);
        Check.due("address(4)", bus.address(4), 253);
    }

    private static void startWithTheNameOfAnother() {
        Check.of("Promise 2: or another function that is not off has this name");
        AddressClaimBus bus = Frames.inEachState();
        for (long name = 11L; name <= 13L; name++) {
            Check.due("name " + name, bus.start(0, name, 30), false);
        }
        Check.due("state(0)", bus.state(0), 0);
        bus.stop(3);
        Check.due("the name of one that is off", bus.start(0, 13L, 30), true);
        Check.due("which can't have it now", bus.start(3, 13L, 20), false);
        bus.stop(1);
        Check.due("its own name of before", bus.start(1, 11L, 20), true);
        bus = new AddressClaimBus();
        Check.due("name 0, which no function had", bus.start(0, 0L, 20), true);
    }

    private static void startAfresh() {
        Check.of("Promise 2: It has no session, no result (0), nothing noted, and nothing delivered");
        AddressClaimBus bus = Frames.holding(2);
        bus.send(0, 11, 1, 9, 5L);
        Frames.deliverAll(bus);
        bus.send(1, 10, 1, 9, 5L);
        bus.deliver(false);
        Check.due("incoming(0)", bus.incoming(0), 1);
        bus.send(0, 99, 1, 9, 5L);
        bus.stop(0);
        Check.due("start(0)", bus.start(0, 1L, 10), true);
        Check.due("outgoing(0)", bus.outgoing(0), 0);
        Check.due("incoming(0)", bus.incoming(0), 0);
        Check.due("noted(0, 1)", bus.noted(0, 1), -1);
        bus.stop(1);
        bus.start(1, 2L, 11);
        Check.due("delivered(1)", bus.delivered(1), 0);
        Check.due("message(1, 0)", bus.message(1, 0), -1);
        Check.due("byteOf(1, 0)", bus.byteOf(1, 0), -1);
        Check.due("outgoing(1)", bus.outgoing(1), 0);
        Check.due("tick(2000): the two of 250 ms alone", bus.tick(2000), 2);
    }

    private static void stopRefused() {
        Check.of("Promise 3: Refused (false) when f is not 0 .. 4 or it is off");
        AddressClaimBus bus = Frames.inEachState();
        for (int f : NO_FUNCTIONS) {
            Check.due("stop(" + f + ")", bus.stop(f), false);
        }
        Check.due("stop(0)", bus.stop(0), false);
        for (int f = 1; f <= 3; f++) {
            Check.due("stop(" + f + ")", bus.stop(f), true);
            Check.due("state", bus.state(f), 0);
            Check.due("address", bus.address(f), -1);
            Check.due("stop(" + f + ") again", bus.stop(f), false);
        }
        Check.due("no 250 ms run", bus.tick(2000), 0);
        Check.due("state(1)", bus.state(1), 0);
    }

    private static void stopEndsSessions() {
        Check.of("Promise 3: Function f is off: its sessions end");
        AddressClaimBus bus = Frames.holding(4);
        for (int f = 0; f <= 2; f += 2) {
            bus.send(f, 11, 1, 9, 0L);
            bus.deliver(false);
            bus.lose();
        }
        bus.send(1, 13, 1, 9, 0L);
        Check.due("incoming(1)", bus.incoming(1), 2);
        Check.due("outgoing(1)", bus.outgoing(1), 2);
        bus.stop(1);
        bus.start(1, 2L, 11);
        Check.due("incoming(1)", bus.incoming(1), 0);
        Check.due("outgoing(1)", bus.outgoing(1), 0);
        bus.stop(0);
        bus.stop(2);
        bus.stop(3);
        Check.due("its 250 ms alone", bus.tick(2000), 1);
    }

    private static void stopTakesFramesAway() {
        Check.of("Promise 3: its frames that wait are taken away");
        AddressClaimBus bus = Frames.holding(3);
        bus.request(1);
        bus.request(0);
        bus.request(1);
        bus.request(2);
        bus.request(1);
        Check.due("stop(1)", bus.stop(1), true);
        Check.due("waiting()", bus.waiting(), 2);
        Check.due("identifier()", bus.identifier(), Frames.request(10));
        bus.lose();
        Check.due("identifier()", bus.identifier(), Frames.request(12));
        Check.due("overflowed()", bus.overflowed(), 0);
    }

    private static void stopEmptiesAFullBus() {
        Check.of("Promise 3: its frames that wait are taken away: all 48, or none");
        AddressClaimBus bus = Frames.holding(3);
        Frames.fill(bus, 0, 48);
        bus.stop(1);
        Check.due("none", bus.waiting(), 48);
        bus.stop(0);
        Check.due("all", bus.waiting(), 0);
        Check.due("identifier()", bus.identifier(), -1);
        bus.request(2);
        Check.due("there is room", bus.waiting(), 1);
        Check.due("overflowed()", bus.overflowed(), 0);
    }

    private static void busyWhileOff() {
        Check.of("Promise 4: The function becomes busy, or is busy no more (also while it is off)");
        AddressClaimBus bus = Frames.holding(1);
        Check.due("busy(1, true)", bus.busy(1, true), true);
        bus.start(1, 2L, 11);
        bus.lose();
        bus.tick(250);
        bus.send(0, 11, 1, 9, 0L);
        bus.deliver(false);
        Check.due("it holds the sender", bus.data(), Frames.grant(0, 1, 1));
        bus.stop(1);
        Check.due("busy(1, false)", bus.busy(1, false), true);
        bus.start(1, 2L, 11);
        bus.lose();
        Frames.restart(bus, 0);
        bus.send(0, 11, 1, 9, 0L);
        bus.deliver(false);
        Check.due("it grants", bus.data(), Frames.grant(2, 1, 1));
    }

    private static void busyChangedSomething() {
        Check.of("Promise 4: Whether that changed something; false when f is not 0 .. 4");
        AddressClaimBus bus = Frames.inEachState();
        for (int f = 0; f < 5; f++) {
            Check.due("not busy at first", bus.busy(f, false), false);
            Check.due("busy(f, true)", bus.busy(f, true), true);
            Check.due("busy(f, true) again", bus.busy(f, true), false);
        }
        for (int f = 0; f < 5; f++) {
            Check.due("busy(f, false)", bus.busy(f, false), true);
            Check.due("busy(f, false) again", bus.busy(f, false), false);
        }
        for (int f : NO_FUNCTIONS) {
            Check.due("busy(" + f + ", true)", bus.busy(f, true), false);
            Check.due("busy(" + f + ", false)", bus.busy(f, false), false);
        }
    }

    private static void stateOfNoFunction() {
        Check.of("Promise 5: 0 to 3 as said above; -1 when f is not 0 .. 4");
        AddressClaimBus bus = Frames.inEachState();
        for (int f : NO_FUNCTIONS) {
            Check.due("state(" + f + ")", bus.state(f), -1);
        }
        Check.due("state(4)", bus.state(4), 0);
    }

    private static void addressOfNone() {
        Check.of("Promise 6: 254 when it is unable; -1 when it is off or not 0 .. 4");
        AddressClaimBus bus = Frames.inEachState();
        int[] due = {-1, 21, 20, 254, -1};
        for (int f = 0; f < 5; f++) {
            Check.due("address(" + f + ")", bus.address(f), due[f]);
        }
        for (int f : NO_FUNCTIONS) {
            Check.due("address(" + f + ")", bus.address(f), -1);
        }
    }

    private static void notedNothing() {
        Check.of("Promise 7: -1 when it has noted nothing, f is off, or one of them is not 0 .. 4");
        AddressClaimBus bus = Frames.holding(3);
        Check.due("noted(0, 2)", bus.noted(0, 2), 12);
        Check.due("itself", bus.noted(0, 0), -1);
        Check.due("one that never claimed", bus.noted(0, 3), -1);
        Check.due("f is off", bus.noted(3, 0), -1);
        bus.stop(2);
        Check.due("f is off again", bus.noted(2, 0), -1);
        Check.due("g is off, and noted", bus.noted(0, 2), 12);
        for (int f : NO_FUNCTIONS) {
            Check.due("noted(" + f + ", 0)", bus.noted(f, 0), -1);
            Check.due("noted(0, " + f + ")", bus.noted(0, f), -1);
            Check.due("noted(" + f + ", " + f + ")", bus.noted(f, f), -1);
        }
    }

    private static void requestRefused() {
        Check.of("Promise 8: Refused (false) when it is off or not 0 .. 4");
        AddressClaimBus bus = Frames.inEachState();
        for (int f : NO_FUNCTIONS) {
            Check.due("request(" + f + ")", bus.request(f), false);
        }
        Check.due("request(0)", bus.request(0), false);
        Check.due("waiting()", bus.waiting(), 0);
        for (int f = 1; f <= 3; f++) {
            Check.due("request(" + f + ")", bus.request(f), true);
            Check.due("waiting()", bus.waiting(), f);
        }
    }

    private static void sendOfNoFunction() {
        Check.of("Promise 9: Refused (false) when f is not 0 .. 4 or not holding");
        AddressClaimBus bus = Frames.inEachState();
        for (int f : NO_FUNCTIONS) {
            Check.due("send(" + f + ")", bus.send(f, 11, 1, 9, 0L), false);
        }
        for (int target : new int[] {100, 255}) {
            Check.due("off", bus.send(0, target, 1, 9, 0L), false);
            Check.due("claiming", bus.send(1, target, 1, 9, 0L), false);
            Check.due("unable", bus.send(3, target, 1, 9, 0L), false);
        }
        Check.due("waiting()", bus.waiting(), 0);
        Check.due("holding", bus.send(2, 100, 1, 9, 0L), true);
        bus.tick(249);
        Check.due("claiming for 249 ms", bus.send(1, 100, 1, 9, 0L), false);
        bus.tick(1);
        Check.due("holding after 250", bus.send(1, 100, 1, 9, 0L), true);
    }

    private static void sendTargets() {
        Check.of("Promise 9: target is not 0 .. 253 or 255, or it is its own address");
        int[] targets = {Integer.MIN_VALUE, -1, 0, 1, 127, 252, 253, 254, 255, 256, Integer.MAX_VALUE};
        for (int own : new int[] {0, 128, 253}) {
            for (int target : targets) {
                AddressClaimBus bus = new AddressClaimBus();
                bus.start(0, 1L, own);
                bus.lose();
                bus.tick(250);
                boolean due = target >= 0 && target <= 253 && target != own || target == 255;
                Check.due("send from " + own + " to " + target, bus.send(0, target, 1, 9, 0L), due);
                Check.due("waiting()", bus.waiting(), due ? 1 : 0);
                Check.due("outgoing(0)", bus.outgoing(0), due ? target == 255 ? 1 : 2 : 0);
                Check.due("its own address", bus.send(0, own, 1, 9, 0L), false);
            }
        }
    }

    private static void sendGroupsAndSizes() {
        Check.of("Promise 9: or group or size is out of range");
        for (int target : new int[] {11, 255}) {
            for (int group : new int[] {Integer.MIN_VALUE, -1, 0, 262143, 262144, Integer.MAX_VALUE}) {
                AddressClaimBus bus = Frames.holding(1);
                boolean due = group >= 0 && group < 262144;
                Check.due("group " + group, bus.send(0, target, group, 9, 0L), due);
                Check.due("waiting()", bus.waiting(), due ? 1 : 0);
            }
            for (int size : new int[] {Integer.MIN_VALUE, -9, 0, 7, 8, 9, 49, 50, 255, 265, Integer.MAX_VALUE}) {
                AddressClaimBus bus = Frames.holding(1);
                boolean due = size == 9 || size == 49;
                Check.due("size " + size, bus.send(0, target, 1, size, 0L), due);
                Check.due("waiting()", bus.waiting(), due ? 1 : 0);
            }
        }
    }

    private static void sendAfterAnEnd() {
        Check.of("Promise 9: it has an outgoing session: not when that has ended");
        AddressClaimBus bus = Frames.holding(2);
        bus.send(0, 255, 1, 9, 0L);
        Check.due("tick(99)", bus.tick(99), 1);
        Check.due("the last packet is not sent", bus.send(0, 255, 1, 9, 0L), false);
        bus.tick(1);
        Check.due("it is sent", bus.send(0, 11, 1, 9, 0L), true);
        Check.due("a session again", bus.outgoing(0), 2);
        bus.tick(1249);
        Check.due("not yet given up", bus.send(0, 11, 1, 9, 0L), false);
        bus.tick(1);
        Check.due("given up", bus.send(0, 255, 1, 9, 0L), true);
        Check.due("a session again", bus.outgoing(0), 1);
    }

    private static void identifierOfNone() {
        Check.of("Promise 11: The identifier of the next frame; -1 when none waits");
        AddressClaimBus bus = Frames.holding(1);
        Check.due("after a delivery", bus.identifier(), -1);
        bus.request(0);
        Check.due("one waits", bus.identifier(), Frames.request(10));
        bus.lose();
        Check.due("after a loss", bus.identifier(), -1);
        bus.request(0);
        bus.stop(0);
        Check.due("after a stop", bus.identifier(), -1);
    }

    private static void dataOfNone() {
        Check.of("Promise 12: The data of the next frame; 0 when none waits");
        AddressClaimBus bus = new AddressClaimBus();
        bus.start(0, 0L, 0);
        Check.due("a frame with the data 0", bus.data(), 0L);
        Check.due("it waits", bus.waiting(), 1);
        bus.stop(0);
        bus.start(0, -1L, 0);
        Check.due("a frame with all bits", bus.data(), -1L);
        bus.deliver(false);
        Check.due("after a delivery", bus.data(), 0L);
        bus.request(0);
        bus.lose();
        Check.due("after a loss", bus.data(), 0L);
        bus.request(0);
        bus.stop(0);
        Check.due("after a stop", bus.data(), 0L);
    }

    private static void deliverRefused() {
        Check.of("Promise 13: Refused (false) when none waits");
        AddressClaimBus bus = new AddressClaimBus();
        bus.start(0, 1L, 10);
        Check.due("kept", bus.deliver(true), true);
        Check.due("kept again", bus.deliver(true), true);
        Check.due("delivered", bus.deliver(false), true);
        Check.due("deliver(false)", bus.deliver(false), false);
        Check.due("deliver(true)", bus.deliver(true), false);
    }

    private static void deliverKeeping() {
        Check.of("Promise 13: taken away before it reaches anyone, but with keep it goes on waiting where it was");
        AddressClaimBus bus = new AddressClaimBus();
        bus.start(0, 7L, 10);
        bus.start(1, 8L, 10);
        Check.due("deliver(true)", bus.deliver(true), true);
        Check.due("state(1)", bus.state(1), 3);
        Check.due("it waits on, and the answer behind it", bus.waiting(), 3);
        Check.due("where it was", bus.data(), 7L);
        Check.due("deliver(false)", bus.deliver(false), true);
        Check.due("data()", bus.data(), 8L);
        Frames.fill(bus, 0, 60);
        Check.due("waiting()", bus.waiting(), 48);
        Check.due("overflowed()", bus.overflowed(), 14);
        bus.deliver(true);
        Check.due("kept, it leaves no room for the answer", bus.overflowed(), 15);
        bus.deliver(false);
        Check.due("taken away before, it leaves room", bus.overflowed(), 15);
        Check.due("waiting()", bus.waiting(), 48);
    }

    private static void loseRefused() {
        Check.of("Promise 14: Refused (false) when none waits");
        AddressClaimBus bus = new AddressClaimBus();
        Check.due("lose()", bus.lose(), false);
        bus.start(0, 1L, 10);
        Frames.fill(bus, 0, 47);
        for (int left = 47; left >= 0; left--) {
            Check.due("lose()", bus.lose(), true);
            Check.due("waiting()", bus.waiting(), left);
        }
        Check.due("lose()", bus.lose(), false);
        Check.due("overflowed()", bus.overflowed(), 0);
    }

    private static void overflowedInAllCalls() {
        Check.of("Promise 15: in an object's 512 calls");
        AddressClaimBus bus = new AddressClaimBus();
        bus.start(0, 7L, 11);
        Frames.fill(bus, 0, 509);
        Check.due("waiting()", bus.waiting(), 48);
        Check.due("overflowed()", bus.overflowed(), 462);
    }

    private static void tickAtTheEdges() {
        Check.of("Promise 16: So many ms pass, 1 .. 2000; Refused (-1) when ms is not that");
        AddressClaimBus bus = Frames.holding(1);
        bus.send(0, 50, 1, 9, 0L);
        for (int ms : new int[] {0, -1, -1250, 2001, Integer.MIN_VALUE, Integer.MAX_VALUE}) {
            Check.due("tick(" + ms + ")", bus.tick(ms), -1);
        }
        Check.due("no time passed", bus.tick(1249), 0);
        Check.due("tick(1)", bus.tick(1), 1);
        bus.start(1, 2L, 11);
        Check.due("tick(2000)", bus.tick(2000), 1);
        bus.start(2, 3L, 12);
        Check.due("at its end too", bus.tick(250), 1);
        Check.due("state(2)", bus.state(2), 2);
    }

    private static void outgoingOfNone() {
        Check.of("Promise 17: the result of the latest one, 0 when there was none; -1 when f is off or not 0 .. 4");
        AddressClaimBus bus = Frames.inEachState();
        int[] due = {-1, 0, 0, 0, -1};
        for (int f = 0; f < 5; f++) {
            Check.due("outgoing(" + f + ")", bus.outgoing(f), due[f]);
        }
        for (int f : NO_FUNCTIONS) {
            Check.due("outgoing(" + f + ")", bus.outgoing(f), -1);
        }
        bus.send(2, 100, 1, 9, 0L);
        bus.tick(1250);
        Check.due("given up", bus.outgoing(2), 11);
        bus.send(2, 255, 1, 9, 0L);
        bus.tick(100);
        Check.due("the latest one", bus.outgoing(2), 10);
    }

    private static void incomingOfNone() {
        Check.of("Promise 18: -1 when it is off or not 0 .. 4");
        AddressClaimBus bus = Frames.inEachState();
        int[] due = {-1, 0, 0, 0, -1};
        for (int f = 0; f < 5; f++) {
            Check.due("incoming(" + f + ")", bus.incoming(f), due[f]);
        }
        for (int f : NO_FUNCTIONS) {
            Check.due("incoming(" + f + ")", bus.incoming(f), -1);
        }
    }

    private static void deliveredOfNone() {
        Check.of("Promise 19: delivered to f since it was started; -1 when it is off or not 0 .. 4");
        AddressClaimBus bus = withMessage(0L);
        Check.due("delivered(0)", bus.delivered(0), 0);
        Check.due("off", bus.delivered(2), -1);
        for (int f : NO_FUNCTIONS) {
            Check.due("delivered(" + f + ")", bus.delivered(f), -1);
        }
        bus.stop(1);
        Check.due("off", bus.delivered(1), -1);
        bus.start(1, 2L, 11);
        Check.due("none since it was started", bus.delivered(1), 0);
    }

    private static void messageOfNone() {
        Check.of("Promise 20: -1 when there was none, f is off or not 0 .. 4, or what is not 0 .. 3");
        AddressClaimBus bus = withMessage(0L);
        int[] due = {10, 0, 49, 0};
        for (int what = 0; what < 4; what++) {
            Check.due("message(1, " + what + ")", bus.message(1, what), due[what]);
            Check.due("none", bus.message(0, what), -1);
            Check.due("off", bus.message(2, what), -1);
        }
        for (int none : new int[] {-1, 4, Integer.MIN_VALUE, Integer.MAX_VALUE}) {
            Check.due("message(1, " + none + ")", bus.message(1, none), -1);
        }
        for (int f : NO_FUNCTIONS) {
            Check.due("message(" + f + ", 0)", bus.message(f, 0), -1);
        }
        bus.stop(1);
        Check.due("off", bus.message(1, 2), -1);
        bus.start(1, 2L, 11);
        for (int what = 0; what < 4; what++) {
            Check.due("none since it was started", bus.message(1, what), -1);
        }
    }

    /** Function 1 at 11 has got 49 bytes of this seed from 10 with the group 0. */
    private static AddressClaimBus withMessage(long seed) {
        AddressClaimBus bus = Frames.holding(2);
        bus.send(0, 11, 0, 49, seed);
        Frames.deliverAll(bus);
        Check.due("delivered(1)", bus.delivered(1), 1);
        return bus;
    }

    private static void byteOfNone() {
        Check.of("Promise 21: Byte i of that message, 0 .. 255; -1 when there is none, or it has no byte i");
        AddressClaimBus bus = withMessage(0xFFL);
        Check.due("byte 0", bus.byteOf(1, 0), 255);
        Check.due("byte 48", bus.byteOf(1, 48), 47);
        for (int i : new int[] {-1, 49, 50, 56, Integer.MIN_VALUE, Integer.MAX_VALUE}) {
            Check.due("byteOf(1, " + i + ")", bus.byteOf(1, i), -1);
        }
        for (int f : NO_FUNCTIONS) {
            Check.due("byteOf(" + f + ", 0)", bus.byteOf(f, 0), -1);
        }
        Check.due("none", bus.byteOf(0, 0), -1);
        Check.due("off", bus.byteOf(2, 0), -1);
        bus.send(0, 11, 0, 9, 0L);
        Frames.deliverAll(bus);
        Check.due("byte 0", bus.byteOf(1, 0), 0);
        Check.due("byte 8 of a shorter one", bus.byteOf(1, 8), 8);
        Check.due("no byte 9 any more", bus.byteOf(1, 9), -1);
        bus.stop(1);
        Check.due("off", bus.byteOf(1, 0), -1);
        bus.start(1, 2L, 11);
        Check.due("none since it was started", bus.byteOf(1, 0), -1);
    }
}
