/** What "Terms" says of frames: how many wait, which one is next, and whom a delivered one reaches. */
public final class FrameTest {
    public static void main(String[] args) {
        atMost48Wait();
        lostFrameNeverComes();
        claimThatFinds48();
        sendThatFinds48();
        grantThatFinds48();
        packetsThatFind48();
        doneThatFinds48();
        abortThatFinds48();
        nextIsTheLeast();
        nextHasWaitedLongest();
        framesWaitOn();
        reachesInTheOrderOfNumbers();
        answersWaitBeforeTheNextIsReached();
        reachesNotItsSender();
        claimReachesAllButOff();
        requestReachesAllButOff();
        allReachesThoseThatHold();
        directedReachesHoldersOfTheAddress();
        Check.end();
    }

    private static void atMost48Wait() {
        Check.of("there are at most 48");
        AddressClaimBus bus = Frames.holding(1);
        Frames.fill(bus, 0, 47);
        Check.due("waiting()", bus.waiting(), 47);
        bus.request(0);
        Check.due("the last one that finds room", bus.waiting(), 48);
        Check.due("overflowed()", bus.overflowed(), 0);
        bus.request(0);
        Check.due("waiting()", bus.waiting(), 48);
        Check.due("overflowed()", bus.overflowed(), 1);
        bus.lose();
        bus.request(0);
        Check.due("there is room again", bus.waiting(), 48);
        Check.due("overflowed()", bus.overflowed(), 1);
    }

    private static void lostFrameNeverComes() {
        Check.of("a frame that finds 48 waiting is lost");
        AddressClaimBus bus = Frames.holding(1);
        Frames.fill(bus, 0, 48);
        Check.due("start(1)", bus.start(1, 9L, 99), true);
        Check.due("overflowed()", bus.overflowed(), 1);
        Frames.lose(bus, 48);
        Check.due("waiting()", bus.waiting(), 0);
        Check.due("identifier()", bus.identifier(), -1);
        Check.due("it claims all the same", bus.state(1), 1);
        Check.due("tick(250)", bus.tick(250), 1);
        Check.due("and holds", bus.state(1), 2);
    }

    private static void claimThatFinds48() {
        Check.of("a CLAIM that finds 48 waiting");
        AddressClaimBus bus = Frames.holding(5);
        bus.stop(2);
        Frames.fillBehind(bus, 47);
        bus.start(2, 9L, 10);
        Check.due("waiting()", bus.waiting(), 48);
        bus.deliver(true);
        Check.due("function 0 keeps its address", bus.state(0), 2);
        Check.due("its CLAIM is lost", bus.overflowed(), 1);
        bus.deliver(false);
        Check.due("its CLAIM waits", bus.data(), 1L);
        bus.deliver(true);
        Check.due("function 2 is unable", bus.state(2), 3);
        Check.due("its CLAIM is lost too", bus.overflowed(), 2);
        Check.due("waiting()", bus.waiting(), 48);
    }

    private static void sendThatFinds48() {
        Check.of("an OPEN or ALL that finds 48 waiting");
        AddressClaimBus bus = Frames.holding(3);
        Frames.fill(bus, 2, 48);
        Check.due("send(0)", bus.send(0, 11, 1, 9, 0L), true);
        Check.due("send(1)", bus.send(1, 255, 1, 9, 0L), true);
        Check.due("overflowed()", bus.overflowed(), 2);
        Check.due("outgoing(0)", bus.outgoing(0), 2);
        Check.due("outgoing(1)", bus.outgoing(1), 1);
        Check.due("both packets to all are lost", bus.tick(100), 2);
        Check.due("overflowed()", bus.overflowed(), 4);
        Check.due("outgoing(1)", bus.outgoing(1), 10);
        Check.due("the ABORT is lost", bus.tick(1150), 1);
        Check.due("overflowed()", bus.overflowed(), 5);
        Check.due("outgoing(0)", bus.outgoing(0), 11);
    }

    private static void grantThatFinds48() {
        Check.of("a GRANT that finds 48 waiting");
        AddressClaimBus bus = Frames.holding(5);
        Frames.fillBehind(bus, 47);
        bus.send(0, 11, 1, 9, 0L);
        bus.deliver(true);
        Check.due("overflowed()", bus.overflowed(), 1);
        Check.due("the session began", bus.incoming(1), 1);
        Check.due("the OPEN is still next", bus.identifier(), Frames.control(11, 10));
        bus.deliver(false);
        Check.due("now the GRANT finds room", bus.data(), Frames.grant(2, 1, 1));
        Check.due("overflowed()", bus.overflowed(), 1);
    }

    private static void packetsThatFind48() {
        Check.of("packets of which some find 48 waiting");
        AddressClaimBus bus = Frames.holding(5);
        Frames.fillBehind(bus, 46);
        bus.send(0, 11, 1, 21, 0L);
        bus.deliver(false);
        Check.due("waiting()", bus.waiting(), 47);
        bus.deliver(false);
        Check.due("packets 1 and 2 wait", bus.waiting(), 48);
        Check.due("packet 3 is lost", bus.overflowed(), 1);
        Check.due("packet 1", bus.data() & 255L, 1);
        bus.deliver(false);
        Check.due("packet 2", bus.data() & 255L, 2);
        bus.deliver(false);
        Check.due("none behind it", bus.identifier(), Frames.control(253, 14));
        Check.due("waiting()", bus.waiting(), 46);
    }

    private static void doneThatFinds48() {
        Check.of("a DONE that finds 48 waiting");
        AddressClaimBus bus = Frames.holding(5);
        Frames.fillBehind(bus, 46);
        bus.send(0, 11, 1, 9, 0L);
        Frames.deliver(bus, 3);
        bus.send(4, 253, 0, 9, 0L);
        Check.due("waiting()", bus.waiting(), 48);
        bus.deliver(true);
        Check.due("overflowed()", bus.overflowed(), 1);
        Check.due("the message is there", bus.delivered(1), 1);
        Check.due("incoming(1)", bus.incoming(1), 0);
        Check.due("the sender does not know", bus.outgoing(0), 2);
    }

    private static void abortThatFinds48() {
        Check.of("an ABORT that finds 48 waiting");
        AddressClaimBus bus = Frames.holding(5);
        Frames.fillBehind(bus, 46);
        for (int f = 1; f <= 2; f++) {
            bus.send(f, 10, f, 9, 0L);
            bus.deliver(false);
            bus.lose();
        }
        bus.send(3, 10, 3, 9, 0L);
        bus.send(4, 253, 0, 9, 0L);
        Check.due("waiting()", bus.waiting(), 48);
        bus.deliver(true);
        Check.due("overflowed()", bus.overflowed(), 1);
        Check.due("incoming(0)", bus.incoming(0), 2);
        bus.deliver(false);
        Check.due("now it finds room", bus.data(), Frames.abort(2, 3));
    }

    private static void nextIsTheLeast() {
        Check.of("The NEXT frame is the one with the least identifier");
        AddressClaimBus bus = Frames.holding(3);
        bus.send(2, 255, 1, 9, 0L);
        bus.send(1, 12, 1, 9, 0L);
        bus.send(0, 12, 1, 9, 0L);
        bus.tick(50);
        bus.start(4, 9L, 253);
        bus.start(3, 8L, 0);
        bus.request(1);
        bus.request(0);
        int[] due = {
            Frames.request(10), Frames.request(11), Frames.claim(0), Frames.claim(253), Frames.packet(255, 12),
            Frames.control(12, 10), Frames.control(12, 11), Frames.control(255, 12), -1,
        };
        for (int identifier : due) {
            Check.due("identifier()", bus.identifier(), identifier);
            bus.lose();
        }
    }

    private static void nextHasWaitedLongest() {
        Check.of("of several with the same one it is the one that has waited longest");
        AddressClaimBus bus = new AddressClaimBus();
        long[] names = {7L, 5L, 9L, 6L, 8L};
        for (int f = 4; f >= 0; f--) {
            bus.start(f, names[f], 20);
        }
        bus.request(0);
        Check.due("the last one that was sent is next", bus.identifier(), Frames.request(20));
        bus.lose();
        bus.stop(2);
        for (int f : new int[] {4, 3, 1, 0}) {
            Check.due("identifier()", bus.identifier(), Frames.claim(20));
            Check.due("data()", bus.data(), names[f]);
            bus.lose();
        }
        Check.due("waiting()", bus.waiting(), 0);
    }

    private static void framesWaitOn() {
        Check.of("Frames wait until they are delivered or lost by a call");
        AddressClaimBus bus = Frames.holding(2);
        bus.send(0, 11, 1, 9, 0L);
        for (int i = 0; i < 4; i++) {
            bus.tick(2000);
        }
        Check.due("the OPEN and an ABORT", bus.waiting(), 2);
        Check.due("data()", bus.data(), Frames.open(9, 2, 1));
        bus.start(2, 0L, 10);
        bus.deliver(false);
        Check.due("function 0 lost its address", bus.address(0), 254);
        bus.lose();
        Check.due("its frames wait on", bus.waiting(), 2);
        Check.due("with the source that they had", bus.identifier(), Frames.control(11, 10));
    }

    private static void reachesInTheOrderOfNumbers() {
        Check.of("REACHES, in the order of their numbers");
        AddressClaimBus bus = new AddressClaimBus();
        for (int f = 4; f >= 0; f--) {
            bus.start(f, 40L + f, f == 3 ? 50 : 20);
        }
        Frames.lose(bus, 5);
        bus.request(3);
        bus.deliver(false);
        for (int f : new int[] {0, 1, 2, 4}) {
            Check.due("identifier()", bus.identifier(), Frames.claim(20));
            Check.due("data()", bus.data(), 40L + f);
            bus.lose();
        }
    }

    private static void answersWaitBeforeTheNextIsReached() {
        Check.of("What a function sends then waits before the frame reaches the next one");
        for (int room = 0; room <= 4; room++) {
            AddressClaimBus bus = Frames.holding(5);
            Frames.fill(bus, 4, 48 - room);
            bus.deliver(true);
            Check.due("answers that found no room", bus.overflowed(), 4 - room);
            Frames.lose(bus, 48 - room);
            for (int f = 0; f < room; f++) {
                Check.due("an answer that did", bus.identifier(), Frames.claim(10 + f));
                bus.lose();
            }
            Check.due("waiting()", bus.waiting(), 0);
        }
    }

    private static void reachesNotItsSender() {
        Check.of("the functions but its sender");
        AddressClaimBus bus = new AddressClaimBus();
        bus.start(0, -1L, 10);
        bus.lose();
        bus.tick(250);
        bus.send(0, 128, 1, 9, 0L);
        bus.start(1, 1L, 10);
        bus.deliver(false);
        Check.due("the sender moves to where it sent", bus.address(0), 128);
        bus.deliver(false);
        Check.due("nor its own CLAIM", bus.noted(0, 0), -1);
        bus.tick(250);
        Check.due("state(0)", bus.state(0), 2);
        Frames.deliverThis(bus, Frames.control(128, 10), Frames.open(9, 2, 1));
        Check.due("its own OPEN does not reach it", bus.incoming(0), 0);
        Check.due("waiting()", bus.waiting(), 0);
    }

    private static void claimReachesAllButOff() {
        Check.of("a CLAIM reaches those that are not OFF");
        AddressClaimBus bus = Frames.inEachState();
        bus.start(4, 7L, 14);
        bus.deliver(false);
        for (int f = 1; f <= 3; f++) {
            Check.due("noted(" + f + ", 4)", bus.noted(f, 4), 14);
        }
        bus.start(0, 8L, 15);
        Check.due("it did not reach the one that was off", bus.noted(0, 4), -1);
    }

    private static void requestReachesAllButOff() {
        Check.of("a REQUEST reaches those that are not OFF");
        AddressClaimBus bus = Frames.inEachState();
        bus.start(4, 7L, 14);
        bus.lose();
        bus.request(4);
        bus.deliver(false);
        for (int source : new int[] {20, 21, 254}) {
            Check.due("identifier()", bus.identifier(), Frames.claim(source));
            bus.lose();
        }
        Check.due("waiting()", bus.waiting(), 0);
    }

    private static void allReachesThoseThatHold() {
        Check.of("a CONTROL with target 255 reaches those that are HOLDING");
        AddressClaimBus bus = Frames.inEachState();
        bus.tick(250);
        bus.start(4, 7L, 14);
        bus.lose();
        bus.send(2, 255, 1, 9, 0L);
        bus.deliver(true);
        Check.due("off", bus.incoming(0), -1);
        Check.due("holding", bus.incoming(1), 1);
        Check.due("the sender", bus.incoming(2), 0);
        Check.due("unable", bus.incoming(3), 0);
        Check.due("claiming", bus.incoming(4), 0);
        bus.start(0, 8L, 15);
        Check.due("it did not reach the one that was off", bus.incoming(0), 0);
    }

    private static void directedReachesHoldersOfTheAddress() {
        Check.of("one with another target reaches those that are HOLDING with this address");
        AddressClaimBus bus = Frames.holding(3);
        bus.start(3, 8L, 11);
        bus.lose();
        bus.tick(249);
        bus.send(0, 11, 1, 9, 0L);
        bus.deliver(true);
        Check.due("holding with it", bus.incoming(1), 1);
        Check.due("holding with another", bus.incoming(2), 0);
        Check.due("claiming it", bus.incoming(3), 0);
        bus.lose();
        bus.tick(1);
        bus.deliver(false);
        Check.due("holding it now", bus.incoming(3), 1);
        Check.due("holding with another", bus.incoming(2), 0);
    }
}
