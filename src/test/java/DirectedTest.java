/** What "Terms" says of messages to one other: windows, holding, asking again and giving up. */
public final class DirectedTest {
    public static void main(String[] args) {
        wholeMessage();
        holding();
        busyInTheMiddle();
        gapAsksAgain();
        repeatedFramesHaveNoEffect();
        openAgainBeginsAnew();
        abortEndsBoth();
        twoWithOneAddress();
        toAllAndDirectedFromOneSource();
        Check.end();
    }

    private static void wholeMessage() {
        Check.of("a message of 30 bytes");
        AddressClaimBus bus = Frames.holding(2);
        bus.send(0, 11, 0x30201, 30, 0L);
        Frames.deliverThis(bus, Frames.control(11, 10), Frames.bytes(16, 30, 0, 5, 255, 1, 2, 3));
        Frames.deliverThis(bus, Frames.control(10, 11), Frames.bytes(17, 3, 1, 255, 255, 1, 2, 3));
        Frames.deliverThis(bus, Frames.packet(11, 10), Frames.bytes(1, 0, 1, 2, 3, 4, 5, 6));
        Frames.deliverThis(bus, Frames.packet(11, 10), Frames.bytes(2, 7, 8, 9, 10, 11, 12, 13));
        Frames.deliverThis(bus, Frames.packet(11, 10), Frames.bytes(3, 14, 15, 16, 17, 18, 19, 20));
        Frames.deliverThis(bus, Frames.control(10, 11), Frames.bytes(17, 2, 4, 255, 255, 1, 2, 3));
        Frames.deliverThis(bus, Frames.packet(11, 10), Frames.bytes(4, 21, 22, 23, 24, 25, 26, 27));
        Frames.deliverThis(bus, Frames.packet(11, 10), Frames.bytes(5, 28, 29, 255, 255, 255, 255, 255));
        Check.due("delivered(1)", bus.delivered(1), 1);
        Check.due("incoming(1)", bus.incoming(1), 0);
        Check.due("outgoing(0)", bus.outgoing(0), 2);
        Frames.deliverThis(bus, Frames.control(10, 11), Frames.bytes(19, 30, 0, 5, 255, 1, 2, 3));
        Check.due("outgoing(0)", bus.outgoing(0), 10);
        Check.due("waiting()", bus.waiting(), 0);
        Check.due("no timer is left", bus.tick(2000), 0);
    }

    private static void holding() {
        Check.of("holding");
        AddressClaimBus bus = Frames.holding(2);
        bus.busy(1, true);
        bus.send(0, 11, 7, 9, 0L);
        bus.deliver(false);
        Frames.deliverThis(bus, Frames.control(10, 11), Frames.grant(0, 1, 7));
        Check.due("outgoing(0)", bus.outgoing(0), 3);
        for (int i = 0; i < 6; i++) {
            Check.due("tick(499)", bus.tick(499), 0);
            Check.due("the held one grants every 500 ms", bus.tick(1), 1);
            Frames.deliverThis(bus, Frames.control(10, 11), Frames.grant(0, 1, 7));
        }
        Check.due("holding is no asking again", bus.incoming(1), 1);
        bus.busy(1, false);
        bus.tick(500);
        Frames.deliverThis(bus, Frames.control(10, 11), Frames.grant(2, 1, 7));
        Check.due("outgoing(0)", bus.outgoing(0), 2);
        Frames.deliverAll(bus);
        Check.due("outgoing(0)", bus.outgoing(0), 10);
        bus.busy(1, true);
        bus.send(0, 11, 7, 9, 0L);
        Frames.deliver(bus, 2);
        bus.stop(1);
        Check.due("a held sender waits 1050 ms", bus.tick(1049), 0);
        Check.due("tick(1)", bus.tick(1), 1);
        Check.due("outgoing(0)", bus.outgoing(0), 11);
        Frames.deliverThis(bus, Frames.control(11, 10), Frames.abort(3, 7));
    }

    private static void busyInTheMiddle() {
        Check.of("busy in the middle");
        AddressClaimBus bus = Frames.holding(2);
        bus.send(0, 11, 7, 30, 0L);
        Frames.deliver(bus, 3);
        bus.busy(1, true);
        Frames.deliver(bus, 2);
        Frames.deliverThis(bus, Frames.control(10, 11), Frames.grant(0, 4, 7));
        Check.due("outgoing(0)", bus.outgoing(0), 3);
        bus.busy(1, false);
        Check.due("tick(500)", bus.tick(500), 1);
        Frames.deliverThis(bus, Frames.control(10, 11), Frames.grant(2, 4, 7));
        Frames.deliverAll(bus);
        Check.due("delivered(1)", bus.delivered(1), 1);
        Check.due("outgoing(0)", bus.outgoing(0), 10);
    }

    private static void gapAsksAgain() {
        Check.of("a lost packet");
        AddressClaimBus bus = Frames.holding(2);
        bus.send(0, 11, 7, 40, 100L);
        Frames.deliver(bus, 3);
        bus.lose();
        Check.due("waiting()", bus.waiting(), 1);
        bus.deliver(false);
        Frames.deliverThis(bus, Frames.control(10, 11), Frames.grant(3, 2, 7));
        Check.due("packets 2, 3, 4", bus.waiting(), 3);
        Check.due("packet 2", bus.data() & 255L, 2);
        bus.deliver(false);
        bus.lose();
        bus.lose();
        Check.due("a late timer asks for the second time", bus.tick(750), 1);
        Frames.deliverThis(bus, Frames.control(10, 11), Frames.grant(3, 3, 7));
        Frames.deliverAll(bus);
        Check.due("delivered(1)", bus.delivered(1), 1);
        Check.due("byteOf(1, 39)", bus.byteOf(1, 39), 39);
        Check.due("byteOf(1, 8)", bus.byteOf(1, 8), 108);
        Check.due("outgoing(0)", bus.outgoing(0), 10);
    }

    private static void repeatedFramesHaveNoEffect() {
        Check.of("frames that are delivered twice");
        AddressClaimBus bus = Frames.holding(2);
        bus.send(0, 11, 7, 20, 0L);
        Frames.deliver(bus, 2);
        bus.deliver(true);
        bus.tick(700);
        bus.deliver(false);
        Check.due("packet 1 again sets no timer", bus.tick(50), 1);
        Frames.deliverAll(bus);
        Check.due("delivered(1)", bus.delivered(1), 1);
        Check.due("outgoing(0)", bus.outgoing(0), 10);
        bus.send(0, 11, 7, 9, 0L);
        Frames.deliver(bus, 3);
        bus.deliver(true);
        Check.due("delivered(1)", bus.delivered(1), 2);
        bus.deliver(true);
        Check.due("a packet without a session", bus.waiting(), 2);
        Check.due("delivered(1)", bus.delivered(1), 2);
        bus.lose();
        bus.deliver(true);
        Check.due("outgoing(0)", bus.outgoing(0), 10);
        bus.deliver(true);
        Check.due("DONE without a session", bus.waiting(), 1);
        bus.send(0, 11, 7, 9, 0L);
        Frames.deliverThis(bus, Frames.control(10, 11), Frames.done(9, 2, 7));
        Check.due("an old DONE of the same group ends a new session", bus.outgoing(0), 10);
        Frames.deliverThis(bus, Frames.control(11, 10), Frames.open(9, 2, 7));
        bus.deliver(false);
        Check.due("GRANT without a session", bus.waiting(), 0);
        Check.due("outgoing(0)", bus.outgoing(0), 10);
    }

    private static void openAgainBeginsAnew() {
        Check.of("OPEN from a source with a session");
        AddressClaimBus bus = Frames.holding(3);
        bus.send(2, 11, 2, 9, 0L);
        bus.deliver(false);
        bus.lose();
        bus.send(0, 11, 1, 30, 0L);
        Frames.deliver(bus, 3);
        bus.stop(0);
        bus.start(0, 1L, 10);
        bus.lose();
        bus.tick(250);
        Check.due("incoming(1)", bus.incoming(1), 2);
        bus.send(0, 11, 3, 15, 0L);
        Frames.deliverThis(bus, Frames.control(11, 10), Frames.open(15, 3, 3));
        Check.due("incoming(1)", bus.incoming(1), 2);
        Frames.deliverThis(bus, Frames.control(10, 11), Frames.grant(3, 1, 3));
        Frames.deliverAll(bus);
        Check.due("delivered(1)", bus.delivered(1), 1);
        Check.due("message(1, 0)", bus.message(1, 0), 10);
        Check.due("message(1, 1)", bus.message(1, 1), 3);
        Check.due("message(1, 2)", bus.message(1, 2), 15);
        Check.due("the other goes on", bus.incoming(1), 1);
    }

    private static void abortEndsBoth() {
        Check.of("one ABORT for two sessions");
        AddressClaimBus bus = Frames.holding(2);
        bus.send(0, 11, 5, 9, 0L);
        bus.deliver(false);
        bus.lose();
        bus.tick(100);
        bus.send(1, 10, 5, 9, 0L);
        bus.deliver(false);
        bus.lose();
        Check.due("incoming(0)", bus.incoming(0), 1);
        Check.due("incoming(1)", bus.incoming(1), 1);
        Check.due("the outgoing one before the incoming one", bus.tick(1150), 2);
        Check.due("outgoing(0)", bus.outgoing(0), 11);
        Frames.deliverThis(bus, Frames.control(10, 11), Frames.grant(2, 1, 5));
        Frames.deliverThis(bus, Frames.control(11, 10), Frames.abort(3, 5));
        Check.due("outgoing(1)", bus.outgoing(1), 23);
        Check.due("incoming(1)", bus.incoming(1), 0);
        Check.due("the other side's session stands", bus.incoming(0), 1);
    }

    private static void twoWithOneAddress() {
        Check.of("two that hold one address");
        AddressClaimBus bus = Frames.holding(2);
        bus.start(2, 9L, 11);
        bus.lose();
        bus.tick(250);
        bus.send(0, 11, 5, 9, 0L);
        bus.deliver(false);
        Check.due("both are reached", bus.waiting(), 2);
        Check.due("incoming(1)", bus.incoming(1), 1);
        Check.due("incoming(2)", bus.incoming(2), 1);
        Frames.deliverAll(bus);
        Check.due("delivered(1)", bus.delivered(1), 1);
        Check.due("delivered(2)", bus.delivered(2), 1);
    }

    private static void toAllAndDirectedFromOneSource() {
        Check.of("packets belong to their kind of session");
        AddressClaimBus bus = Frames.holding(2);
        bus.send(0, 255, 1, 9, 0L);
        bus.deliver(false);
        bus.tick(100);
        bus.send(0, 11, 1, 9, 50L);
        Frames.lose(bus, 1);
        Check.due("identifier()", bus.identifier(), Frames.packet(255, 10));
        Frames.lose(bus, 1);
        Frames.deliver(bus, 2);
        Check.due("one of each kind", bus.incoming(1), 2);
        Frames.deliver(bus, 2);
        Check.due("message(1, 3)", bus.message(1, 3), 0);
        Check.due("the one to all waits on", bus.incoming(1), 1);
        Frames.deliverAll(bus);
        Check.due("delivered(1)", bus.delivered(1), 1);
        bus.send(0, 11, 1, 9, 50L);
        Frames.deliver(bus, 1);
        bus.lose();
        bus.tick(1250);
        Check.due("outgoing(0)", bus.outgoing(0), 11);
        bus.send(0, 255, 1, 9, 0L);
        bus.tick(50);
        Frames.deliver(bus, 1);
        Check.due("no session to all, no effect", bus.incoming(1), 1);
    }
}
