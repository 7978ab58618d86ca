/** What "Terms" says of messages to all, and of the order in which timers go off. */
public final class ToAllTest {
    public static void main(String[] args) {
        wholeMessage();
        reachesThoseThatHold();
        gapEndsTheSession();
        repeatedPacketHasNoEffect();
        allAgainBeginsAnew();
        abortAndDoneHaveNoEffect();
        timersByTimeAndNumber();
        timersOfOneFunction();
        incomingInTheOrderTheyBegan();
        orderWhenOneBeginsAnew();
        orderWhenOneEnds();
        timeWhileTimersGoOff();
        Check.end();
    }

    private static void wholeMessage() {
        Check.of("to all");
        AddressClaimBus bus = Frames.holding(3);
        bus.send(0, 255, 0x30201, 16, 0L);
        Frames.deliverThis(bus, Frames.control(255, 10), Frames.bytes(32, 16, 0, 3, 255, 1, 2, 3));
        Check.due("no word of those that it reaches", bus.waiting(), 0);
        Check.due("tick(49)", bus.tick(49), 0);
        Check.due("tick(1)", bus.tick(1), 1);
        Frames.deliverThis(bus, Frames.packet(255, 10), Frames.bytes(1, 0, 1, 2, 3, 4, 5, 6));
        Check.due("tick(50)", bus.tick(50), 1);
        Frames.deliverThis(bus, Frames.packet(255, 10), Frames.bytes(2, 7, 8, 9, 10, 11, 12, 13));
        Check.due("outgoing(0)", bus.outgoing(0), 1);
        Check.due("tick(50)", bus.tick(50), 1);
        Check.due("done with the last one sent", bus.outgoing(0), 10);
        Frames.deliverThis(bus, Frames.packet(255, 10), Frames.bytes(3, 14, 15, 255, 255, 255, 255, 255));
        for (int f = 1; f < 3; f++) {
            Check.due("delivered", bus.delivered(f), 1);
            Check.due("incoming", bus.incoming(f), 0);
            Check.due("source", bus.message(f, 0), 10);
            Check.due("group", bus.message(f, 1), 0x30201);
            Check.due("size", bus.message(f, 2), 16);
            Check.due("to all", bus.message(f, 3), 1);
            Check.due("last byte", bus.byteOf(f, 15), 15);
        }
        Check.due("delivered(0)", bus.delivered(0), 0);
        Check.due("waiting()", bus.waiting(), 0);
        Check.due("no timer is left", bus.tick(2000), 0);
    }

    private static void reachesThoseThatHold() {
        Check.of("to all that hold");
        AddressClaimBus bus = Frames.holding(2);
        bus.start(2, 9L, 12);
        bus.lose();
        bus.send(0, 255, 1, 9, 0L);
        bus.deliver(true);
        Check.due("holding", bus.incoming(1), 1);
        Check.due("claiming", bus.incoming(2), 0);
        Check.due("the sender", bus.incoming(0), 0);
    }

    private static void gapEndsTheSession() {
        Check.of("a lost packet of a message to all");
        AddressClaimBus bus = Frames.holding(2);
        bus.send(0, 255, 1, 20, 0L);
        bus.deliver(false);
        bus.tick(100);
        bus.lose();
        Check.due("incoming(1)", bus.incoming(1), 1);
        bus.deliver(false);
        Check.due("incoming(1)", bus.incoming(1), 0);
        Check.due("waiting()", bus.waiting(), 0);
        bus.tick(50);
        bus.deliver(false);
        Check.due("delivered(1)", bus.delivered(1), 0);
        bus.send(0, 255, 1, 20, 0L);
        bus.deliver(false);
        bus.stop(0);
        Check.due("tick(749)", bus.tick(749), 0);
        Check.due("incoming(1)", bus.incoming(1), 1);
        Check.due("its timer ends it", bus.tick(1), 1);
        Check.due("incoming(1)", bus.incoming(1), 0);
        Check.due("waiting()", bus.waiting(), 0);
    }

    private static void repeatedPacketHasNoEffect() {
        Check.of("a packet of a message to all twice");
        AddressClaimBus bus = Frames.holding(2);
        bus.send(0, 255, 1, 20, 0L);
        bus.deliver(false);
        bus.tick(50);
        bus.deliver(true);
        bus.tick(100);
        bus.deliver(false);
        Check.due("incoming(1)", bus.incoming(1), 1);
        Check.due("tick(649)", bus.tick(649), 0);
        Check.due("it set no timer", bus.tick(1), 1);
        Check.due("incoming(1)", bus.incoming(1), 0);
        bus = Frames.holding(2);
        bus.send(0, 255, 1, 20, 0L);
        bus.deliver(false);
        bus.tick(150);
        bus.deliver(true);
        Frames.deliver(bus, 3);
        Check.due("delivered(1)", bus.delivered(1), 1);
    }

    private static void allAgainBeginsAnew() {
        Check.of("ALL from a source with a session");
        AddressClaimBus bus = Frames.holding(4);
        bus.send(0, 255, 1, 20, 0L);
        bus.send(1, 255, 2, 20, 0L);
        Frames.deliver(bus, 2);
        Check.due("incoming(3)", bus.incoming(3), 2);
        bus.send(2, 255, 3, 9, 0L);
        bus.deliver(false);
        Check.due("a third has no effect", bus.incoming(3), 2);
        bus.tick(150);
        Frames.lose(bus, 8);
        Check.due("waiting()", bus.waiting(), 0);
        bus.send(0, 255, 4, 9, 0L);
        bus.deliver(false);
        Check.due("incoming(3)", bus.incoming(3), 2);
        bus.tick(100);
        Frames.deliver(bus, 2);
        Check.due("delivered(3)", bus.delivered(3), 1);
        Check.due("message(3, 1)", bus.message(3, 1), 4);
        Check.due("message(3, 2)", bus.message(3, 2), 9);
        Check.due("incoming(3)", bus.incoming(3), 1);
    }

    private static void abortAndDoneHaveNoEffect() {
        Check.of("ABORT and sessions to all");
        AddressClaimBus bus = Frames.holding(2);
        bus.send(0, 11, 7, 9, 0L);
        bus.tick(1250);
        bus.lose();
        Check.due("data()", bus.data(), Frames.abort(3, 7));
        bus.send(1, 255, 7, 49, 0L);
        bus.deliver(true);
        Check.due("an outgoing one to all goes on", bus.outgoing(1), 1);
        bus.lose();
        bus.stop(1);
        bus.start(1, 2L, 11);
        bus.lose();
        bus.tick(250);
        bus.send(0, 11, 7, 9, 0L);
        bus.lose();
        bus.tick(1250);
        bus.send(0, 255, 7, 9, 0L);
        Check.due("the ABORT is next", bus.data(), Frames.abort(3, 7));
        bus.deliver(true);
        bus.lose();
        bus.deliver(false);
        Check.due("incoming(1)", bus.incoming(1), 1);
    }

    private static void timersByTimeAndNumber() {
        Check.of("timers of several functions");
        for (int first = 0; first < 4; first++) {
            AddressClaimBus bus = Frames.holding(5);
            for (int f = 3; f >= first; f--) {
                bus.send(f, 40, f, 9, 0L);
            }
            Frames.lose(bus, 4 - first);
            leaveRoomForOne(bus);
            Check.due("tick(1250)", bus.tick(1250), 4 - first);
            Check.due("overflowed()", bus.overflowed(), 3 - first);
            Frames.lose(bus, 47);
            Frames.deliverThis(bus, Frames.control(40, 10 + first), Frames.abort(3, first));
        }
        AddressClaimBus bus = Frames.holding(5);
        bus.send(1, 40, 1, 9, 0L);
        bus.tick(1);
        bus.send(0, 40, 0, 9, 0L);
        Frames.lose(bus, 2);
        leaveRoomForOne(bus);
        Check.due("tick(1250)", bus.tick(1250), 2);
        Frames.lose(bus, 47);
        Frames.deliverThis(bus, Frames.control(40, 11), Frames.abort(3, 1));
    }

    /** With room for one frame alone, the timer that goes off first is the one whose frame waits. */
    private static void leaveRoomForOne(AddressClaimBus bus) {
        Check.due("waiting()", bus.waiting(), 0);
        for (int i = 0; i < 47; i++) {
            bus.request(4);
        }
    }

    private static void timersOfOneFunction() {
        Check.of("the outgoing timer before the incoming ones");
        AddressClaimBus bus = Frames.holding(5);
        bus.send(0, 11, 5, 9, 0L);
        bus.deliver(false);
        bus.send(1, 60, 6, 9, 0L);
        Frames.lose(bus, 2);
        bus.stop(0);
        leaveRoomForOne(bus);
        Check.due("tick(1250)", bus.tick(1250), 2);
        Check.due("overflowed()", bus.overflowed(), 1);
        Frames.lose(bus, 47);
        Frames.deliverThis(bus, Frames.control(60, 11), Frames.abort(3, 6));
    }

    private static void incomingInTheOrderTheyBegan() {
        Check.of("incoming timers in the order in which the sessions began");
        AddressClaimBus bus = Frames.holding(5);
        openAt11(bus, 0);
        openAt11(bus, 2);
        firstToGrant(bus, 0);

        bus = Frames.holding(5);
        openAt11(bus, 2);
        openAt11(bus, 0);
        firstToGrant(bus, 2);
    }

    private static void orderWhenOneBeginsAnew() {
        Check.of("order of sessions when one begins anew");
        AddressClaimBus bus = Frames.holding(5);
        bus.send(2, 11, 2, 9, 0L);
        bus.deliver(true);
        openAt11(bus, 0);
        Check.due("the OPEN that was kept", bus.identifier(), Frames.control(11, 12));
        bus.deliver(false);
        firstToGrant(bus, 0);
    }

    private static void orderWhenOneEnds() {
        Check.of("order of sessions when the first ends and another begins");
        AddressClaimBus bus = Frames.holding(5);
        bus.send(2, 11, 2, 9, 0L);
        bus.deliver(false);
        openAt11(bus, 0);
        Check.due("the GRANT for 2", bus.identifier(), Frames.control(12, 11));
        Frames.deliver(bus, 3);
        Check.due("delivered(1)", bus.delivered(1), 1);
        openAt11(bus, 3);
        firstToGrant(bus, 0);
    }

    /** Function f opens a session with function 1, with its number as group; the answer is lost. */
    private static void openAt11(AddressClaimBus bus, int f) {
        bus.send(f, 11, f, 9, 0L);
        Check.due("identifier()", bus.identifier(), Frames.control(11, 10 + f));
        bus.deliver(false);
        bus.lose();
    }

    private static void firstToGrant(AddressClaimBus bus, int group) {
        bus.stop(0);
        bus.stop(2);
        bus.stop(3);
        Check.due("incoming(1)", bus.incoming(1), 2);
        Frames.lose(bus, 9);
        leaveRoomForOne(bus);
        Check.due("tick(1250)", bus.tick(1250), 2);
        Check.due("overflowed()", bus.overflowed(), 1);
        Frames.lose(bus, 47);
        Check.due("data()", bus.data(), Frames.grant(2, 1, group));
    }

    private static void timeWhileTimersGoOff() {
        Check.of("the time while timers go off");
        AddressClaimBus bus = Frames.holding(1);
        bus.send(0, 255, 1, 9, 0L);
        Check.due("tick(99)", bus.tick(99), 1);
        Check.due("the second is due 50 ms after the first was", bus.tick(1), 1);
        bus.send(0, 255, 1, 49, 0L);
        Check.due("tick(349)", bus.tick(349), 6);
        Check.due("tick(1)", bus.tick(1), 1);
    }
}
