/** What "Terms" says of timers: in which order they go off, and what the time is meanwhile. */
public final class TimerTest {
    public static void main(String[] args) {
        timersByTimeAndNumber();
        timersOfOneFunction();
        incomingInTheOrderTheyBegan();
        orderWhenOneBeginsAnew();
        orderWhenOneEnds();
        timeWhileTimersGoOff();
        timeWhileHeldOnesGrant();
        timeWhileLateOnesAsk();
        timeAfterMostCalls();
        Check.end();
    }

    private static void timersByTimeAndNumber() {
        Check.of("timers of several functions");
        for (int first = 0; first < 4; first++) {
            AddressClaimBus bus = Frames.holding(5);
            for (int f = 3; f >= first; f--) {
                bus.send(f, 40, f, 9, 0L);
            }
            Frames.lose(bus, 4 - first);
            leaveRoomForOne(bus);
            Check.due("tick(1250)", bus.tick(1250), 4 - first);
            Check.due("overflowed()", bus.overflowed(), 3 - first);
            Frames.lose(bus, 47);
            Frames.deliverThis(bus, Frames.control(40, 10 + first), Frames.abort(3, first));
        }
        AddressClaimBus bus = Frames.holding(5);
        bus.send(1, 40, 1, 9, 0L);
        bus.tick(1);
        bus.send(0, 40, 0, 9, 0L);
        Frames.lose(bus, 2);
        leaveRoomForOne(bus);
        Check.due("tick(1250)", bus.tick(1250), 2);
        Frames.lose(bus, 47);
        Frames.deliverThis(bus, Frames.control(40, 11), Frames.abort(3, 1));
    }

    /** With room for one frame alone, the timer that goes off first is the one whose frame waits. */
    private static void leaveRoomForOne(AddressClaimBus bus) {
        Check.due("waiting()", bus.waiting(), 0);
        Frames.fill(bus, 4, 47);
    }

    private static void timersOfOneFunction() {
        Check.of("the outgoing timer before the incoming ones");
        AddressClaimBus bus = Frames.holding(5);
        bus.send(0, 11, 5, 9, 0L);
        bus.deliver(false);
        bus.send(1, 60, 6, 9, 0L);
        Frames.lose(bus, 2);
        bus.stop(0);
        leaveRoomForOne(bus);
        Check.due("tick(1250)", bus.tick(1250), 2);
        Check.due("overflowed()", bus.overflowed(), 1);
        Frames.lose(bus, 47);
        Frames.deliverThis(bus, Frames.control(60, 11), Frames.abort(3, 6));
    }

    private static void incomingInTheOrderTheyBegan() {
        Check.of("incoming timers in the order in which the sessions began");
        AddressClaimBus bus = Frames.holding(5);
        openAt11(bus, 0);
        openAt11(bus, 2);
        firstToGrant(bus, 0);

        bus = Frames.holding(5);
        openAt11(bus, 2);
        openAt11(bus, 0);
        firstToGrant(bus, 2);
    }

    private static void orderWhenOneBeginsAnew() {
        Check.of("order of sessions when one begins anew");
        AddressClaimBus bus = Frames.holding(5);
        bus.send(2, 11, 2, 9, 0L);
        bus.deliver(true);
        openAt11(bus, 0);
        Check.due("the OPEN that was kept", bus.identifier(), Frames.control(11, 12));
        bus.deliver(false);
        firstToGrant(bus, 0);
    }

    private static void orderWhenOneEnds() {
        Check.of("order of sessions when the first ends and another begins");
        AddressClaimBus bus = Frames.holding(5);
        bus.send(2, 11, 2, 9, 0L);
        bus.deliver(false);
        openAt11(bus, 0);
        Check.due("the GRANT for 2", bus.identifier(), Frames.control(12, 11));
        Frames.deliver(bus, 3);
        Check.due("delivered(1)", bus.delivered(1), 1);
        openAt11(bus, 3);
        firstToGrant(bus, 0);
    }

    /** Function f opens a session with function 1, with its number as group; the answer is lost. */
    private static void openAt11(AddressClaimBus bus, int f) {
        bus.send(f, 11, f, 9, 0L);
        Check.due("identifier()", bus.identifier(), Frames.control(11, 10 + f));
        bus.deliver(false);
        bus.lose();
    }

    private static void firstToGrant(AddressClaimBus bus, int group) {
        bus.stop(0);
        bus.stop(2);
        bus.stop(3);
        Check.due("incoming(1)", bus.incoming(1), 2);
        Frames.lose(bus, 9);
        leaveRoomForOne(bus);
        Check.due("tick(1250)", bus.tick(1250), 2);
        Check.due("overflowed()", bus.overflowed(), 1);
        Frames.lose(bus, 47);
        Check.due("data()", bus.data(), Frames.grant(2, 1, group));
    }

    private static void timeWhileTimersGoOff() {
        Check.of("the time while timers go off");
        AddressClaimBus bus = Frames.holding(1);
        bus.send(0, 255, 1, 9, 0L);
        Check.due("tick(99)", bus.tick(99), 1);
        Check.due("the second is due 50 ms after the first was", bus.tick(1), 1);
        bus.send(0, 255, 1, 49, 0L);
        Check.due("tick(349)", bus.tick(349), 6);
        Check.due("tick(1)", bus.tick(1), 1);
    }

    private static void timeWhileHeldOnesGrant() {
        Check.of("A timer that is set anew is due that long after the time at which it was due: 500 ms");
        AddressClaimBus bus = Frames.holding(2);
        bus.busy(1, true);
        bus.send(0, 11, 1, 9, 0L);
        bus.deliver(false);
        bus.stop(0);
        Check.due("at 500, 1000, 1500", bus.tick(1999), 3);
        Check.due("at 2000", bus.tick(1), 1);
        Check.due("at 2500, 3000, 3500, 4000", bus.tick(2000), 4);
        Check.due("waiting()", bus.waiting(), 9);
    }

    private static void timeWhileLateOnesAsk() {
        Check.of("A timer that is set anew is due that long after the time at which it was due: 1250 ms");
        AddressClaimBus bus = Frames.holding(2);
        bus.send(0, 11, 1, 9, 0L);
        bus.deliver(false);
        bus.stop(0);
        Check.due("at 1250", bus.tick(2000), 1);
        Check.due("tick(499)", bus.tick(499), 0);
        Check.due("at 2500", bus.tick(1), 1);
        Check.due("tick(1249)", bus.tick(1249), 0);
        Check.due("at 3750", bus.tick(1), 1);
        Check.due("incoming(1)", bus.incoming(1), 0);
    }

    private static void timeAfterMostCalls() {
        Check.of("An object is used for at most 512 calls: the last of them");
        AddressClaimBus bus = new AddressClaimBus();
        for (int i = 0; i < 505; i++) {
            bus.tick(2000);
        }
        bus.start(0, 1L, 10);
        bus.tick(249);
        Check.due("call 508, state(0)", bus.state(0), 1);
        Check.due("call 509, tick(1)", bus.tick(1), 1);
        Check.due("call 510, send(0)", bus.send(0, 255, 1, 49, 0L), true);
        Check.due("call 511, tick(2000)", bus.tick(2000), 7);
        Check.due("call 512, waiting()", bus.waiting(), 9);
    }
}
