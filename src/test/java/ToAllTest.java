/** What "Terms" says of messages to all that come in. */
public final class ToAllTest {
    public static void main(String[] args) {
        wholeMessage();
        allAgainBeginsAnew();
        abortHasNoEffect();
        allWhenFull();
        allAgainWhenFull();
        allBesideADirectedSession();
        timerOf750();
        packetBeforeTheExpectedOne();
        packetBehindTheExpectedOne();
        lastPacketOfTheMessage();
        packetOfAnotherSource();
        directedPacketsAndSessionsToAll();
        packetsToAllAndDirectedSessions();
        Check.end();
    }

    private static void wholeMessage() {
        Check.of("to all");
        AddressClaimBus bus = Frames.holding(3);
        bus.send(0, 255, 0x30201, 16, 0L);
        Frames.deliverThis(bus, Frames.control(255, 10), Frames.bytes(32, 16, 0, 3, 255, 1, 2, 3));
        Check.due("no word of those that it reaches", bus.waiting(), 0);
        Check.due("tick(49)", bus.tick(49), 0);
        Check.due("tick(1)", bus.tick(1), 1);
        Frames.deliverThis(bus, Frames.packet(255, 10), Frames.bytes(1, 0, 1, 2, 3, 4, 5, 6));
        Check.due("tick(50)", bus.tick(50), 1);
        Frames.deliverThis(bus, Frames.packet(255, 10), Frames.bytes(2, 7, 8, 9, 10, 11, 12, 13));
        Check.due("outgoing(0)", bus.outgoing(0), 1);
        Check.due("tick(50)", bus.tick(50), 1);
        Check.due("done with the last one sent", bus.outgoing(0), 10);
        Frames.deliverThis(bus, Frames.packet(255, 10), Frames.bytes(3, 14, 15, 255, 255, 255, 255, 255));
        for (int f = 1; f < 3; f++) {
            Check.due("delivered", bus.delivered(f), 1);
            Check.due("incoming", bus.incoming(f), 0);
            Check.due("source", bus.message(f, 0), 10);
            Check.due("group", bus.message(f, 1), 0x30201);
            Check.due("size", bus.message(f, 2), 16);
            Check.due("to all", bus.message(f, 3), 1);
            Check.due("last byte", bus.byteOf(f, 15), 15);
        }
        Check.due("delivered(0)", bus.delivered(0), 0);
        Check.due("waiting()", bus.waiting(), 0);
        Check.due("no timer is left", bus.tick(2000), 0);
    }

    private static void allAgainBeginsAnew() {
        Check.of("ALL from a source with a session");
        AddressClaimBus bus = Frames.holding(4);
        bus.send(0, 255, 1, 20, 0L);
        bus.send(1, 255, 2, 20, 0L);
        Frames.deliver(bus, 2);
        Check.due("incoming(3)", bus.incoming(3), 2);
        bus.send(2, 255, 3, 9, 0L);
        bus.deliver(false);
        Check.due("a third has no effect", bus.incoming(3), 2);
        bus.tick(150);
        Frames.lose(bus, 8);
        Check.due("waiting()", bus.waiting(), 0);
        bus.send(0, 255, 4, 9, 0L);
        bus.deliver(false);
        Check.due("incoming(3)", bus.incoming(3), 2);
        bus.tick(100);
        Frames.deliver(bus, 2);
        Check.due("delivered(3)", bus.delivered(3), 1);
        Check.due("message(3, 1)", bus.message(3, 1), 4);
        Check.due("message(3, 2)", bus.message(3, 2), 9);
        Check.due("incoming(3)", bus.incoming(3), 1);
    }

    private static void abortHasNoEffect() {
        Check.of("An ABORT from the source of a session to all, with its group");
        AddressClaimBus bus = Frames.holding(4);
        for (int f = 2; f <= 3; f++) {
            bus.send(f, 10, f, 9, 0L);
            bus.deliver(false);
            bus.lose();
        }
        bus.send(0, 255, 7, 9, 0L);
        bus.deliver(false);
        bus.send(1, 10, 7, 9, 0L);
        bus.deliver(false);
        Frames.deliverThis(bus, Frames.control(11, 10), Frames.abort(2, 7));
        Check.due("it ends the outgoing session", bus.outgoing(1), 22);
        Check.due("but not the one to all", bus.incoming(1), 1);
        for (int k = 1; k <= 2; k++) {
            bus.tick(50);
            bus.deliver(false);
        }
        Check.due("delivered(1)", bus.delivered(1), 1);
    }

    private static void allWhenFull() {
        Check.of("An ALL: else, if it has two incoming sessions, that is all");
        for (int kinds = 0; kinds < 4; kinds++) {
            AddressClaimBus bus = Frames.holding(5);
            Frames.beginAtFunction4(bus, 0, (kinds & 1) != 0);
            Frames.beginAtFunction4(bus, 1, (kinds & 2) != 0);
            bus.send(2, 255, 2, 9, 0L);
            bus.deliver(false);
            Check.due("incoming(4)", bus.incoming(4), 2);
            Check.due("no answer", bus.waiting(), 0);
            for (int f = 0; f < 4; f++) {
                bus.stop(f);
            }
            int late = kinds == 3 ? 2 : kinds == 0 ? 0 : 1;
            Check.due("the sessions to all end as before", bus.tick(750), late);
            Check.due("the directed ones ask as before", bus.tick(500), 2 - late);
            Check.due("waiting()", bus.waiting(), 2 - late);
        }
    }

    private static void allAgainWhenFull() {
        Check.of("is there an incoming session to all from this source, that one ends without a trace");
        for (int again = 0; again < 2; again++) {
            AddressClaimBus bus = Frames.holding(5);
            Frames.beginAtFunction4(bus, 0, true);
            Frames.beginAtFunction4(bus, 1, true);
            Frames.restart(bus, again);
            Frames.lose(bus, 9);
            bus.send(again, 255, 7, 9, 0L);
            bus.deliver(false);
            Check.due("incoming(4)", bus.incoming(4), 2);
            Check.due("no answer", bus.waiting(), 0);
            bus.tick(50);
            Check.due("packet 1 is expected again", bus.data() & 255L, 1);
            bus.deliver(false);
            for (int f = 0; f < 4; f++) {
                bus.stop(f);
            }
            Check.due("the other's timer runs on", bus.tick(450), 1);
            Check.due("incoming(4)", bus.incoming(4), 1);
            Check.due("the timer of the new one", bus.tick(299), 0);
            Check.due("tick(1)", bus.tick(1), 1);
            Check.due("delivered(4)", bus.delivered(4), 0);
        }
    }

    private static void allBesideADirectedSession() {
        Check.of("an incoming session to all from this source: a directed one is none");
        AddressClaimBus bus = Frames.holding(5);
        Frames.beginAtFunction4(bus, 0, false);
        Frames.restart(bus, 0);
        Frames.beginAtFunction4(bus, 0, true);
        Check.due("one of each kind from one source", bus.incoming(4), 2);
        bus = Frames.holding(5);
        Frames.beginAtFunction4(bus, 0, false);
        Frames.beginAtFunction4(bus, 1, false);
        Frames.restart(bus, 0);
        Frames.beginAtFunction4(bus, 0, true);
        Check.due("incoming(4)", bus.incoming(4), 2);
        bus.stop(0);
        bus.stop(1);
        bus.stop(2);
        bus.stop(3);
        Check.due("no session to all", bus.tick(999), 0);
        Check.due("both directed ones", bus.tick(1), 2);
    }

    private static void timerOf750() {
        Check.of("expected packet 1, timer 750 ms; else the timer is 750 ms. Its timer goes off: the session ends");
        for (int packets = 0; packets <= 6; packets++) {
            AddressClaimBus bus = Frames.holding(2);
            bus.send(0, 255, 1, 49, 0L);
            bus.deliver(false);
            for (int k = 1; k <= packets; k++) {
                bus.tick(50);
                bus.deliver(false);
            }
            bus.stop(0);
            Check.due("tick(749) after packet " + packets, bus.tick(749), 0);
            Check.due("incoming(1)", bus.incoming(1), 1);
            Check.due("tick(1)", bus.tick(1), 1);
            Check.due("incoming(1)", bus.incoming(1), 0);
            Check.due("without a word", bus.waiting(), 0);
            Check.due("nothing more", bus.tick(2000), 0);
        }
    }

    private static void packetBeforeTheExpectedOne() {
        Check.of("is k less than the expected one, no effect");
        for (int k = 1; k <= 6; k++) {
            AddressClaimBus bus = Frames.holding(2);
            bus.send(0, 255, 1, 49, 0L);
            bus.deliver(false);
            bus.tick(50 * k);
            Frames.deliver(bus, k - 1);
            bus.deliver(true);
            bus.tick(20);
            Check.due("packet", bus.data() & 255L, k);
            bus.deliver(true);
            bus.stop(0);
            Check.due("incoming(1)", bus.incoming(1), 1);
            Check.due("the timer runs on", bus.tick(729), 0);
            Check.due("tick(1)", bus.tick(1), 1);
        }
    }

    private static void packetBehindTheExpectedOne() {
        Check.of("is it greater, the session ends");
        for (int k = 2; k <= 7; k++) {
            AddressClaimBus bus = Frames.holding(2);
            bus.send(0, 255, 1, 49, 0L);
            bus.deliver(false);
            bus.tick(350);
            Frames.deliver(bus, k - 2);
            bus.lose();
            Check.due("packet", bus.data() & 255L, k);
            Check.due("incoming(1)", bus.incoming(1), 1);
            bus.deliver(false);
            Check.due("incoming(1)", bus.incoming(1), 0);
            Frames.deliverAll(bus);
            Check.due("delivered(1)", bus.delivered(1), 0);
            Check.due("no timer is left", bus.tick(2000), 0);
        }
    }

    private static void lastPacketOfTheMessage() {
        Check.of("if there is no such packet, the message is delivered and the session ends");
        int[][] sizeAndPackets = {{9, 2}, {14, 2}, {15, 3}, {21, 3}, {42, 6}, {43, 7}, {49, 7}};
        for (int[] row : sizeAndPackets) {
            AddressClaimBus bus = Frames.holding(2);
            bus.send(0, 255, 1, row[0], 0L);
            bus.deliver(false);
            bus.tick(350);
            Check.due("packets", bus.waiting(), row[1]);
            Frames.deliver(bus, row[1] - 1);
            Check.due("delivered(1)", bus.delivered(1), 0);
            Check.due("incoming(1)", bus.incoming(1), 1);
            bus.deliver(false);
            Check.due("delivered(1)", bus.delivered(1), 1);
            Check.due("incoming(1)", bus.incoming(1), 0);
            Check.due("no DONE", bus.waiting(), 0);
            Check.due("last byte", bus.byteOf(1, row[0] - 1), row[0] - 1);
        }
    }

    private static void packetOfAnotherSource() {
        Check.of("A packet k with target 255 from its source");
        AddressClaimBus bus = Frames.holding(3);
        bus.send(0, 255, 1, 9, 0L);
        bus.deliver(false);
        bus.send(2, 255, 1, 9, 0L);
        bus.lose();
        bus.tick(100);
        Frames.lose(bus, 2);
        Check.due("packet 1 of function 2", bus.identifier(), Frames.packet(255, 12));
        Frames.deliver(bus, 2);
        Check.due("the session from 10 goes on", bus.incoming(1), 1);
        Check.due("delivered(1)", bus.delivered(1), 0);
    }

    /**
     * Functions 0 and 2 both have the address 10; function 1 has a session to all from the one and a directed
     * one from the other, and expects packet 1 of both. Both packets of each wait, the directed ones first.
     */
    private static AddressClaimBus bothKindsFromOneSource() {
        AddressClaimBus bus = Frames.holding(2);
        bus.start(2, 9L, 10);
        bus.lose();
        bus.tick(250);
        bus.send(0, 255, 1, 9, 100L);
        bus.deliver(false);
        bus.lose();
        bus.send(2, 11, 1, 9, 200L);
        Frames.deliver(bus, 2);
        bus.tick(100);
        Check.due("incoming(1)", bus.incoming(1), 2);
        Check.due("waiting()", bus.waiting(), 4);
        Check.due("identifier()", bus.identifier(), Frames.packet(11, 10));
        return bus;
    }

    private static void directedPacketsAndSessionsToAll() {
        Check.of("Directed packets belong to directed sessions alone");
        AddressClaimBus bus = bothKindsFromOneSource();
        Frames.deliver(bus, 2);
        Check.due("delivered(1)", bus.delivered(1), 1);
        Check.due("directed", bus.message(1, 3), 0);
        Check.due("incoming(1)", bus.incoming(1), 1);
        Frames.deliver(bus, 2);
        Check.due("delivered(1)", bus.delivered(1), 2);
        Check.due("to all", bus.message(1, 3), 1);
        Check.due("byteOf(1, 0)", bus.byteOf(1, 0), 100);
    }

    private static void packetsToAllAndDirectedSessions() {
        Check.of("those with target 255 to sessions to all");
        AddressClaimBus bus = bothKindsFromOneSource();
        Frames.lose(bus, 2);
        Frames.deliver(bus, 2);
        Check.due("delivered(1)", bus.delivered(1), 1);
        Check.due("to all", bus.message(1, 3), 1);
        Check.due("incoming(1)", bus.incoming(1), 1);
        bus.stop(0);
        bus.stop(2);
        Check.due("the directed one is late", bus.tick(1150), 1);
        Check.due("and expects packet 1", bus.data(), Frames.grant(2, 1, 1));
    }
}
