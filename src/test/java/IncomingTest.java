/** What "Terms" says of directed incoming sessions, sentence by sentence, at the edges of rooms and packets. */
public final class IncomingTest {
    /** With bits in all three of its bytes. */
    private static final int GROUP = 0x20305;

    public static void main(String[] args) {
        atMostTwoSessions();
        roomWhenOneEnds();
        openAgainWhenFull();
        openAgainBeginsFromTheFirst();
        openBesideASessionToAll();
        windows();
        windowAfterAGap();
        busyHolds500();
        grantWaits1250();
        packetBeforeLast();
        packetThatIsLast();
        lastPacketOfTheMessage();
        packetBeforeTheExpectedOne();
        expectedPacketBeyondLast();
        packetBetweenExpectedAndLast();
        lastBeyondTheExpectedOne();
        packetBeyondLast();
        packetOfAnotherSource();
        thirdAskingGivesUp();
        askingsCountThroughTheSession();
        askingsBeginAnew();
        holdingIsNoAsking();
        heldThoughBusyNoMore();
        lateThoughBusyNow();
        abortEndsTheSession();
        abortEndsOneOfTwo();
        abortOfAnotherGroup();
        abortOfAnotherSource();
        Check.end();
    }

    private static void atMostTwoSessions() {
        Check.of("if it has two incoming sessions, it sends ABORT with reason 2, and that is all");
        for (int kinds = 0; kinds < 4; kinds++) {
            AddressClaimBus bus = Frames.holding(5);
            Frames.beginAtFunction4(bus, 0, (kinds & 1) != 0);
            Frames.beginAtFunction4(bus, 1, (kinds & 2) != 0);
            Check.due("incoming(4)", bus.incoming(4), 2);
            bus.send(2, 14, GROUP, 30, 0L);
            bus.deliver(false);
            Check.due("incoming(4)", bus.incoming(4), 2);
            Check.due("waiting()", bus.waiting(), 1);
            Check.due("target: the source", bus.identifier(), Frames.control(12, 14));
            Check.due("group of the OPEN", bus.data(), Frames.abort(2, GROUP));
            for (int f = 0; f < 4; f++) {
                bus.stop(f);
            }
            bus.lose();
            int late = kinds == 3 ? 2 : kinds == 0 ? 0 : 1;
            Check.due("the sessions to all end as before", bus.tick(750), late);
            Check.due("incoming(4)", bus.incoming(4), 2 - late);
            Check.due("the directed ones ask as before", bus.tick(500), 2 - late);
        }
    }

    private static void roomWhenOneEnds() {
        Check.of("at most two INCOMING ones: when one has ended there is room again");
        AddressClaimBus bus = Frames.holding(5);
        Frames.beginAtFunction4(bus, 0, false);
        bus.send(1, 14, 1, 9, 0L);
        Frames.deliverAll(bus);
        Check.due("incoming(4)", bus.incoming(4), 1);
        Frames.beginAtFunction4(bus, 2, false);
        Check.due("incoming(4)", bus.incoming(4), 2);
        Check.due("outgoing(2)", bus.outgoing(2), 2);
    }

    private static void openAgainWhenFull() {
        Check.of("is there a directed incoming session from this source, that one ends without a trace");
        for (int again = 0; again < 2; again++) {
            AddressClaimBus bus = Frames.holding(5);
            Frames.beginAtFunction4(bus, 0, false);
            Frames.beginAtFunction4(bus, 1, false);
            Frames.restart(bus, again);
            bus.send(again, 14, GROUP, 49, 0L);
            bus.deliver(false);
            Check.due("incoming(4)", bus.incoming(4), 2);
            Check.due("one frame is sent", bus.waiting(), 1);
            Check.due("identifier()", bus.identifier(), Frames.control(10 + again, 14));
            Check.due("a GRANT for the new one", bus.data(), Frames.grant(3, 1, GROUP));
            bus.stop(0);
            bus.stop(1);
            Check.due("the other's timer alone", bus.tick(1000), 1);
            Check.due("then the new one's", bus.tick(250), 1);
        }
    }

    private static void openAgainBeginsFromTheFirst() {
        Check.of("A directed session from this source begins: size, group, EXPECTED packet 1, no ASKING yet");
        AddressClaimBus bus = Frames.holding(2);
        bus.send(0, 11, 1, 49, 0L);
        Frames.deliver(bus, 3);
        Frames.restart(bus, 0);
        bus.tick(500);
        Check.due("it has asked once", bus.waiting(), 1);
        bus.lose();
        bus.send(0, 11, 2, 16, 0x0505050505050505L);
        bus.deliver(false);
        Check.due("GRANT", bus.data(), Frames.grant(3, 1, 2));
        bus.stop(0);
        bus.lose();
        Check.due("first asking", bus.tick(1250), 1);
        Check.due("GRANT", bus.data(), Frames.grant(3, 1, 2));
        Check.due("second asking", bus.tick(1250), 1);
        Check.due("incoming(1)", bus.incoming(1), 1);
        Check.due("third asking", bus.tick(1250), 1);
        Check.due("incoming(1)", bus.incoming(1), 0);
        Check.due("delivered(1)", bus.delivered(1), 0);
    }

    private static void openBesideASessionToAll() {
        Check.of("a directed incoming session from this source: one to all is none");
        AddressClaimBus bus = Frames.holding(5);
        Frames.beginAtFunction4(bus, 0, true);
        Frames.restart(bus, 0);
        Frames.beginAtFunction4(bus, 0, false);
        Check.due("one of each kind from one source", bus.incoming(4), 2);
        bus = Frames.holding(5);
        Frames.beginAtFunction4(bus, 0, true);
        Frames.beginAtFunction4(bus, 1, false);
        Frames.restart(bus, 0);
        bus.send(0, 14, GROUP, 9, 0L);
        bus.deliver(false);
        Check.due("refused", bus.data(), Frames.abort(2, GROUP));
        Check.due("incoming(4)", bus.incoming(4), 2);
    }

    private static void windows() {
        Check.of("m is 3, or the number of packets from the expected one on, if that is less");
        for (int size = 9; size <= 49; size++) {
            AddressClaimBus bus = Frames.holding(2);
            bus.send(0, 11, GROUP, size, 0L);
            bus.deliver(false);
            int packets = (size + 6) / 7;
            for (int k = 1; k <= packets; k += 3) {
                int number = packets - k + 1 < 3 ? packets - k + 1 : 3;
                Frames.deliverThis(bus, Frames.control(10, 11), Frames.grant(number, k, GROUP));
                Check.due("packets", bus.waiting(), number);
                Frames.deliver(bus, number);
            }
            Frames.deliverThis(bus, Frames.control(10, 11), Frames.done(size, packets, GROUP));
            Check.due("outgoing(0)", bus.outgoing(0), 10);
        }
    }

    private static void windowAfterAGap() {
        Check.of("the number of packets from the expected one on, after packets that came");
        int[][] cameAndGrant = {{0, 3, 1}, {1, 3, 2}, {2, 3, 3}, {3, 3, 4}, {4, 3, 5}, {5, 2, 6}, {6, 1, 7}};
        for (int[] row : cameAndGrant) {
            AddressClaimBus bus = Frames.holding(2);
            bus.send(0, 11, 1, 49, 0L);
            bus.deliver(false);
            int came = 0;
            while (came < row[0]) {
                bus.deliver(false);
                for (int i = 0; i < 3 && came < row[0]; i++) {
                    bus.deliver(false);
                    came++;
                }
            }
            bus.stop(0);
            Frames.lose(bus, 1);
            Check.due("late", bus.tick(1250), 1);
            Check.due("GRANT after " + came, bus.data(), Frames.grant(row[1], row[2], 1));
        }
    }

    private static void busyHolds500() {
        Check.of("if the function is BUSY, it sends GRANT with m = 0; timer 500 ms; it is held");
        AddressClaimBus bus = Frames.holding(2);
        bus.busy(1, true);
        bus.send(0, 11, 1, 9, 0L);
        bus.deliver(false);
        bus.stop(0);
        Check.due("GRANT", bus.data(), Frames.grant(0, 1, 1));
        bus.lose();
        Check.due("tick(499)", bus.tick(499), 0);
        Check.due("tick(1)", bus.tick(1), 1);
        Check.due("held, it grants", bus.data(), Frames.grant(0, 1, 1));
        bus.lose();
        bus.busy(1, false);
        Check.due("busy no more, it waits on", bus.tick(499), 0);
        Check.due("tick(1)", bus.tick(1), 1);
        Check.due("GRANT", bus.data(), Frames.grant(2, 1, 1));
        bus.busy(1, true);
        Check.due("busy again, it is not held", bus.tick(1249), 0);
        Check.due("tick(1)", bus.tick(1), 1);
    }

    private static void grantWaits1250() {
        Check.of("it sends GRANT with m and k; timer 1250 ms; it is not held");
        AddressClaimBus bus = Frames.holding(2);
        bus.send(0, 11, 1, 9, 0L);
        bus.deliver(false);
        bus.stop(0);
        bus.lose();
        Check.due("tick(1249)", bus.tick(1249), 0);
        Check.due("waiting()", bus.waiting(), 0);
        Check.due("tick(1)", bus.tick(1), 1);
        Check.due("it asks again", bus.data(), Frames.grant(2, 1, 1));
    }

    /** Packets 1, 2, 3 of 49 bytes from 10 to 11 wait; function 1 expects the first, LAST is 3. */
    private static AddressClaimBus threePackets() {
        AddressClaimBus bus = Frames.holding(2);
        bus.send(0, 11, 1, 49, 0L);
        Frames.deliver(bus, 2);
        Check.due("waiting()", bus.waiting(), 3);
        return bus;
    }

    private static void packetBeforeLast() {
        Check.of("is k the expected one and not beyond LAST: else the timer is 750 ms");
        for (int packets = 1; packets <= 2; packets++) {
            AddressClaimBus bus = threePackets();
            bus.tick(1000);
            Frames.deliver(bus, packets);
            Check.due("no GRANT", bus.waiting(), 3 - packets);
            bus.stop(0);
            Check.due("tick(749)", bus.tick(749), 0);
            Check.due("tick(1)", bus.tick(1), 1);
            Check.due("the next one is expected", bus.data(), Frames.grant(3, packets + 1, 1));
        }
    }

    private static void packetThatIsLast() {
        Check.of("the expected one is k + 1: if it is beyond LAST, it grants");
        AddressClaimBus bus = threePackets();
        bus.tick(1000);
        Frames.deliver(bus, 3);
        Check.due("waiting()", bus.waiting(), 1);
        Check.due("GRANT", bus.data(), Frames.grant(3, 4, 1));
        bus.stop(0);
        Check.due("tick(1249)", bus.tick(1249), 0);
        Check.due("tick(1)", bus.tick(1), 1);
    }

    private static void lastPacketOfTheMessage() {
        Check.of("if there is no such packet, it sends DONE, the message is DELIVERED, and the session ends");
        AddressClaimBus bus = Frames.holding(2);
        bus.send(0, 11, GROUP, 14, 0L);
        Frames.deliver(bus, 3);
        Check.due("delivered(1)", bus.delivered(1), 0);
        Check.due("incoming(1)", bus.incoming(1), 1);
        bus.deliver(false);
        Check.due("delivered(1)", bus.delivered(1), 1);
        Check.due("incoming(1)", bus.incoming(1), 0);
        Check.due("waiting()", bus.waiting(), 1);
        Check.due("identifier()", bus.identifier(), Frames.control(10, 11));
        Check.due("data()", bus.data(), Frames.done(14, 2, GROUP));
        bus.stop(0);
        Check.due("no timer is left", bus.tick(2000), 0);
    }

    private static void packetBeforeTheExpectedOne() {
        Check.of("All other k have no effect: less than the expected one");
        AddressClaimBus bus = threePackets();
        bus.deliver(true);
        bus.tick(100);
        bus.deliver(false);
        Check.due("packet 2 is next", bus.data() & 255L, 2);
        Check.due("no answer", bus.waiting(), 2);
        bus.stop(0);
        Check.due("the timer runs on", bus.tick(649), 0);
        Check.due("tick(1)", bus.tick(1), 1);
        Check.due("packet 2 is expected", bus.data(), Frames.grant(3, 2, 1));
    }

    private static void expectedPacketBeyondLast() {
        Check.of("All other k have no effect: the expected one, while it is beyond LAST");
        AddressClaimBus bus = threePackets();
        bus.busy(1, true);
        Check.due("both are late, the busy one holds", bus.tick(1250), 2);
        bus.tick(100);
        Check.due("packet 1 is next", bus.data() & 255L, 1);
        Frames.deliver(bus, 3);
        Check.due("the GRANT, and the ABORT of the other", bus.waiting(), 2);
        Check.due("GRANT", bus.data(), Frames.grant(0, 1, 1));
        bus.busy(1, false);
        bus.lose();
        bus.lose();
        Check.due("the timer runs on", bus.tick(399), 0);
        Check.due("tick(1)", bus.tick(1), 1);
        Check.due("packet 1 is expected", bus.data(), Frames.grant(3, 1, 1));
    }

    private static void packetBetweenExpectedAndLast() {
        Check.of("All other k have no effect: beyond the expected one, before LAST");
        AddressClaimBus bus = threePackets();
        bus.lose();
        bus.tick(100);
        Check.due("packet 2 is next", bus.data() & 255L, 2);
        bus.deliver(false);
        Check.due("no answer", bus.waiting(), 1);
        bus.stop(0);
        Check.due("the timer runs on", bus.tick(1149), 0);
        Check.due("tick(1)", bus.tick(1), 1);
        Check.due("packet 1 is expected", bus.data(), Frames.grant(3, 1, 1));
    }

    private static void lastBeyondTheExpectedOne() {
        Check.of("Is k LAST and beyond the expected one, it ASKS AGAIN with reason 5");
        for (int came = 0; came <= 1; came++) {
            AddressClaimBus bus = threePackets();
            Frames.deliver(bus, came);
            Frames.lose(bus, 2 - came);
            bus.tick(100);
            Check.due("packet 3 is next", bus.data() & 255L, 3);
            bus.deliver(false);
            Check.due("waiting()", bus.waiting(), 1);
            Check.due("it grants", bus.data(), Frames.grant(3, came + 1, 1));
            bus.stop(0);
            Check.due("tick(1249)", bus.tick(1249), 0);
            Check.due("tick(1)", bus.tick(1), 1);
        }
        AddressClaimBus bus = Frames.holding(2);
        bus.send(0, 11, 1, 9, 0L);
        Frames.deliver(bus, 2);
        bus.lose();
        bus.deliver(false);
        Check.due("LAST is the last one of the message", bus.data(), Frames.grant(2, 1, 1));
        Check.due("delivered(1)", bus.delivered(1), 0);
    }

    private static void packetBeyondLast() {
        Check.of("All other k have no effect: beyond LAST");
        AddressClaimBus bus = Frames.holding(2);
        bus.send(1, 10, 1, 49, 0L);
        Frames.deliver(bus, 5);
        Check.due("GRANT", bus.data(), Frames.grant(3, 4, 1));
        Frames.restart(bus, 1);
        bus.send(1, 10, 1, 49, 0L);
        Frames.deliverThis(bus, Frames.control(10, 11), Frames.open(49, 7, 1));
        Frames.deliverThis(bus, Frames.control(11, 10), Frames.grant(3, 4, 1));
        bus.tick(100);
        for (int k = 4; k <= 6; k++) {
            Check.due("packet", bus.data() & 255L, k);
            bus.deliver(false);
        }
        Check.due("no answer but the first GRANT", bus.waiting(), 1);
        bus.stop(1);
        bus.lose();
        Check.due("the timer runs on", bus.tick(1149), 0);
        Check.due("tick(1)", bus.tick(1), 1);
        Check.due("packet 1 is expected", bus.data(), Frames.grant(3, 1, 1));
    }

    private static void packetOfAnotherSource() {
        Check.of("A packet k from its source");
        AddressClaimBus bus = Frames.holding(3);
        bus.send(0, 11, 1, 9, 100L);
        bus.deliver(false);
        bus.send(2, 11, 1, 9, 200L);
        bus.lose();
        Frames.deliver(bus, 2);
        Check.due("packets of function 2 are next", bus.identifier(), Frames.packet(11, 12));
        Frames.deliver(bus, 2);
        Check.due("message(1, 0)", bus.message(1, 0), 12);
        Check.due("byteOf(1, 0)", bus.byteOf(1, 0), 200);
        Check.due("the other session goes on", bus.incoming(1), 1);
        bus.stop(0);
        bus.deliver(false);
        Check.due("outgoing(2)", bus.outgoing(2), 10);
        Check.due("late", bus.tick(1250), 1);
        Check.due("packet 1 is expected", bus.data(), Frames.grant(2, 1, 1));
    }

    /**
     * A GRANT for packets 1 .. 3 waits. All three are lost, or the first two: function 1 is late, or sees a gap.
     * It waits so many ms before that function 1 is late before function 0 is.
     */
    private static void missPackets(AddressClaimBus bus, boolean gap, int ms) {
        bus.tick(ms);
        Frames.deliverThis(bus, Frames.control(10, 11), Frames.grant(3, 1, 7));
        Frames.lose(bus, gap ? 2 : 3);
        if (gap) {
            bus.deliver(false);
        } else {
            Check.due("function 1 is late", bus.tick(1250 - ms), 1);
        }
    }

    private static void thirdAskingGivesUp() {
        Check.of("for the third time in the session, it sends ABORT with the reason, and the session ends");
        for (int gaps = 0; gaps < 8; gaps++) {
            AddressClaimBus bus = Frames.holding(2);
            bus.send(0, 11, 7, 21, 0L);
            bus.deliver(false);
            for (int i = 0; i < 3; i++) {
                Check.due("incoming(1)", bus.incoming(1), 1);
                missPackets(bus, (gaps & 1 << i) != 0, 3 - i);
            }
            int reason = (gaps & 4) != 0 ? 5 : 3;
            Check.due("incoming(1)", bus.incoming(1), 0);
            Check.due("waiting()", bus.waiting(), 1);
            Frames.deliverThis(bus, Frames.control(10, 11), Frames.abort(reason, 7));
            Check.due("outgoing(0)", bus.outgoing(0), 20 + reason);
            Check.due("no timer is left", bus.tick(2000), 0);
        }
    }

    private static void askingsCountThroughTheSession() {
        Check.of("for the third time in the session: packets that come between make no difference");
        AddressClaimBus bus = threePackets();
        Frames.lose(bus, 2);
        bus.deliver(false);
        Frames.deliver(bus, 4);
        Check.due("GRANT", bus.data(), Frames.grant(3, 4, 1));
        bus.deliver(false);
        Frames.lose(bus, 2);
        bus.deliver(false);
        Frames.deliver(bus, 4);
        Check.due("GRANT", bus.data(), Frames.grant(1, 7, 1));
        bus.stop(0);
        bus.lose();
        Check.due("tick(1250)", bus.tick(1250), 1);
        Check.due("the third", bus.data(), Frames.abort(3, 1));
        Check.due("incoming(1)", bus.incoming(1), 0);
    }

    private static void askingsBeginAnew() {
        Check.of("for the third time in the session: each session counts its own");
        AddressClaimBus bus = Frames.holding(3);
        bus.send(0, 11, 7, 21, 0L);
        bus.deliver(false);
        bus.stop(0);
        bus.tick(1250);
        bus.tick(1249);
        Frames.lose(bus, 2);
        bus.send(2, 11, 8, 21, 0L);
        bus.deliver(false);
        bus.stop(2);
        Check.due("the second asking of the first", bus.tick(1), 1);
        Check.due("the first asking of the second", bus.tick(1249), 1);
        Check.due("the third asking of the first", bus.tick(1), 1);
        Check.due("incoming(1)", bus.incoming(1), 1);
        Check.due("the second asking of the second", bus.tick(1249), 1);
        Check.due("incoming(1)", bus.incoming(1), 1);
        Check.due("the third asking of the second", bus.tick(1250), 1);
        Check.due("incoming(1)", bus.incoming(1), 0);
    }

    private static void holdingIsNoAsking() {
        Check.of("Its timer goes off: held, it grants; else it asks again with reason 3");
        AddressClaimBus bus = Frames.holding(2);
        bus.send(0, 11, 7, 21, 0L);
        bus.deliver(false);
        bus.stop(0);
        bus.tick(1250);
        bus.busy(1, true);
        Check.due("the second asking", bus.tick(1250), 1);
        Check.due("held ten times", bus.tick(2000) + bus.tick(2000) + bus.tick(1000), 10);
        bus.busy(1, false);
        Check.due("held once more, then it grants", bus.tick(500), 1);
        Check.due("incoming(1)", bus.incoming(1), 1);
        Check.due("GRANTs", bus.waiting(), 14);
        Frames.lose(bus, 13);
        Check.due("data()", bus.data(), Frames.grant(3, 1, 7));
        Check.due("the third asking", bus.tick(1250), 1);
        Check.due("incoming(1)", bus.incoming(1), 0);
        bus.lose();
        Check.due("data()", bus.data(), Frames.abort(3, 7));
    }

    private static void heldThoughBusyNoMore() {
        Check.of("held, it grants: what counts is how it granted, not whether it is busy now");
        AddressClaimBus bus = Frames.holding(2);
        bus.send(0, 11, 7, 21, 0L);
        bus.deliver(false);
        bus.stop(0);
        Check.due("the first asking", bus.tick(1250), 1);
        bus.tick(1249);
        bus.busy(1, true);
        Check.due("the second asking", bus.tick(1), 1);
        bus.busy(1, false);
        Check.due("held", bus.tick(500), 1);
        Check.due("that was no third asking", bus.incoming(1), 1);
    }

    private static void lateThoughBusyNow() {
        Check.of("else it asks again with reason 3: a busy one too");
        AddressClaimBus bus = Frames.holding(2);
        bus.send(0, 11, 7, 21, 0L);
        bus.deliver(false);
        bus.stop(0);
        Check.due("the first asking", bus.tick(1250), 1);
        Check.due("the second asking", bus.tick(1250), 1);
        bus.busy(1, true);
        Check.due("the third asking", bus.tick(1250), 1);
        Check.due("incoming(1)", bus.incoming(1), 0);
        Frames.lose(bus, 3);
        Check.due("data()", bus.data(), Frames.abort(3, 7));
    }

    private static void abortEndsTheSession() {
        Check.of("An ABORT from its source with its group: the session ends");
        AddressClaimBus bus = withAbortWaiting(0, GROUP);
        bus.deliver(false);
        Check.due("incoming(1)", bus.incoming(1), 0);
        Check.due("without an answer", bus.waiting(), 0);
        Check.due("no timer is left", bus.tick(2000), 0);
        Check.due("delivered(1)", bus.delivered(1), 0);
    }

    private static void abortEndsOneOfTwo() {
        Check.of("An ABORT from its source with its group: the other session goes on");
        for (int aborted = 0; aborted <= 2; aborted += 2) {
            AddressClaimBus bus = Frames.holding(3);
            for (int f = 0; f <= 2; f += 2) {
                bus.send(f, 11, GROUP, 9, 0L);
                bus.deliver(false);
                bus.lose();
            }
            Check.due("two give up, two ask", bus.tick(1250), 4);
            while (bus.identifier() != Frames.control(11, 10 + aborted)) {
                bus.lose();
            }
            bus.deliver(false);
            Check.due("incoming(1)", bus.incoming(1), 1);
            Frames.lose(bus, 3);
            Check.due("it asks again", bus.tick(1250), 1);
            Check.due("identifier()", bus.identifier(), Frames.control(12 - aborted, 11));
        }
    }

    private static void abortOfAnotherGroup() {
        Check.of("An ABORT from its source with another group");
        for (int bit = 0; bit < 18; bit++) {
            abortHasNoEffect(0, GROUP ^ (1 << bit));
        }
    }

    private static void abortOfAnotherSource() {
        Check.of("An ABORT from another source with its group");
        abortHasNoEffect(2, GROUP);
    }

    private static void abortHasNoEffect(int sender, int group) {
        AddressClaimBus bus = withAbortWaiting(sender, group);
        bus.deliver(false);
        Check.due("incoming(1) after an ABORT of " + sender + ", " + group, bus.incoming(1), 1);
        Check.due("the timer runs on", bus.tick(999), 0);
        Check.due("tick(1)", bus.tick(1), 1);
        Check.due("incoming(1)", bus.incoming(1), 1);
    }

    /** Function 1 has a session from 10 with GROUP and asked 250 ms ago; an ABORT of this sender waits. */
    private static AddressClaimBus withAbortWaiting(int sender, int group) {
        AddressClaimBus bus = Frames.holding(3);
        bus.send(0, 11, GROUP, 9, 0L);
        bus.deliver(false);
        bus.lose();
        Frames.restart(bus, 0);
        bus.send(sender, 11, group, 9, 0L);
        bus.lose();
        Check.due("function 1 asks, the sender gives up", bus.tick(1250), 2);
        bus.lose();
        Check.due("identifier()", bus.identifier(), Frames.control(11, 10 + sender));
        Check.due("data()", bus.data(), Frames.abort(3, group));
        return bus;
    }
}
