/** What "Terms" says of outgoing sessions, sentence by sentence, at the edges of times, packets and answers. */
public final class OutgoingTest {
    private static final int GRANTED = 0;
    private static final int HELD = 1;
    private static final int DONE = 2;
    private static final int ABORTED = 3;
    private static final int KINDS = 4;
    /** The group of the frames that the other sends, with bits in all three of its bytes. */
    private static final int GROUP = 0x20305;

    public static void main(String[] args) {
        atMostOneSession();
        toAllEvery50();
        toAllEndsWithTheLastPacket();
        openWaits1250();
        grantSetsTheTimerAnew();
        holdingWaits1050();
        heldNoMore();
        asManyPacketsAsThereAre();
        grantOfNoPacketAtAll();
        doneAtAnyTime();
        reasonsOfAborts();
        abortWhileHeld();
        answersFromTheOther();
        answersOfAnotherGroup();
        answersOfAnotherSource();
        answersToASessionToAll();
        answersWithoutASession();
        answersAndIncomingSessions();
        Check.end();
    }

    private static void atMostOneSession() {
        Check.of("A function has at most one OUTGOING session");
        for (int kind = 1; kind <= 3; kind++) {
            AddressClaimBus bus = Frames.withOutgoing(kind);
            int waiting = bus.waiting();
            for (int target : new int[] {255, 11, 12}) {
                Check.due("a second one", bus.send(0, target, 2, 9, 0L), false);
            }
            Check.due("outgoing(0)", bus.outgoing(0), kind);
            Check.due("waiting()", bus.waiting(), waiting);
        }
    }

    private static void toAllEvery50() {
        Check.of("it sends ALL, and its timer is 50 ms. When it goes off: it sends the next packet");
        AddressClaimBus bus = Frames.holding(1);
        bus.send(0, 255, 1, 49, 0L);
        bus.lose();
        for (int k = 1; k <= 7; k++) {
            Check.due("tick(49)", bus.tick(49), 0);
            Check.due("waiting()", bus.waiting(), 0);
            Check.due("tick(1)", bus.tick(1), 1);
            Check.due("packet", bus.data() & 255L, k);
            bus.lose();
        }
    }

    private static void toAllEndsWithTheLastPacket() {
        Check.of("was it the last one, the result is 10, else the timer is 50 ms");
        int[][] sizeAndPackets = {{9, 2}, {14, 2}, {15, 3}, {42, 6}, {43, 7}, {49, 7}};
        for (int[] row : sizeAndPackets) {
            AddressClaimBus bus = Frames.holding(1);
            bus.send(0, 255, 1, row[0], 0L);
            Check.due("all but the last", bus.tick(50 * row[1] - 1), row[1] - 1);
            Check.due("outgoing(0)", bus.outgoing(0), 1);
            Check.due("the last", bus.tick(1), 1);
            Check.due("outgoing(0)", bus.outgoing(0), 10);
            Check.due("waiting()", bus.waiting(), row[1] + 1);
            Check.due("nothing more", bus.tick(2000), 0);
        }
    }

    private static void openWaits1250() {
        Check.of("it sends OPEN; timer 1250 ms. When its timer goes off: it sends ABORT with reason 3");
        AddressClaimBus bus = Frames.holding(1);
        bus.send(0, 50, 7, 9, 0L);
        bus.lose();
        Check.due("tick(1249)", bus.tick(1249), 0);
        Check.due("outgoing(0)", bus.outgoing(0), 2);
        Check.due("waiting()", bus.waiting(), 0);
        gaveUp(bus, 50);
    }

    /** Function 0 gives up in the next ms, and not again. */
    private static void gaveUp(AddressClaimBus bus, int target) {
        Check.due("tick(1)", bus.tick(1), 1);
        Check.due("the result is 11", bus.outgoing(0), 11);
        Check.due("identifier()", bus.identifier(), Frames.control(target, 10));
        Check.due("data()", bus.data(), Frames.abort(3, 7));
        bus.lose();
        Check.due("nothing more", bus.tick(2000), 0);
    }

    private static void grantSetsTheTimerAnew() {
        Check.of("A GRANT with m > 0 from the other: timer 1250 ms");
        AddressClaimBus bus = Frames.holding(2);
        bus.send(0, 11, 7, 21, 0L);
        bus.deliver(false);
        bus.tick(1249);
        bus.deliver(false);
        Frames.lose(bus, 3);
        bus.stop(1);
        Check.due("tick(1249)", bus.tick(1249), 0);
        Check.due("outgoing(0)", bus.outgoing(0), 2);
        gaveUp(bus, 11);
    }

    private static void holdingWaits1050() {
        Check.of("A GRANT with m = 0: it is held; timer 1050 ms");
        AddressClaimBus bus = Frames.holding(2);
        bus.busy(1, true);
        bus.send(0, 11, 7, 21, 0L);
        bus.deliver(false);
        bus.tick(499);
        bus.deliver(true);
        Check.due("outgoing(0)", bus.outgoing(0), 3);
        Check.due("no packet", bus.waiting(), 1);
        bus.tick(1000);
        bus.deliver(true);
        bus.stop(1);
        Check.due("each sets the timer anew", bus.tick(1049), 0);
        Check.due("outgoing(0)", bus.outgoing(0), 3);
        gaveUp(bus, 11);
    }

    private static void heldNoMore() {
        Check.of("A GRANT with m > 0: it is not held");
        AddressClaimBus bus = Frames.holding(2);
        bus.busy(1, true);
        bus.send(0, 11, 7, 9, 0L);
        Frames.deliver(bus, 2);
        bus.busy(1, false);
        bus.tick(500);
        Check.due("outgoing(0)", bus.outgoing(0), 3);
        bus.deliver(false);
        Check.due("outgoing(0)", bus.outgoing(0), 2);
        Frames.lose(bus, 2);
        bus.stop(1);
        Check.due("and has 1250 ms again", bus.tick(1249), 0);
        gaveUp(bus, 11);
    }

    private static void asManyPacketsAsThereAre() {
        Check.of("it sends the packets k .. k + m - 1, as many of them as there are");
        int[][] grantSizeAndPackets = {
            {1, 49, 3}, {1, 15, 3}, {1, 14, 2}, {1, 9, 2},
            {4, 49, 3}, {4, 42, 3}, {4, 36, 3}, {4, 35, 2}, {4, 29, 2}, {4, 28, 1}, {4, 22, 1}, {4, 21, 0}, {4, 9, 0},
        };
        for (int[] row : grantSizeAndPackets) {
            AddressClaimBus bus = Frames.holding(2);
            bus.send(0, 11, 7, 49, 0L);
            Frames.deliver(bus, row[0] == 1 ? 1 : 5);
            Frames.restart(bus, 0);
            bus.send(0, 11, 7, row[1], 0L);
            Check.due("the GRANT for 49 bytes", bus.data(), Frames.grant(3, row[0], 7));
            bus.deliver(false);
            Check.due("packets of " + row[1] + " bytes", bus.waiting() - 1, row[2]);
            for (int k = row[0]; k < row[0] + row[2]; k++) {
                Check.due("identifier()", bus.identifier(), Frames.packet(11, 10));
                Check.due("packet", bus.data() & 255L, k);
                bus.lose();
            }
            Check.due("outgoing(0)", bus.outgoing(0), 2);
        }
    }

    private static void grantOfNoPacketAtAll() {
        Check.of("as many of them as there are; timer 1250 ms; it is not held: for none too");
        AddressClaimBus bus = Frames.holding(2);
        bus.send(0, 11, 7, 30, 0L);
        Frames.deliver(bus, 4);
        bus.busy(1, true);
        bus.deliver(false);
        Check.due("function 1 holds", bus.data(), Frames.grant(0, 4, 7));
        Frames.restart(bus, 0);
        bus.send(0, 11, 7, 9, 0L);
        bus.deliver(false);
        bus.lose();
        Check.due("outgoing(0)", bus.outgoing(0), 3);
        bus.busy(1, false);
        Check.due("tick(250)", bus.tick(250), 1);
        Frames.deliverThis(bus, Frames.control(10, 11), Frames.grant(2, 4, 7));
        Check.due("no packet", bus.waiting(), 0);
        Check.due("outgoing(0)", bus.outgoing(0), 2);
        bus.stop(1);
        Check.due("tick(1249)", bus.tick(1249), 0);
        gaveUp(bus, 11);
    }

    /** A frame of this kind from 11 to 10 with the group GROUP waits; function 0 has no session any more. */
    private static AddressClaimBus waitingAnswer(int kind) {
        AddressClaimBus bus = Frames.holding(2);
        if (kind == ABORTED) {
            bus.send(1, 10, GROUP, 9, 0L);
            bus.lose();
            bus.tick(1250);
            Check.due("ABORT", bus.data(), Frames.abort(3, GROUP));
            return bus;
        }
        bus.busy(1, kind == HELD);
        bus.send(0, 11, GROUP, 9, 0L);
        Frames.deliver(bus, kind == DONE ? 4 : 1);
        Frames.restart(bus, 0);
        long due = kind == DONE ? Frames.done(9, 2, GROUP) : Frames.grant(kind == HELD ? 0 : 2, 1, GROUP);
        Check.due("DONE or GRANT", bus.data(), due);
        return bus;
    }

    private static void answersFromTheOther() {
        Check.of("with the address that was sent to as its source, and with the group of the session");
        int[] outgoing = {2, 3, 10, 23};
        for (int kind = 0; kind < KINDS; kind++) {
            AddressClaimBus bus = waitingAnswer(kind);
            bus.send(0, 11, GROUP, 9, 0L);
            bus.deliver(false);
            Check.due("outgoing(0)", bus.outgoing(0), outgoing[kind]);
            Check.due("waiting()", bus.waiting(), kind == GRANTED ? 3 : 1);
        }
    }

    private static void answersOfAnotherGroup() {
        Check.of("with the group of the session: another one has no effect");
        for (int kind = 0; kind < KINDS; kind++) {
            for (int bit = 0; bit < 18; bit++) {
                hasNoEffect(kind, 11, GROUP ^ (1 << bit));
            }
        }
    }

    private static void answersOfAnotherSource() {
        Check.of("with the address that was sent to as its source: another one has no effect");
        for (int kind = 0; kind < KINDS; kind++) {
            for (int target : new int[] {12, 9, 139, 0, 253}) {
                hasNoEffect(kind, target, GROUP);
            }
        }
    }

    private static void hasNoEffect(int kind, int target, int group) {
        AddressClaimBus bus = waitingAnswer(kind);
        bus.send(0, target, group, 9, 0L);
        bus.tick(100);
        while (bus.identifier() != Frames.control(10, 11)) {
            bus.lose();
        }
        int waiting = bus.waiting();
        bus.deliver(true);
        Check.due("kind " + kind + ", outgoing(0)", bus.outgoing(0), 2);
        Check.due("waiting()", bus.waiting(), waiting);
        bus.stop(1);
        Check.due("the timer runs on", bus.tick(1149), 0);
        Check.due("the timer runs on", bus.tick(1), 1);
        Check.due("outgoing(0)", bus.outgoing(0), 11);
    }

    private static void answersToASessionToAll() {
        Check.of("Frames that are not named here for a session's kind have no effect: outgoing, to all");
        for (int kind = 0; kind < KINDS; kind++) {
            AddressClaimBus bus = waitingAnswer(kind);
            bus.send(0, 255, GROUP, 9, 0L);
            bus.tick(25);
            bus.deliver(true);
            Check.due("kind " + kind + ", outgoing(0)", bus.outgoing(0), 1);
            Check.due("waiting()", bus.waiting(), 2);
            bus.stop(1);
            Check.due("the timer runs on", bus.tick(24), 0);
            Check.due("the timer runs on", bus.tick(1), 1);
            Check.due("packet 1", bus.data() & 255L, 1);
            Check.due("tick(50)", bus.tick(50), 1);
            Check.due("outgoing(0)", bus.outgoing(0), 10);
        }
    }

    private static void answersWithoutASession() {
        Check.of("Frames for which there is no session have no effect");
        for (int kind = 0; kind < KINDS; kind++) {
            AddressClaimBus bus = waitingAnswer(kind);
            bus.deliver(true);
            Check.due("kind " + kind + ", outgoing(0)", bus.outgoing(0), 0);
            Check.due("incoming(0)", bus.incoming(0), 0);
            Check.due("waiting()", bus.waiting(), 1);
            bus.send(0, 255, 1, 9, 0L);
            bus.tick(100);
            Check.due("outgoing(0)", bus.outgoing(0), 10);
            Frames.lose(bus, 2);
            bus.deliver(true);
            Check.due("the result stays", bus.outgoing(0), 10);
            Check.due("waiting()", bus.waiting(), 2);
            bus.stop(1);
            Check.due("no timer", bus.tick(2000), 0);
        }
    }

    private static void answersAndIncomingSessions() {
        Check.of("Frames that are not named here for a session's kind have no effect: GRANT, DONE, incoming");
        for (int kind : new int[] {GRANTED, HELD, DONE}) {
            AddressClaimBus bus = Frames.holding(2);
            bus.send(1, 10, GROUP, 9, 0L);
            bus.deliver(false);
            bus.lose();
            bus.busy(1, kind == HELD);
            bus.tick(100);
            bus.send(0, 11, GROUP, 9, 0L);
            Frames.deliver(bus, kind == DONE ? 5 : 2);
            Check.due("outgoing(0)", bus.outgoing(0), kind == DONE ? 10 : kind == HELD ? 3 : 2);
            Check.due("incoming(0)", bus.incoming(0), 1);
            bus.stop(1);
            Check.due("of the two only one that is held is late by now", bus.tick(1149), kind == HELD ? 1 : 0);
            Check.due("the incoming one's timer ran on", bus.tick(1), 1);
            Check.due("incoming(0)", bus.incoming(0), 1);
        }
    }

    private static void doneAtAnyTime() {
        Check.of("DONE from the other: the result is 10");
        AddressClaimBus bus = waitingAnswer(DONE);
        bus.send(0, 11, GROUP, 49, 0L);
        bus.deliver(true);
        Check.due("before any GRANT", bus.outgoing(0), 10);
        Check.due("no timer is left", bus.tick(2000), 0);
        bus = Frames.holding(2);
        bus.busy(1, true);
        bus.start(2, 9L, 11);
        bus.lose();
        bus.tick(250);
        bus.send(0, 11, 7, 9, 0L);
        bus.deliver(false);
        Check.due("function 1 at 11 holds it", bus.data(), Frames.grant(0, 1, 7));
        bus.lose();
        Check.due("function 2 at 11 grants", bus.data(), Frames.grant(2, 1, 7));
        bus.deliver(false);
        bus.tick(500);
        Frames.deliver(bus, 2);
        bus.deliver(false);
        Check.due("now it is held", bus.outgoing(0), 3);
        bus.deliver(false);
        Check.due("while it is held", bus.outgoing(0), 10);
    }

    private static void reasonsOfAborts() {
        Check.of("ABORT from the other: the result is 20 + reason");
        AddressClaimBus bus = waitingAnswer(ABORTED);
        bus.send(0, 11, GROUP, 9, 0L);
        bus.deliver(false);
        Check.due("reason 3", bus.outgoing(0), 23);
        bus = Frames.holding(4);
        for (int f = 1; f <= 3; f++) {
            bus.send(f, 10, f, 9, 0L);
            Frames.deliver(bus, 1);
            Frames.lose(bus, f < 3 ? 1 : 0);
        }
        bus.deliver(false);
        Check.due("reason 2", bus.outgoing(3), 22);
        bus = Frames.holding(2);
        bus.send(0, 11, 7, 21, 0L);
        bus.deliver(false);
        for (int i = 0; i < 3; i++) {
            bus.deliver(false);
            Frames.lose(bus, 2);
            bus.deliver(false);
        }
        bus.deliver(false);
        Check.due("reason 5", bus.outgoing(0), 25);
        Check.due("no timer is left", bus.tick(2000), 0);
    }

    private static void abortWhileHeld() {
        Check.of("ABORT from the other: the result is 20 + reason, while it is held too");
        AddressClaimBus bus = Frames.holding(2);
        bus.busy(1, true);
        bus.send(1, 10, 7, 9, 0L);
        bus.lose();
        bus.send(0, 11, 7, 9, 0L);
        Frames.deliver(bus, 2);
        for (int i = 0; i < 2; i++) {
            bus.tick(500);
            bus.deliver(false);
        }
        bus.tick(250);
        Check.due("outgoing(0)", bus.outgoing(0), 3);
        Frames.deliverThis(bus, Frames.control(10, 11), Frames.abort(3, 7));
        Check.due("outgoing(0)", bus.outgoing(0), 23);
    }
}
