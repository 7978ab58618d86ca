/** What "Terms" says of claims: who keeps an address, who takes another, and when the 250 ms begin anew. */
public final class ClaimTest {
    public static void main(String[] args) {
        lesserNameDefends();
        holderDefendsWithoutTimer();
        namesHaveNoSign();
        greaterNameTakesSpareAddress();
        spareAddressNotedByAnother();
        spareAddressNotedForEachFunction();
        noSpareAddressLeft();
        unableOneDefendsNothing();
        requestBeginsNoTime();
        losingEndsSessions();
        losingWithoutSessionKeepsResult();
        everyLongIsAName();
        addressesAtTheEdges();
        holdsAfter250();
        beginsAnewOnlyWhileClaiming();
        claimOfAnotherAddress();
        notedIsTheLatestThatCame();
        notedSinceItWasStarted();
        spareAddresses();
        allSpareAddressesNoted();
        spareAddressFreeAgain();
        bit63();
        spareAddressBeginsTimeAnew();
        everyOutgoingSessionEndsWith13();
        messagesOutliveTheAddress();
        Check.end();
    }

    private static void lesserNameDefends() {
        Check.of("a claiming one with the lesser name");
        AddressClaimBus bus = new AddressClaimBus();
        bus.start(0, 5L, 20);
        bus.lose();
        bus.tick(200);
        bus.start(1, 6L, 20);
        bus.tick(49);
        bus.deliver(false);
        Check.due("waiting()", bus.waiting(), 1);
        Check.due("data()", bus.data(), 5L);
        Check.due("the 250 ms began anew", bus.tick(200), 0);
        Check.due("so the other came first", bus.tick(1), 1);
        Check.due("state(0)", bus.state(0), 1);
        Check.due("state(1)", bus.state(1), 2);
        Check.due("tick(48)", bus.tick(48), 0);
        Check.due("tick(1)", bus.tick(1), 1);
        Check.due("state(0)", bus.state(0), 2);
        bus.deliver(false);
        Check.due("one that holds loses it too", bus.state(1), 3);
        Check.due("it says so", bus.identifier(), Frames.claim(254));
        Check.due("with its name", bus.data(), 6L);
    }

    private static void holderDefendsWithoutTimer() {
        Check.of("a holding one with the lesser name");
        AddressClaimBus bus = Frames.holding(1);
        bus.start(1, 6L, 10);
        bus.deliver(false);
        Check.due("state(0)", bus.state(0), 2);
        Check.due("identifier()", bus.identifier(), Frames.claim(10));
        Check.due("data()", bus.data(), 1L);
        bus.deliver(false);
        Check.due("state(1)", bus.state(1), 3);
        Check.due("noted(1, 0)", bus.noted(1, 0), 10);
        Check.due("no 250 ms run", bus.tick(2000), 0);
    }

    private static void namesHaveNoSign() {
        Check.of("names without sign");
        AddressClaimBus bus = new AddressClaimBus();
        bus.start(0, -1L, 20);
        bus.start(1, Long.MAX_VALUE, 20);
        bus.start(2, Long.MIN_VALUE, 20);
        bus.lose();
        bus.deliver(false);
        Check.due("-1 is more than the greatest", bus.address(0), 128);
        Check.due("so is the least", bus.address(2), 128);
        Frames.deliverAll(bus);
        Check.due("address(1)", bus.address(1), 20);
        Check.due("the least is less than -1", bus.address(2), 128);
        Check.due("address(0)", bus.address(0), 129);
    }

    private static void greaterNameTakesSpareAddress() {
        Check.of("a spare address");
        AddressClaimBus bus = new AddressClaimBus();
        bus.start(0, -1L, 20);
        bus.lose();
        bus.tick(250);
        bus.start(1, 1L, 20);
        bus.deliver(false);
        Check.due("state(0)", bus.state(0), 1);
        Check.due("address(0)", bus.address(0), 128);
        Check.due("it claims", bus.identifier(), Frames.claim(128));
        Check.due("with its name", bus.data(), -1L);
        Check.due("both 250 ms", bus.tick(249), 0);
        Check.due("both 250 ms", bus.tick(1), 2);
        Check.due("state(0)", bus.state(0), 2);
        bus.start(2, 2L, 128);
        Frames.deliver(bus, 2);
        Check.due("the next one", bus.address(0), 129);
    }

    private static void spareAddressNotedByAnother() {
        Check.of("the least spare address that is not noted");
        AddressClaimBus bus = new AddressClaimBus();
        bus.start(0, -1L, 20);
        bus.start(1, 1L, 128);
        bus.start(2, 2L, 130);
        bus.start(3, 3L, 20);
        bus.lose();
        bus.deliver(false);
        Check.due("nothing was noted yet", bus.address(0), 128);
        Check.due("noted(0, 1)", bus.noted(0, 1), -1);
        Frames.deliver(bus, 1);
        Check.due("128 has a lesser name", bus.address(0), 129);
        Frames.deliverAll(bus);
        bus.stop(2);
        bus.start(4, 4L, 129);
        bus.deliver(false);
        Check.due("130 is still noted for one that is off", bus.address(0), 131);
        Frames.deliverAll(bus);
        bus.stop(3);
        bus.start(3, 9L, 131);
        bus.deliver(false);
        Check.due("none is left", bus.address(0), 254);
        Check.due("state(0)", bus.state(0), 3);
    }

    private static void spareAddressNotedForEachFunction() {
        for (int f = 0; f < 3; f++) {
            Check.of("128 noted for function " + f);
            AddressClaimBus bus = new AddressClaimBus();
            bus.start(4, -1L, 20);
            bus.lose();
            bus.start(f, 1L, 128);
            bus.deliver(false);
            bus.start(3, 2L, 20);
            bus.deliver(false);
            Check.due("address(4)", bus.address(4), 129);
        }
    }

    private static void noSpareAddressLeft() {
        Check.of("no spare address for a name without bit 63");
        AddressClaimBus bus = new AddressClaimBus();
        bus.start(0, Long.MAX_VALUE, 128);
        bus.start(1, 1L, 128);
        bus.lose();
        bus.deliver(false);
        Check.due("state(0)", bus.state(0), 3);
        Check.due("address(0)", bus.address(0), 254);
        Check.due("identifier()", bus.identifier(), Frames.claim(254));
        Check.due("tick(250)", bus.tick(250), 1);
        Check.due("state(0)", bus.state(0), 3);
    }

    private static void unableOneDefendsNothing() {
        Check.of("two that are unable");
        AddressClaimBus bus = new AddressClaimBus();
        bus.start(0, 1L, 20);
        bus.start(1, 2L, 20);
        bus.start(2, 3L, 20);
        Frames.deliver(bus, 1);
        Check.due("state(1)", bus.state(1), 3);
        Check.due("state(2)", bus.state(2), 3);
        bus.deliver(false);
        Check.due("an old claim of 20 makes 0 claim again", bus.waiting(), 4);
        Frames.lose(bus, 2);
        Check.due("identifier()", bus.identifier(), Frames.claim(254));
        Check.due("waiting()", bus.waiting(), 2);
        Frames.deliver(bus, 1);
        Check.due("254 is no address to defend", bus.waiting(), 1);
        Check.due("noted(2, 1)", bus.noted(2, 1), 254);
        Check.due("state(2)", bus.state(2), 3);
        bus.lose();
        bus.request(1);
        bus.deliver(false);
        Check.due("an unable one answers a request", bus.waiting(), 2);
        bus.lose();
        Check.due("identifier()", bus.identifier(), Frames.claim(254));
        Check.due("data()", bus.data(), 3L);
    }

    private static void requestBeginsNoTime() {
        Check.of("a request");
        AddressClaimBus bus = new AddressClaimBus();
        bus.start(0, 1L, 20);
        bus.start(1, 2L, 21);
        bus.tick(249);
        bus.request(1);
        bus.deliver(false);
        Check.due("waiting()", bus.waiting(), 3);
        Check.due("tick(1)", bus.tick(1), 2);
        Check.due("state(0)", bus.state(0), 2);
        bus.request(4);
        bus.start(4, 3L, 22);
        bus.stop(4);
        bus.request(1);
        bus.deliver(false);
        Check.due("one that is off does not answer", bus.waiting(), 4);
    }

    private static void losingEndsSessions() {
        Check.of("sessions of one that loses its address");
        AddressClaimBus bus = Frames.holding(3);
        bus.send(1, 10, 1, 9, 0L);
        bus.deliver(false);
        bus.lose();
        bus.send(2, 255, 1, 9, 0L);
        bus.deliver(false);
        bus.send(0, 11, 1, 9, 0L);
        Check.due("incoming(0)", bus.incoming(0), 2);
        Check.due("outgoing(0)", bus.outgoing(0), 2);
        bus.start(3, 0L, 10);
        bus.deliver(false);
        Check.due("incoming(0)", bus.incoming(0), 0);
        Check.due("outgoing(0)", bus.outgoing(0), 13);
        Check.due("its frames wait on", bus.waiting(), 2);
        bus.lose();
        Check.due("with the source they had", bus.identifier(), Frames.control(11, 10));
        Check.due("delivered(0)", bus.delivered(0), 0);
        bus.stop(1);
        bus.stop(2);
        bus.stop(3);
        Check.due("no timer of its own is left", bus.tick(2000), 0);
    }

    private static void losingWithoutSessionKeepsResult() {
        Check.of("no session when the address is lost");
        AddressClaimBus bus = Frames.holding(1);
        bus.send(0, 255, 1, 9, 0L);
        bus.tick(100);
        Check.due("outgoing(0)", bus.outgoing(0), 10);
        bus.start(3, 0L, 10);
        bus.deliver(false);
        Check.due("state(0)", bus.state(0), 3);
        Check.due("outgoing(0)", bus.outgoing(0), 10);
    }

    private static void everyLongIsAName() {
        Check.of("NAME, any long; names are compared as numbers without sign");
        long[] ascending = {0L, 1L, Long.MAX_VALUE - 1L, Long.MAX_VALUE, Long.MIN_VALUE, Long.MIN_VALUE + 1L, -2L, -1L};
        for (int lesser = 0; lesser < ascending.length; lesser++) {
            for (int greater = lesser + 1; greater < ascending.length; greater++) {
                oneAddressForTwo(ascending[lesser], ascending[greater]);
            }
        }
    }

    private static void oneAddressForTwo(long lesser, long greater) {
        AddressClaimBus bus = new AddressClaimBus();
        Check.due("start(0, " + lesser + ", 20)", bus.start(0, lesser, 20), true);
        bus.lose();
        Check.due("start(1, " + greater + ", 20)", bus.start(1, greater, 20), true);
        bus.deliver(false);
        Check.due("the lesser name keeps the address", bus.address(0), 20);
        Check.due("it sends a CLAIM", bus.identifier(), Frames.claim(20));
        Check.due("with its name", bus.data(), lesser);
        bus.deliver(false);
        Check.due("the greater name loses it", bus.address(1), greater < 0L ? 128 : 254);
    }

    private static void addressesAtTheEdges() {
        Check.of("an ADDRESS 0 .. 253");
        AddressClaimBus bus = new AddressClaimBus();
        bus.start(0, 1L, 253);
        bus.start(1, 2L, 0);
        Frames.deliverThis(bus, Frames.claim(0), 2L);
        Frames.deliverThis(bus, Frames.claim(253), 1L);
        Check.due("noted(0, 1)", bus.noted(0, 1), 0);
        Check.due("noted(1, 0)", bus.noted(1, 0), 253);
        bus.tick(250);
        for (int f = 0; f < 2; f++) {
            bus.send(f, bus.address(1 - f), 1, 9, 0L);
            Check.due("identifier()", bus.identifier(), Frames.control(bus.address(1 - f), bus.address(f)));
            Frames.deliverAll(bus);
            Check.due("outgoing", bus.outgoing(f), 10);
            Check.due("the source of the message", bus.message(1 - f, 0), bus.address(f));
        }
    }

    private static void holdsAfter250() {
        Check.of("250 ms later it is holding");
        AddressClaimBus bus = new AddressClaimBus();
        bus.tick(1);
        bus.start(0, 1L, 20);
        Check.due("tick(249)", bus.tick(249), 0);
        Check.due("state(0)", bus.state(0), 1);
        Check.due("tick(1)", bus.tick(1), 1);
        Check.due("state(0)", bus.state(0), 2);
        Check.due("once", bus.tick(2000), 0);
    }

    private static void beginsAnewOnlyWhileClaiming() {
        Check.of("if it is claiming the 250 ms begin anew");
        AddressClaimBus bus = new AddressClaimBus();
        bus.start(1, 2L, 20);
        bus.start(0, 1L, 20);
        bus.tick(249);
        bus.deliver(true);
        Check.due("only function 1 holds 1 ms later", bus.tick(1), 1);
        Check.due("state(0)", bus.state(0), 1);
        Check.due("tick(248)", bus.tick(248), 0);
        Check.due("tick(1)", bus.tick(1), 1);
        Check.due("state(0)", bus.state(0), 2);
        bus.deliver(true);
        Check.due("a holding one claims again", bus.waiting(), 4);
        Check.due("and holds on", bus.state(0), 2);
        Check.due("no time begins", bus.tick(2000), 0);
    }

    private static void claimOfAnotherAddress() {
        Check.of("If then the source is its address");
        AddressClaimBus bus = Frames.holding(1);
        bus.start(1, 0L, 9);
        bus.start(2, 20L, 11);
        Frames.deliver(bus, 2);
        Check.due("state(0)", bus.state(0), 2);
        Check.due("noted(0, 1)", bus.noted(0, 1), 9);
        Check.due("noted(0, 2)", bus.noted(0, 2), 11);
        Check.due("no answer", bus.waiting(), 0);
    }

    private static void notedIsTheLatestThatCame() {
        Check.of("the source of the latest CLAIM of that function that reached it");
        AddressClaimBus bus = new AddressClaimBus();
        bus.start(2, 3L, 12);
        bus.lose();
        bus.start(1, 1L, 200);
        bus.start(0, -1L, 200);
        bus.deliver(false);
        Check.due("nothing yet", bus.noted(2, 0), -1);
        Frames.deliverThis(bus, Frames.claim(128), -1L);
        Check.due("noted(2, 0)", bus.noted(2, 0), 128);
        Frames.deliverThis(bus, Frames.claim(200), -1L);
        Check.due("an earlier CLAIM that came later", bus.noted(2, 0), 200);
        Check.due("noted(1, 0)", bus.noted(1, 0), 200);
        Check.due("noted(2, 1)", bus.noted(2, 1), 200);
    }

    private static void notedSinceItWasStarted() {
        Check.of("since it was started");
        AddressClaimBus bus = Frames.holding(3);
        Check.due("noted(0, 1)", bus.noted(0, 1), 11);
        bus.stop(0);
        Check.due("off", bus.noted(0, 1), -1);
        bus.start(0, 1L, 10);
        Check.due("started anew", bus.noted(0, 1), -1);
        Check.due("started anew", bus.noted(0, 2), -1);
        Check.due("the others have noted it before", bus.noted(1, 0), 10);
        bus.stop(2);
        bus.start(2, 3L, 22);
        Check.due("the one that is noted may stop and start", bus.noted(1, 2), 12);
        Frames.deliver(bus, 2);
        Check.due("until its next CLAIM", bus.noted(1, 2), 22);
        Check.due("noted(0, 2)", bus.noted(0, 2), 22);
    }

    private static void spareAddresses() {
        Check.of("one of 128 .. 131 is not noted for any function, its address is the least such one");
        int[][] notedAndDue = {
            {20, 21, 22, 128}, {128, 21, 22, 129}, {129, 128, 22, 130}, {129, 130, 131, 128},
            {131, 128, 130, 129}, {128, 129, 131, 130}, {130, 129, 128, 131}, {127, 132, 128, 129},
        };
        for (int[] row : notedAndDue) {
            AddressClaimBus bus = withNoted(row, 10);
            Check.due("address(0)", bus.address(0), row[3]);
            Check.due("state(0)", bus.state(0), 1);
            Check.due("identifier()", bus.identifier(), Frames.claim(row[3]));
            Check.due("data()", bus.data(), -1L);
        }
    }

    private static void allSpareAddressesNoted() {
        Check.of("Otherwise it is unable and sends a CLAIM");
        int[][] notedAndLost = {{129, 130, 131, 128}, {128, 130, 131, 129}, {128, 129, 131, 130}, {128, 129, 130, 131}};
        for (int[] row : notedAndLost) {
            AddressClaimBus bus = withNoted(row, row[3]);
            Check.due("state(0)", bus.state(0), 3);
            Check.due("address(0)", bus.address(0), 254);
            Check.due("identifier()", bus.identifier(), Frames.claim(254));
            Check.due("data()", bus.data(), -1L);
            Check.due("no 250 ms for it", bus.tick(2000), 4);
            Check.due("state(0)", bus.state(0), 3);
        }
    }

    /** Function 0 with bit 63 in its name has noted these for 1, 2 and 3, then loses its address to 4. */
    private static AddressClaimBus withNoted(int[] addresses, int lost) {
        AddressClaimBus bus = new AddressClaimBus();
        bus.start(0, -1L, lost);
        bus.lose();
        for (int f = 1; f <= 3; f++) {
            bus.start(f, f, addresses[f - 1]);
            bus.deliver(false);
        }
        bus.start(4, 4L, lost);
        bus.deliver(false);
        return bus;
    }

    private static void spareAddressFreeAgain() {
        Check.of("a spare address whose function has claimed another since");
        AddressClaimBus bus = new AddressClaimBus();
        bus.start(0, -1L, 20);
        bus.lose();
        bus.start(1, 5L, 128);
        bus.deliver(false);
        bus.start(2, 4L, 128);
        bus.deliver(false);
        Check.due("noted(0, 2)", bus.noted(0, 2), 128);
        bus.deliver(false);
        Check.due("254 counts as no address", bus.noted(0, 1), 254);
        bus.stop(2);
        bus.start(2, 4L, 30);
        bus.deliver(false);
        bus.start(3, 3L, 20);
        bus.deliver(false);
        Check.due("nobody has it any more", bus.address(0), 128);
    }

    private static void bit63() {
        Check.of("If bit 63 of its name is 1");
        long[] names = {Long.MIN_VALUE, -1L, Long.MAX_VALUE, 1L << 62};
        int[] due = {128, 128, 254, 254};
        for (int i = 0; i < names.length; i++) {
            AddressClaimBus bus = new AddressClaimBus();
            bus.start(0, names[i], 20);
            bus.lose();
            bus.start(1, 1L, 20);
            bus.deliver(false);
            Check.due("address with the name " + names[i], bus.address(0), due[i]);
        }
    }

    private static void spareAddressBeginsTimeAnew() {
        Check.of("it is claiming, sends a CLAIM, and the 250 ms begin anew");
        AddressClaimBus bus = new AddressClaimBus();
        bus.start(1, 1L, 20);
        bus.start(0, -1L, 20);
        bus.tick(249);
        bus.deliver(false);
        Check.due("only function 1 holds 1 ms later", bus.tick(1), 1);
        Check.due("state(0)", bus.state(0), 1);
        Check.due("tick(248)", bus.tick(248), 0);
        Check.due("tick(1)", bus.tick(1), 1);
        Check.due("state(0)", bus.state(0), 2);
        Check.due("address(0)", bus.address(0), 128);
    }

    private static void everyOutgoingSessionEndsWith13() {
        Check.of("its sessions end, the outgoing one with the result 13");
        for (int kind = 1; kind <= 3; kind++) {
            AddressClaimBus bus = Frames.withOutgoing(kind);
            bus.start(3, 0L, 10);
            bus.deliver(false);
            Check.due("outgoing(0)", bus.outgoing(0), 13);
            Check.due("state(0)", bus.state(0), 3);
        }
    }

    private static void messagesOutliveTheAddress() {
        Check.of("messages that were delivered before the address is lost");
        AddressClaimBus bus = Frames.holding(2);
        bus.send(1, 10, 7, 9, 40L);
        Frames.deliverAll(bus);
        bus.start(3, 0L, 10);
        bus.deliver(false);
        Check.due("state(0)", bus.state(0), 3);
        Check.due("delivered(0)", bus.delivered(0), 1);
        Check.due("message(0, 0)", bus.message(0, 0), 11);
        Check.due("byteOf(0, 0)", bus.byteOf(0, 0), 40);
        Check.due("noted(0, 1)", bus.noted(0, 1), 11);
    }
}
