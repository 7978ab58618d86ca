/** What "Terms" says of claims: who keeps an address, who takes another, and when the 250 ms begin anew. */
public final class ClaimTest {
    public static void main(String[] args) {
        lesserNameDefends();
        holderDefendsWithoutTimer();
        namesHaveNoSign();
        greaterNameTakesSpareAddress();
        spareAddressNotedByAnother();
        spareAddressNotedForEachFunction();
        noSpareAddressLeft();
        unableOneDefendsNothing();
        requestBeginsNoTime();
        losingEndsSessions();
        losingWithoutSessionKeepsResult();
        Check.end();
    }

    private static void lesserNameDefends() {
        Check.of("a claiming one with the lesser name");
        AddressClaimBus bus = new AddressClaimBus();
        bus.start(0, 5L, 20);
        bus.lose();
        bus.tick(200);
        bus.start(1, 6L, 20);
        bus.tick(49);
        bus.deliver(false);
        Check.due("waiting()", bus.waiting(), 1);
        Check.due("data()", bus.data(), 5L);
        Check.due("the 250 ms began anew", bus.tick(200), 0);
        Check.due("so the other came first", bus.tick(1), 1);
        Check.due("state(0)", bus.state(0), 1);
        Check.due("state(1)", bus.state(1), 2);
        Check.due("tick(48)", bus.tick(48), 0);
        Check.due("tick(1)", bus.tick(1), 1);
        Check.due("state(0)", bus.state(0), 2);
        bus.deliver(false);
        Check.due("one that holds loses it too", bus.state(1), 3);
        Check.due("it says so", bus.identifier(), Frames.claim(254));
        Check.due("with its name", bus.data(), 6L);
    }

    private static void holderDefendsWithoutTimer() {
        Check.of("a holding one with the lesser name");
        AddressClaimBus bus = Frames.holding(1);
        bus.start(1, 6L, 10);
        bus.deliver(false);
        Check.due("state(0)", bus.state(0), 2);
        Check.due("identifier()", bus.identifier(), Frames.claim(10));
        Check.due("data()", bus.data(), 1L);
        bus.deliver(false);
        Check.due("state(1)", bus.state(1), 3);
        Check.due("noted(1, 0)", bus.noted(1, 0), 10);
        Check.due("no 250 ms run", bus.tick(2000), 0);
    }

    private static void namesHaveNoSign() {
        Check.of("names without sign");
        AddressClaimBus bus = new AddressClaimBus();
        bus.start(0, -1L, 20);
        bus.start(1, Long.MAX_VALUE, 20);
        bus.start(2, Long.MIN_VALUE, 20);
        bus.lose();
        bus.deliver(false);
        Check.due("-1 is more than the greatest", bus.address(0), 128);
        Check.due("so is the least", bus.address(2), 128);
        Frames.deliverAll(bus);
        Check.due("address(1)", bus.address(1), 20);
        Check.due("the least is less than -1", bus.address(2), 128);
        Check.due("address(0)", bus.address(0), 129);
    }

    private static void greaterNameTakesSpareAddress() {
        Check.of("a spare address");
        AddressClaimBus bus = new AddressClaimBus();
        bus.start(0, -1L, 20);
        bus.lose();
        bus.tick(250);
        bus.start(1, 1L, 20);
        bus.deliver(false);
        Check.due("state(0)", bus.state(0), 1);
        Check.due("address(0)", bus.address(0), 128);
        Check.due("it claims", bus.identifier(), Frames.claim(128));
        Check.due("with its name", bus.data(), -1L);
        Check.due("both 250 ms", bus.tick(249), 0);
        Check.due("both 250 ms", bus.tick(1), 2);
        Check.due("state(0)", bus.state(0), 2);
        bus.start(2, 2L, 128);
        Frames.deliver(bus, 2);
        Check.due("the next one", bus.address(0), 129);
    }

    private static void spareAddressNotedByAnother() {
        Check.of("the least spare address that is not noted");
        AddressClaimBus bus = new AddressClaimBus();
        bus.start(0, -1L, 20);
        bus.start(1, 1L, 128);
        bus.start(2, 2L, 130);
        bus.start(3, 3L, 20);
        bus.lose();
        bus.deliver(false);
        Check.due("nothing was noted yet", bus.address(0), 128);
        Check.due("noted(0, 1)", bus.noted(0, 1), -1);
        Frames.deliver(bus, 1);
        Check.due("128 has a lesser name", bus.address(0), 129);
        Frames.deliverAll(bus);
        bus.stop(2);
        bus.start(4, 4L, 129);
        bus.deliver(false);
        Check.due("130 is still noted for one that is off", bus.address(0), 131);
        Frames.deliverAll(bus);
        bus.stop(3);
        bus.start(3, 9L, 131);
        bus.deliver(false);
        Check.due("none is left", bus.address(0), 254);
        Check.due("state(0)", bus.state(0), 3);
    }

    private static void spareAddressNotedForEachFunction() {
        for (int f = 0; f < 3; f++) {
            Check.of("128 noted for function " + f);
            AddressClaimBus bus = new AddressClaimBus();
            bus.start(4, -1L, 20);
            bus.lose();
            bus.start(f, 1L, 128);
            bus.deliver(false);
            bus.start(3, 2L, 20);
            bus.deliver(false);
            Check.due("address(4)", bus.address(4), 129);
        }
    }

    private static void noSpareAddressLeft() {
        Check.of("no spare address for a name without bit 63");
        AddressClaimBus bus = new AddressClaimBus();
        bus.start(0, Long.MAX_VALUE, 128);
        bus.start(1, 1L, 128);
        bus.lose();
        bus.deliver(false);
        Check.due("state(0)", bus.state(0), 3);
        Check.due("address(0)", bus.address(0), 254);
        Check.due("identifier()", bus.identifier(), Frames.claim(254));
        Check.due("tick(250)", bus.tick(250), 1);
        Check.due("state(0)", bus.state(0), 3);
    }

    private static void unableOneDefendsNothing() {
        Check.of("two that are unable");
        AddressClaimBus bus = new AddressClaimBus();
        bus.start(0, 1L, 20);
        bus.start(1, 2L, 20);
        bus.start(2, 3L, 20);
        Frames.deliver(bus, 1);
        Check.due("state(1)", bus.state(1), 3);
        Check.due("state(2)", bus.state(2), 3);
        bus.deliver(false);
        Check.due("an old claim of 20 makes 0 claim again", bus.waiting(), 4);
        Frames.lose(bus, 2);
        Check.due("identifier()", bus.identifier(), Frames.claim(254));
        Check.due("waiting()", bus.waiting(), 2);
        Frames.deliver(bus, 1);
        Check.due("254 is no address to defend", bus.waiting(), 1);
        Check.due("noted(2, 1)", bus.noted(2, 1), 254);
        Check.due("state(2)", bus.state(2), 3);
        bus.lose();
        bus.request(1);
        bus.deliver(false);
        Check.due("an unable one answers a request", bus.waiting(), 2);
        bus.lose();
        Check.due("identifier()", bus.identifier(), Frames.claim(254));
        Check.due("data()", bus.data(), 3L);
    }

    private static void requestBeginsNoTime() {
        Check.of("a request");
        AddressClaimBus bus = new AddressClaimBus();
        bus.start(0, 1L, 20);
        bus.start(1, 2L, 21);
        bus.tick(249);
        bus.request(1);
        bus.deliver(false);
        Check.due("waiting()", bus.waiting(), 3);
        Check.due("tick(1)", bus.tick(1), 2);
        Check.due("state(0)", bus.state(0), 2);
        bus.request(4);
        bus.start(4, 3L, 22);
        bus.stop(4);
        bus.request(1);
        bus.deliver(false);
        Check.due("one that is off does not answer", bus.waiting(), 4);
    }

    private static void losingEndsSessions() {
        Check.of("sessions of one that loses its address");
        AddressClaimBus bus = Frames.holding(3);
        bus.send(1, 10, 1, 9, 0L);
        bus.deliver(false);
        bus.lose();
        bus.send(2, 255, 1, 9, 0L);
        bus.deliver(false);
        bus.send(0, 11, 1, 9, 0L);
        Check.due("incoming(0)", bus.incoming(0), 2);
        Check.due("outgoing(0)", bus.outgoing(0), 2);
        bus.start(3, 0L, 10);
        bus.deliver(false);
        Check.due("incoming(0)", bus.incoming(0), 0);
        Check.due("outgoing(0)", bus.outgoing(0), 13);
        Check.due("its frames wait on", bus.waiting(), 2);
        bus.lose();
        Check.due("with the source they had", bus.identifier(), Frames.control(11, 10));
        Check.due("delivered(0)", bus.delivered(0), 0);
        bus.stop(1);
        bus.stop(2);
        bus.stop(3);
        Check.due("no timer of its own is left", bus.tick(2000), 0);
    }

    private static void losingWithoutSessionKeepsResult() {
        Check.of("no session when the address is lost");
        AddressClaimBus bus = Frames.holding(1);
        bus.send(0, 255, 1, 9, 0L);
        bus.tick(100);
        Check.due("outgoing(0)", bus.outgoing(0), 10);
        bus.start(3, 0L, 10);
        bus.deliver(false);
        Check.due("state(0)", bus.state(0), 3);
        Check.due("outgoing(0)", bus.outgoing(0), 10);
    }
}
