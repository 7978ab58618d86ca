/** For each promise of the document: ordinary inputs. PromiseEdgesTest has the edges and the wrong inputs. */
public final class PromiseTest {
    public static void main(String[] args) {
        newObject();
        start();
        stop();
        busy();
        state();
        address();
        noted();
        request();
        send();
        waiting();
        identifier();
        data();
        deliver();
        lose();
        overflowed();
        tick();
        outgoing();
        incoming();
        delivered();
        message();
        byteOf();
        Check.end();
    }

    private static void newObject() {
        Check.of("promise 1");
        AddressClaimBus bus = new AddressClaimBus();
        for (int f = 0; f < 5; f++) {
            Check.due("state", bus.state(f), 0);
            Check.due("address", bus.address(f), -1);
            Check.due("outgoing", bus.outgoing(f), -1);
            Check.due("incoming", bus.incoming(f), -1);
            Check.due("delivered", bus.delivered(f), -1);
            Check.due("message", bus.message(f, 0), -1);
            Check.due("byteOf", bus.byteOf(f, 0), -1);
            Check.due("noted", bus.noted(f, 4 - f), -1);
            Check.due("busy(f, false)", bus.busy(f, false), false);
        }
        Check.due("identifier()", bus.identifier(), -1);
        Check.due("data()", bus.data(), 0L);
        Check.due("deliver(false)", bus.deliver(false), false);
        Check.due("lose()", bus.lose(), false);
        Check.due("waiting()", bus.waiting(), 0);
        Check.due("overflowed()", bus.overflowed(), 0);
        Check.due("tick(2000)", bus.tick(2000), 0);
    }

    private static void start() {
        Check.of("promise 2");
        AddressClaimBus bus = new AddressClaimBus();
        Check.due("start(0)", bus.start(0, 1L, 10), true);
        Check.due("waiting()", bus.waiting(), 1);
        Check.due("identifier()", bus.identifier(), Frames.claim(10));
        Check.due("address(0)", bus.address(0), 10);
        Check.due("state(0)", bus.state(0), 1);
        Check.due("outgoing(0)", bus.outgoing(0), 0);
        Check.due("incoming(0)", bus.incoming(0), 0);
        Check.due("delivered(0)", bus.delivered(0), 0);
        Check.due("noted(0, 1)", bus.noted(0, 1), -1);
    }

    private static void stop() {
        Check.of("promise 3");
        AddressClaimBus bus = Frames.holding(2);
        Check.due("stop of one that is off", bus.stop(2), false);
        bus.send(0, 11, 1, 30, 5L);
        bus.deliver(false);
        Check.due("stop(0)", bus.stop(0), true);
        Check.due("state(0)", bus.state(0), 0);
        Check.due("stop(0) again", bus.stop(0), false);
        Check.due("incoming(1) goes on", bus.incoming(1), 1);
        Check.due("stop(1)", bus.stop(1), true);
        Check.due("no timer is left", bus.tick(2000), 0);
        bus.start(3, 9L, 3);
        bus.stop(3);
        Check.due("nor the 250 ms", bus.tick(2000), 0);
        Check.due("state(3)", bus.state(3), 0);
    }

    private static void busy() {
        Check.of("promise 4");
        AddressClaimBus bus = Frames.holding(2);
        Check.due("busy(1, true)", bus.busy(1, true), true);
        Check.due("busy(1, true) again", bus.busy(1, true), false);
        bus.send(0, 11, 1, 9, 5L);
        bus.deliver(false);
        Check.due("a busy one holds", bus.data(), Frames.grant(0, 1, 1));
        Check.due("busy(1, false)", bus.busy(1, false), true);
        Check.due("busy(1, false) again", bus.busy(1, false), false);
        Check.due("that alone sends nothing", bus.waiting(), 1);
        Check.due("busy of one that is off", bus.busy(4, true), true);
        bus.start(4, 50L, 50);
        Check.due("it is still busy when started", bus.busy(4, true), false);
        bus.stop(4);
        Check.due("and when stopped", bus.busy(4, false), true);
    }

    private static void state() {
        Check.of("promise 5");
        AddressClaimBus bus = new AddressClaimBus();
        Check.due("off", bus.state(0), 0);
        bus.start(0, 7L, 10);
        Check.due("claiming", bus.state(0), 1);
        bus.tick(249);
        Check.due("claiming for 249 ms", bus.state(0), 1);
        bus.tick(1);
        Check.due("holding", bus.state(0), 2);
        bus.start(1, 6L, 10);
        Frames.deliver(bus, 2);
        Check.due("unable", bus.state(0), 3);
    }

    private static void address() {
        Check.of("promise 6");
        AddressClaimBus bus = new AddressClaimBus();
        Check.due("off", bus.address(0), -1);
        bus.start(0, 7L, 10);
        Check.due("claiming", bus.address(0), 10);
        bus.tick(250);
        Check.due("holding", bus.address(0), 10);
        bus.start(1, 6L, 10);
        Frames.deliver(bus, 2);
        Check.due("unable", bus.address(0), 254);
        bus.stop(0);
        Check.due("off again", bus.address(0), -1);
    }

    private static void noted() {
        Check.of("promise 7");
        AddressClaimBus bus = new AddressClaimBus();
        bus.start(0, 7L, 10);
        bus.start(1, 6L, 11);
        Check.due("nothing yet", bus.noted(0, 1), -1);
        bus.deliver(false);
        Check.due("noted(1, 0)", bus.noted(1, 0), 10);
        Check.due("noted(0, 1)", bus.noted(0, 1), -1);
        Check.due("a claim reaches not its sender", bus.noted(0, 0), -1);
        Check.due("one that is off notes nothing", bus.noted(2, 0), -1);
        bus.deliver(false);
        bus.start(2, 1L, 10);
        bus.deliver(false);
        Check.due("noted(0, 2)", bus.noted(0, 2), 10);
        Check.due("noted(1, 0) before its claim of 254", bus.noted(1, 0), 10);
        bus.deliver(false);
        Check.due("noted(1, 0) after it", bus.noted(1, 0), 254);
        bus.stop(0);
        Check.due("it stays noted when it stops", bus.noted(1, 0), 254);
        Check.due("one that was stopped", bus.noted(0, 1), -1);
    }

    private static void request() {
        Check.of("promise 8");
        AddressClaimBus bus = Frames.holding(3);
        Check.due("request of one that is off", bus.request(3), false);
        Check.due("waiting()", bus.waiting(), 0);
        Check.due("request(1)", bus.request(1), true);
        Frames.deliverThis(bus, Frames.request(11), 60928L);
        Check.due("the others claim", bus.waiting(), 2);
        Frames.deliverThis(bus, Frames.claim(10), 1L);
        Frames.deliverThis(bus, Frames.claim(12), 3L);
        bus.start(3, 9L, 10);
        Check.due("request of a claiming one", bus.request(3), true);
        Check.due("identifier()", bus.identifier(), Frames.request(10));
        bus.lose();
        Frames.deliver(bus, 3);
        Check.due("unable", bus.state(3), 3);
        Check.due("request of an unable one", bus.request(3), true);
        Check.due("identifier()", bus.identifier(), Frames.request(254));
    }

    private static void send() {
        Check.of("promise 9");
        AddressClaimBus bus = Frames.holding(2);
        Check.due("send to one", bus.send(0, 11, 262143, 49, 0L), true);
        Check.due("outgoing(0)", bus.outgoing(0), 2);
        Frames.deliverThis(bus, Frames.control(11, 10), Frames.open(49, 7, 262143));
        Check.due("send to all", bus.send(1, 255, 0, 9, 0L), true);
        Check.due("outgoing(1)", bus.outgoing(1), 1);
        bus.lose();
        Check.due("identifier()", bus.identifier(), Frames.control(255, 11));
        Check.due("data()", bus.data(), Frames.all(9, 2, 0));
        bus.stop(1);
        bus.start(1, 2L, 11);
        bus.tick(250);
        Check.due("send to 0", bus.send(1, 0, 1, 9, 0L), true);
        bus.stop(1);
        bus.start(1, 2L, 11);
        bus.tick(250);
        Check.due("send to 253, which nobody has", bus.send(1, 253, 1, 9, 0L), true);
    }

    private static void waiting() {
        Check.of("promise 10");
        AddressClaimBus bus = new AddressClaimBus();
        Check.due("waiting()", bus.waiting(), 0);
        bus.start(0, 1L, 10);
        Check.due("waiting()", bus.waiting(), 1);
        bus.request(0);
        Check.due("waiting()", bus.waiting(), 2);
        bus.lose();
        Check.due("waiting()", bus.waiting(), 1);
        bus.deliver(false);
        Check.due("waiting()", bus.waiting(), 0);
    }

    private static void identifier() {
        Check.of("promise 11");
        AddressClaimBus bus = new AddressClaimBus();
        Check.due("identifier()", bus.identifier(), -1);
        bus.start(0, 1L, 200);
        Check.due("identifier()", bus.identifier(), 6 * 67108864 + 238 * 65536 + 255 * 256 + 200);
        bus.start(1, 2L, 100);
        Check.due("a lower source", bus.identifier(), Frames.claim(100));
        bus.request(0);
        Check.due("a lower format", bus.identifier(), Frames.request(200));
        Frames.deliverAll(bus);
        bus.tick(250);
        bus.send(0, 100, 1, 9, 0L);
        bus.send(1, 50, 1, 9, 0L);
        Check.due("a lower target", bus.identifier(), Frames.control(50, 100));
        bus.request(1);
        Check.due("a lower priority", bus.identifier(), Frames.request(100));
        bus.stop(0);
        bus.stop(1);
        Check.due("identifier()", bus.identifier(), -1);
    }

    private static void data() {
        Check.of("promise 12");
        AddressClaimBus bus = new AddressClaimBus();
        Check.due("data()", bus.data(), 0L);
        bus.start(0, Long.MIN_VALUE + 3L, 20);
        Check.due("a name", bus.data(), Long.MIN_VALUE + 3L);
        bus.start(1, 5L, 20);
        Check.due("the same identifier: the one that waited longest", bus.data(), Long.MIN_VALUE + 3L);
        bus.lose();
        Check.due("then the other", bus.data(), 5L);
        bus.request(1);
        Check.due("a request", bus.data(), 60928L);
        Frames.lose(bus, 2);
        Check.due("data()", bus.data(), 0L);
    }

    private static void deliver() {
        Check.of("promise 13");
        AddressClaimBus bus = new AddressClaimBus();
        Check.due("deliver(false)", bus.deliver(false), false);
        Check.due("deliver(true)", bus.deliver(true), false);
        bus.start(2, 8L, 12);
        bus.start(0, 7L, 10);
        bus.start(4, 9L, 14);
        bus.request(2);
        Check.due("deliver(false)", bus.deliver(false), true);
        Check.due("all but the sender answer", bus.waiting(), 5);
        Frames.deliver(bus, 5);
        Check.due("waiting()", bus.waiting(), 0);
        Check.due("noted(2, 2)", bus.noted(2, 2), -1);
        Check.due("noted(4, 2)", bus.noted(4, 2), 12);
    }

    private static void lose() {
        Check.of("promise 14");
        AddressClaimBus bus = new AddressClaimBus();
        Check.due("lose()", bus.lose(), false);
        bus.start(0, 7L, 11);
        bus.start(1, 8L, 10);
        Check.due("lose()", bus.lose(), true);
        Check.due("the next one was lost", bus.data(), 7L);
        Check.due("it reached nobody", bus.noted(0, 1), -1);
        Check.due("waiting()", bus.waiting(), 1);
        Check.due("overflowed()", bus.overflowed(), 0);
        Check.due("lose()", bus.lose(), true);
        Check.due("lose()", bus.lose(), false);
    }

    private static void overflowed() {
        Check.of("promise 15");
        AddressClaimBus bus = new AddressClaimBus();
        bus.start(0, 7L, 11);
        for (int i = 0; i < 47; i++) {
            bus.request(0);
        }
        Check.due("waiting()", bus.waiting(), 48);
        Check.due("overflowed()", bus.overflowed(), 0);
        Check.due("request(0)", bus.request(0), true);
        Check.due("waiting()", bus.waiting(), 48);
        Check.due("overflowed()", bus.overflowed(), 1);
        Check.due("start(1)", bus.start(1, 8L, 12), true);
        Check.due("overflowed()", bus.overflowed(), 2);
        bus.tick(250);
        Check.due("send(1)", bus.send(1, 255, 1, 9, 0L), true);
        Check.due("overflowed()", bus.overflowed(), 3);
        Check.due("tick(100)", bus.tick(100), 2);
        Check.due("overflowed()", bus.overflowed(), 5);
        Check.due("the session went on all the same", bus.outgoing(1), 10);
        bus.stop(0);
        Check.due("waiting()", bus.waiting(), 0);
        Check.due("overflowed()", bus.overflowed(), 5);
    }

    private static void tick() {
        Check.of("promise 16");
        AddressClaimBus bus = new AddressClaimBus();
        for (int ms : new int[] {0, -1, 2001, Integer.MIN_VALUE, Integer.MAX_VALUE}) {
            Check.due("tick out of range", bus.tick(ms), -1);
        }
        bus.start(0, 7L, 11);
        Check.due("a refused tick", bus.tick(2001), -1);
        Check.due("tick(1)", bus.tick(1), 0);
        bus.start(1, 8L, 12);
        Check.due("tick(248)", bus.tick(248), 0);
        Check.due("at its end too", bus.tick(1), 1);
        Check.due("state(0)", bus.state(0), 2);
        Check.due("state(1)", bus.state(1), 1);
        Check.due("tick(2000)", bus.tick(2000), 1);
        Check.due("tick(2000)", bus.tick(2000), 0);
        bus.send(0, 255, 1, 49, 0L);
        Check.due("seven packets in one tick", bus.tick(2000), 7);
    }

    private static void outgoing() {
        Check.of("promise 17");
        AddressClaimBus bus = Frames.holding(3);
        Check.due("off", bus.outgoing(3), -1);
        Check.due("none yet", bus.outgoing(0), 0);
        bus.send(0, 255, 1, 9, 0L);
        Check.due("to all", bus.outgoing(0), 1);
        bus.tick(100);
        Check.due("done", bus.outgoing(0), 10);
        Frames.lose(bus, 3);
        bus.busy(1, true);
        bus.send(0, 11, 1, 9, 0L);
        Check.due("directed", bus.outgoing(0), 2);
        Frames.deliver(bus, 2);
        Check.due("held", bus.outgoing(0), 3);
        bus.tick(1050);
        Check.due("late", bus.outgoing(0), 11);
        bus.stop(0);
        Check.due("off", bus.outgoing(0), -1);
        bus.start(0, 1L, 10);
        Check.due("none since it was started", bus.outgoing(0), 0);
    }

    private static void incoming() {
        Check.of("promise 18");
        AddressClaimBus bus = Frames.holding(4);
        Check.due("off", bus.incoming(4), -1);
        Check.due("none", bus.incoming(3), 0);
        bus.send(0, 13, 1, 9, 0L);
        bus.deliver(false);
        Check.due("one", bus.incoming(3), 1);
        bus.lose();
        bus.send(1, 255, 1, 9, 0L);
        bus.deliver(false);
        Check.due("two", bus.incoming(3), 2);
        Check.due("to all", bus.incoming(2), 1);
        Check.due("not to the sender", bus.incoming(1), 0);
    }

    private static void delivered() {
        Check.of("promise 19");
        AddressClaimBus bus = Frames.holding(2);
        Check.due("off", bus.delivered(4), -1);
        Check.due("none", bus.delivered(1), 0);
        for (int i = 1; i <= 3; i++) {
            bus.send(0, 11, 1, 9, 0L);
            Frames.deliver(bus, 3);
            Check.due("not yet", bus.delivered(1), i - 1);
            Frames.deliver(bus, 1);
            Check.due("delivered", bus.delivered(1), i);
            Frames.deliverAll(bus);
        }
        Check.due("delivered(0)", bus.delivered(0), 0);
    }

    private static void message() {
        Check.of("promise 20");
        AddressClaimBus bus = Frames.holding(2);
        Check.due("none", bus.message(1, 0), -1);
        bus.send(0, 11, 262143, 49, 0L);
        Frames.deliverAll(bus);
        Check.due("source", bus.message(1, 0), 10);
        Check.due("group", bus.message(1, 1), 262143);
        Check.due("size", bus.message(1, 2), 49);
        Check.due("directed", bus.message(1, 3), 0);
        Check.due("what = -1", bus.message(1, -1), -1);
        Check.due("what = 4", bus.message(1, 4), -1);
        Check.due("of the sender", bus.message(0, 0), -1);
        bus.send(0, 255, 0, 9, 0L);
        bus.deliver(false);
        bus.tick(50);
        bus.deliver(false);
        Check.due("while another comes in", bus.message(1, 2), 49);
        bus.tick(50);
        bus.deliver(false);
        Check.due("group", bus.message(1, 1), 0);
        Check.due("size", bus.message(1, 2), 9);
        Check.due("to all", bus.message(1, 3), 1);
        bus.stop(1);
        Check.due("off", bus.message(1, 0), -1);
    }

    private static void byteOf() {
        Check.of("promise 21");
        AddressClaimBus bus = Frames.holding(2);
        long seed = 0xFEDCBA9876543210L;
        int[] seedBytes = {0x10, 0x32, 0x54, 0x76, 0x98, 0xBA, 0xDC, 0xFE};
        Check.due("none", bus.byteOf(1, 0), -1);
        bus.send(0, 11, 1, 49, seed);
        Frames.deliverAll(bus);
        for (int i = 0; i < 49; i++) {
            Check.due("byte " + i, bus.byteOf(1, i), (seedBytes[i % 8] + i) % 256);
        }
        for (int i : new int[] {-1, 49, 50, Integer.MIN_VALUE, Integer.MAX_VALUE}) {
            Check.due("no byte", bus.byteOf(1, i), -1);
        }
        bus.send(0, 11, 1, 9, -1L);
        Frames.deliver(bus, 3);
        Check.due("while another comes in", bus.byteOf(1, 48), (0x10 + 48) % 256);
        Frames.deliverAll(bus);
        Check.due("byte 0", bus.byteOf(1, 0), 255);
        Check.due("byte 8", bus.byteOf(1, 8), 7);
        Check.due("no byte 9", bus.byteOf(1, 9), -1);
        bus.stop(1);
        Check.due("off", bus.byteOf(1, 0), -1);
    }
}
