/** Identifiers and data as the document tells them, and ways to bring a bus into an ordinary state. */
final class Frames {
    private Frames() {
    }

    static int claim(int source) {
        return 6 * 67108864 + 238 * 65536 + 255 * 256 + source;
    }

    static int request(int source) {
        return 6 * 67108864 + 234 * 65536 + 255 * 256 + source;
    }

    static int control(int target, int source) {
        return 7 * 67108864 + 236 * 65536 + target * 256 + source;
    }

    static int packet(int target, int source) {
        return 7 * 67108864 + 235 * 65536 + target * 256 + source;
    }

    /** The long with these bytes, byte 1 first. */
    static long bytes(int... values) {
        long data = 0L;
        for (int i = 0; i < values.length; i++) {
            data |= (long) (values[i] & 255) << (8 * i);
        }
        return data;
    }

    static long grant(int number, int packet, int group) {
        return bytes(17, number, packet, 255, 255, group, group >> 8, group >> 16);
    }

    static long open(int size, int packets, int group) {
        return bytes(16, size, 0, packets, 255, group, group >> 8, group >> 16);
    }

    static long all(int size, int packets, int group) {
        return bytes(32, size, 0, packets, 255, group, group >> 8, group >> 16);
    }

    static long done(int size, int packets, int group) {
        return bytes(19, size, 0, packets, 255, group, group >> 8, group >> 16);
    }

    static long abort(int reason, int group) {
        return bytes(255, reason, 255, 255, 255, group, group >> 8, group >> 16);
    }

    /** Functions 0 .. count - 1 that hold the addresses 10, 11, .. with the names 1, 2, .. */
    static AddressClaimBus holding(int count) {
        AddressClaimBus bus = new AddressClaimBus();
        for (int f = 0; f < count; f++) {
            bus.start(f, f + 1L, 10 + f);
        }
        deliverAll(bus);
        bus.tick(250);
        return bus;
    }

    /** Function f is in state f, with the name 10 + f: 0 is off, 1 claims, 2 holds, 3 is unable. 4 is off too. */
    static AddressClaimBus inEachState() {
        AddressClaimBus bus = new AddressClaimBus();
        bus.start(2, 12L, 20);
        bus.lose();
        bus.tick(250);
        bus.start(3, 13L, 20);
        deliver(bus, 3);
        bus.start(1, 11L, 21);
        bus.lose();
        for (int f = 0; f < 4; f++) {
            Check.due("state(" + f + ")", bus.state(f), f);
        }
        Check.due("waiting()", bus.waiting(), 0);
        return bus;
    }

    /** Three that hold; function 0 has a session for which outgoing(0) answers this number, 1 .. 3. */
    static AddressClaimBus withOutgoing(int answer) {
        AddressClaimBus bus = holding(3);
        bus.busy(2, true);
        bus.send(0, answer == 1 ? 255 : answer == 2 ? 11 : 12, 1, 9, 0L);
        deliver(bus, 2);
        Check.due("outgoing(0)", bus.outgoing(0), answer);
        return bus;
    }

    /** Function f sends 15 bytes to function 4 or to all, with its number as group; an answer is lost. */
    static void beginAtFunction4(AddressClaimBus bus, int f, boolean toAll) {
        bus.send(f, toAll ? 255 : 14, f, 15, 0L);
        bus.deliver(false);
        bus.lose();
        Check.due("waiting()", bus.waiting(), 0);
    }

    /** Function f as holding(..) makes it, started anew: its sessions and frames are gone, 250 ms pass. */
    static void restart(AddressClaimBus bus, int f) {
        bus.stop(f);
        bus.start(f, f + 1L, 10 + f);
        Check.due("the claim of the restarted one is next", bus.identifier(), claim(10 + f));
        bus.lose();
        bus.tick(250);
    }

    /** So many REQUESTs of function f, which come before all frames but those of the same kind. */
    static void fill(AddressClaimBus bus, int f, int count) {
        for (int i = 0; i < count; i++) {
            bus.request(f);
        }
    }

    /**
     * So many frames that come behind nearly all others: function 4 sends in vain to 253. 1250 ms pass for
     * every second one; function 4 has no session when the count is even.
     */
    static void fillBehind(AddressClaimBus bus, int count) {
        for (int i = 0; i < count; i++) {
            if (!bus.send(4, 253, 0, 9, 0L)) {
                bus.tick(1250);
            }
        }
    }

    static void deliver(AddressClaimBus bus, int times) {
        for (int i = 0; i < times; i++) {
            bus.deliver(false);
        }
    }

    static void lose(AddressClaimBus bus, int times) {
        for (int i = 0; i < times; i++) {
            bus.lose();
        }
    }

    static void deliverAll(AddressClaimBus bus) {
        for (int i = 0; i < 400 && bus.deliver(false); i++) {
            continue;
        }
    }

    /** Delivers the next frame, which must be this one. */
    static void deliverThis(AddressClaimBus bus, int identifier, long data) {
        Check.due("identifier()", bus.identifier(), identifier);
        Check.due("data()", bus.data(), data);
        Check.due("deliver(false)", bus.deliver(false), true);
    }
}
