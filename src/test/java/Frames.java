/** Identifiers and data as the document tells them, and ways to bring a bus into an ordinary state. */
final class Frames {
    private Frames() {
    }

    static int claim(int source) {
        return 6 * 67108864 + 238 * 65536 + 255 * 256 + source;
    }

    static int request(int source) {
        return 6 * 67108864 + 234 * 65536 + 255 * 256 + source;
    }

    static int control(int target, int source) {
        return 7 * 67108864 + 236 * 65536 + target * 256 + source;
    }

    static int packet(int target, int source) {
        return 7 * 67108864 + 235 * 65536 + target * 256 + source;
    }

    /** The long with these bytes, byte 1 first. */
    static long bytes(int... values) {
        long data = 0L;
        for (int i = 0; i < values.length; i++) {
            data |= (long) (values[i] & 255) << (8 * i);
        }
        return data;
    }

    static long grant(int number, int packet, int group) {
        return bytes(17, number, packet, 255, 255, group, group >> 8, group >> 16);
    }

    static long open(int size, int packets, int group) {
        return bytes(16, size, 0, packets, 255, group, group >> 8, group >> 16);
    }

    static long all(int size, int packets, int group) {
        return bytes(32, size, 0, packets, 255, group, group >> 8, group >> 16);
    }

    static long done(int size, int packets, int group) {
        return bytes(19, size, 0, packets, 255, group, group >> 8, group >> 16);
    }

    static long abort(int reason, int group) {
        return bytes(255, reason, 255, 255, 255, group, group >> 8, group >> 16);
    }

    /** Functions 0 .. count - 1 that hold the addresses 10, 11, .. with the names 1, 2, .. */
    static AddressClaimBus holding(int count) {
        AddressClaimBus bus = new AddressClaimBus();
        for (int f = 0; f < count; f++) {
            bus.start(f, f + 1L, 10 + f);
        }
        deliverAll(bus);
        bus.tick(250);
        return bus;
    }

    static void deliver(AddressClaimBus bus, int times) {
        for (int i = 0; i < times; i++) {
            bus.deliver(false);
        }
    }

    static void lose(AddressClaimBus bus, int times) {
        for (int i = 0; i < times; i++) {
            bus.lose();
        }
    }

    static void deliverAll(AddressClaimBus bus) {
        for (int i = 0; i < 400 && bus.deliver(false); i++) {
            continue;
        }
    }

    /** Delivers the next frame, which must be this one. */
    static void deliverThis(AddressClaimBus bus, int identifier, long data) {
        Check.due("identifier()", bus.identifier(), identifier);
        Check.due("data()", bus.data(), data);
        Check.due("deliver(false)", bus.deliver(false), true);
    }
}
