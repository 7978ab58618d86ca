/** What "Terms" says of messages and of the data of their frames, at the edges of size, group and seed. */
public final class MessageTest {
    private static final long[] SEEDS = {
        0L, 1L, -1L, 255L, 256L, Long.MIN_VALUE, Long.MAX_VALUE, 0x80FF7F01FE00F9D1L, 0xF8F9FAFBFCFDFEFFL,
    };

    public static void main(String[] args) {
        bytesOfMessages();
        bytesWrapAround();
        numberOfPackets();
        bytesBehindTheLastOne();
        groupBytes();
        controlBytes();
        Check.end();
    }

    /** Byte i by the words of the document, with the seed taken apart into its eight bytes first. */
    private static int byteOf(long seed, int i) {
        int[] parts = new int[8];
        for (int part = 0; part < 8; part++) {
            parts[part] = (int) (seed >>> (8 * part)) & 255;
        }
        return (parts[i % 8] + i) % 256;
    }

    private static void bytesOfMessages() {
        Check.of("byte i (0 .. n - 1) is the lowest eight bits of (seed >> 8 * (i % 8)) + i");
        for (long seed : SEEDS) {
            for (int target : new int[] {11, 255}) {
                AddressClaimBus bus = Frames.holding(2);
                bus.send(0, target, 1, 49, seed);
                Frames.deliverAll(bus);
                bus.tick(350);
                Frames.deliverAll(bus);
                Check.due("delivered(1)", bus.delivered(1), 1);
                for (int i = 0; i < 49; i++) {
                    Check.due("seed " + seed + ", byte " + i, bus.byteOf(1, i), byteOf(seed, i));
                }
            }
        }
    }

    private static void bytesWrapAround() {
        Check.of("the lowest eight bits: 255 + 1 is 0");
        AddressClaimBus bus = Frames.holding(2);
        bus.send(0, 11, 1, 49, -1L);
        Frames.deliver(bus, 2);
        Check.due("packet 1", bus.data(), Frames.bytes(1, 255, 0, 1, 2, 3, 4, 5));
        bus.deliver(false);
        Check.due("packet 2", bus.data(), Frames.bytes(2, 6, 7, 8, 9, 10, 11, 12));
        bus = Frames.holding(2);
        bus.send(0, 11, 1, 9, 0xF8F9FAFBFCFDFEFFL);
        Frames.deliver(bus, 2);
        Check.due("packet 1", bus.data(), Frames.bytes(1, 255, 255, 255, 255, 255, 255, 255));
        bus.deliver(false);
        Check.due("packet 2", bus.data(), Frames.bytes(2, 255, 7, 255, 255, 255, 255, 255));
    }

    private static void numberOfPackets() {
        Check.of("The message has (n + 6) / 7 packets");
        for (int size = 9; size <= 49; size++) {
            int packets = 2;
            while (7 * packets < size) {
                packets++;
            }
            AddressClaimBus bus = Frames.holding(2);
            bus.send(0, 255, 1, size, 0L);
            Check.due("ALL of size " + size, bus.data(), Frames.all(size, packets, 1));
            Check.due("packets of size " + size, bus.tick(2000), packets);
            Check.due("waiting()", bus.waiting(), packets + 1);
            bus.send(0, 11, 1, size, 0L);
            Frames.lose(bus, packets);
            Check.due("OPEN of size " + size, bus.data(), Frames.open(size, packets, 1));
        }
    }

    private static void bytesBehindTheLastOne() {
        Check.of("PACKET k has the data byte 1 = k, bytes 2 .. 8, 255 behind its last one");
        for (int size = 9; size <= 49; size++) {
            AddressClaimBus bus = Frames.holding(2);
            bus.send(0, 255, 1, size, 0x0101010101010101L);
            bus.tick(2000);
            for (int k = 1; 7 * k - 7 < size; k++) {
                int[] due = new int[8];
                due[0] = k;
                for (int j = 1; j <= 7; j++) {
                    int i = 7 * k - 8 + j;
                    due[j] = i < size ? i + 1 : 255;
                }
                Check.due("identifier()", bus.identifier(), Frames.packet(255, 10));
                Check.due("size " + size + ", packet " + k, bus.data(), Frames.bytes(due));
                bus.lose();
            }
            Check.due("no packet behind it", bus.identifier(), Frames.control(255, 10));
        }
    }

    private static void groupBytes() {
        Check.of("in bytes 6, 7, 8 the group (lowest eight bits first)");
        int[][] groupAndBytes = {
            {0, 0, 0, 0}, {255, 255, 0, 0}, {256, 0, 1, 0}, {65535, 255, 255, 0}, {65536, 0, 0, 1},
            {131072, 0, 0, 2}, {262143, 255, 255, 3},
        };
        for (int[] row : groupAndBytes) {
            AddressClaimBus bus = Frames.holding(2);
            bus.send(0, 11, row[0], 9, 0L);
            Check.due("OPEN", bus.data(), Frames.bytes(16, 9, 0, 2, 255, row[1], row[2], row[3]));
            bus.deliver(false);
            Check.due("GRANT", bus.data(), Frames.bytes(17, 2, 1, 255, 255, row[1], row[2], row[3]));
            Frames.deliver(bus, 3);
            Check.due("DONE", bus.data(), Frames.bytes(19, 9, 0, 2, 255, row[1], row[2], row[3]));
            bus.deliver(false);
            Check.due("outgoing(0)", bus.outgoing(0), 10);
            Check.due("message(1, 1)", bus.message(1, 1), row[0]);
            bus.send(0, 255, row[0], 9, 0L);
            Check.due("ALL", bus.data(), Frames.bytes(32, 9, 0, 2, 255, row[1], row[2], row[3]));
            Frames.lose(bus, 1);
            bus.tick(100);
            Frames.lose(bus, 2);
            bus.send(0, 11, row[0], 9, 0L);
            bus.lose();
            bus.tick(1250);
            Check.due("ABORT", bus.data(), Frames.bytes(255, 3, 255, 255, 255, row[1], row[2], row[3]));
        }
    }

    private static void controlBytes() {
        Check.of("in the others 255 where nothing is said");
        AddressClaimBus bus = Frames.holding(2);
        bus.busy(1, true);
        bus.send(0, 11, 0, 49, 0L);
        Check.due("OPEN", bus.data(), Frames.bytes(16, 49, 0, 7, 255, 0, 0, 0));
        bus.deliver(false);
        Check.due("GRANT with m = 0", bus.data(), Frames.bytes(17, 0, 1, 255, 255, 0, 0, 0));
        bus.busy(1, false);
        bus.tick(500);
        bus.lose();
        Check.due("GRANT with m = 3", bus.data(), Frames.bytes(17, 3, 1, 255, 255, 0, 0, 0));
        Frames.deliver(bus, 10);
        Check.due("DONE", bus.data(), Frames.bytes(19, 49, 0, 7, 255, 0, 0, 0));
    }
}
