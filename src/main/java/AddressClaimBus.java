/**
 * Up to five functions on one bus that claim addresses and send one another messages in packets of
 * seven bytes. The rules are those of the document; the numbers of its promises stand at the methods.
 */
public final class AddressClaimBus {
    private static final int FUNCTIONS = 5;
    private static final int MOST_FRAMES = 48;
    private static final int MOST_INCOMING = 2;
    private static final int MOST_PACKETS = 7;
    private static final int BYTES_OF_PACKET = 7;

    private static final int OFF = 0;
    private static final int CLAIMING = 1;
    private static final int HOLDING = 2;
    private static final int UNABLE = 3;

    private static final long UPPERMOST_BIT = 1L << 63;

    private static final int LAST_ADDRESS = 253;
    private static final int NO_ADDRESS = 254;
    private static final int EVERYONE = 255;
    private static final int FIRST_SPARE_ADDRESS = 128;
    private static final int LAST_SPARE_ADDRESS = 131;

    private static final int CLAIM_FORMAT = 238;
    private static final int REQUEST_FORMAT = 234;
    private static final int CONTROL_FORMAT = 236;
    private static final int PACKET_FORMAT = 235;
    private static final int CLAIM_HEAD = (6 << 26) + (CLAIM_FORMAT << 16);
    private static final int REQUEST_HEAD = (6 << 26) + (REQUEST_FORMAT << 16);
    private static final int CONTROL_HEAD = (7 << 26) + (CONTROL_FORMAT << 16);
    private static final int PACKET_HEAD = (7 << 26) + (PACKET_FORMAT << 16);
    private static final long REQUEST_DATA = 60928L;

    private static final int OPEN = 16;
    private static final int GRANT = 17;
    private static final int DONE = 19;
    private static final int ALL = 32;
    private static final int ABORT = 255;

    private static final int REASON_FULL = 2;
    private static final int REASON_LATE = 3;
    private static final int REASON_GAP = 5;

    private static final int RESULT_DONE = 10;
    private static final int RESULT_LATE = 11;
    private static final int RESULT_ADDRESS_LOST = 13;
    private static final int RESULT_ABORTED = 20;

    /** The phases of an outgoing session are numbered as the answers of promise 17. */
    private static final int NO_SESSION = 0;
    private static final int TO_ALL = 1;
    private static final int DIRECTED = 2;
    private static final int HELD = 3;

    /** What stands in the bytes of a frame in which nothing is said. */
    private static final int UNSAID = 255;

    private static final int MOST_GROUP = 262143;
    private static final int LEAST_SIZE = 9;
    private static final int MOST_SIZE = 49;
    private static final int MOST_GRANTED = 3;
    private static final int MOST_ASKING = 3;

    private static final int MOST_TICK = 2000;
    private static final long NEVER = 0x7FFFFFFFFFFFFFFFL;
    /** Far above what a tick can need: in 2000 ms the timers of one function go off at most 15 times. */
    private static final int MOST_GOING_OFF = 1000;

    private final Bus bus;
    private final Function[] functions;

    /** Promise 1. */
    public AddressClaimBus() {
        bus = new Bus();
        functions = new Function[FUNCTIONS];
        for (int f = 0; f < FUNCTIONS; f++) {
            functions[f] = new Function(bus, new Station(f));
        }
    }

    /** Promise 2. */
    public boolean start(int f, long name, int address) {
        if (!isFunction(f) || isOn(f) || address < 0 || address > LAST_ADDRESS || isNameTaken(name)) {
            return false;
        }
        functions[f].switchOn(name, address);
        return true;
    }

    /** Promise 3. */
    public boolean stop(int f) {
        if (!isOn(f)) {
            return false;
        }
        functions[f].switchOff();
        return true;
    }

    /** Promise 4. */
    public boolean busy(int f, boolean on) {
        if (!isFunction(f) || functions[f].station.busy == on) {
            return false;
        }
        functions[f].station.busy = on;
        return true;
    }

    /** Promise 5. */
    public int state(int f) {
        return isFunction(f) ? functions[f].state : -1;
    }

    /** Promise 6. */
    public int address(int f) {
        return isOn(f) ? functions[f].station.address : -1;
    }

    /** Promise 7. */
    public int noted(int f, int g) {
        return isOn(f) && isFunction(g) ? functions[f].noted[g] : -1;
    }

    /** Promise 8. */
    public boolean request(int f) {
        if (!isOn(f)) {
            return false;
        }
        bus.put(functions[f].station, REQUEST_HEAD, EVERYONE, REQUEST_DATA);
        return true;
    }

    /** Promise 9. */
    public boolean send(int f, int target, int group, int size, long seed) {
        if (!isFunction(f) || !functions[f].canSendTo(target)) {
            return false;
        }
        if (group < 0 || group > MOST_GROUP || size < LEAST_SIZE || size > MOST_SIZE) {
            return false;
        }
        functions[f].outgoing.begin(target, group, size, seed);
        return true;
    }

    /** Promise 10. */
    public int waiting() {
        return bus.count;
    }

    /** Promise 11. */
    public int identifier() {
        int place = bus.placeOfNext();
        return place < 0 ? -1 : bus.identifiers[place];
    }

    /** Promise 12. */
    public long data() {
        int place = bus.placeOfNext();
        return place < 0 ? 0L : bus.contents[place];
    }

    /** Promise 13. */
    public boolean deliver(boolean keep) {
        int place = bus.placeOfNext();
        if (place < 0) {
            return false;
        }
        int sender = bus.senders[place];
        int identifier = bus.identifiers[place];
        long content = bus.contents[place];
        if (!keep) {
            bus.takeAway(place);
        }
        for (int f = 0; f < FUNCTIONS; f++) {
            if (f != sender) {
                functions[f].reach(sender, identifier, content);
            }
        }
        return true;
    }

    /** Promise 14. */
    public boolean lose() {
        int place = bus.placeOfNext();
        if (place < 0) {
            return false;
        }
        bus.takeAway(place);
        return true;
    }

    /** Promise 15. */
    public int overflowed() {
        return bus.overflows;
    }

    /** Promise 16. */
    public int tick(int ms) {
        if (ms < 1 || ms > MOST_TICK) {
            return -1;
        }
        long end = bus.now + ms;
        int count = 0;
        while (count < MOST_GOING_OFF) {
            int f = firstDue();
            long due = functions[f].nextDue();
            if (due > end) {
                break;
            }
            bus.now = due;
            functions[f].goOff();
            count++;
        }
        bus.now = end;
        return count;
    }

    /** Promise 17. */
    public int outgoing(int f) {
        if (!isOn(f)) {
            return -1;
        }
        Outgoing session = functions[f].outgoing;
        return session.phase == NO_SESSION ? session.result : session.phase;
    }

    /** Promise 18. */
    public int incoming(int f) {
        return isOn(f) ? functions[f].countIncoming() : -1;
    }

    /** Promise 19. */
    public int delivered(int f) {
        return isOn(f) ? functions[f].deliveries : -1;
    }

    /** Promise 20. */
    public int message(int f, int what) {
        if (!hasMessage(f)) {
            return -1;
        }
        Message latest = functions[f].latest;
        switch (what) {
            case 0:
                return latest.source;
            case 1:
                return latest.group;
            case 2:
                return latest.size;
            case 3:
                return latest.toAll ? 1 : 0;
            default:
                return -1;
        }
    }

    /** Promise 21. */
    public int byteOf(int f, int i) {
        return hasMessage(f) ? functions[f].latest.byteAt(i) : -1;
    }

    private boolean isFunction(int f) {
        return f >= 0 && f < FUNCTIONS;
    }

    private boolean isOn(int f) {
        return isFunction(f) && functions[f].state != OFF;
    }

    private boolean hasMessage(int f) {
        return isOn(f) && functions[f].deliveries > 0;
    }

    private boolean isNameTaken(long name) {
        for (int g = 0; g < FUNCTIONS; g++) {
            if (isOn(g) && functions[g].name == name) {
                return true;
            }
        }
        return false;
    }

    /** Of functions that are due at the same time the one with the least number comes first. */
    private int firstDue() {
        int first = 0;
        for (int f = 1; f < FUNCTIONS; f++) {
            if (functions[f].nextDue() < functions[first].nextDue()) {
                first = f;
            }
        }
        return first;
    }

    private static int packetsFor(int size) {
        return (size + BYTES_OF_PACKET - 1) / BYTES_OF_PACKET;
    }

    /** Byte n of a frame's data, counted from 1 as in the document. */
    private static int frameByte(long content, int n) {
        return (int) (content >>> (8 * (n - 1))) & 255;
    }

    /** No kind of control frame says anything in byte 5. */
    private static long controlData(int kind, int second, int third, int fourth, int group) {
        long content = (long) group << 40;
        content += (long) UNSAID << 32;
        content += (long) fourth << 24;
        return content + (third << 16) + (second << 8) + kind;
    }

    /** The data of OPEN, ALL and DONE, which tell how long the message is. */
    private static long extentData(int kind, int size, int group) {
        return controlData(kind, size & 255, size >> 8, packetsFor(size), group);
    }

    private static long abortData(int reason, int group) {
        return controlData(ABORT, reason, UNSAID, UNSAID, group);
    }

    /** What a function shares with its sessions: who sends their frames, and whether it is busy. */
    private static final class Station {
        final int number;
        int address;
        boolean busy;

        Station(int number) {
            this.number = number;
        }
    }

    /** The frames that wait, longest first, and the present time, which every timer is set by. */
    private static final class Bus {
        final int[] identifiers = new int[MOST_FRAMES];
        final long[] contents = new long[MOST_FRAMES];
        final int[] senders = new int[MOST_FRAMES];
        int count;
        int overflows;
        long now;

        void put(Station from, int head, int target, long content) {
            if (count >= MOST_FRAMES) {
                overflows++;
                return;
            }
            identifiers[count] = head + (target << 8) + from.address;
            contents[count] = content;
            senders[count] = from.number;
            count++;
        }

        /** The place of the next frame, -1 when none waits. */
        int placeOfNext() {
            int next = count > 0 ? 0 : -1;
            for (int place = 1; place < count; place++) {
                if (identifiers[place] < identifiers[next]) {
                    next = place;
                }
            }
            return next;
        }

        void takeAway(int place) {
            for (int to = place; to < count - 1; to++) {
                move(to + 1, to);
            }
            count--;
        }

        void takeAwayFramesOf(int sender) {
            int kept = 0;
            for (int place = 0; place < count; place++) {
                if (senders[place] != sender) {
                    move(place, kept);
                    kept++;
                }
            }
            count = kept;
        }

        private void move(int from, int to) {
            identifiers[to] = identifiers[from];
            contents[to] = contents[from];
            senders[to] = senders[from];
        }
    }

    /** A message as it comes in: its packets are kept as they were in their frames. */
    private static final class Message {
        final long[] packets = new long[MOST_PACKETS];
        int source;
        int group;
        int size;
        boolean toAll;

        void keep(int packet, long content) {
            if (packet >= 1 && packet <= MOST_PACKETS) {
                packets[packet - 1] = content;
            }
        }

        void copy(Message other) {
            source = other.source;
            group = other.group;
            size = other.size;
            toAll = other.toAll;
            for (int i = 0; i < MOST_PACKETS; i++) {
                packets[i] = other.packets[i];
            }
        }

        int byteAt(int i) {
            if (i < 0 || i >= size || i >= MOST_SIZE) {
                return -1;
            }
            return frameByte(packets[i / BYTES_OF_PACKET], i % BYTES_OF_PACKET + 2);
        }
    }

    /** The one outgoing session of a function, and how the one before it ended. */
    private static final class Outgoing {
        final Bus bus;
        final Station station;
        int phase = NO_SESSION;
        int result;
        int target;
        int group;
        int size;
        long seed;
        int nextPacket;
        long due = NEVER;

        Outgoing(Bus bus, Station station) {
            this.bus = bus;
            this.station = station;
        }

        void begin(int target, int group, int size, long seed) {
            this.target = target;
            this.group = group;
            this.size = size;
            this.seed = seed;
            nextPacket = 1;
            boolean toAll = target == EVERYONE;
            phase = toAll ? TO_ALL : DIRECTED;
            bus.put(station, CONTROL_HEAD, target, extentData(toAll ? ALL : OPEN, size, group));
            due = bus.now + (toAll ? 50 : 1250);
        }

        void end(int how) {
            phase = NO_SESSION;
            result = how;
            due = NEVER;
        }

        boolean isWith(int source, int itsGroup) {
            return (phase == DIRECTED || phase == HELD) && target == source && group == itsGroup;
        }

        void takeGrant(int number, int first) {
            if (number == 0) {
                phase = HELD;
                due = bus.now + 1050;
                return;
            }
            int last = Math.min(first + number - 1, packetsFor(size));
            for (int packet = first; packet <= last; packet++) {
                sendPacket(packet);
            }
            phase = DIRECTED;
            due = bus.now + 1250;
        }

        void goOff() {
            if (phase == TO_ALL) {
                sendNextToAll();
            } else {
                bus.put(station, CONTROL_HEAD, target, abortData(REASON_LATE, group));
                end(RESULT_LATE);
            }
        }

        private void sendNextToAll() {
            sendPacket(nextPacket);
            nextPacket++;
            if (nextPacket > packetsFor(size)) {
                end(RESULT_DONE);
            } else {
                due = bus.now + 50;
            }
        }

        private void sendPacket(int packet) {
            long content = packet;
            for (int n = 0; n < BYTES_OF_PACKET; n++) {
                int i = BYTES_OF_PACKET * (packet - 1) + n;
                long value = i < size ? ((seed >> (8 * (i % 8))) + i) & 255L : UNSAID;
                content += value << (8 * (n + 1));
            }
            bus.put(station, PACKET_HEAD, target, content);
        }
    }

    /** An incoming session, or the room for one while it is not open. */
    private static final class Incoming {
        final Bus bus;
        final Station station;
        final Message message = new Message();
        boolean open;
        boolean held;
        int expected;
        int last;
        int asked;
        long due = NEVER;

        Incoming(Bus bus, Station station) {
            this.bus = bus;
            this.station = station;
        }

        void begin(int source, int group, int size, boolean toAll) {
            message.source = source;
            message.group = group;
            message.size = size;
            message.toAll = toAll;
            open = true;
            expected = 1;
            asked = 0;
            if (toAll) {
                due = bus.now + 750;
            } else {
                grant();
            }
        }

        void end() {
            open = false;
            due = NEVER;
        }

        boolean isFrom(int source, boolean toAll) {
            return open && message.source == source && message.toAll == toAll;
        }

        void goOff() {
            if (message.toAll) {
                end();
            } else if (held) {
                grant();
            } else {
                askAgain(REASON_LATE);
            }
        }

        /** Whether the message is whole with this packet. */
        boolean takeToAll(long content) {
            int packet = frameByte(content, 1);
            if (packet != expected) {
                if (packet > expected) {
                    end();
                }
                return false;
            }
            keepExpected(content);
            if (isWhole()) {
                end();
                return true;
            }
            due = bus.now + 750;
            return false;
        }

        /** Whether the message is whole with this packet. */
        boolean takeDirected(long content) {
            int packet = frameByte(content, 1);
            if (packet != expected || packet > last) {
                if (packet == last && packet > expected) {
                    askAgain(REASON_GAP);
                }
                return false;
            }
            keepExpected(content);
            if (isWhole()) {
                bus.put(station, CONTROL_HEAD, message.source, extentData(DONE, message.size, message.group));
                end();
                return true;
            }
            if (expected > last) {
                grant();
            } else {
                due = bus.now + 750;
            }
            return false;
        }

        private void keepExpected(long content) {
            message.keep(expected, content);
            expected++;
        }

        private boolean isWhole() {
            return expected > packetsFor(message.size);
        }

        private void askAgain(int reason) {
            asked++;
            if (asked < MOST_ASKING) {
                grant();
            } else {
                bus.put(station, CONTROL_HEAD, message.source, abortData(reason, message.group));
                end();
            }
        }

        private void grant() {
            held = station.busy;
            int left = packetsFor(message.size) - expected + 1;
            int number = held ? 0 : Math.min(MOST_GRANTED, left);
            last = expected + number - 1;
            long content = controlData(GRANT, number, expected, UNSAID, message.group);
            bus.put(station, CONTROL_HEAD, message.source, content);
            due = bus.now + (held ? 500 : 1250);
        }
    }

    /** One function: its claim to an address, and its sessions. */
    private static final class Function {
        final Bus bus;
        final Station station;
        final int[] noted = new int[FUNCTIONS];
        final Outgoing outgoing;
        /** While both are open, the one that began earlier is the first: their timers go off in this order. */
        final Incoming[] incoming = new Incoming[MOST_INCOMING];
        final Message latest = new Message();
        int deliveries;
        int state = OFF;
        long name;
        long holdDue = NEVER;

        Function(Bus bus, Station station) {
            this.bus = bus;
            this.station = station;
            outgoing = new Outgoing(bus, station);
            for (int i = 0; i < MOST_INCOMING; i++) {
                incoming[i] = new Incoming(bus, station);
            }
        }

        void switchOn(long itsName, int address) {
            name = itsName;
            outgoing.result = 0;
            deliveries = 0;
            for (int g = 0; g < FUNCTIONS; g++) {
                noted[g] = -1;
            }
            claim(address);
        }

        void switchOff() {
            endSessions();
            state = OFF;
            holdDue = NEVER;
            bus.takeAwayFramesOf(station.number);
        }

        boolean canSendTo(int target) {
            boolean exists = target == EVERYONE || target >= 0 && target <= LAST_ADDRESS;
            return exists && state == HOLDING && target != station.address && outgoing.phase == NO_SESSION;
        }

        int countIncoming() {
            int count = 0;
            for (int i = 0; i < MOST_INCOMING; i++) {
                if (incoming[i].open) {
                    count++;
                }
            }
            return count;
        }

        void reach(int sender, int identifier, long content) {
            int source = identifier & 255;
            int target = (identifier >> 8) & 255;
            int format = (identifier >> 16) & 1023;
            if (format == CLAIM_FORMAT || format == REQUEST_FORMAT) {
                if (state == OFF) {
                    return;
                }
                if (format == CLAIM_FORMAT) {
                    takeClaim(sender, source, content);
                } else {
                    sendClaim();
                }
            } else if (state == HOLDING && (target == EVERYONE || target == station.address)) {
                if (format == CONTROL_FORMAT) {
                    takeControl(source, content);
                } else {
                    takePacket(source, target == EVERYONE, content);
                }
            }
        }

        long nextDue() {
            long due = Math.min(holdDue, outgoing.due);
            for (int i = 0; i < MOST_INCOMING; i++) {
                due = Math.min(due, incoming[i].due);
            }
            return due;
        }

        /** The first of the timers that are due now goes off. */
        void goOff() {
            long now = bus.now;
            if (holdDue == now) {
                state = HOLDING;
                holdDue = NEVER;
            } else if (outgoing.due == now) {
                outgoing.goOff();
            } else if (incoming[0].due == now) {
                incoming[0].goOff();
            } else if (incoming[1].due == now) {
                incoming[1].goOff();
            }
        }

        private void claim(int address) {
            state = CLAIMING;
            station.address = address;
            holdDue = bus.now + 250;
            sendClaim();
        }

        private void sendClaim() {
            bus.put(station, CLAIM_HEAD, EVERYONE, name);
        }

        private void takeClaim(int sender, int source, long otherName) {
            noted[sender] = source;
            if (state == UNABLE || source != station.address) {
                return;
            }
            if (!isNameLessThan(otherName)) {
                loseAddress();
                return;
            }
            sendClaim();
            if (state == CLAIMING) {
                holdDue = bus.now + 250;
            }
        }

        /** Names have no sign, so that the uppermost bit must not make them small. */
        private boolean isNameLessThan(long otherName) {
            return (name ^ UPPERMOST_BIT) < (otherName ^ UPPERMOST_BIT);
        }

        private void loseAddress() {
            endSessions();
            int spare = spareAddress();
            if (name < 0L && spare <= LAST_SPARE_ADDRESS) {
                claim(spare);
                return;
            }
            state = UNABLE;
            station.address = NO_ADDRESS;
            holdDue = NEVER;
            sendClaim();
        }

        /** The least spare address that is not noted; beyond the last one when all are. */
        private int spareAddress() {
            int spare = FIRST_SPARE_ADDRESS;
            while (spare <= LAST_SPARE_ADDRESS && isNoted(spare)) {
                spare++;
            }
            return spare;
        }

        private boolean isNoted(int address) {
            for (int g = 0; g < FUNCTIONS; g++) {
                if (noted[g] == address) {
                    return true;
                }
            }
            return false;
        }

        private void endSessions() {
            if (outgoing.phase != NO_SESSION) {
                outgoing.end(RESULT_ADDRESS_LOST);
            }
            for (int i = 0; i < MOST_INCOMING; i++) {
                incoming[i].end();
            }
        }

        private void takeControl(int source, long content) {
            int kind = frameByte(content, 1);
            int group = (int) (content >>> 40);
            boolean answersOutgoing = outgoing.isWith(source, group);
            if (kind == OPEN || kind == ALL) {
                takeOpening(source, group, content, kind == ALL);
            } else if (kind == GRANT && answersOutgoing) {
                outgoing.takeGrant(frameByte(content, 2), frameByte(content, 3));
            } else if (kind == DONE && answersOutgoing) {
                outgoing.end(RESULT_DONE);
            } else if (kind == ABORT) {
                if (answersOutgoing) {
                    outgoing.end(RESULT_ABORTED + frameByte(content, 2));
                }
                abortIncoming(source, group);
            }
        }

        private void takeOpening(int source, int group, long content, boolean toAll) {
            for (int i = 0; i < MOST_INCOMING; i++) {
                if (incoming[i].isFrom(source, toAll)) {
                    incoming[i].end();
                }
            }
            if (countIncoming() < MOST_INCOMING) {
                int size = frameByte(content, 2) + (frameByte(content, 3) << 8);
                roomForIncoming().begin(source, group, size, toAll);
            } else if (!toAll) {
                bus.put(station, CONTROL_HEAD, source, abortData(REASON_FULL, group));
            }
        }

        /** The second room, freed of a session that began earlier, so that the order of the two stays. */
        private Incoming roomForIncoming() {
            if (incoming[1].open) {
                Incoming free = incoming[0];
                incoming[0] = incoming[1];
                incoming[1] = free;
            }
            return incoming[1];
        }

        private void abortIncoming(int source, int group) {
            for (int i = 0; i < MOST_INCOMING; i++) {
                if (incoming[i].isFrom(source, false) && incoming[i].message.group == group) {
                    incoming[i].end();
                }
            }
        }

        private void takePacket(int source, boolean toAll, long content) {
            for (int i = 0; i < MOST_INCOMING; i++) {
                Incoming session = incoming[i];
                if (session.isFrom(source, toAll)) {
                    boolean whole = toAll ? session.takeToAll(content) : session.takeDirected(content);
                    if (whole) {
                        latest.copy(session.message);
                        deliveries++;
                    }
                }
            }
        }
    }
}
