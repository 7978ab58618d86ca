import java.lang.reflect.Field;
import java.lang.reflect.Method;

/**
 * Three sentences hold whether a call can show it or not, and no run of calls can: functions that are on
 * have different names, sizes fit into one byte, and a function that is claiming has no session. So this
 * test, and no other, changes the fields of an object; it has to follow when they are named anew.
 */
public final class InsideTest {
    private static final long[] NAMES = {0L, 8L, Long.MAX_VALUE, Long.MIN_VALUE, -8L, -1L};

    public static void main(String[] args) throws ReflectiveOperationException {
        for (long name : NAMES) {
            equalNames(name, false);
            equalNames(name, true);
        }
        for (int size : new int[] {255, 256, 300}) {
            sizeOfTwoBytesDirected(size);
            sizeOfTwoBytesToAll(size);
        }
        the250msComeFirst();
        Check.end();
    }

    /** Function 1 claims the address of function 0, which is given the same name. */
    private static void equalNames(long name, boolean holding) throws ReflectiveOperationException {
        Check.of("is its name less than the one in the data ..; otherwise it loses the address");
        AddressClaimBus bus = new AddressClaimBus();
        bus.start(0, name + 1L, 20);
        bus.lose();
        if (holding) {
            bus.tick(250);
        }
        bus.start(1, name, 20);
        set(function(bus, 0), "name", name);
        bus.deliver(false);
        boolean moves = name < 0L;
        int address = moves ? 128 : 254;
        Check.due("state(0), the name is " + name, bus.state(0), moves ? 1 : 3);
        Check.due("address(0)", bus.address(0), address);
        Check.due("noted(0, 1)", bus.noted(0, 1), 20);
        Check.due("waiting()", bus.waiting(), 1);
        Check.due("identifier()", bus.identifier(), Frames.claim(address));
        Check.due("data()", bus.data(), name);
        Check.due("state(1)", bus.state(1), 1);
        Check.due("address(1)", bus.address(1), 20);
    }

    private static void sizeOfTwoBytesDirected(int size) throws ReflectiveOperationException {
        Check.of("OPEN, DONE: bytes 2, 3 the size (lowest eight bits first)");
        AddressClaimBus bus = Frames.holding(2);
        int packets = (size + 6) / 7;
        begin(bus, 11, 5, size);
        Check.due("identifier()", bus.identifier(), Frames.control(11, 10));
        Check.due("data()", bus.data(), Frames.bytes(16, size, size >> 8, packets, 255, 5, 0, 0));
        int grants = (packets + 2) / 3;
        Frames.deliver(bus, 1 + grants + packets);
        Check.due("waiting()", bus.waiting(), 1);
        int[] done = {19, size, size >> 8, packets, 255, 5, 0, 0};
        Frames.deliverThis(bus, Frames.control(10, 11), Frames.bytes(done));
        Check.due("outgoing(0)", bus.outgoing(0), 10);
        Check.due("message(1, 2)", bus.message(1, 2), size);
    }

    private static void sizeOfTwoBytesToAll(int size) throws ReflectiveOperationException {
        Check.of("ALL: bytes 2, 3 the size (lowest eight bits first)");
        AddressClaimBus bus = Frames.holding(2);
        int packets = (size + 6) / 7;
        begin(bus, 255, 5, size);
        int[] all = {32, size, size >> 8, packets, 255, 5, 0, 0};
        Frames.deliverThis(bus, Frames.control(255, 10), Frames.bytes(all));
        for (int k = 1; k <= packets; k++) {
            Check.due("delivered(1) before packet " + k, bus.delivered(1), 0);
            Check.due("tick(50)", bus.tick(50), 1);
            Check.due("deliver(false)", bus.deliver(false), true);
        }
        Check.due("outgoing(0)", bus.outgoing(0), 10);
        Check.due("delivered(1)", bus.delivered(1), 1);
        Check.due("message(1, 2)", bus.message(1, 2), size);
    }

    /** A function with an outgoing session and two incoming ones, all due now, is made a claiming one. */
    private static void the250msComeFirst() throws ReflectiveOperationException {
        Check.of("of one function first the 250 ms, then the outgoing session, then the incoming ones");
        AddressClaimBus bus = Frames.holding(3);
        bus.send(2, 10, 2, 9, 0L);
        bus.deliver(false);
        bus.send(1, 10, 1, 9, 0L);
        bus.deliver(false);
        bus.send(0, 255, 0, 9, 0L);
        Frames.lose(bus, bus.waiting());
        Object function = function(bus, 0);
        long now = (long) get(get(bus, "bus"), "now");
        set(function, "state", 1);
        set(function, "holdDue", now);
        set(get(function, "outgoing"), "due", now);
        for (Object session : (Object[]) get(function, "incoming")) {
            set(session, "due", now);
        }
        call(function, "goOff");
        Check.due("state(0) after the first", bus.state(0), 2);
        Check.due("waiting() after the first", bus.waiting(), 0);
        int[] due = {Frames.packet(255, 10), Frames.control(12, 10), Frames.control(11, 10)};
        for (int i = 0; i < due.length; i++) {
            call(function, "goOff");
            Check.due("waiting() after one more", bus.waiting(), 1);
            Check.due("identifier()", bus.identifier(), due[i]);
            bus.lose();
        }
    }

    /** What send does, without its look at the size. */
    private static void begin(AddressClaimBus bus, int target, int group, int size)
            throws ReflectiveOperationException {
        call(get(function(bus, 0), "outgoing"), "begin", target, group, size, 0L);
    }

    private static Object function(AddressClaimBus bus, int f) throws ReflectiveOperationException {
        return ((Object[]) get(bus, "functions"))[f];
    }

    private static Object get(Object of, String name) throws ReflectiveOperationException {
        return field(of, name).get(of);
    }

    private static void set(Object of, String name, Object value) throws ReflectiveOperationException {
        field(of, name).set(of, value);
    }

    private static Field field(Object of, String name) throws ReflectiveOperationException {
        Field field = of.getClass().getDeclaredField(name);
        field.setAccessible(true);
        return field;
    }

    private static void call(Object of, String name, Object... values) throws ReflectiveOperationException {
        for (Method method : of.getClass().getDeclaredMethods()) {
            if (method.getName().equals(name)) {
                method.setAccessible(true);
                method.invoke(of, values);
                return;
            }
        }
        throw new NoSuchMethodException(name);
    }
}
