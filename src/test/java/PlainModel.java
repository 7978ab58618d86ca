import java.util.ArrayList;
import java.util.Arrays;
import java.util.Comparator;
import java.util.List;

/**
 * The document once more, written with lists and whole messages and without regard to room or speed, so
 * that long runs of calls can be compared with what the class answers.
 */
final class PlainModel {
    private record Frame(int sender, int priority, int format, int target, int source, int[] bytes) {
        int identifier() {
            return priority * (1 << 26) + format * (1 << 16) + target * (1 << 8) + source;
        }

        long data() {
            long data = 0L;
            for (int i = 7; i >= 0; i--) {
                data = data * 256L + bytes[i];
            }
            return data;
        }

        int group() {
            return bytes[5] + 256 * bytes[6] + 65536 * bytes[7];
        }
    }

    private static final class Session {
        boolean toAll;
        boolean held;
        int other;
        int group;
        int size;
        long seed;
        int expected = 1;
        int last;
        int asked;
        long due;
        List<Integer> bytes = new ArrayList<>();

        int packets() {
            return (size + 6) / 7;
        }
    }

    private static final class Unit {
        int state;
        boolean busy;
        long name;
        int address;
        Long hold;
        int result;
        Session out;
        List<Session> in = new ArrayList<>();
        Integer[] noted = new Integer[5];
        List<Session> messages = new ArrayList<>();
    }

    private final List<Frame> line = new ArrayList<>();
    private final Unit[] units = {new Unit(), new Unit(), new Unit(), new Unit(), new Unit()};
    private int overflow;
    private long now;

    private void put(int f, int priority, int format, int target, int... bytes) {
        if (line.size() == 48) {
            overflow++;
        } else {
            int source = units[f].state == 3 ? 254 : units[f].address;
            line.add(new Frame(f, priority, format, target, source, bytes));
        }
    }

    private void control(int f, int target, int group, int b1, int b2, int b3, int b4) {
        put(f, 7, 236, target, b1, b2, b3, b4, 255, group % 256, group / 256 % 256, group / 65536);
    }

    private void claim(int f) {
        int[] bytes = new int[8];
        for (int i = 0; i < 8; i++) {
            bytes[i] = (int) (units[f].name >>> 8 * i) & 255;
        }
        put(f, 6, 238, 255, bytes);
    }

    private void packet(int f, Session s, int k) {
        int[] bytes = new int[8];
        bytes[0] = k;
        for (int j = 1; j < 8; j++) {
            int i = 7 * k - 8 + j;
            bytes[j] = i < s.size ? (int) ((s.seed >> 8 * (i % 8)) + i & 255L) : 255;
        }
        put(f, 7, 235, s.toAll ? 255 : s.other, bytes);
    }

    boolean start(int f, long name, int address) {
        if (f < 0 || f > 4 || units[f].state != 0 || address < 0 || address > 253) {
            return false;
        }
        if (Arrays.stream(units).anyMatch(u -> u.state != 0 && u.name == name)) {
            return false;
        }
        boolean busy = units[f].busy;
        units[f] = new Unit();
        units[f].busy = busy;
        units[f].name = name;
        take(f, address);
        return true;
    }

    private void take(int f, int address) {
        units[f].state = 1;
        units[f].address = address;
        units[f].hold = now + 250;
        claim(f);
    }

    boolean stop(int f) {
        if (state(f) < 1) {
            return false;
        }
        boolean busy = units[f].busy;
        units[f] = new Unit();
        units[f].busy = busy;
        line.removeIf(frame -> frame.sender() == f);
        return true;
    }

    boolean busy(int f, boolean on) {
        if (f < 0 || f > 4) {
            return false;
        }
        boolean changed = units[f].busy != on;
        units[f].busy = on;
        return changed;
    }

    int state(int f) {
        return f < 0 || f > 4 ? -1 : units[f].state;
    }

    int address(int f) {
        return state(f) == 3 ? 254 : state(f) > 0 ? units[f].address : -1;
    }

    int noted(int f, int g) {
        return state(f) < 1 || g < 0 || g > 4 || units[f].noted[g] == null ? -1 : units[f].noted[g];
    }

    boolean request(int f) {
        if (state(f) < 1) {
            return false;
        }
        put(f, 6, 234, 255, 0, 238, 0, 0, 0, 0, 0, 0);
        return true;
    }

    boolean send(int f, int target, int group, int size, long seed) {
        if (state(f) != 2 || units[f].out != null || target < 0 || target > 255 || target == 254
                || target == units[f].address || group < 0 || group > 262143 || size < 9 || size > 49) {
            return false;
        }
        Session s = new Session();
        s.toAll = target == 255;
        s.other = target;
        s.group = group;
        s.size = size;
        s.seed = seed;
        s.due = now + (s.toAll ? 50 : 1250);
        units[f].out = s;
        control(f, target, group, s.toAll ? 32 : 16, size % 256, size / 256, s.packets());
        return true;
    }

    int waiting() {
        return line.size();
    }

    private Frame next() {
        return line.stream().min(Comparator.comparingInt(Frame::identifier)).orElse(null);
    }

    int identifier() {
        return line.isEmpty() ? -1 : next().identifier();
    }

    long data() {
        return line.isEmpty() ? 0L : next().data();
    }

    boolean deliver(boolean keep) {
        Frame frame = next();
        if (frame == null) {
            return false;
        }
        if (!keep) {
            removeThis(frame);
        }
        for (int f = 0; f < 5; f++) {
            if (f != frame.sender()) {
                reach(f, frame);
            }
        }
        return true;
    }

    private void removeThis(Frame frame) {
        for (int i = 0; i < line.size(); i++) {
            if (line.get(i) == frame) {
                line.remove(i);
                return;
            }
        }
    }

    boolean lose() {
        if (line.isEmpty()) {
            return false;
        }
        removeThis(next());
        return true;
    }

    int overflowed() {
        return overflow;
    }

    private void reach(int f, Frame frame) {
        Unit u = units[f];
        switch (frame.format()) {
            case 238 -> {
                if (u.state != 0) {
                    claimed(f, frame);
                }
            }
            case 234 -> {
                if (u.state != 0) {
                    claim(f);
                }
            }
            default -> {
                if (u.state == 2 && (frame.target() == 255 || frame.target() == u.address)) {
                    if (frame.format() == 235) {
                        packetCame(f, frame);
                    } else {
                        controlCame(f, frame);
                    }
                }
            }
        }
    }

    private void claimed(int f, Frame frame) {
        Unit u = units[f];
        u.noted[frame.sender()] = frame.source();
        if (u.state == 3 || frame.source() != u.address) {
            return;
        }
        if (Long.compareUnsigned(u.name, frame.data()) < 0) {
            claim(f);
            if (u.state == 1) {
                u.hold = now + 250;
            }
            return;
        }
        if (u.out != null) {
            u.out = null;
            u.result = 13;
        }
        u.in.clear();
        List<Integer> noted = Arrays.asList(u.noted);
        for (int a = 128; a <= 131 && u.name < 0; a++) {
            if (!noted.contains(a)) {
                take(f, a);
                return;
            }
        }
        u.state = 3;
        u.hold = null;
        claim(f);
    }

    private void controlCame(int f, Frame frame) {
        Unit u = units[f];
        int kind = frame.bytes()[0];
        boolean ours = u.out != null && !u.out.toAll && u.out.other == frame.source()
                && u.out.group == frame.group();
        if (kind == 16 || kind == 32) {
            opened(f, frame, kind == 32);
        }
        if (kind == 17 && ours) {
            granted(f, u.out, frame.bytes()[1], frame.bytes()[2]);
        }
        if (kind == 19 && ours) {
            u.out = null;
            u.result = 10;
        }
        if (kind == 255) {
            if (ours) {
                u.out = null;
                u.result = 20 + frame.bytes()[1];
            }
            u.in.removeIf(s -> !s.toAll && s.other == frame.source() && s.group == frame.group());
        }
    }

    private void granted(int f, Session s, int m, int k) {
        s.held = m == 0;
        s.due = now + (m == 0 ? 1050 : 1250);
        for (int p = k; p < k + m; p++) {
            if (p <= s.packets()) {
                packet(f, s, p);
            }
        }
    }

    private void opened(int f, Frame frame, boolean toAll) {
        Unit u = units[f];
        boolean was = u.in.removeIf(s -> s.toAll == toAll && s.other == frame.source());
        if (!was && u.in.size() == 2) {
            if (!toAll) {
                control(f, frame.source(), frame.group(), 255, 2, 255, 255);
            }
            return;
        }
        Session s = new Session();
        s.toAll = toAll;
        s.other = frame.source();
        s.group = frame.group();
        s.size = frame.bytes()[1] + 256 * frame.bytes()[2];
        u.in.add(s);
        if (toAll) {
            s.due = now + 750;
        } else {
            grant(f, s);
        }
    }

    private void grant(int f, Session s) {
        s.held = units[f].busy;
        int m = s.held ? 0 : Math.min(3, s.packets() - s.expected + 1);
        s.last = s.expected + m - 1;
        s.due = now + (s.held ? 500 : 1250);
        control(f, s.other, s.group, 17, m, s.expected, 255);
    }

    private void askAgain(int f, Session s, int reason) {
        s.asked++;
        if (s.asked == 3) {
            control(f, s.other, s.group, 255, reason, 255, 255);
            units[f].in.remove(s);
        } else {
            grant(f, s);
        }
    }

    private void packetCame(int f, Frame frame) {
        boolean toAll = frame.target() == 255;
        for (Session s : new ArrayList<>(units[f].in)) {
            if (s.toAll == toAll && s.other == frame.source()) {
                packetOf(f, s, frame);
            }
        }
    }

    private void packetOf(int f, Session s, Frame frame) {
        int k = frame.bytes()[0];
        if (s.toAll && k > s.expected) {
            units[f].in.remove(s);
        } else if (k == s.expected && (s.toAll || k <= s.last)) {
            for (int j = 1; j < 8 && s.bytes.size() < s.size; j++) {
                s.bytes.add(frame.bytes()[j]);
            }
            s.expected++;
            if (k == s.packets()) {
                if (!s.toAll) {
                    control(f, s.other, s.group, 19, s.size % 256, s.size / 256, s.packets());
                }
                units[f].messages.add(s);
                units[f].in.remove(s);
            } else if (!s.toAll && s.expected > s.last) {
                grant(f, s);
            } else {
                s.due = now + 750;
            }
        } else if (!s.toAll && k == s.last && k > s.expected) {
            askAgain(f, s, 5);
        }
    }

    int tick(int ms) {
        if (ms < 1 || ms > 2000) {
            return -1;
        }
        int count = 0;
        long end = now + ms;
        for (; now <= end; now++) {
            for (int f = 0; f < 5; f++) {
                count += goOff(f);
            }
        }
        now = end;
        return count;
    }

    private int goOff(int f) {
        Unit u = units[f];
        int count = 0;
        if (u.hold != null && u.hold == now) {
            u.hold = null;
            u.state = 2;
            count++;
        }
        if (u.out != null && u.out.due == now) {
            outgoingOff(f, u.out);
            count++;
        }
        for (Session s : new ArrayList<>(u.in)) {
            if (s.due == now) {
                count++;
                if (s.toAll) {
                    u.in.remove(s);
                } else if (s.held) {
                    grant(f, s);
                } else {
                    askAgain(f, s, 3);
                }
            }
        }
        return count;
    }

    private void outgoingOff(int f, Session s) {
        Unit u = units[f];
        if (!s.toAll) {
            control(f, s.other, s.group, 255, 3, 255, 255);
            u.out = null;
            u.result = 11;
            return;
        }
        packet(f, s, s.expected);
        s.expected++;
        s.due = now + 50;
        if (s.expected > s.packets()) {
            u.out = null;
            u.result = 10;
        }
    }

    int outgoing(int f) {
        if (state(f) < 1) {
            return -1;
        }
        Session s = units[f].out;
        return s == null ? units[f].result : s.toAll ? 1 : s.held ? 3 : 2;
    }

    int incoming(int f) {
        return state(f) < 1 ? -1 : units[f].in.size();
    }

    int delivered(int f) {
        return state(f) < 1 ? -1 : units[f].messages.size();
    }

    int message(int f, int what) {
        if (delivered(f) < 1) {
            return -1;
        }
        Session s = units[f].messages.get(units[f].messages.size() - 1);
        return what == 0 ? s.other : what == 1 ? s.group : what == 2 ? s.size : what == 3 ? (s.toAll ? 1 : 0) : -1;
    }

    int byteOf(int f, int i) {
        if (delivered(f) < 1) {
            return -1;
        }
        Session s = units[f].messages.get(units[f].messages.size() - 1);
        return i < 0 || i >= s.size ? -1 : s.bytes.get(i);
    }
}
