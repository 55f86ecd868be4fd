import java.util.ArrayList;
import java.util.Arrays;
import java.util.List;

/** What the tests share: answers held against those that are due, frames made and read apart from LineTalk's own way. */
final class Probe {
    static final int UP = 0, DOWN = 1, OPEN = 2, CLOSE = 3;
    static final int REQUEST = 1, ACK = 2, NAK = 3, REJECT = 4, END = 5, ENDED = 6, UNKNOWN = 7, ECHO = 9, REPLY = 10;
    static final int STATE = 0, SIZE = 1, NUMBER = 2, ID = 3, COUNT = 4, TIMER = 5, ASKS = 6, ON_LINE = 7, GATHERED = 8;
    static final int GOOD = 0, BAD = 1, LOST = 2, SUSPICIONS = 3, UPS = 4, KEPT = 5;

    private static int asked = 0;
    private static int wrong = 0;

    private Probe() {
    }

    static void due(String what, Object want, Object got) {
        asked++;
        if (!want.equals(got)) {
            wrong++;
            System.out.println(what + " answered " + got + ", due is " + want);
        }
    }

    static void end() {
        System.out.println(asked + " answers looked at, " + wrong + " not as due");
        if (wrong != 0 || asked == 0) {
            System.exit(1);
        }
    }

    static String sight(LineTalk x) {
        StringBuilder all = new StringBuilder();
        for (int end = 0; end < 2; end++) {
            for (int what = 0; what <= 8; what++) {
                all.append(x.about(end, what)).append(' ');
            }
            for (int what = 0; what <= 5; what++) {
                all.append(x.count(end, what)).append(' ');
            }
            for (int i = 0; i < 38; i++) {
                all.append(x.data(end, i)).append(' ');
            }
            all.append(line(x, end)).append('\n');
        }
        return all.append(x.noise()).toString();
    }

    static List<Integer> line(LineTalk x, int line) {
        List<Integer> bytes = new ArrayList<>();
        // Asked once, since an object is promised for 512 calls alone.
        int used = x.about(line, ON_LINE);
        for (int i = 0; i < used; i++) {
            bytes.add(x.look(line, i));
        }
        return bytes;
    }

    static List<Integer> list(int... bytes) {
        List<Integer> all = new ArrayList<>();
        for (int b : bytes) {
            all.add(b);
        }
        return all;
    }

    static int[] times(int n, int b) {
        int[] bytes = new int[n];
        Arrays.fill(bytes, b);
        return bytes;
    }

    static List<Integer> row(int n, int b) {
        return list(times(n, b));
    }

    static List<Integer> join(List<Integer> front, int... back) {
        List<Integer> all = new ArrayList<>(front);
        all.addAll(list(back));
        return all;
    }

    static int[] four(int number) {
        return new int[] {number >>> 24, number >>> 16 & 255, number >>> 8 & 255, number & 255};
    }

    /** The check taken bit by bit, as a division in which the lowest bit comes first. */
    static int check(List<Integer> packet) {
        int c = 0xFFFF;
        for (int b : packet) {
            for (int bit = 0; bit < 8; bit++) {
                boolean odd = ((c ^ b >> bit) & 1) == 1;
                c = c >> 1 ^ (odd ? 0x8408 : 0);
            }
        }
        return c ^ 0xFFFF;
    }

    static List<Integer> sealed(List<Integer> packet) {
        int c = check(packet);
        return join(packet, c & 255, c >> 8);
    }

    static List<Integer> escaped(List<Integer> bytes) {
        List<Integer> all = new ArrayList<>();
        for (int b : bytes) {
            if (b == 125 || b == 126) {
                all.add(125);
                all.add(b ^ 32);
            } else {
                all.add(b);
            }
        }
        return all;
    }

    static List<Integer> frame(List<Integer> packet) {
        List<Integer> all = list(126);
        all.addAll(escaped(sealed(packet)));
        all.add(126);
        return all;
    }

    static void put(LineTalk x, int line, List<Integer> bytes) {
        for (int b : bytes) {
            x.put(line, b);
        }
    }

    /** Puts bytes on a line that is empty and lets them all come out. */
    static int feed(LineTalk x, int line, List<Integer> bytes) {
        put(x, line, bytes);
        return x.pass(line, bytes.size());
    }

    static int tell(LineTalk x, int line, int... packet) {
        return feed(x, line, frame(list(packet)));
    }

    static int tell(LineTalk x, int line, List<Integer> packet) {
        return feed(x, line, frame(packet));
    }

    /** The packets whose frames lie on a line, which is empty then; a wrong check shows as a packet of -1. */
    static List<List<Integer>> heard(LineTalk x, int line) {
        List<List<Integer>> packets = new ArrayList<>();
        List<Integer> now = new ArrayList<>();
        boolean escape = false;
        for (int b : line(x, line)) {
            if (b == 126) {
                if (!now.isEmpty()) {
                    packets.add(unsealed(now));
                }
                now = new ArrayList<>();
            } else if (b == 125) {
                escape = true;
            } else {
                now.add(escape ? b ^ 32 : b);
                escape = false;
            }
        }
        x.lose(line, 300);
        return packets;
    }

    private static List<Integer> unsealed(List<Integer> bytes) {
        int n = bytes.size() - 2;
        List<Integer> packet = n < 0 ? list() : new ArrayList<>(bytes.subList(0, n));
        return n >= 0 && sealed(packet).equals(bytes) ? packet : list(-1);
    }

    /** Brings an end to a state by way of one request at least; both lines are empty then. */
    static void bring(LineTalk x, int end, int state) {
        x.event(end, UP);
        x.event(end, OPEN);
        List<Integer> request = heard(x, end).get(0);
        List<Integer> ack = new ArrayList<>(request);
        ack.set(1, ACK);
        if (state == 7 || state == 9) {
            tell(x, 1 - end, ack);
        }
        if (state == 8 || state == 9) {
            tell(x, 1 - end, 1, REQUEST, 200);
        }
        if (state <= 1 || state == 2 || state == 4 || state == 5) {
            x.event(end, state == 1 ? DOWN : CLOSE);
        }
        if (state == 0) {
            x.event(end, DOWN);
        }
        if (state == 2 || state == 3) {
            x.tick(20);
        }
        if (state == 5) {
            x.event(end, OPEN);
        }
        x.lose(0, 300);
        x.lose(1, 300);
        if (x.about(end, STATE) != state) {
            throw new IllegalStateException("end " + end + " is in state " + x.about(end, STATE) + ", not " + state);
        }
    }

    static LineTalk in(int end, int state) {
        LineTalk x = new LineTalk();
        bring(x, end, state);
        return x;
    }

    static LineTalk open() {
        LineTalk x = in(0, 9);
        bring(x, 1, 9);
        return x;
    }
}
