import java.util.ArrayList;
import java.util.List;

/**
 * "EXCEPTIONS: IndexOutOfBoundsException: there is no such end, line or place. IllegalArgumentException, then
 * IllegalStateException, as told. Such a call changes nothing."
 *
 * Each call that must be refused is made on an object of its own; then a story is told to that object and to a twin
 * on which the call was not made, and both must answer alike to the end of it. So what no call shows at once (the
 * least size, a loop, a 125 that waits, the latest request) is held against the twin's as well.
 */
public final class RefusedTest {
    private static final String NO_PLACE = "IndexOutOfBoundsException";
    private static final String NO_ARGUMENT = "IllegalArgumentException";
    private static final String NO_STATE = "IllegalStateException";
    private static final int[] NO_ENDS = {-1, 2, Integer.MAX_VALUE, Integer.MIN_VALUE};
    private static final int[] NO_BYTES = {-1, 256, Integer.MAX_VALUE, Integer.MIN_VALUE};
    private static final int[] NO_SIZES = {63, 1501, 0, -64, Integer.MAX_VALUE, Integer.MIN_VALUE};
    private static final int OWN = 0x7D7E0102;
    private static final int FULL = 10;
    private static final int FRESH = 11;

    private interface Call {
        void on(LineTalk x);
    }

    private final int situation;
    private final LineTalk twin;
    private final String dueStory;
    private int made = 0;

    private RefusedTest(int situation) {
        this.situation = situation;
        twin = make(situation);
        for (int end = 0; end < 2; end++) {
            Probe.due("state of end " + end + " in situation " + situation, stateIn(situation, end), twin.about(end, Probe.STATE));
        }
        dueStory = story(make(situation), situation);
    }

    public static void main(String[] args) {
        for (int situation = 0; situation <= FRESH; situation++) {
            RefusedTest test = new RefusedTest(situation);
            test.noSuchEnd();
            test.wrongInAnyState();
            for (int end = 0; end < 2; end++) {
                test.wrongArguments(end);
                test.wrongPlaces(end);
                test.wrongStates(end);
                test.twoOfThem(end);
            }
            Probe.due("calls were refused in situation " + situation, true, test.made > 200);
        }
        allowedStates();
        Probe.end();
    }

    /** Situation s has end 0 in the state s and end 1 in 9 - s, half frames everywhere; then full lines, and a new object. */
    private static LineTalk make(int situation) {
        LineTalk x = new LineTalk();
        if (situation == FRESH) {
            return x;
        }
        x.set(0, 1400, 200, OWN);
        x.set(1, 700, 300, 77);
        // The way to the states 2 and 3 is one of ticks, which would move the other end too: so it comes first.
        int first = stateIn(situation, 1) == 2 || stateIn(situation, 1) == 3 ? 1 : 0;
        Probe.bring(x, first, stateIn(situation, first));
        Probe.bring(x, 1 - first, stateIn(situation, 1 - first));
        for (int end = 0; end < 2; end++) {
            Probe.tell(x, 1 - end, 2, 90 + end, 80 + end);
        }
        if (situation == FULL) {
            fill(x);
        } else {
            // The 125 of 126 has come out, the byte behind it has not yet.
            List<Integer> frame = Probe.frame(Probe.list(2, 50 + situation, 126, 60));
            for (int line = 0; line < 2; line++) {
                Probe.put(x, line, frame);
                x.pass(line, 4);
            }
            x.loop(situation % 2, true);
        }
        return x;
    }

    private static void fill(LineTalk x) {
        for (int end = 0; end < 2; end++) {
            for (int i = 0; i < 12; i++) {
                x.send(end, 20, 1 + 8 * i);
            }
            for (int i = x.about(end, Probe.ON_LINE); i < 300; i++) {
                x.put(end, 1);
            }
        }
    }

    private static int stateIn(int situation, int end) {
        if (situation >= FULL) {
            return situation == FULL ? 9 : 0;
        }
        return end == 0 ? situation : 9 - situation;
    }

    private static String story(LineTalk x, int situation) {
        StringBuilder told = new StringBuilder();
        shows(x, told);
        for (int line = 0; line < 2; line++) {
            told.append(x.loop(line, false)).append(' ').append(x.pass(line, 300)).append('\n');
        }
        shows(x, told);
        clear(x);
        for (int end = 0; end < 2; end++) {
            int state = stateIn(situation, end);
            List<Integer> ack = Probe.list(1, Probe.ACK, state == 3 ? 5 : 1);
            ack = end == 0 ? Probe.join(ack, 1, 5, 120, 5) : Probe.join(ack, 1, 2, 188, 5);
            told.append(Probe.tell(x, 1 - end, Probe.join(ack, Probe.four(end == 0 ? OWN : 77)))).append(' ');
            clear(x);
        }
        for (int end = 0; end < 2; end++) {
            askForTheLeast(x, end, told);
        }
        shows(x, told);
        return told.toString();
    }

    private static void clear(LineTalk x) {
        x.lose(0, 300);
        x.lose(1, 300);
    }

    /** Leads an end from any state to 6, where each request is answered, and looks at what its answers say. */
    private static void askForTheLeast(LineTalk x, int end, StringBuilder told) {
        x.event(end, Probe.DOWN);
        x.event(end, Probe.CLOSE);
        x.event(end, Probe.UP);
        x.event(end, Probe.OPEN);
        int least = end == 0 ? 200 : 300;
        for (int size = least - 1; size <= least; size++) {
            clear(x);
            told.append(Probe.tell(x, 1 - end, 1, Probe.REQUEST, 1, 1, size >> 8, size & 255));
            for (int i = 2; i < 8; i++) {
                told.append(' ').append(x.look(end, i));
            }
            told.append('\n');
        }
        clear(x);
    }

    /** All that the calls show, but of a long line its two ends alone: an object has 512 calls. */
    private static void shows(LineTalk x, StringBuilder told) {
        for (int end = 0; end < 2; end++) {
            for (int what = 0; what <= 8; what++) {
                told.append(x.about(end, what)).append(' ');
            }
            for (int what = 0; what <= 5; what++) {
                told.append(x.count(end, what)).append(' ');
            }
            for (int i = 0; i < 3; i++) {
                told.append(x.data(end, i)).append(' ');
            }
            int used = x.about(end, Probe.ON_LINE);
            for (int i = 0; i < used; i++) {
                if (i < 6 || i >= used - 6) {
                    told.append(x.look(end, i)).append(' ');
                }
            }
            told.append('\n');
        }
        told.append(x.noise()).append('\n');
    }

    private void refuse(String what, String due, Call call) {
        LineTalk x = make(situation);
        String got = "nothing";
        try {
            call.on(x);
        } catch (RuntimeException e) {
            got = e.getClass().getSimpleName();
        }
        String where = what + " in situation " + situation;
        Probe.due(where + " throws", due, got);
        Probe.due(where + " changes nothing", dueStory, story(x, situation));
        made++;
    }

    /** "ENDS are 0, 1": a wrong end or line comes first, whatever else is wrong. */
    private void noSuchEnd() {
        for (int e : NO_ENDS) {
            refuse("set(" + e + ", 64, 64, 0)", NO_PLACE, x -> x.set(e, 64, 64, 0));
            refuse("set(" + e + ", 63, 1501, 0)", NO_PLACE, x -> x.set(e, 63, 1501, 0));
            refuse("event(" + e + ", 0)", NO_PLACE, x -> x.event(e, 0));
            refuse("event(" + e + ", 4)", NO_PLACE, x -> x.event(e, 4));
            refuse("pass(" + e + ", 1)", NO_PLACE, x -> x.pass(e, 1));
            refuse("pass(" + e + ", 0)", NO_PLACE, x -> x.pass(e, 0));
            refuse("put(" + e + ", 0)", NO_PLACE, x -> x.put(e, 0));
            refuse("put(" + e + ", 256)", NO_PLACE, x -> x.put(e, 256));
            refuse("damage(" + e + ", 0, 1)", NO_PLACE, x -> x.damage(e, 0, 1));
            refuse("damage(" + e + ", -1, 256)", NO_PLACE, x -> x.damage(e, -1, 256));
            refuse("lose(" + e + ", 1)", NO_PLACE, x -> x.lose(e, 1));
            refuse("lose(" + e + ", -1)", NO_PLACE, x -> x.lose(e, -1));
            refuse("loop(" + e + ", true)", NO_PLACE, x -> x.loop(e, true));
            refuse("loop(" + e + ", false)", NO_PLACE, x -> x.loop(e, false));
            refuse("send(" + e + ", 2, 0)", NO_PLACE, x -> x.send(e, 2, 0));
            refuse("send(" + e + ", 1, 256)", NO_PLACE, x -> x.send(e, 1, 256));
            refuse("echo(" + e + ")", NO_PLACE, x -> x.echo(e));
            refuse("data(" + e + ", 0)", NO_PLACE, x -> x.data(e, 0));
            refuse("data(" + e + ", -1)", NO_PLACE, x -> x.data(e, -1));
            refuse("look(" + e + ", 0)", NO_PLACE, x -> x.look(e, 0));
            refuse("about(" + e + ", 0)", NO_PLACE, x -> x.about(e, 0));
            refuse("about(" + e + ", 9)", NO_PLACE, x -> x.about(e, 9));
            refuse("count(" + e + ", 0)", NO_PLACE, x -> x.count(e, 0));
            refuse("count(" + e + ", 6)", NO_PLACE, x -> x.count(e, 6));
        }
    }

    /** "tick .. IllegalArgumentException: n is not 1 .. 20." */
    private void wrongInAnyState() {
        for (int n : new int[] {0, 21, -1, Integer.MAX_VALUE, Integer.MIN_VALUE}) {
            refuse("tick(" + n + ")", NO_ARGUMENT, x -> x.tick(n));
        }
    }

    /** The arguments that are told as wrong are so in every state, ahead of a state that is wrong too. */
    private void wrongArguments(int end) {
        for (int size : NO_SIZES) {
            refuse("set(" + end + ", " + size + ", 64, 1)", NO_ARGUMENT, x -> x.set(end, size, 64, 1));
            refuse("set(" + end + ", 64, " + size + ", 1)", NO_ARGUMENT, x -> x.set(end, 64, size, 1));
        }
        for (int which : new int[] {-1, 4, Integer.MAX_VALUE, Integer.MIN_VALUE}) {
            refuse("event(" + end + ", " + which + ")", NO_ARGUMENT, x -> x.event(end, which));
        }
        for (int n : new int[] {0, 301, -1, Integer.MAX_VALUE, Integer.MIN_VALUE}) {
            refuse("pass(" + end + ", " + n + ")", NO_ARGUMENT, x -> x.pass(end, n));
        }
        for (int b : NO_BYTES) {
            refuse("put(" + end + ", " + b + ")", NO_ARGUMENT, x -> x.put(end, b));
            refuse("send(" + end + ", 2, " + b + ")", NO_ARGUMENT, x -> x.send(end, 2, b));
        }
        for (int n : new int[] {-1, Integer.MIN_VALUE}) {
            refuse("lose(" + end + ", " + n + ")", NO_ARGUMENT, x -> x.lose(end, n));
        }
        for (int n : new int[] {1, 21, 0, -1, Integer.MAX_VALUE, Integer.MIN_VALUE}) {
            refuse("send(" + end + ", " + n + ", 0)", NO_ARGUMENT, x -> x.send(end, n, 0));
        }
        for (int what : new int[] {-1, 9, Integer.MAX_VALUE, Integer.MIN_VALUE}) {
            refuse("about(" + end + ", " + what + ")", NO_ARGUMENT, x -> x.about(end, what));
        }
        for (int what : new int[] {-1, 6, Integer.MAX_VALUE, Integer.MIN_VALUE}) {
            refuse("count(" + end + ", " + what + ")", NO_ARGUMENT, x -> x.count(end, what));
        }
    }

    /** "damage: no such line or byte", "look: there is no such line or byte". */
    private void wrongPlaces(int line) {
        int used = twin.about(line, Probe.ON_LINE);
        for (int i : new int[] {-1, used, used + 1, 300, Integer.MAX_VALUE, Integer.MIN_VALUE}) {
            refuse("look(" + line + ", " + i + ")", NO_PLACE, x -> x.look(line, i));
            refuse("damage(" + line + ", " + i + ", 1)", NO_PLACE, x -> x.damage(line, i, 1));
            refuse("damage(" + line + ", " + i + ", 256)", NO_PLACE, x -> x.damage(line, i, 256));
        }
        for (int mask : used == 0 ? new int[0] : NO_BYTES) {
            refuse("damage(" + line + ", 0, " + mask + ")", NO_ARGUMENT, x -> x.damage(line, 0, mask));
            refuse("damage(" + line + ", " + (used - 1) + ", " + mask + ")", NO_ARGUMENT, x -> x.damage(line, used - 1, mask));
        }
    }

    /** set: "its state is not 0 or 2"; send, echo: "not 9"; put: "it has 300". */
    private void wrongStates(int end) {
        int state = stateIn(situation, end);
        if (state != 0 && state != 2) {
            refuse("set(" + end + ", 64, 1500, 1)", NO_STATE, x -> x.set(end, 64, 1500, 1));
            refuse("set(" + end + ", 1500, 64, 0)", NO_STATE, x -> x.set(end, 1500, 64, 0));
        }
        if (state != 9) {
            refuse("send(" + end + ", 2, 0)", NO_STATE, x -> x.send(end, 2, 0));
            refuse("send(" + end + ", 20, 255)", NO_STATE, x -> x.send(end, 20, 255));
            refuse("echo(" + end + ")", NO_STATE, x -> x.echo(end));
        }
        if (situation == FULL) {
            refuse("put(" + end + ", 0)", NO_STATE, x -> x.put(end, 0));
            refuse("put(" + end + ", 255)", NO_STATE, x -> x.put(end, 255));
        }
    }

    /** Two wrong arguments are no more wrong than one. */
    private void twoOfThem(int end) {
        refuse("set(" + end + ", 63, 63, 1)", NO_ARGUMENT, x -> x.set(end, 63, 63, 1));
        refuse("send(" + end + ", 21, 256)", NO_ARGUMENT, x -> x.send(end, 21, 256));
    }

    /** The states in which set, send and echo are not refused, next to those in which they are. */
    private static void allowedStates() {
        List<String> taken = new ArrayList<>();
        for (int end = 0; end < 2; end++) {
            for (int state = 0; state <= 9; state++) {
                int e = end;
                taken.add(state + ":" + takes(end, state, x -> x.set(e, 64, 1500, 1))
                        + takes(end, state, x -> x.send(e, 2, 0)) + takes(end, state, x -> x.echo(e)));
            }
        }
        String due = "[0:yes no no , 1:no no no , 2:yes no no , 3:no no no , 4:no no no , 5:no no no , 6:no no no , 7:no no no , 8:no no no , 9:no yes yes ]";
        Probe.due("set, send and echo at end 0 by state", due, taken.subList(0, 10).toString());
        Probe.due("set, send and echo at end 1 by state", due, taken.subList(10, 20).toString());
    }

    private static String takes(int end, int state, Call call) {
        try {
            call.on(Probe.in(end, state));
            return "yes ";
        } catch (IllegalStateException e) {
            return "no ";
        }
    }
}
