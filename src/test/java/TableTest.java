import java.util.ArrayList;
import java.util.List;

/** Every event in every state, at both ends: actions, new state, what is sent, count, timer and the ups. */
public final class TableTest {
    private static final int SIZE = 1400, LEAST = 100, NUMBER = 0x7D7E0102;
    private static final int[] REQUEST_SIZE = {1, 5, 120};
    private static final String[] ROWS = {
        "up           2 | i q 6 | . | . | . | . | . | . | . | .",
        "down         . | . | 0 | 1 | 0 | 1 | 1 | 1 | 1 | d 1",
        "open         1 | 1 | i q 6 | 3 | 5 | 5 | 6 | 7 | 8 | 9",
        "close        0 | 0 | 2 | 2 | 4 | 4 | i e 4 | i e 4 | i e 4 | d i e 4",
        "over, more   . | . | . | . | e 4 | e 5 | q 6 | q 6 | q 8 | .",
        "over, none   . | . | . | . | 2 | 3 | 3 | 3 | 3 | .",
        "good request . | . | t 2 | i q a 8 | 4 | 5 | a 8 | a u 9 | a 8 | d q a 8",
        "bad request  . | . | t 2 | i q n 6 | 4 | 5 | n 6 | n 7 | n 6 | d q n 6",
        "ack          . | . | t 2 | t 3 | 4 | 5 | i 7 | q 6 | i u 9 | d q 6",
        "nak          . | . | t 2 | t 3 | 4 | 5 | i q 6 | q 6 | i q 8 | d q 6",
        "reject       . | . | t 2 | t 3 | 4 | 5 | i q 6 | q 6 | i q 8 | d q 6",
        "end          . | . | t 2 | t 3 | t 4 | t 5 | t 6 | t 6 | t 6 | d z t 5",
        "ended        . | . | 2 | 3 | 2 | 3 | 6 | 6 | 8 | d q 6",
        "other code 0 . | . | c 2 | c 3 | c 4 | c 5 | c 6 | c 7 | c 8 | c 9",
        "other code 8 . | . | c 2 | c 3 | c 4 | c 5 | c 6 | c 7 | c 8 | c 9",
        "othercode 11 . | . | c 2 | c 3 | c 4 | c 5 | c 6 | c 7 | c 8 | c 9",
        "othercode125 . | . | c 2 | c 3 | c 4 | c 5 | c 6 | c 7 | c 8 | c 9",
        "unknown 1    . | . | 2 | 3 | 2 | 3 | 3 | 3 | 3 | d i e 5",
        "unknown 6    . | . | 2 | 3 | 2 | 3 | 3 | 3 | 3 | d i e 5",
        "unknown 0    . | . | 2 | 3 | 4 | 5 | 6 | 6 | 8 | 9",
        "unknown 7    . | . | 2 | 3 | 4 | 5 | 6 | 6 | 8 | 9",
        "unknown 255  . | . | 2 | 3 | 4 | 5 | 6 | 6 | 8 | 9",
        "echo         . | . | 2 | 3 | 4 | 5 | 6 | 7 | 8 | r 9",
        "reply        . | . | . | . | . | . | . | . | . | .",
        "data         . | . | . | . | . | . | . | . | . | .",
    };

    private final LineTalk x = new LineTalk();
    private final int end;
    private final String event;
    private final String where;
    private int size = SIZE, number = NUMBER, id, count, timer, state, ups;
    private List<Integer> cameWith = Probe.list();
    private final List<List<Integer>> due = new ArrayList<>();

    private TableTest(int end, String event, int state) {
        this.end = end;
        this.event = event;
        where = event + " in state " + state + " at end " + end;
        x.set(end, SIZE, LEAST, NUMBER);
        Probe.bring(x, end, state);
        if (event.equals("over, none") && state >= 4 && state <= 8) {
            // The count falls to 0 in the state itself; in state 7 it can't, so that cell stays unseen.
            for (int i = 0; i < 20 && x.about(end, Probe.COUNT) > 0; i++) {
                x.tick(3);
            }
            x.lose(end, 300);
        }
        if (x.about(end, Probe.TIMER) > 1) {
            // So that a timer that starts anew differs from one that goes on.
            x.tick(1);
        }
        this.state = x.about(end, Probe.STATE);
        id = x.about(end, Probe.ID);
        count = x.about(end, Probe.COUNT);
        timer = x.about(end, Probe.TIMER);
        ups = x.count(end, Probe.UPS);
    }

    public static void main(String[] args) {
        for (int end = 0; end < 2; end++) {
            for (String row : ROWS) {
                String event = row.substring(0, 13).trim();
                String[] cells = row.substring(13).split("\\|");
                for (int state = 0; state < 10; state++) {
                    if (!(event.equals("over, none") && state == 7)) {
                        new TableTest(end, event, state).look(cells[state].trim().split(" +"));
                    }
                }
            }
        }
        countFallsToNoneByTicks();
        countFallsToNoneByEnd();
        unknownOneToSix();
        nothingBelowStateTwo();
        Probe.end();
    }

    /** "at 0 the event is over, more if the count is above 0, else over, none": with the count 1 it is more still. */
    private static void countFallsToNoneByTicks() {
        int[] states = {4, 5, 6, 8};
        int[] behind = {2, 3, 3, 3};
        for (int i = 0; i < states.length; i++) {
            LineTalk x = Probe.in(0, states[i]);
            int code = states[i] < 6 ? Probe.END : Probe.REQUEST;
            for (int count = 4; count >= 1; count--) {
                String what = "over with the count " + count + " in state " + states[i];
                Probe.due(what + ": count", count, x.about(0, Probe.COUNT));
                int id = x.about(0, Probe.ID) + 1;
                Probe.due(what + ": two ticks", 0, x.tick(2));
                Probe.due(what + ": the third", 1, x.tick(1));
                Probe.due(what + ": sends", List.of(Probe.list(1, code, id)), Probe.heard(x, 0));
                Probe.due(what + ": state", states[i], x.about(0, Probe.STATE));
                Probe.due(what + ": timer", 3, x.about(0, Probe.TIMER));
            }
            String what = "over with the count 0 in state " + states[i];
            Probe.due(what + ": count", 0, x.about(0, Probe.COUNT));
            Probe.due(what + ": three ticks", 1, x.tick(3));
            Probe.due(what + ": sends", List.of(), Probe.heard(x, 0));
            Probe.due(what + ": state", behind[i], x.about(0, Probe.STATE));
            Probe.due(what + ": timer", 0, x.about(0, Probe.TIMER));
            Probe.due(what + ": no more ticks", 0, x.tick(20));
            Probe.due(what + ": count behind it", 0, x.about(0, Probe.COUNT));
        }
    }

    /** "unknown 1-6" against "unknown", by each code that can be unknown. */
    private static void unknownOneToSix() {
        for (int code = 0; code < 256; code++) {
            LineTalk x = Probe.in(0, 6);
            Probe.tell(x, 1, 1, Probe.UNKNOWN, 9, code);
            Probe.due("state behind unknown " + code, code >= 1 && code <= 6 ? 3 : 6, x.about(0, Probe.STATE));
        }
    }

    /** "In the states 0 and 1 all packets are nothing", "What is not bad is counted all the same". */
    private static void nothingBelowStateTwo() {
        int[][] packets = {{1, 1, 9}, {1, 1, 9, 1, 0, 0}, {1, 1, 9, 7, 7}, {1, 2, 9}, {1, 3, 9, 1, 1, 0, 5, 0, 0, 0, 9},
            {1, 4, 9, 1, 0, 0, 5, 0, 0, 0, 0}, {1, 5, 9}, {1, 6, 9}, {1, 7, 9, 1}, {1, 8, 9}, {1, 9, 9, 18, 52, 86, 120},
            {1, 10, 9, 18, 52, 86, 120}, {1, 1, 9, 5, 18, 52, 86, 120}, {2, 1, 2}};
        for (int state = 0; state < 2; state++) {
            LineTalk x = new LineTalk();
            x.set(0, 300, 64, 0x12345678);
            x.event(0, state == 0 ? Probe.CLOSE : Probe.OPEN);
            for (int i = 0; i < packets.length; i++) {
                String what = Probe.list(packets[i]) + " in state " + state;
                Probe.due(what, 1, Probe.tell(x, 1, packets[i]));
                Probe.due(what + " is counted", i + 1, x.count(0, Probe.GOOD));
            }
            int[] about = {state, 300, 0x12345678, 0, 0, 0, 3, 0, 0};
            for (int what = 0; what < about.length; what++) {
                Probe.due("about " + what + " in state " + state, about[what], x.about(0, what));
            }
            for (int what = 1; what <= 5; what++) {
                Probe.due("count " + what + " in state " + state, 0, x.count(0, what));
            }
            Probe.due("data in state " + state, LineTalk.NONE, x.data(0, 0));
            Probe.due("bad is bad in state " + state, 0, Probe.tell(x, 1, 3, 1, 2));
            Probe.due("and counted in state " + state, 1, x.count(0, Probe.BAD));
        }
    }

    /** "z it becomes 0, and the timer 3": the next time that it is over there is none more. */
    private static void countFallsToNoneByEnd() {
        LineTalk x = Probe.in(0, 6);
        x.tick(2);
        Probe.tell(x, 1, 1, Probe.ACK, 1);
        Probe.tell(x, 1, 1, Probe.REQUEST, 1);
        Probe.due("timer ahead of an END", 1, x.about(0, Probe.TIMER));
        Probe.tell(x, 1, 1, Probe.END, 3);
        Probe.due("count behind an END", 0, x.about(0, Probe.COUNT));
        Probe.due("timer behind an END", 3, x.about(0, Probe.TIMER));
        Probe.due("two ticks", 0, x.tick(2));
        Probe.due("the third", 1, x.tick(1));
        Probe.due("state", 3, x.about(0, Probe.STATE));
    }

    private void look(String[] actions) {
        bringAbout();
        for (String action : actions) {
            act(action.charAt(0));
        }
        Probe.due(where + ": state", state, x.about(end, Probe.STATE));
        Probe.due(where + ": sent", due, Probe.heard(x, end));
        Probe.due(where + ": id", id, x.about(end, Probe.ID));
        Probe.due(where + ": count", count, x.about(end, Probe.COUNT));
        Probe.due(where + ": timer", timer, x.about(end, Probe.TIMER));
        Probe.due(where + ": ups", ups, x.count(end, Probe.UPS));
        Probe.due(where + ": bad ones", 0, x.count(end, Probe.BAD));
    }

    private void bringAbout() {
        boolean learns = state >= 2;
        switch (event) {
            case "up": happens(Probe.UP); break;
            case "down": happens(Probe.DOWN); break;
            case "open": happens(Probe.OPEN); break;
            case "close": happens(Probe.CLOSE); break;
            case "over, more":
            case "over, none": timerGoesOver(); break;
            case "good request": comes(Probe.join(Probe.list(1, Probe.REQUEST, 126, 5), Probe.four(NUMBER + 1))); break;
            case "bad request": comes(Probe.list(1, Probe.REQUEST, 125, 1, 0, LEAST - 1)); break;
            case "ack": comes(Probe.join(Probe.list(1, Probe.ACK, requestId(), 1, 5, 120, 5), Probe.four(NUMBER))); break;
            case "nak":
                comes(Probe.list(1, Probe.NAK, requestId(), 5, 0, 0, 1, 2, 1, 1, 0));
                size = learns ? 256 : size;
                number = learns ? 258 : number;
                break;
            case "reject":
                comes(Probe.list(1, Probe.REJECT, requestId(), 5, 0, 0, 0, 0));
                number = learns ? 0 : number;
                break;
            case "end": comes(Probe.list(1, Probe.END, 77)); break;
            case "ended": comes(Probe.list(1, Probe.ENDED, 78)); break;
            case "other code 0": comes(Probe.list(1, 0, 79)); break;
            case "other code 8": comes(Probe.list(1, 8, 80, 1, 1)); break;
            case "othercode 11": comes(Probe.list(1, 11, 81, 9)); break;
            case "othercode125": comes(Probe.list(1, 125, 82)); break;
            case "unknown 1": comes(Probe.list(1, Probe.UNKNOWN, 1, 1)); break;
            case "unknown 6": comes(Probe.list(1, Probe.UNKNOWN, 1, 6)); break;
            case "unknown 0": comes(Probe.list(1, Probe.UNKNOWN, 1, 0)); break;
            case "unknown 7": comes(Probe.list(1, Probe.UNKNOWN, 1, 7)); break;
            case "unknown 255": comes(Probe.list(1, Probe.UNKNOWN, 1, 255)); break;
            case "echo": comes(Probe.list(1, Probe.ECHO, 83, 0, 0, 0, 0)); break;
            case "reply": comes(Probe.list(1, Probe.REPLY, 84, 0, 0, 0, 0)); break;
            case "data": comes(Probe.list(2, 1, 2)); break;
            default: throw new IllegalStateException(event);
        }
    }

    private void happens(int which) {
        int answered = x.event(end, which);
        Probe.due(where + ": answer", x.about(end, Probe.STATE), answered);
    }

    private void timerGoesOver() {
        if (state < 4 || state > 8) {
            Probe.due(where + ": ticks", 0, x.tick(20));
            return;
        }
        Probe.due(where + ": ticks ahead", 0, timer > 1 ? x.tick(timer - 1) : 0);
        Probe.due(where + ": timer ahead", 1, x.about(end, Probe.TIMER));
        Probe.due(where + ": the tick", 1, x.tick(1));
        timer = 0;
    }

    private void comes(List<Integer> packet) {
        cameWith = packet;
        Probe.due(where + ": not bad", 1, Probe.tell(x, 1 - end, packet));
    }

    /** In every state that bring() makes, the latest request is the first one or one of those that ticks sent. */
    private int requestId() {
        return state == 3 ? 5 : 1;
    }

    private void act(char action) {
        switch (action) {
            case 'i': count = 5; break;
            case 'z': count = 0; timer = 3; break;
            case 'q': sends(request()); spend(); break;
            case 'e': sends(Probe.list(1, Probe.END, ++id)); spend(); break;
            case 'a': sends(Probe.join(Probe.list(1, Probe.ACK, 126, 5), Probe.four(NUMBER + 1))); break;
            case 'n': sends(Probe.list(1, Probe.NAK, 125, 1, 0, LEAST)); break;
            case 't': sends(Probe.list(1, Probe.ENDED, cameWith.get(2))); break;
            case 'c': sends(Probe.list(1, Probe.UNKNOWN, ++id, cameWith.get(1))); break;
            case 'r': sends(Probe.join(Probe.list(1, Probe.REPLY, 83), Probe.four(number))); break;
            case 'u': ups++; break;
            case 'd':
            case '.': break;
            default: state = action - '0'; break;
        }
    }

    private List<Integer> request() {
        List<Integer> packet = Probe.list(1, Probe.REQUEST, ++id);
        packet = size == SIZE ? Probe.join(packet, REQUEST_SIZE) : Probe.join(packet, 1, size >> 8, size & 255);
        return number == 0 ? packet : Probe.join(Probe.join(packet, 5), Probe.four(number));
    }

    private void sends(List<Integer> packet) {
        due.add(packet);
    }

    private void spend() {
        count--;
        timer = 3;
    }
}
