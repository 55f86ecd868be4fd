import java.util.List;

/**
 * "A frame that finds not enough room in its line is lost whole (counted)": each kind of frame with just enough room
 * and with one place less.
 */
public final class RoomTest {
    private static final int SIZE = 1400, NUMBER = 0x01020304;

    private interface Act {
        void on(LineTalk x, int end);
    }

    public static void main(String[] args) {
        for (int end = 0; end < 2; end++) {
            kind("REQUEST by open", end, 2, (x, e) -> x.event(e, Probe.OPEN));
            kind("REQUEST by up", end, 1, (x, e) -> x.event(e, Probe.UP));
            kind("REQUEST by the timer", end, 6, (x, e) -> x.tick(3));
            kind("REQUEST behind a NAK", end, 6, (x, e) -> Probe.tell(x, 1 - e, 1, Probe.NAK, 1));
            kind("END by close", end, 6, (x, e) -> x.event(e, Probe.CLOSE));
            kind("END by the timer", end, 4, (x, e) -> x.tick(3));
            kind("ACK", end, 6, (x, e) -> Probe.tell(x, 1 - e, 1, Probe.REQUEST, 9, 1, 2, 3));
            kind("ACK by which it is up", end, 7, (x, e) -> Probe.tell(x, 1 - e, 1, Probe.REQUEST, 9));
            kind("NAK", end, 6, (x, e) -> Probe.tell(x, 1 - e, 1, Probe.REQUEST, 9, 5, 0, 0, 0, 0, 1, 0, 0));
            kind("REJECT", end, 6, (x, e) -> Probe.tell(x, 1 - e, 1, Probe.REQUEST, 9, 125, 126, 126, 125));
            kind("ENDED", end, 5, (x, e) -> Probe.tell(x, 1 - e, 1, Probe.END, 126));
            kind("UNKNOWN", end, 3, (x, e) -> Probe.tell(x, 1 - e, 1, 125, 9));
            kind("REPLY", end, 9, (x, e) -> Probe.tell(x, 1 - e, 1, Probe.ECHO, 9, 0, 0, 0, 0));
            kind("ECHO", end, 9, (x, e) -> x.echo(e));
            kind("two bytes of data", end, 9, (x, e) -> x.send(e, 2, 0));
            kind("twenty with both that are escaped", end, 9, (x, e) -> x.send(e, 20, 120));
        }
        eachOfTwoFramesOnItsOwn();
        lostRequestIsTheLatest();
        countFallsThoughAllAreLost();
        emptyLineTakesTheLongest();
        Probe.end();
    }

    private static LineTalk make(int end, int state) {
        LineTalk x = new LineTalk();
        x.set(end, SIZE, 64, NUMBER);
        Probe.bring(x, end, state);
        return x;
    }

    private static void kind(String what, int end, int state, Act act) {
        LineTalk x = make(end, state);
        act.on(x, end);
        List<Integer> frame = Probe.line(x, end);
        Probe.due(what + " is one frame", true, frame.size() >= 7 && frame.lastIndexOf(126) == frame.size() - 1
                && frame.subList(1, frame.size() - 1).indexOf(126) < 0);
        String fits = filled(what + " with just enough room", end, state, act, 300 - frame.size(), frame);
        String lost = filled(what + " with one place less", end, state, act, 301 - frame.size(), Probe.list());
        Probe.due(what + " that is lost was sent all the same", fits, lost);
    }

    /** Answers what an end tells of itself behind the act, but for its line and what it lost. */
    private static String filled(String what, int end, int state, Act act, int before, List<Integer> frame) {
        LineTalk x = make(end, state);
        Probe.put(x, end, Probe.row(before, 7));
        act.on(x, end);
        Probe.due(what + ": the line has", before + frame.size(), x.about(end, Probe.ON_LINE));
        Probe.due(what + ": ahead of the frame", 7, x.look(end, before - 1));
        for (int i = 0; i < frame.size(); i++) {
            Probe.due(what + ": byte " + i, frame.get(i), x.look(end, before + i));
        }
        Probe.due(what + ": lost", frame.isEmpty() ? 1 : 0, x.count(end, Probe.LOST));
        Probe.due(what + ": lost by the other end", 0, x.count(1 - end, Probe.LOST));
        StringBuilder tells = new StringBuilder();
        for (int i = Probe.STATE; i <= Probe.ASKS; i++) {
            tells.append(x.about(end, i)).append(' ');
        }
        return tells.append(x.count(end, Probe.GOOD)).append(' ').append(x.count(end, Probe.UPS)).toString();
    }

    /** A request of 15 bytes, then an ACK of 7: a frame that is lost takes no room from the one behind it. */
    private static void eachOfTwoFramesOnItsOwn() {
        int[] free = {22, 21, 15, 14, 7, 6, 0};
        int[] lost = {0, 1, 1, 1, 1, 2, 2};
        int[] left = {0, 6, 0, 7, 0, 6, 0};
        for (int i = 0; i < free.length; i++) {
            LineTalk x = make(0, 9);
            Probe.put(x, 0, Probe.row(300 - free[i], 7));
            Probe.tell(x, 1, 1, Probe.REQUEST, 9);
            Probe.due("of two frames with " + free[i] + " free are lost", lost[i], x.count(0, Probe.LOST));
            Probe.due("of two frames with " + free[i] + " free there is left", left[i], 300 - x.about(0, Probe.ON_LINE));
            Probe.due("state", 8, x.about(0, Probe.STATE));
        }
    }

    /** "q requests": a request that was lost is the latest one all the same, and what answers it is right. */
    private static void lostRequestIsTheLatest() {
        for (int code = Probe.ACK; code <= Probe.REJECT; code++) {
            for (int id = 0; id <= 3; id++) {
                LineTalk x = Probe.in(0, 6);
                Probe.put(x, 0, Probe.row(294, 7));
                x.tick(3);
                Probe.due("the second request is lost", 1, x.count(0, Probe.LOST));
                Probe.due("code " + code + " with the id " + id, id == 2 ? 1 : 0, Probe.tell(x, 1, 1, code, id));
            }
        }
    }

    /** "the count becomes 1 less, and the timer 3", whether or not there was room: so an end gives up in the end. */
    private static void countFallsThoughAllAreLost() {
        int[] states = {4, 5, 6, 8};
        int[] behind = {2, 3, 3, 3};
        for (int i = 0; i < states.length; i++) {
            LineTalk x = Probe.in(0, states[i]);
            Probe.put(x, 0, Probe.row(294, 7));
            int id = x.about(0, Probe.ID);
            for (int count = 3; count >= 0; count--) {
                String what = "lost in state " + states[i] + " with " + count + " left";
                Probe.due(what + ": over", 1, x.tick(3));
                Probe.due(what + ": count", count, x.about(0, Probe.COUNT));
                Probe.due(what + ": timer", 3, x.about(0, Probe.TIMER));
                Probe.due(what + ": id", id + 4 - count, x.about(0, Probe.ID));
                Probe.due(what + ": lost", 4 - count, x.count(0, Probe.LOST));
            }
            Probe.due("over, none", 1, x.tick(3));
            Probe.due("state behind " + states[i], behind[i], x.about(0, Probe.STATE));
            Probe.due("none is lost by that", 4, x.count(0, Probe.LOST));
        }
    }

    private static void emptyLineTakesTheLongest() {
        LineTalk x = Probe.in(0, 6);
        List<Integer> request = Probe.list(1, Probe.REQUEST, 9);
        for (int type = 0; type < 17; type++) {
            request.add(100 + type);
            request.add(126);
        }
        Probe.tell(x, 1, request);
        List<Integer> reject = Probe.join(request);
        reject.set(1, Probe.REJECT);
        Probe.due("a REJECT of 39 bytes", Probe.frame(reject), Probe.line(x, 0));
        Probe.due("none is lost", 0, x.count(0, Probe.LOST));
    }
}
