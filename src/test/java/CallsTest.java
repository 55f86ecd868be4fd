import java.util.List;

/** Promise by promise: what each call answers, its edges, and what it refuses. */
public final class CallsTest {
    private static final Class<IndexOutOfBoundsException> NO_PLACE = IndexOutOfBoundsException.class;
    private static final Class<IllegalArgumentException> NO_ARGUMENT = IllegalArgumentException.class;
    private static final Class<IllegalStateException> NO_STATE = IllegalStateException.class;
    private static final int[] NO_ENDS = {-1, 2, Integer.MAX_VALUE, Integer.MIN_VALUE};

    public static void main(String[] args) {
        newObject();
        set();
        event();
        pass();
        passInALoop();
        tick();
        put();
        damage();
        lose();
        loop();
        send();
        room();
        echo();
        data();
        look();
        about();
        count();
        noise();
        twoEnds();
        objectsAreApart();
        Probe.end();
    }

    private static void newObject() {
        LineTalk x = new LineTalk();
        int[] due = {0, 1500, 0, 0, 0, 0, 3, 0, 0};
        for (int end = 0; end < 2; end++) {
            for (int what = 0; what < due.length; what++) {
                Probe.due("new: about(" + end + ", " + what + ")", due[what], x.about(end, what));
            }
            for (int what = 0; what < 6; what++) {
                Probe.due("new: count(" + end + ", " + what + ")", 0, x.count(end, what));
            }
            Probe.due("new: data", LineTalk.NONE, x.data(end, 0));
            Probe.due("new: loop", false, x.loop(end, false));
        }
        Probe.due("new: noise", 0f, x.noise());
        // The least size shows by what is answered to a request alone.
        for (int end = 0; end < 2; end++) {
            Probe.bring(x, end, 6);
            Probe.tell(x, 1 - end, 1, 1, 1, 1, 0, 64);
            Probe.due("new: 64 is the least", Probe.ACK, Probe.heard(x, end).get(0).get(1));
            Probe.tell(x, 1 - end, 1, 1, 1, 1, 0, 63);
            Probe.due("new: 63 is below it", List.of(Probe.list(1, 3, 1, 1, 0, 64)), Probe.heard(x, end));
        }
    }

    private static void set() {
        for (int state = 0; state <= 9; state++) {
            LineTalk x = Probe.in(1, state);
            if (state == 0 || state == 2) {
                x.set(1, 64, 1500, -5);
                Probe.due("size", 64, x.about(1, Probe.SIZE));
                Probe.due("number", -5, x.about(1, Probe.NUMBER));
                Probe.due("the other end's size", 1500, x.about(0, Probe.SIZE));
                x.set(1, 1500, 64, 0);
                Probe.due("size", 1500, x.about(1, Probe.SIZE));
                Probe.due("number", 0, x.about(1, Probe.NUMBER));
            } else {
                Probe.refused(x, "set in state " + state, NO_STATE, () -> x.set(1, 100, 100, 1));
                Probe.refused(x, "set of a wrong size in state " + state, NO_ARGUMENT, () -> x.set(1, 63, 100, 1));
            }
        }
        LineTalk x = new LineTalk();
        x.set(0, 1400, 200, 9);
        for (int wrong : new int[] {63, 1501, 0, -1, Integer.MAX_VALUE, Integer.MIN_VALUE}) {
            Probe.refused(x, "set(0, " + wrong + ", 64, 0)", NO_ARGUMENT, () -> x.set(0, wrong, 64, 0));
            Probe.refused(x, "set(0, 64, " + wrong + ", 0)", NO_ARGUMENT, () -> x.set(0, 64, wrong, 0));
        }
        for (int end : NO_ENDS) {
            Probe.refused(x, "set(" + end + ", ..)", NO_PLACE, () -> x.set(end, 63, 63, 0));
        }
        // The least size that was set, and no refused one, is held against a request.
        Probe.bring(x, 0, 6);
        Probe.tell(x, 1, 1, 1, 1, 1, 0, 199);
        Probe.due("the least that was set", List.of(Probe.list(1, 3, 1, 1, 0, 200)), Probe.heard(x, 0));
    }

    private static void event() {
        LineTalk x = new LineTalk();
        Probe.due("open in 0", 1, x.event(1, Probe.OPEN));
        Probe.due("up in 1", 6, x.event(1, Probe.UP));
        Probe.due("up once more is nothing", 6, x.event(1, Probe.UP));
        Probe.due("one request", List.of(Probe.list(1, 1, 1)), Probe.heard(x, 1));
        Probe.due("down", 1, x.event(1, Probe.DOWN));
        Probe.due("close", 0, x.event(1, Probe.CLOSE));
        Probe.due("end 0 is as it was", 0, x.about(0, Probe.STATE));
        for (int which : new int[] {-1, 4, 5, Integer.MAX_VALUE, Integer.MIN_VALUE}) {
            Probe.refused(x, "event(0, " + which + ")", NO_ARGUMENT, () -> x.event(0, which));
        }
        for (int end : NO_ENDS) {
            Probe.refused(x, "event(" + end + ", 9)", NO_PLACE, () -> x.event(end, 9));
        }
    }

    private static void pass() {
        LineTalk x = new LineTalk();
        Probe.due("pass of an empty line", 0, x.pass(0, 300));
        List<Integer> frame = Probe.frame(Probe.list(2, 1, 2));
        for (int i = 0; i < 3; i++) {
            Probe.put(x, 0, frame);
        }
        Probe.put(x, 0, Probe.list(126, 9, 126));
        Probe.due("a byte short of two", 1, x.pass(0, 2 * frame.size() - 1));
        Probe.due("the rest of the line", frame.size() + 4, x.about(0, Probe.ON_LINE));
        Probe.due("one byte more", 1, x.pass(0, 1));
        Probe.due("more than there are", 1, x.pass(0, 300));
        Probe.due("the line is empty", 0, x.about(0, Probe.ON_LINE));
        Probe.due("good", 3, x.count(1, Probe.GOOD));
        Probe.due("bad", 1, x.count(1, Probe.BAD));
        Probe.put(x, 1, frame);
        Probe.due("by the other line", 1, x.pass(1, 300));
        Probe.due("to end 0", 1, x.count(0, Probe.GOOD));
        for (int n : new int[] {0, -1, 301, Integer.MAX_VALUE, Integer.MIN_VALUE}) {
            Probe.refused(x, "pass(0, " + n + ")", NO_ARGUMENT, () -> x.pass(0, n));
        }
        for (int line : NO_ENDS) {
            Probe.refused(x, "pass(" + line + ", 0)", NO_PLACE, () -> x.pass(line, 0));
        }
    }

    /** What an end sends by a packet comes out behind it in the same call, if its line leads back. */
    private static void passInALoop() {
        LineTalk x = new LineTalk();
        x.loop(0, true);
        x.event(0, Probe.UP);
        x.event(0, Probe.OPEN);
        // Request and its ACK, 7 bytes each: the state is 9 by the ACK.
        Probe.due("request and ACK", 2, x.pass(0, 14));
        Probe.due("state", 9, x.about(0, Probe.STATE));
        Probe.due("the line is empty", 0, x.about(0, Probe.ON_LINE));
        int length = Probe.frame(Probe.list(1, Probe.ECHO, 2, 0, 0, 0, 0)).size();
        x.echo(0);
        Probe.due("echo and its reply", 2, x.pass(0, 300));
        Probe.due("all came", 4, x.count(0, Probe.GOOD));
        x.echo(0);
        Probe.due("echo alone", 1, x.pass(0, length));
        Probe.due("the reply waits", length, x.about(0, Probe.ON_LINE));

        // A mark has left the line before its frame is answered, so that its place is free for the answer.
        LineTalk full = Probe.in(0, 9);
        full.loop(0, true);
        List<Integer> end = Probe.frame(Probe.list(1, Probe.END, 0));
        Probe.put(full, 0, Probe.row(300 - end.size(), 126));
        Probe.put(full, 0, end);
        full.pass(0, 299);
        Probe.put(full, 0, Probe.row(292, 126));
        Probe.due("seven places behind the mark", 1, full.pass(0, 1));
        Probe.due("lost", 0, full.count(0, Probe.LOST));
        Probe.due("the line", 299, full.about(0, Probe.ON_LINE));
    }

    private static void tick() {
        LineTalk x = new LineTalk();
        Probe.due("ticks in state 0", 0, x.tick(20));
        Probe.bring(x, 0, 6);
        Probe.due("two ticks", 0, x.tick(2));
        Probe.bring(x, 1, 6);
        Probe.due("timer 0", 1, x.about(0, Probe.TIMER));
        Probe.due("timer 1", 3, x.about(1, Probe.TIMER));
        Probe.due("a third", 1, x.tick(1));
        Probe.due("timer 0 starts anew", 3, x.about(0, Probe.TIMER));
        Probe.due("both over within three", 2, x.tick(3));
        Probe.due("count 0", 2, x.about(0, Probe.COUNT));
        Probe.due("count 1", 3, x.about(1, Probe.COUNT));
        // End 0 is over three times more, end 1 four times; then both are stopped.
        Probe.due("till both are stopped", 7, x.tick(20));
        Probe.due("state 0", 3, x.about(0, Probe.STATE));
        Probe.due("state 1", 3, x.about(1, Probe.STATE));
        Probe.due("no timer runs", 0, x.tick(20));
        Probe.due("five requests", 5, x.about(0, Probe.ID));

        // In state 9 a timer stands still.
        LineTalk y = Probe.in(0, 6);
        y.tick(1);
        Probe.tell(y, 1, 1, Probe.ACK, 1);
        Probe.tell(y, 1, 1, Probe.REQUEST, 1);
        Probe.due("open", 9, y.about(0, Probe.STATE));
        Probe.due("ticks in state 9", 0, y.tick(20));
        Probe.due("the timer stands", 2, y.about(0, Probe.TIMER));
        for (int n : new int[] {0, -1, 21, Integer.MAX_VALUE, Integer.MIN_VALUE}) {
            Probe.refused(y, "tick(" + n + ")", NO_ARGUMENT, () -> y.tick(n));
        }
    }

    private static void put() {
        LineTalk x = new LineTalk();
        for (int i = 0; i < 300; i++) {
            Probe.due("put " + i, i + 1, x.put(1, i % 256));
        }
        for (int i = 0; i < 300; i++) {
            Probe.due("put byte " + i, i % 256, x.look(1, i));
        }
        Probe.refused(x, "put on a full line", NO_STATE, () -> x.put(1, 5));
        Probe.refused(x, "put of no byte on a full line", NO_ARGUMENT, () -> x.put(1, 256));
        Probe.due("the other line has room", 1, x.put(0, 5));
        x.pass(1, 1);
        Probe.due("room behind a pass", 300, x.put(1, 77));
        Probe.due("it is the last", 77, x.look(1, 299));
        for (int b : new int[] {-1, 256, Integer.MAX_VALUE, Integer.MIN_VALUE}) {
            Probe.refused(x, "put(0, " + b + ")", NO_ARGUMENT, () -> x.put(0, b));
        }
        for (int line : NO_ENDS) {
            Probe.refused(x, "put(" + line + ", 256)", NO_PLACE, () -> x.put(line, 256));
        }
    }

    private static void damage() {
        LineTalk x = new LineTalk();
        Probe.put(x, 0, Probe.list(10, 20, 255));
        Probe.due("damage", 20, x.damage(0, 1, 255));
        Probe.due("damaged", Probe.list(10, 235, 255), Probe.line(x, 0));
        Probe.due("damage by 0", 255, x.damage(0, 2, 0));
        Probe.due("damage the first", 10, x.damage(0, 0, 1));
        Probe.due("damaged", Probe.list(11, 235, 255), Probe.line(x, 0));
        x.lose(0, 1);
        Probe.due("the next to come out is 0", 235, x.damage(0, 0, 235));
        Probe.due("damaged", Probe.list(0, 255), Probe.line(x, 0));
        for (int i : new int[] {-1, 2, 300, Integer.MAX_VALUE, Integer.MIN_VALUE}) {
            Probe.refused(x, "damage(0, " + i + ", -1)", NO_PLACE, () -> x.damage(0, i, -1));
        }
        for (int mask : new int[] {-1, 256, Integer.MAX_VALUE, Integer.MIN_VALUE}) {
            Probe.refused(x, "damage(0, 0, " + mask + ")", NO_ARGUMENT, () -> x.damage(0, 0, mask));
        }
        for (int line : NO_ENDS) {
            Probe.refused(x, "damage(" + line + ", 0, 1)", NO_PLACE, () -> x.damage(line, 0, 1));
        }
        Probe.refused(x, "damage of an empty line", NO_PLACE, () -> x.damage(1, 0, 1));
    }

    private static void lose() {
        LineTalk x = new LineTalk();
        Probe.put(x, 1, Probe.list(1, 2, 3, 4));
        Probe.due("lose none", 0, x.lose(1, 0));
        Probe.due("lose one", 1, x.lose(1, 1));
        Probe.due("left", Probe.list(2, 3, 4), Probe.line(x, 1));
        Probe.due("lose all but one", 2, x.lose(1, 2));
        Probe.due("lose more than there are", 1, x.lose(1, Integer.MAX_VALUE));
        Probe.due("lose of nothing", 0, x.lose(1, 5));
        Probe.due("nothing came", 0, x.about(0, Probe.GATHERED));
        for (int n : new int[] {-1, Integer.MIN_VALUE}) {
            Probe.refused(x, "lose(0, " + n + ")", NO_ARGUMENT, () -> x.lose(0, n));
        }
        for (int line : NO_ENDS) {
            Probe.refused(x, "lose(" + line + ", -1)", NO_PLACE, () -> x.lose(line, -1));
        }
    }

    private static void loop() {
        LineTalk x = new LineTalk();
        Probe.due("on", false, x.loop(0, true));
        Probe.due("on once more", true, x.loop(0, true));
        Probe.due("the other line's", false, x.loop(1, false));
        Probe.tell(x, 0, 2, 1, 2);
        Probe.due("back to end 0", 1, x.count(0, Probe.GOOD));
        Probe.tell(x, 1, 2, 1, 2);
        Probe.due("line 1 leads to end 0 too", 2, x.count(0, Probe.GOOD));
        Probe.due("off", true, x.loop(0, false));
        Probe.tell(x, 0, 2, 1, 2);
        Probe.due("to end 1", 1, x.count(1, Probe.GOOD));
        Probe.due("on", false, x.loop(1, true));
        Probe.tell(x, 1, 2, 1, 2);
        Probe.due("back to end 1", 2, x.count(1, Probe.GOOD));
        for (int line : NO_ENDS) {
            Probe.refused(x, "loop(" + line + ", true)", NO_PLACE, () -> x.loop(line, true));
        }
    }

    private static void send() {
        LineTalk x = Probe.open();
        Probe.due("two bytes", 7, x.send(1, 2, 255));
        Probe.due("the frame", Probe.frame(Probe.list(2, 255, 0)), Probe.line(x, 1));
        Probe.due("two more behind them", 14, x.send(1, 2, 0));
        Probe.due("pass", 2, x.pass(1, 300));
        Probe.due("kept", 2, x.count(0, Probe.KEPT));
        Probe.due("latest", 0, x.data(0, 0));
        Probe.due("no id is taken", 1, x.about(1, Probe.ID));
        Probe.due("twenty bytes", Probe.frame(Probe.join(Probe.list(2), upFrom(1, 20))).size(), x.send(1, 20, 1));
        for (int n : new int[] {1, 21, 0, -1, Integer.MAX_VALUE, Integer.MIN_VALUE}) {
            Probe.refused(x, "send(0, " + n + ", 0)", NO_ARGUMENT, () -> x.send(0, n, 0));
        }
        for (int v : new int[] {-1, 256, Integer.MAX_VALUE, Integer.MIN_VALUE}) {
            Probe.refused(x, "send(0, 2, " + v + ")", NO_ARGUMENT, () -> x.send(0, 2, v));
        }
        for (int end : NO_ENDS) {
            Probe.refused(x, "send(" + end + ", 1, 1)", NO_PLACE, () -> x.send(end, 1, 1));
        }
        for (int state = 0; state < 9; state++) {
            LineTalk y = Probe.in(0, state);
            Probe.refused(y, "send in state " + state, NO_STATE, () -> y.send(0, 2, 2));
            Probe.refused(y, "send of one byte in state " + state, NO_ARGUMENT, () -> y.send(0, 1, 2));
        }
    }

    private static int[] upFrom(int v, int n) {
        int[] bytes = new int[n];
        for (int i = 0; i < n; i++) {
            bytes[i] = v + i;
        }
        return bytes;
    }

    private static void room() {
        // Data of 125, 126 takes two places for each of them.
        int length = Probe.frame(Probe.list(2, 125, 126)).size();
        for (int free = 0; free <= length + 1; free++) {
            LineTalk x = Probe.open();
            Probe.put(x, 0, Probe.row(300 - free, 7));
            boolean fits = free >= length;
            Probe.due("send with " + free + " free", fits ? 300 - free + length : 300 - free, x.send(0, 2, 125));
            Probe.due("lost with " + free + " free", fits ? 0 : 1, x.count(0, Probe.LOST));
            Probe.due("lost by the other end", 0, x.count(1, Probe.LOST));
        }
        // A frame that is lost was sent all the same: id, count and timer go on.
        LineTalk x = new LineTalk();
        x.event(0, Probe.UP);
        Probe.put(x, 0, Probe.row(294, 126));
        Probe.due("open", 6, x.event(0, Probe.OPEN));
        Probe.due("line", 294, x.about(0, Probe.ON_LINE));
        Probe.due("lost", 1, x.count(0, Probe.LOST));
        Probe.due("id", 1, x.about(0, Probe.ID));
        Probe.due("count", 4, x.about(0, Probe.COUNT));
        Probe.due("timer", 3, x.about(0, Probe.TIMER));
        Probe.due("ACK to a lost request", 1, Probe.tell(x, 1, 1, Probe.ACK, 1));
        Probe.due("state", 7, x.about(0, Probe.STATE));
        Probe.tell(x, 1, 1, Probe.REQUEST, 1);
        Probe.due("lost answers count too", 2, x.count(0, Probe.LOST));
        Probe.due("echo that is lost", 2, x.echo(0));
        Probe.due("three are lost", 3, x.count(0, Probe.LOST));
    }

    private static void echo() {
        LineTalk x = new LineTalk();
        x.set(0, 1500, 64, 0x01020304);
        x.set(1, 1500, 64, 0xF1F2F3F4);
        Probe.bring(x, 0, 9);
        Probe.bring(x, 1, 9);
        int timer = x.about(0, Probe.TIMER);
        Probe.due("echo", 2, x.echo(0));
        Probe.due("the frame", Probe.frame(Probe.list(1, 9, 2, 1, 2, 3, 4)), Probe.line(x, 0));
        Probe.due("it comes", 1, x.pass(0, 300));
        Probe.due("the reply", List.of(Probe.list(1, 10, 2, 0xF1, 0xF2, 0xF3, 0xF4)), Probe.heard(x, 1));
        Probe.due("the next", 3, x.echo(0));
        Probe.due("the timer stays", timer, x.about(0, Probe.TIMER));
        Probe.due("the state stays", 9, x.about(0, Probe.STATE));
        for (int end : NO_ENDS) {
            Probe.refused(x, "echo(" + end + ")", NO_PLACE, () -> x.echo(end));
        }
        for (int state = 0; state < 9; state++) {
            LineTalk y = Probe.in(0, state);
            Probe.refused(y, "echo in state " + state, NO_STATE, () -> y.echo(0));
        }
    }

    private static void data() {
        for (int state = 0; state <= 9; state++) {
            LineTalk x = Probe.in(1, state);
            int good = x.count(1, Probe.GOOD);
            Probe.due("data in state " + state, 1, Probe.tell(x, 0, 2, 9, 8, 7));
            Probe.due("counted in state " + state, good + 1, x.count(1, Probe.GOOD));
            Probe.due("kept in state " + state, state == 9 ? 1 : 0, x.count(1, Probe.KEPT));
            Probe.due("data in state " + state, state == 9 ? 9 : LineTalk.NONE, x.data(1, 0));
        }
        LineTalk x = Probe.open();
        List<Integer> most = Probe.join(Probe.list(2), upFrom(100, 37));
        Probe.tell(x, 0, most);
        Probe.due("first of 37", 100, x.data(1, 0));
        Probe.due("last of 37", 136, x.data(1, 36));
        Probe.due("behind the last", LineTalk.NONE, x.data(1, 37));
        Probe.tell(x, 0, 2, 5, 6);
        Probe.due("the latest", 5, x.data(1, 0));
        Probe.due("the latest", 6, x.data(1, 1));
        Probe.due("nothing is left of the one ahead", LineTalk.NONE, x.data(1, 2));
        Probe.tell(x, 0, 1, Probe.END, 1);
        Probe.due("it stays when it is no more open", 5, x.data(1, 0));
        Probe.tell(x, 0, 2, 55, 66);
        Probe.due("it stays when more comes then", 5, x.data(1, 0));
        Probe.due("end 0 has none", LineTalk.NONE, x.data(0, 0));
        for (int i : new int[] {-1, -2, Integer.MAX_VALUE, Integer.MIN_VALUE}) {
            Probe.due("data(1, " + i + ")", LineTalk.NONE, x.data(1, i));
        }
        for (int end : NO_ENDS) {
            Probe.refused(x, "data(" + end + ", 0)", NO_PLACE, () -> x.data(end, 0));
        }
    }

    private static void look() {
        LineTalk x = new LineTalk();
        // The bytes' places go round in the object, but not for who looks.
        for (int i = 0; i < 250; i++) {
            x.put(0, 1);
        }
        x.lose(0, 250);
        for (int i = 0; i < 100; i++) {
            x.put(0, 100 + i);
        }
        for (int i = 0; i < 100; i++) {
            Probe.due("look(0, " + i + ")", 100 + i, x.look(0, i));
        }
        Probe.due("look changes nothing", 100, x.look(0, 0));
        for (int i : new int[] {-1, 100, 300, Integer.MAX_VALUE, Integer.MIN_VALUE}) {
            Probe.refused(x, "look(0, " + i + ")", NO_PLACE, () -> x.look(0, i));
        }
        Probe.refused(x, "look at an empty line", NO_PLACE, () -> x.look(1, 0));
        for (int line : NO_ENDS) {
            Probe.refused(x, "look(" + line + ", 0)", NO_PLACE, () -> x.look(line, 0));
        }
    }

    private static void about() {
        LineTalk x = new LineTalk();
        x.set(1, 700, 64, -9);
        Probe.bring(x, 1, 6);
        x.put(1, 5);
        x.put(1, 6);
        Probe.feed(x, 0, Probe.list(1, 2, 3));
        x.tick(1);
        int[] due = {6, 700, -9, 1, 4, 2, 3, 2, 3};
        for (int what = 0; what < due.length; what++) {
            Probe.due("about(1, " + what + ")", due[what], x.about(1, what));
        }
        for (int what : new int[] {-1, 9, Integer.MAX_VALUE, Integer.MIN_VALUE}) {
            Probe.refused(x, "about(0, " + what + ")", NO_ARGUMENT, () -> x.about(0, what));
        }
        for (int end : NO_ENDS) {
            Probe.refused(x, "about(" + end + ", 9)", NO_PLACE, () -> x.about(end, 9));
        }
    }

    private static void count() {
        LineTalk x = new LineTalk();
        x.set(0, 1500, 64, 5);
        Probe.bring(x, 0, 9);
        Probe.tell(x, 1, 1, Probe.ECHO, 1, 0, 0, 0, 5);
        Probe.tell(x, 1, 2, 1, 1);
        Probe.tell(x, 1, 3, 1, 1);
        Probe.feed(x, 1, Probe.list(1, 126));
        x.lose(0, 300);
        Probe.put(x, 0, Probe.row(300, 1));
        x.send(0, 2, 2);
        // Good: ACK and request on the way to state 9, ECHO, data.
        int[] due = {4, 2, 1, 1, 1, 1};
        for (int what = 0; what < due.length; what++) {
            Probe.due("count(0, " + what + ")", due[what], x.count(0, what));
            Probe.due("count(1, " + what + ")", 0, x.count(1, what));
        }
        x.event(0, Probe.DOWN);
        x.lose(0, 300);
        x.event(0, Probe.UP);
        Probe.tell(x, 1, 1, Probe.REQUEST, 9);
        Probe.tell(x, 1, Probe.join(Probe.list(1, Probe.ACK, 2, 5), Probe.four(5)));
        Probe.due("up a second time", 2, x.count(0, Probe.UPS));
        for (int what : new int[] {-1, 6, Integer.MAX_VALUE, Integer.MIN_VALUE}) {
            Probe.refused(x, "count(0, " + what + ")", NO_ARGUMENT, () -> x.count(0, what));
        }
        for (int end : NO_ENDS) {
            Probe.refused(x, "count(" + end + ", 6)", NO_PLACE, () -> x.count(end, 6));
        }
    }

    private static void noise() {
        LineTalk x = new LineTalk();
        Probe.due("before the first", 0f, x.noise());
        Probe.tell(x, 0, 2, 1, 2);
        Probe.due("none bad", 0f, x.noise());
        Probe.feed(x, 1, Probe.list(1, 126));
        Probe.due("one of two, at different ends", 0.5f, x.noise());
        Probe.feed(x, 0, Probe.list(1, 126));
        Probe.due("two of three", 2f / 3f, x.noise());
        Probe.feed(x, 0, Probe.list(126, 126));
        Probe.due("marks count for nothing", 2f / 3f, x.noise());
        for (int i = 0; i < 4; i++) {
            Probe.tell(x, 1, 2, 1, 2);
        }
        Probe.due("two of seven", 2f / 7f, x.noise());
        LineTalk y = new LineTalk();
        Probe.feed(y, 0, Probe.list(1, 126));
        Probe.due("all bad", 1f, y.noise());
    }

    /** Both ends by their own packets alone: agreeing, data both ways, and the end of it. */
    private static void twoEnds() {
        LineTalk x = new LineTalk();
        x.set(0, 100, 64, 42);
        x.set(1, 1500, 128, 43);
        for (int end = 0; end < 2; end++) {
            x.event(end, Probe.UP);
            x.event(end, Probe.OPEN);
        }
        for (int i = 0; i < 10; i++) {
            x.pass(0, 300);
            x.pass(1, 300);
        }
        Probe.due("open at 0", 9, x.about(0, Probe.STATE));
        Probe.due("open at 1", 9, x.about(1, Probe.STATE));
        Probe.due("the size that end 1 asked for", 128, x.about(0, Probe.SIZE));
        Probe.due("no suspicion", 0, x.count(0, Probe.SUSPICIONS) + x.count(1, Probe.SUSPICIONS));
        x.send(0, 3, 3);
        x.send(1, 4, 4);
        x.pass(0, 300);
        x.pass(1, 300);
        Probe.due("data at 1", 5, x.data(1, 2));
        Probe.due("data at 0", 7, x.data(0, 3));
        Probe.due("close", 4, x.event(0, Probe.CLOSE));
        x.pass(0, 300);
        x.pass(1, 300);
        Probe.due("closed", 2, x.about(0, Probe.STATE));
        Probe.due("the other one's timer", 1, x.tick(3));
        Probe.due("stopped", 3, x.about(1, Probe.STATE));
        Probe.due("nothing was bad", 0f, x.noise());
    }

    private static void objectsAreApart() {
        LineTalk x = new LineTalk();
        String fresh = Probe.sight(x);
        LineTalk y = Probe.open();
        y.loop(0, true);
        y.send(0, 20, 20);
        y.pass(0, 10);
        y.event(1, Probe.CLOSE);
        Probe.due("another object", fresh, Probe.sight(x));
    }
}
