import java.util.List;

/**
 * Promise by promise: what each call answers and does, up to the last values that it takes. What it does not take
 * any more stands in RefusedTest, beside the same edges.
 */
public final class CallsTest {
    public static void main(String[] args) {
        newObject();
        setTakesSizes();
        setTakesAnyNumber();
        setInBothStates();
        event();
        passOneToThreeHundred();
        passTillItGetsEmpty();
        passCountsWhatIsNotBad();
        passInALoop();
        markLeavesAheadOfItsAnswer();
        answersBytesCountInTheSamePass();
        answerComesBehindWhatWasThere();
        tickOneToTwenty();
        tickCountsEachTimerThatWasOver();
        timersThatStandStill();
        putBytes();
        putUpToThreeHundred();
        damage();
        loseSome();
        loseMoreThanThereAre();
        loop();
        sendTwoToTwenty();
        sendWrapsAround();
        echo();
        data();
        dataThatIsNotThere();
        dataStays();
        look();
        lookGoesRound();
        about();
        count();
        noiseBeforeTheFirst();
        noise();
        twoEnds();
        objectsAreApart();
        Probe.end();
    }

    /** Promise 1: "As said above; lines empty, loops off, counts and timers 0." */
    private static void newObject() {
        LineTalk x = new LineTalk();
        int[] due = {0, 1500, 0, 0, 0, 0, 3, 0, 0};
        for (int end = 0; end < 2; end++) {
            for (int what = 0; what < due.length; what++) {
                Probe.due("new: about(" + end + ", " + what + ")", due[what], x.about(end, what));
            }
            for (int what = 0; what < 6; what++) {
                Probe.due("new: count(" + end + ", " + what + ")", 0, x.count(end, what));
            }
            Probe.due("new: data", LineTalk.NONE, x.data(end, 0));
            Probe.due("new: loop", false, x.loop(end, false));
        }
        Probe.due("new: noise", 0f, x.noise());
        // "a LEAST size (64)" shows by what is answered to a request alone.
        for (int end = 0; end < 2; end++) {
            leastIs(new LineTalk(), end, 64);
        }
    }

    /** The least is taken, the size below it is not; the end is in state 0 or 2 ahead of it. */
    private static void leastIs(LineTalk x, int end, int least) {
        Probe.bring(x, end, 6);
        Probe.tell(x, 1 - end, 1, Probe.REQUEST, 1, 1, least >> 8, least & 255);
        Probe.due(least + " is the least", List.of(Probe.list(1, Probe.ACK, 1, 1, least >> 8, least & 255)), Probe.heard(x, end));
        int below = least - 1;
        Probe.tell(x, 1 - end, 1, Probe.REQUEST, 2, 1, below >> 8, below & 255);
        Probe.due(below + " is below it", List.of(Probe.list(1, Probe.NAK, 2, 1, least >> 8, least & 255)), Probe.heard(x, end));
    }

    /** Promise 2: "IllegalArgumentException: size is not 64 .. 1500, or least not." */
    private static void setTakesSizes() {
        int[] sizes = {64, 65, 1499, 1500};
        for (int end = 0; end < 2; end++) {
            for (int size : sizes) {
                for (int least : sizes) {
                    LineTalk x = new LineTalk();
                    x.set(end, size, least, 0);
                    Probe.due("size", size, x.about(end, Probe.SIZE));
                    Probe.due("the other end's size", 1500, x.about(1 - end, Probe.SIZE));
                    leastIs(x, end, least);
                    leastIs(x, 1 - end, 64);
                }
            }
        }
    }

    /** Promise 2, of an end's number: "an int, 0: none". */
    private static void setTakesAnyNumber() {
        LineTalk x = new LineTalk();
        for (int number : new int[] {1, -1, 0, Integer.MAX_VALUE, Integer.MIN_VALUE, 0x7D7E7D7E}) {
            x.set(1, 1500, 64, number);
            Probe.due("number", number, x.about(1, Probe.NUMBER));
            Probe.due("the other end's number", 0, x.about(0, Probe.NUMBER));
        }
    }

    /** Promise 2: "its state is not 0 or 2": in both of them the next request is one by what was set. */
    private static void setInBothStates() {
        for (int state = 0; state <= 2; state += 2) {
            LineTalk x = Probe.in(0, state);
            int id = x.about(0, Probe.ID) + 1;
            x.set(0, 700, 64, 9);
            Probe.due("the state stays", state, x.about(0, Probe.STATE));
            x.event(0, Probe.UP);
            x.event(0, Probe.OPEN);
            Probe.due("request", List.of(Probe.list(1, Probe.REQUEST, id, 1, 2, 188, 5, 0, 0, 0, 9)), Probe.heard(x, 0));
        }
    }

    /** Promise 3: "up (0), down (1), open (2) or close (3)". */
    private static void event() {
        for (int end = 0; end < 2; end++) {
            LineTalk x = new LineTalk();
            Probe.due("close in 0", 0, x.event(end, 3));
            Probe.due("down in 0", 0, x.event(end, 1));
            Probe.due("up in 0", 2, x.event(end, 0));
            Probe.due("down in 2", 0, x.event(end, 1));
            Probe.due("open in 0", 1, x.event(end, 2));
            Probe.due("up in 1", 6, x.event(end, 0));
            Probe.due("up once more is nothing", 6, x.event(end, 0));
            Probe.due("one request", List.of(Probe.list(1, 1, 1)), Probe.heard(x, end));
            Probe.due("close in 6", 4, x.event(end, 3));
            Probe.due("open in 4", 5, x.event(end, 2));
            Probe.due("down in 5", 1, x.event(end, 1));
            Probe.due("close in 1", 0, x.event(end, 3));
            Probe.due("the other end is as it was", 0, x.about(1 - end, Probe.STATE));
        }
    }

    /** Promise 4: "IllegalArgumentException: n is not 1 .. 300." */
    private static void passOneToThreeHundred() {
        for (int line = 0; line < 2; line++) {
            LineTalk x = new LineTalk();
            Probe.put(x, line, Probe.row(300, 126));
            Probe.due("pass of one", 0, x.pass(line, 1));
            Probe.due("one came out", 299, x.about(line, Probe.ON_LINE));
            x.put(line, 9);
            Probe.due("pass of 299", 0, x.pass(line, 299));
            Probe.due("one is left", List.of(9), Probe.line(x, line));
            Probe.due("none of the marks was bad", 0, x.count(1 - line, Probe.BAD));
            LineTalk y = new LineTalk();
            Probe.put(y, line, Probe.row(300, 126));
            Probe.due("pass of 300", 0, y.pass(line, 300));
            Probe.due("all came out", 0, y.about(line, Probe.ON_LINE));
        }
    }

    /** Promise 4: "So many bytes of a line come out at its end, one by one, or fewer, if it gets empty". */
    private static void passTillItGetsEmpty() {
        LineTalk x = new LineTalk();
        Probe.due("pass of an empty line", 0, x.pass(0, 300));
        Probe.due("pass of one from an empty line", 0, x.pass(1, 1));
        Probe.put(x, 0, Probe.list(1, 2, 3));
        Probe.due("pass of four where there are three", 0, x.pass(0, 4));
        Probe.due("three came", 3, x.about(1, Probe.GATHERED));
        Probe.due("the line is empty", 0, x.about(0, Probe.ON_LINE));
        x.put(0, 4);
        Probe.due("the fourth did not come before it was put", 1, x.about(0, Probe.ON_LINE));
        Probe.due("pass of just what there is", 0, x.pass(0, 1));
        Probe.due("four came", 4, x.about(1, Probe.GATHERED));
        Probe.due("nothing came to the other end", 0, x.about(0, Probe.GATHERED));
    }

    /** Promise 4: "how many packets that are not bad came by that". */
    private static void passCountsWhatIsNotBad() {
        LineTalk x = new LineTalk();
        List<Integer> frame = Probe.frame(Probe.list(2, 1, 2));
        for (int i = 0; i < 3; i++) {
            Probe.put(x, 0, frame);
        }
        Probe.put(x, 0, Probe.list(126, 9, 126));
        Probe.due("a byte short of two", 1, x.pass(0, 2 * frame.size() - 1));
        Probe.due("the rest of the line", frame.size() + 4, x.about(0, Probe.ON_LINE));
        Probe.due("one byte more", 1, x.pass(0, 1));
        Probe.due("a good one and a bad one", 1, x.pass(0, 300));
        Probe.due("good", 3, x.count(1, Probe.GOOD));
        Probe.due("bad", 1, x.count(1, Probe.BAD));
        Probe.put(x, 1, frame);
        Probe.due("by the other line", 1, x.pass(1, 300));
        Probe.due("to end 0", 1, x.count(0, Probe.GOOD));

        // As many packets as a line can hold: five bytes each, and one mark between two of them.
        LineTalk y = new LineTalk();
        for (int i = 0; i < 50; i++) {
            Probe.put(y, 0, frame.subList(1, 7));
        }
        Probe.due("fifty packets", 50, y.pass(0, 300));
        Probe.due("fifty are counted", 50, y.count(1, Probe.GOOD));
    }

    /** What an end sends by a packet comes out behind it in the same call, if its line leads back. */
    private static void passInALoop() {
        LineTalk x = new LineTalk();
        x.loop(0, true);
        x.event(0, Probe.UP);
        x.event(0, Probe.OPEN);
        // Request and its ACK, 7 bytes each: the state is 9 by the ACK.
        Probe.due("request and ACK", 2, x.pass(0, 14));
        Probe.due("state", 9, x.about(0, Probe.STATE));
        Probe.due("the line is empty", 0, x.about(0, Probe.ON_LINE));
        int length = Probe.frame(Probe.list(1, Probe.ECHO, 2, 0, 0, 0, 0)).size();
        x.echo(0);
        Probe.due("echo and its reply", 2, x.pass(0, 300));
        Probe.due("all came", 4, x.count(0, Probe.GOOD));
        x.echo(0);
        Probe.due("echo alone", 1, x.pass(0, length));
        Probe.due("the reply waits", length, x.about(0, Probe.ON_LINE));
    }

    /**
     * A line holds the bytes "that are on their way", and they "come out at its end, one by one": the mark that
     * brings a frame about is no more on its way, so its place is free for the answer (ENDED, seven bytes).
     */
    private static void markLeavesAheadOfItsAnswer() {
        for (int line = 0; line < 2; line++) {
            LineTalk x = lineWithAnEndAhead(line, 293);
            Probe.due("the mark, with seven places free behind it", 1, x.pass(line, 1));
            Probe.due("lost", 0, x.count(line, Probe.LOST));
            Probe.due("the line", 300, x.about(line, Probe.ON_LINE));
            Probe.due("ahead of the answer", 7, x.look(line, 292));
            Probe.due("the answer's code", Probe.ENDED, x.look(line, 295));
            Probe.due("the answer's mark", 126, x.look(line, 299));
            LineTalk y = lineWithAnEndAhead(line, 294);
            Probe.due("the mark, with six places free behind it", 1, y.pass(line, 1));
            Probe.due("lost", 1, y.count(line, Probe.LOST));
            Probe.due("the line", 294, y.about(line, Probe.ON_LINE));
            Probe.due("nothing of the answer is there", 7, y.look(line, 293));
        }
    }

    /** A looped line whose next byte is the last mark of an END, with so many bytes behind it. */
    private static LineTalk lineWithAnEndAhead(int line, int behind) {
        LineTalk x = new LineTalk();
        x.event(line, Probe.UP);
        x.loop(line, true);
        Probe.put(x, line, Probe.frame(Probe.list(1, Probe.END, 0)));
        x.pass(line, 6);
        Probe.put(x, line, Probe.row(behind, 7));
        return x;
    }

    /** "So many bytes": those of an answer that the same call has brought about count like any others. */
    private static void answersBytesCountInTheSamePass() {
        for (int n = 7; n <= 15; n++) {
            LineTalk x = new LineTalk();
            x.event(0, Probe.UP);
            x.loop(0, true);
            Probe.put(x, 0, Probe.frame(Probe.list(1, Probe.END, 0)));
            Probe.due("END and ENDED by a pass of " + n, n < 14 ? 1 : 2, x.pass(0, n));
            Probe.due("left behind a pass of " + n, Math.max(14 - n, 0), x.about(0, Probe.ON_LINE));
        }
    }

    /** "first come first out": an answer comes out behind what was on the line ahead of it. */
    private static void answerComesBehindWhatWasThere() {
        LineTalk x = Probe.in(0, 9);
        x.loop(0, true);
        Probe.put(x, 0, Probe.frame(Probe.list(1, Probe.ECHO, 9, 0, 0, 0, 0)));
        x.send(0, 2, 50);
        Probe.due("ECHO alone", 1, x.pass(0, Probe.frame(Probe.list(1, Probe.ECHO, 9, 0, 0, 0, 0)).size()));
        Probe.due("data, REPLY", List.of(Probe.list(2, 50, 51), Probe.list(1, Probe.REPLY, 9, 0, 0, 0, 0)), Probe.heard(x, 0));
    }

    /** Promise 5: "IllegalArgumentException: n is not 1 .. 20." */
    private static void tickOneToTwenty() {
        LineTalk x = Probe.in(0, 6);
        Probe.due("one tick", 0, x.tick(1));
        Probe.due("timer", 2, x.about(0, Probe.TIMER));
        Probe.due("one tick more", 0, x.tick(1));
        Probe.due("timer", 1, x.about(0, Probe.TIMER));
        Probe.due("the third", 1, x.tick(1));
        Probe.due("timer", 3, x.about(0, Probe.TIMER));
        // In state 7 the count is 5: no timer is over more often, and none later than at the eighteenth tick.
        LineTalk y = Probe.in(0, 7);
        Probe.due("seventeen ticks", 5, y.tick(17));
        Probe.due("the eighteenth", 1, y.tick(1));
        for (int n = 18; n <= 20; n++) {
            LineTalk z = Probe.in(0, 7);
            Probe.due(n + " ticks", 6, z.tick(n));
            Probe.due("state behind " + n, 3, z.about(0, Probe.STATE));
        }
    }

    /** Promise 5: "Ticks of both timers, end 0 first, so many times: how often a timer was over." */
    private static void tickCountsEachTimerThatWasOver() {
        LineTalk x = Probe.in(0, 6);
        Probe.due("two ticks", 0, x.tick(2));
        Probe.bring(x, 1, 6);
        Probe.due("timer 0", 1, x.about(0, Probe.TIMER));
        Probe.due("timer 1", 3, x.about(1, Probe.TIMER));
        Probe.due("a third", 1, x.tick(1));
        Probe.due("timer 0 starts anew", 3, x.about(0, Probe.TIMER));
        Probe.due("both over within three", 2, x.tick(3));
        Probe.due("count 0", 2, x.about(0, Probe.COUNT));
        Probe.due("count 1", 3, x.about(1, Probe.COUNT));
        // End 0 is over three times more, end 1 four times; then both are stopped.
        Probe.due("till both are stopped", 7, x.tick(20));
        Probe.due("state 0", 3, x.about(0, Probe.STATE));
        Probe.due("state 1", 3, x.about(1, Probe.STATE));
        Probe.due("no timer runs", 0, x.tick(20));
        Probe.due("five requests", 5, x.about(0, Probe.ID));
        LineTalk y = Probe.in(0, 6);
        Probe.bring(y, 1, 6);
        Probe.due("both at one tick", 2, y.tick(2) + y.tick(1));
    }

    /** "THE TIMER runs in the states 4 to 8": what it is at stays in the others. */
    private static void timersThatStandStill() {
        LineTalk x = new LineTalk();
        Probe.due("ticks in state 0", 0, x.tick(20));
        Probe.due("timer in state 0", 0, x.about(0, Probe.TIMER));
        for (int state = 0; state <= 9; state++) {
            LineTalk y = Probe.in(0, state);
            int timer = y.about(0, Probe.TIMER);
            Probe.due("one tick in state " + state, 0, y.tick(1));
            Probe.due("timer in state " + state, state >= 4 && state <= 8 ? timer - 1 : timer, y.about(0, Probe.TIMER));
        }
        LineTalk z = Probe.in(0, 6);
        z.tick(1);
        Probe.tell(z, 1, 1, Probe.ACK, 1);
        Probe.tell(z, 1, 1, Probe.REQUEST, 1);
        Probe.due("open", 9, z.about(0, Probe.STATE));
        Probe.due("ticks in state 9", 0, z.tick(20));
        Probe.due("the timer stands", 2, z.about(0, Probe.TIMER));
    }

    /** Promise 6 and "BYTES are 0 .. 255". */
    private static void putBytes() {
        for (int line = 0; line < 2; line++) {
            LineTalk x = new LineTalk();
            for (int b = 0; b < 256; b++) {
                Probe.due("put " + b, b + 1, x.put(line, b));
            }
            for (int b = 0; b < 256; b += 5) {
                Probe.due("put byte " + b, b, x.look(line, b));
            }
            Probe.due("the last", 255, x.look(line, 255));
            Probe.due("the other line", 0, x.about(1 - line, Probe.ON_LINE));
        }
    }

    /** Promise 6: "IllegalStateException: it has 300." RefusedTest has the next one. */
    private static void putUpToThreeHundred() {
        for (int line = 0; line < 2; line++) {
            LineTalk x = new LineTalk();
            Probe.put(x, line, Probe.row(299, 7));
            Probe.due("the 300th", 300, x.put(line, 8));
            Probe.due("it is the last", 8, x.look(line, 299));
            Probe.due("the other line has room", 1, x.put(1 - line, 5));
            x.pass(line, 1);
            Probe.due("room behind a pass", 300, x.put(line, 77));
            Probe.due("it is the last", 77, x.look(line, 299));
            x.lose(line, 1);
            Probe.due("room behind a loss", 300, x.put(line, 78));
            Probe.due("those ahead have moved up", 8, x.look(line, 297));
        }
        LineTalk y = Probe.in(0, 9);
        y.send(0, 2, 1);
        Probe.due("behind what an end sent", 8, y.put(0, 5));
        y.send(0, 2, 1);
        Probe.due("a frame behind what was put", 15, y.about(0, Probe.ON_LINE));
        Probe.due("the byte between them", 5, y.look(0, 7));
    }

    /** Promise 7: "Byte i (0 the next to come out) of a line becomes that xor mask: what it was." */
    private static void damage() {
        LineTalk x = new LineTalk();
        Probe.put(x, 0, Probe.list(10, 20, 255));
        Probe.put(x, 1, Probe.list(3));
        Probe.due("by the greatest mask", 20, x.damage(0, 1, 255));
        Probe.due("damaged", Probe.list(10, 235, 255), Probe.line(x, 0));
        Probe.due("the last, by the least mask", 255, x.damage(0, 2, 0));
        Probe.due("as it was", Probe.list(10, 235, 255), Probe.line(x, 0));
        Probe.due("the last", 255, x.damage(0, 2, 255));
        Probe.due("the first", 10, x.damage(0, 0, 1));
        Probe.due("damaged", Probe.list(11, 235, 0), Probe.line(x, 0));
        x.lose(0, 1);
        Probe.due("the next to come out is 0", 235, x.damage(0, 0, 235));
        Probe.due("damaged", Probe.list(0, 0), Probe.line(x, 0));
        Probe.due("line 1 is as it was", Probe.list(3), Probe.line(x, 1));
        Probe.due("line 1", 3, x.damage(1, 0, 1));
        Probe.due("damaged", Probe.list(2), Probe.line(x, 1));
        LineTalk y = new LineTalk();
        Probe.put(y, 1, Probe.row(300, 1));
        Probe.due("the last of 300", 1, y.damage(1, 299, 3));
        Probe.due("damaged", 2, y.look(1, 299));
        y.damage(1, 0, 127);
        y.pass(1, 1);
        Probe.due("what was made a mark is one", 0, y.about(0, Probe.GATHERED));
    }

    /** Promise 8: "The first n bytes of a line are lost", from none on. */
    private static void loseSome() {
        for (int line = 0; line < 2; line++) {
            LineTalk x = new LineTalk();
            Probe.put(x, line, Probe.list(1, 2, 3, 4));
            x.put(1 - line, 9);
            Probe.due("lose none", 0, x.lose(line, 0));
            Probe.due("all are there", Probe.list(1, 2, 3, 4), Probe.line(x, line));
            Probe.due("lose one", 1, x.lose(line, 1));
            Probe.due("left", Probe.list(2, 3, 4), Probe.line(x, line));
            Probe.due("lose all but one", 2, x.lose(line, 2));
            Probe.due("left", Probe.list(4), Probe.line(x, line));
            Probe.due("nothing came", 0, x.about(1 - line, Probe.GATHERED));
            Probe.due("the other line", Probe.list(9), Probe.line(x, 1 - line));
        }
    }

    /** Promise 8: "or all, if it has fewer: how many". */
    private static void loseMoreThanThereAre() {
        for (int n : new int[] {3, 4, 300, 301, Integer.MAX_VALUE}) {
            LineTalk x = new LineTalk();
            Probe.put(x, 1, Probe.list(1, 2, 3));
            Probe.due("lose(1, " + n + ")", 3, x.lose(1, n));
            Probe.due("none is left", 0, x.about(1, Probe.ON_LINE));
            Probe.due("lose of nothing", 0, x.lose(1, n));
            Probe.due("the next", 1, x.put(1, 5));
            Probe.due("it is the first", 5, x.look(1, 0));
        }
        LineTalk y = new LineTalk();
        Probe.put(y, 0, Probe.row(300, 1));
        Probe.due("lose a full line", 300, y.lose(0, 300));
        Probe.due("it is empty", 0, y.about(0, Probe.ON_LINE));
    }

    /** Promise 9: "A line's loop is on or off: whether it was on." */
    private static void loop() {
        LineTalk x = new LineTalk();
        Probe.due("on", false, x.loop(0, true));
        Probe.due("on once more", true, x.loop(0, true));
        Probe.due("the other line's", false, x.loop(1, false));
        Probe.tell(x, 0, 2, 1, 2);
        Probe.due("back to end 0", 1, x.count(0, Probe.GOOD));
        Probe.tell(x, 1, 2, 1, 2);
        Probe.due("line 1 leads to end 0 too", 2, x.count(0, Probe.GOOD));
        Probe.due("off", true, x.loop(0, false));
        Probe.due("off once more", false, x.loop(0, false));
        Probe.tell(x, 0, 2, 1, 2);
        Probe.due("to end 1", 1, x.count(1, Probe.GOOD));
        Probe.due("on", false, x.loop(1, true));
        Probe.tell(x, 1, 2, 1, 2);
        Probe.due("back to end 1", 2, x.count(1, Probe.GOOD));
        Probe.due("line 0's is off still", false, x.loop(0, true));
    }

    /** Promise 10: "IllegalArgumentException: n is not 2 .. 20, or v no byte." */
    private static void sendTwoToTwenty() {
        for (int end = 0; end < 2; end++) {
            for (int n : new int[] {2, 3, 19, 20}) {
                LineTalk x = Probe.open();
                List<Integer> frame = Probe.frame(Probe.join(Probe.list(2), upFrom(1, n)));
                Probe.due(n + " bytes", frame.size(), x.send(end, n, 1));
                Probe.due("the frame", frame, Probe.line(x, end));
                Probe.due("behind them", 2 * frame.size(), x.send(end, n, 1));
                Probe.due("they come", 2, x.pass(end, 300));
                Probe.due("the first", 1, x.data(1 - end, 0));
                Probe.due("the last", n, x.data(1 - end, n - 1));
                Probe.due("behind it", LineTalk.NONE, x.data(1 - end, n));
                Probe.due("no id is taken", 1, x.about(end, Probe.ID));
            }
        }
    }

    /** Promise 10: "n bytes v, v + 1, .. (modulo 256)". */
    private static void sendWrapsAround() {
        int[][] all = {{2, 0, 1}, {2, 254, 255}, {2, 255, 0}, {20, 236, 255}, {20, 237, 0}, {20, 255, 18}};
        for (int[] one : all) {
            LineTalk x = Probe.open();
            int n = one[0], v = one[1];
            x.send(0, n, v);
            Probe.due("send(0, " + n + ", " + v + ")", Probe.frame(Probe.join(Probe.list(2), upFrom(v, n))), Probe.line(x, 0));
            x.pass(0, 300);
            Probe.due("the first of " + n + " from " + v, v, x.data(1, 0));
            Probe.due("the last of " + n + " from " + v, one[2], x.data(1, n - 1));
        }
    }

    private static int[] upFrom(int v, int n) {
        int[] bytes = new int[n];
        for (int i = 0; i < n; i++) {
            bytes[i] = (v + i) % 256;
        }
        return bytes;
    }

    /** Promise 11: "An end in the state 9 sends ECHO with the next id and its number: that id." */
    private static void echo() {
        LineTalk x = new LineTalk();
        x.set(0, 1500, 64, 0x01020304);
        x.set(1, 1500, 64, 0xF1F2F3F4);
        Probe.bring(x, 0, 9);
        Probe.bring(x, 1, 9);
        int timer = x.about(0, Probe.TIMER);
        Probe.due("echo", 2, x.echo(0));
        Probe.due("the frame", Probe.frame(Probe.list(1, 9, 2, 1, 2, 3, 4)), Probe.line(x, 0));
        Probe.due("it comes", 1, x.pass(0, 300));
        Probe.due("the reply", List.of(Probe.list(1, 10, 2, 0xF1, 0xF2, 0xF3, 0xF4)), Probe.heard(x, 1));
        Probe.due("the next", 3, x.echo(0));
        Probe.due("the latest id", 3, x.about(0, Probe.ID));
        Probe.due("end 1's own first", 2, x.echo(1));
        Probe.due("the timer stays", timer, x.about(0, Probe.TIMER));
        Probe.due("the count stays", 5, x.about(0, Probe.COUNT));
        Probe.due("the state stays", 9, x.about(0, Probe.STATE));
        LineTalk y = Probe.in(0, 9);
        y.echo(0);
        Probe.due("a number of 0 is told all the same", List.of(Probe.list(1, 9, 2, 0, 0, 0, 0)), Probe.heard(y, 0));
    }

    /** "data is kept in the state 9 alone, and else nothing". */
    private static void data() {
        for (int state = 0; state <= 9; state++) {
            LineTalk x = Probe.in(1, state);
            int good = x.count(1, Probe.GOOD);
            Probe.due("data in state " + state, 1, Probe.tell(x, 0, 2, 9, 8, 7));
            Probe.due("counted in state " + state, good + 1, x.count(1, Probe.GOOD));
            Probe.due("kept in state " + state, state == 9 ? 1 : 0, x.count(1, Probe.KEPT));
            Probe.due("data in state " + state, state == 9 ? 9 : LineTalk.NONE, x.data(1, 0));
            Probe.due("the state stays", state, x.about(1, Probe.STATE));
            Probe.due("nothing is sent", 0, x.about(1, Probe.ON_LINE));
        }
    }

    /** Promise 12: "Byte i of the data that came to an end latest; NONE if there is none." */
    private static void dataThatIsNotThere() {
        LineTalk x = Probe.open();
        for (int i : new int[] {0, 1, -1, Integer.MAX_VALUE, Integer.MIN_VALUE}) {
            Probe.due("data(0, " + i + ") ahead of any", LineTalk.NONE, x.data(0, i));
        }
        Probe.tell(x, 0, Probe.join(Probe.list(2), upFrom(100, 37)));
        Probe.due("first of 37", 100, x.data(1, 0));
        Probe.due("last of 37", 136, x.data(1, 36));
        Probe.due("behind the last", LineTalk.NONE, x.data(1, 37));
        Probe.tell(x, 0, 2, 5, 6);
        Probe.due("first of 2", 5, x.data(1, 0));
        Probe.due("last of 2", 6, x.data(1, 1));
        Probe.due("nothing is left of the one ahead", LineTalk.NONE, x.data(1, 2));
        for (int i : new int[] {-1, -2, 38, 40, Integer.MAX_VALUE, Integer.MAX_VALUE - 1, Integer.MIN_VALUE}) {
            Probe.due("data(1, " + i + ")", LineTalk.NONE, x.data(1, i));
        }
        Probe.due("end 0 has none", LineTalk.NONE, x.data(0, 0));
    }

    private static void dataStays() {
        LineTalk x = Probe.open();
        Probe.tell(x, 0, 2, 5, 6);
        Probe.tell(x, 0, 1, Probe.REPLY, 1, 9, 9, 9, 9);
        Probe.feed(x, 0, Probe.list(2, 8, 8, 8, 8, 126));
        Probe.due("it stays when no data or bad data comes", 5, x.data(1, 0));
        Probe.tell(x, 0, 1, Probe.END, 1);
        Probe.due("it stays when it is no more open", 5, x.data(1, 0));
        Probe.tell(x, 0, 2, 55, 66);
        Probe.due("it stays when more comes then", 5, x.data(1, 0));
        x.event(1, Probe.DOWN);
        Probe.due("it stays when the line is down", 6, x.data(1, 1));
    }

    /** Promise 13: "Byte i of a line." */
    private static void look() {
        LineTalk x = new LineTalk();
        Probe.put(x, 0, Probe.list(0, 255));
        x.put(1, 9);
        Probe.due("the first", 0, x.look(0, 0));
        Probe.due("the last", 255, x.look(0, 1));
        Probe.due("line 1", 9, x.look(1, 0));
        Probe.due("look changes nothing", Probe.list(0, 255), Probe.line(x, 0));
        LineTalk y = new LineTalk();
        Probe.put(y, 1, Probe.row(299, 1));
        y.put(1, 2);
        Probe.due("the last of 300", 2, y.look(1, 299));
    }

    /** "first come first out": the bytes' places go round in the object, but not for who looks. */
    private static void lookGoesRound() {
        LineTalk x = new LineTalk();
        Probe.put(x, 0, Probe.row(250, 1));
        x.lose(0, 250);
        for (int i = 0; i < 100; i++) {
            x.put(0, 100 + i);
        }
        for (int i = 0; i < 100; i++) {
            Probe.due("look(0, " + i + ")", 100 + i, x.look(0, i));
        }
        Probe.due("damage behind the turn", 199, x.damage(0, 99, 1));
        x.lose(0, 98);
        Probe.due("the rest", Probe.list(198, 198), Probe.line(x, 0));
    }

    /** Promise 14, each of 0 to 8. */
    private static void about() {
        for (int end = 0; end < 2; end++) {
            LineTalk x = new LineTalk();
            x.set(end, 700, 64, -9);
            Probe.bring(x, end, 6);
            x.put(end, 5);
            x.put(end, 6);
            Probe.feed(x, 1 - end, Probe.list(1, 2, 3));
            x.tick(1);
            int[] due = {6, 700, -9, 1, 4, 2, 3, 2, 3};
            int[] fresh = {0, 1500, 0, 0, 0, 0, 3, 0, 0};
            for (int what = 0; what < due.length; what++) {
                Probe.due("about(" + end + ", " + what + ")", due[what], x.about(end, what));
                Probe.due("about(" + (1 - end) + ", " + what + ")", fresh[what], x.about(1 - end, what));
            }
        }
    }

    /** Promise 15, each of 0 to 5. */
    private static void count() {
        LineTalk x = new LineTalk();
        x.set(0, 1500, 64, 5);
        Probe.bring(x, 0, 9);
        Probe.tell(x, 1, 1, Probe.ECHO, 1, 0, 0, 0, 5);
        Probe.tell(x, 1, 2, 1, 1);
        Probe.tell(x, 1, 3, 1, 1);
        Probe.feed(x, 1, Probe.list(1, 126));
        x.lose(0, 300);
        Probe.put(x, 0, Probe.row(296, 1));
        x.send(0, 2, 2);
        // Good: ACK and request on the way to state 9, ECHO, data.
        int[] due = {4, 2, 1, 1, 1, 1};
        for (int what = 0; what < due.length; what++) {
            Probe.due("count(0, " + what + ")", due[what], x.count(0, what));
            Probe.due("count(1, " + what + ")", 0, x.count(1, what));
        }
        x.event(0, Probe.DOWN);
        x.lose(0, 300);
        x.event(0, Probe.UP);
        Probe.tell(x, 1, 1, Probe.REQUEST, 9);
        Probe.tell(x, 1, Probe.join(Probe.list(1, Probe.ACK, 2, 5), Probe.four(5)));
        Probe.due("up a second time", 2, x.count(0, Probe.UPS));
    }

    /** Promise 16: "0f before the first." */
    private static void noiseBeforeTheFirst() {
        LineTalk x = new LineTalk();
        Probe.due("before any call", 0f, x.noise());
        Probe.feed(x, 0, Probe.list(126, 126, 1));
        Probe.due("marks and a byte that waits are none", 0f, x.noise());
        LineTalk y = new LineTalk();
        Probe.feed(y, 0, Probe.list(1, 126));
        Probe.due("the first is bad", 1f, y.noise());
        LineTalk z = new LineTalk();
        Probe.tell(z, 1, 2, 1, 2);
        Probe.due("the first is good", 0f, z.noise());
    }

    /** Promise 16: "bad ones divided by packets and bad ones together". */
    private static void noise() {
        LineTalk x = new LineTalk();
        Probe.tell(x, 0, 2, 1, 2);
        Probe.feed(x, 1, Probe.list(1, 126));
        Probe.due("one of two, at different ends", 0.5f, x.noise());
        Probe.feed(x, 0, Probe.list(1, 126));
        Probe.due("two of three", 2f / 3f, x.noise());
        Probe.feed(x, 0, Probe.list(126, 126));
        Probe.due("marks count for nothing", 2f / 3f, x.noise());
        for (int i = 0; i < 4; i++) {
            Probe.tell(x, 1, 2, 1, 2);
        }
        Probe.due("two of seven", 2f / 7f, x.noise());
    }

    /** Both ends by their own packets alone: agreeing, data both ways, and the end of it. */
    private static void twoEnds() {
        LineTalk x = new LineTalk();
        x.set(0, 100, 64, 42);
        x.set(1, 1500, 128, 43);
        for (int end = 0; end < 2; end++) {
            x.event(end, Probe.UP);
            x.event(end, Probe.OPEN);
        }
        for (int i = 0; i < 10; i++) {
            x.pass(0, 300);
            x.pass(1, 300);
        }
        Probe.due("open at 0", 9, x.about(0, Probe.STATE));
        Probe.due("open at 1", 9, x.about(1, Probe.STATE));
        Probe.due("the size that end 1 asked for", 128, x.about(0, Probe.SIZE));
        Probe.due("no suspicion", 0, x.count(0, Probe.SUSPICIONS) + x.count(1, Probe.SUSPICIONS));
        x.send(0, 3, 3);
        x.send(1, 4, 4);
        x.pass(0, 300);
        x.pass(1, 300);
        Probe.due("data at 1", 5, x.data(1, 2));
        Probe.due("data at 0", 7, x.data(0, 3));
        Probe.due("close", 4, x.event(0, Probe.CLOSE));
        x.pass(0, 300);
        x.pass(1, 300);
        Probe.due("closed", 2, x.about(0, Probe.STATE));
        Probe.due("the other one's timer", 1, x.tick(3));
        Probe.due("stopped", 3, x.about(1, Probe.STATE));
        Probe.due("nothing was bad", 0f, x.noise());
    }

    private static void objectsAreApart() {
        LineTalk x = new LineTalk();
        String fresh = Probe.sight(x);
        LineTalk y = Probe.open();
        y.loop(0, true);
        y.send(0, 20, 20);
        y.pass(0, 10);
        y.event(1, Probe.CLOSE);
        Probe.due("another object", fresh, Probe.sight(x));
    }
}
