/**
 * Runs of calls drawn from a fixed row of numbers, each as long as an object is promised for: no call throws but where
 * it must, and what must always hold holds.
 */
public final class RandomRunsTest {
    private static final int RUNS = 2000;
    private static final int CALLS = 480;
    private static final int[] ODD_VALUES = {-1, 2, 256, 301, Integer.MAX_VALUE, Integer.MIN_VALUE};

    private final LineTalk x = new LineTalk();
    private final boolean[] loops = new boolean[2];
    private long seed;
    private int spent = 0;
    private int good = 0;
    private String call = "new LineTalk()";

    private RandomRunsTest(int run) {
        seed = run * 7919L + 1;
    }

    public static void main(String[] args) {
        int opened = 0;
        for (int run = 0; run < RUNS; run++) {
            RandomRunsTest test = new RandomRunsTest(run);
            while (test.spent < CALLS) {
                test.step();
                test.within(test.draw(2), test.draw(9));
            }
            test.sums();
            opened += test.x.count(0, Probe.UPS) + test.x.count(1, Probe.UPS);
        }
        Probe.due("the runs are worth something", true, opened > RUNS / 2);
        Probe.end();
    }

    private int draw(int n) {
        seed = seed * 6364136223846793005L + 1442695040888963407L;
        return (int) ((seed >>> 33) % n);
    }

    private int end() {
        return draw(60) == 0 ? ODD_VALUES[draw(ODD_VALUES.length)] : draw(2);
    }

    private int value(int n) {
        return draw(40) == 0 ? ODD_VALUES[draw(ODD_VALUES.length)] : draw(n);
    }

    private void step() {
        int line = end();
        int n = value(300);
        int b = value(256);
        boolean threw = false;
        spent++;
        try {
            doCall(draw(20), line, n, b);
        } catch (IndexOutOfBoundsException e) {
            threw = true;
        } catch (IllegalArgumentException | IllegalStateException e) {
            // Whether these are due is looked at in RefusedTest; here no other one may come.
            threw = false;
        }
        boolean noEnd = line != 0 && line != 1 && !call.startsWith("tick");
        if (noEnd != threw && !call.startsWith("look") && !call.startsWith("damage")) {
            Probe.due(call + " throws IndexOutOfBoundsException", noEnd, threw);
        }
    }

    private void doCall(int kind, int line, int n, int b) {
        String with = "(" + line + ", " + n + ", " + b + ")";
        switch (kind) {
            case 0: call = "set" + with; x.set(line, 64 + n * 4, 64 + b, draw(4)); break;
            case 1: case 2: call = "event" + with; x.event(line, n < 30 ? n : n % 2 == 0 ? Probe.UP : Probe.OPEN); break;
            case 3: call = "event" + with; x.event(line, n < 290 ? Probe.OPEN : Probe.DOWN); break;
            case 4: call = "tick" + with; x.tick(n % 30 == 0 ? n : 1 + b % 3); break;
            case 5: call = "put" + with; x.put(line, b); break;
            case 6: call = "damage" + with; x.damage(line, draw(30) == 0 ? n % 20 : n, b); break;
            case 7: call = "lose" + with; x.lose(line, n % 9 == 0 ? n : b % 3); break;
            case 8: call = "loop" + with; flipLoop(line, n % 4 == 0); break;
            case 9: call = "send" + with; x.send(line, n % 25, b); break;
            case 10: call = "echo" + with; x.echo(line); break;
            case 11: call = "data" + with; x.data(line, n); break;
            case 12: call = "look" + with; x.look(line, n); break;
            case 13: call = "tell" + with; tellSome(line, n, b); break;
            default: call = "pass" + with; good += x.pass(line, n); break;
        }
    }

    private void flipLoop(int line, boolean on) {
        boolean was = x.loop(line, on);
        Probe.due(call, loops[line], was);
        loops[line] = on;
    }

    /** A packet without contents, mostly with an id that may make it right. */
    private void tellSome(int line, int n, int b) {
        int id = draw(3) == 0 ? b & 255 : x.about(1 - (line & 1), Probe.ID);
        spent += 2;
        if (x.about(line, Probe.ON_LINE) < 250) {
            Probe.put(x, line, Probe.frame(Probe.list(1, Math.floorMod(n, 12), id)));
            spent += 9;
        }
    }

    private void within(int end, int what) {
        spent += what == Probe.TIMER ? 2 : 1;
        int got = x.about(end, what);
        switch (what) {
            case Probe.STATE: between("state", got, 0, 9); break;
            case Probe.SIZE: between("size", got, 64, 1500); break;
            case Probe.ID: between("id", got, 0, 255); break;
            case Probe.COUNT: between("count", got, 0, 5); break;
            case Probe.TIMER: timerIsWithin(got, x.about(end, Probe.STATE)); break;
            case Probe.ASKS: between("asks", got, 0, 3); break;
            case Probe.ON_LINE: between("on the line", got, 0, 300); break;
            case Probe.GATHERED: between("gathered", got, 0, 40); break;
            default: break;
        }
    }

    /** Where the timer runs it is never 0 behind a call, since at 0 it was over. */
    private void timerIsWithin(int timer, int state) {
        between("timer in state " + state, timer, state >= 4 && state <= 8 ? 1 : 0, 3);
    }

    private void sums() {
        int goods = x.count(0, Probe.GOOD) + x.count(1, Probe.GOOD);
        int bad = x.count(0, Probe.BAD) + x.count(1, Probe.BAD);
        Probe.due("what pass answered in all", goods, good);
        Probe.due("noise at the end", goods + bad == 0 ? 0f : (float) bad / (goods + bad), x.noise());
    }

    private void between(String what, int got, int least, int most) {
        if (got < least || got > most) {
            Probe.due(what + " behind " + call + " is within its bounds", true, false);
        }
    }
}
