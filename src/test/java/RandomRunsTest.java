/** Long runs of calls drawn from a fixed row of numbers: no call throws but where it must, and what must always hold holds. */
public final class RandomRunsTest {
    private static final int RUNS = 400;
    private static final int CALLS = 512;
    private static final int[] ODD_VALUES = {-1, 2, 256, 301, Integer.MAX_VALUE, Integer.MIN_VALUE};

    private final LineTalk x = new LineTalk();
    private final boolean[] loops = new boolean[2];
    private long seed;
    private String call = "new LineTalk()";

    private RandomRunsTest(int run) {
        seed = run * 7919L + 1;
    }

    public static void main(String[] args) {
        int opened = 0;
        for (int run = 0; run < RUNS; run++) {
            RandomRunsTest test = new RandomRunsTest(run);
            for (int i = 0; i < CALLS; i++) {
                test.step();
                test.holds();
            }
            opened += test.x.count(0, Probe.UPS) + test.x.count(1, Probe.UPS);
        }
        Probe.due("the runs are worth something", true, opened > RUNS);
        Probe.end();
    }

    private int draw(int n) {
        seed = seed * 6364136223846793005L + 1442695040888963407L;
        return (int) ((seed >>> 33) % n);
    }

    private int end() {
        return draw(60) == 0 ? ODD_VALUES[draw(ODD_VALUES.length)] : draw(2);
    }

    private int value(int n) {
        return draw(40) == 0 ? ODD_VALUES[draw(ODD_VALUES.length)] : draw(n);
    }

    private void step() {
        int line = end();
        int n = value(300);
        int b = value(256);
        int kind = draw(20);
        String before = draw(8) == 0 ? Probe.sight(x) : "";
        String threw = "";
        try {
            doCall(kind, line, n, b);
        } catch (IndexOutOfBoundsException e) {
            threw = "I";
        } catch (IllegalArgumentException e) {
            threw = "A";
        } catch (IllegalStateException e) {
            threw = "S";
        }
        boolean noEnd = line != 0 && line != 1 && !call.startsWith("tick");
        if (noEnd != threw.equals("I") && !call.startsWith("look") && !call.startsWith("damage")) {
            Probe.due(call + " throws IndexOutOfBoundsException", noEnd, threw.equals("I"));
        }
        if (!threw.isEmpty() && !before.isEmpty()) {
            Probe.due(call + " that throws changes nothing", before, Probe.sight(x));
        }
    }

    private void doCall(int kind, int line, int n, int b) {
        String with = "(" + line + ", " + n + ", " + b + ")";
        switch (kind) {
            case 0: call = "set" + with; x.set(line, 64 + n * 4, 64 + b, draw(4)); break;
            case 1: case 2: call = "event" + with; x.event(line, n < 30 ? n : n % 2 == 0 ? Probe.UP : Probe.OPEN); break;
            case 3: call = "event" + with; x.event(line, n < 290 ? Probe.OPEN : Probe.DOWN); break;
            case 4: call = "tick" + with; x.tick(n % 30 == 0 ? n : 1 + b % 3); break;
            case 5: call = "put" + with; x.put(line, b); break;
            case 6: call = "damage" + with; x.damage(line, draw(30) == 0 ? n % 20 : n, b); break;
            case 7: call = "lose" + with; x.lose(line, n % 9 == 0 ? n : b % 3); break;
            case 8: call = "loop" + with; flipLoop(line, n % 4 == 0); break;
            case 9: call = "send" + with; x.send(line, n % 25, b); break;
            case 10: call = "echo" + with; x.echo(line); break;
            case 11: call = "data" + with; x.data(line, n); break;
            case 12: call = "look" + with; x.look(line, n); break;
            case 13: call = "tell" + with; tellSome(line, n, b); break;
            default: call = "pass" + with; passSome(line, n); break;
        }
    }

    private void flipLoop(int line, boolean on) {
        boolean was = x.loop(line, on);
        Probe.due(call, loops[line], was);
        loops[line] = on;
    }

    /** A packet without contents, mostly with an id that may make it right. */
    private void tellSome(int line, int n, int b) {
        int id = draw(3) == 0 ? b & 255 : x.about(1 - (line & 1), Probe.ID);
        if (x.about(line, Probe.ON_LINE) < 250) {
            Probe.put(x, line, Probe.frame(Probe.list(1, Math.floorMod(n, 12), id)));
        }
    }

    private void passSome(int line, int n) {
        int before = x.count(0, Probe.GOOD) + x.count(1, Probe.GOOD);
        int good = x.pass(line, n);
        Probe.due(call, x.count(0, Probe.GOOD) + x.count(1, Probe.GOOD) - before, good);
    }

    private void holds() {
        int bad = 0;
        int all = 0;
        for (int end = 0; end < 2; end++) {
            int state = x.about(end, Probe.STATE);
            between("state", state, 0, 9);
            between("size", x.about(end, Probe.SIZE), 64, 1500);
            between("id", x.about(end, Probe.ID), 0, 255);
            between("count", x.about(end, Probe.COUNT), 0, 5);
            between("timer", x.about(end, Probe.TIMER), state >= 4 && state <= 8 ? 1 : 0, 3);
            between("asks", x.about(end, Probe.ASKS), 0, 3);
            between("on the line", x.about(end, Probe.ON_LINE), 0, 300);
            between("gathered", x.about(end, Probe.GATHERED), 0, 40);
            bad += x.count(end, Probe.BAD);
            all += x.count(end, Probe.BAD) + x.count(end, Probe.GOOD);
        }
        Probe.due("noise behind " + call, all == 0 ? 0f : (float) bad / all, x.noise());
    }

    private void between(String what, int got, int least, int most) {
        if (got < least || got > most) {
            Probe.due(what + " behind " + call + " is within its bounds", true, false);
        }
    }
}
