import java.util.ArrayList;
import java.util.List;

/** Frames and their check, what a receiver gathers, and which packets are bad by their shape. */
public final class ReceiverTest {
    public static void main(String[] args) {
        checkKnownFromElsewhere();
        everyByteIsEscapedAndRead();
        anyChangedBitIsBad();
        shortestAndLongest();
        escapesThatStandAlone();
        marks();
        bytesAheadOfTheFirstMark();
        overfull();
        gatheredIsCounted();
        oneReceiverForTwoLines();
        loopTurnedInMidFrame();
        protocols();
        contentsByCode();
        options();
        Probe.end();
    }

    /** Promise 4 and 10: the frame of data is the one due, byte by byte, and is read back as it was. */
    private static void everyByteIsEscapedAndRead() {
        LineTalk x = Probe.open();
        for (int v = 0; v < 256; v++) {
            int n = 2 + v % 19;
            List<Integer> packet = Probe.list(2);
            for (int i = 0; i < n; i++) {
                packet.add((v + i) % 256);
            }
            List<Integer> frame = Probe.frame(packet);
            Probe.due("send(0, " + n + ", " + v + ")", frame.size(), x.send(0, n, v));
            Probe.due("the frame of " + packet, frame, Probe.line(x, 0));
            Probe.due("pass of " + packet, 1, x.pass(0, 300));
            Probe.due("first of " + packet, v, x.data(1, 0));
            Probe.due("last of " + packet, (v + n - 1) % 256, x.data(1, n - 1));
            Probe.due("behind " + packet, LineTalk.NONE, x.data(1, n));
        }
    }

    private static void anyChangedBitIsBad() {
        int length = Probe.frame(Probe.list(2, 11, 22, 33)).size();
        for (int i = 1; i < length - 1; i++) {
            for (int bit = 0; bit < 8; bit++) {
                LineTalk x = new LineTalk();
                Probe.put(x, 0, Probe.frame(Probe.list(2, 11, 22, 33)));
                x.damage(0, i, 1 << bit);
                Probe.due("byte " + i + " bit " + bit + " changed: good", 0, x.pass(0, 300));
            }
        }
    }

    /** The check is CRC-16/X-25, whose value over the digits 1 to 9 is known. */
    private static void checkKnownFromElsewhere() {
        Probe.due("the check of the digits", 0x906E, Probe.check(Probe.list(49, 50, 51, 52, 53, 54, 55, 56, 57)));
    }

    private static void shortestAndLongest() {
        bad("4 bytes with a right check", Probe.frame(Probe.list(2, 7)));
        bad("3 bytes with a right check", Probe.frame(Probe.list(2)));
        bad("a check alone", Probe.frame(Probe.list()));
        bad("one byte", Probe.list(126, 0, 126));
        good("5 bytes", Probe.frame(Probe.list(2, 7, 7)));
        good("40 bytes", Probe.frame(Probe.join(Probe.list(2), Probe.times(37, 125))));
        bad("41 bytes", Probe.frame(Probe.join(Probe.list(2), Probe.times(38, 125))));
        bad("the check's bytes the other way round", swapped());
    }

    private static List<Integer> swapped() {
        List<Integer> frame = Probe.frame(Probe.list(2, 1, 2));
        return Probe.list(126, 2, 1, 2, frame.get(5), frame.get(4), 126);
    }

    private static void escapesThatStandAlone() {
        bad("125 alone", Probe.list(126, 125, 126));
        bad("125 alone at the very start", Probe.list(125, 126));
        List<Integer> frame = Probe.frame(Probe.list(2, 1, 2));
        frame.add(frame.size() - 1, 125);
        bad("125 alone behind a whole packet", frame);
        List<Integer> twice = Probe.sealed(Probe.list(2, 93, 7));
        good("125 behind 125 is 93", Probe.list(126, 2, 125, 125, 7, twice.get(3), twice.get(4), 126));
        List<Integer> needless = Probe.sealed(Probe.list(2, 33, 7));
        good("an escape without need", Probe.list(126, 2, 125, 1, 7, needless.get(3), needless.get(4), 126));

        LineTalk x = new LineTalk();
        Probe.feed(x, 0, Probe.list(126, 125, 126));
        Probe.due("an escape does not reach over the mark", 1, Probe.tell(x, 0, 2, 1, 2));
    }

    private static void marks() {
        LineTalk x = new LineTalk();
        Probe.due("marks alone", 0, Probe.feed(x, 0, Probe.row(50, 126)));
        Probe.due("marks alone are not bad", 0, x.count(1, Probe.BAD));
        List<Integer> two = Probe.frame(Probe.list(2, 1, 2));
        two.addAll(Probe.frame(Probe.list(2, 3, 4)).subList(1, 7));
        Probe.due("one mark between two frames", 2, Probe.feed(x, 0, two));
        Probe.due("after good and bad alike it starts anew", 0, Probe.feed(x, 0, Probe.list(126, 9, 126)));
        Probe.due("bad", 1, x.count(1, Probe.BAD));
        Probe.due("good behind bad", 1, Probe.tell(x, 0, 2, 1, 2));
    }

    private static void bytesAheadOfTheFirstMark() {
        good("no mark ahead", Probe.frame(Probe.list(2, 1, 2)).subList(1, 7));
        bad("rubbish ahead", Probe.list(1, 126));
        LineTalk x = new LineTalk();
        Probe.put(x, 0, Probe.frame(Probe.list(2, 1, 2)));
        x.lose(0, 3);
        Probe.due("the rest of a frame", 0, x.pass(0, 300));
        Probe.due("the rest of a frame is bad", 1, x.count(1, Probe.BAD));
    }

    private static void overfull() {
        for (int n = 41; n < 250; n += 52) {
            LineTalk x = new LineTalk();
            List<Integer> frame = Probe.list(126);
            frame.addAll(Probe.row(n, 1));
            Probe.due("till the mark", 0, Probe.feed(x, 0, frame));
            Probe.due(n + " gathered show as", 40, x.about(1, Probe.GATHERED));
            Probe.due(n + " gathered: bad ahead of the mark", 0, x.count(1, Probe.BAD));
            Probe.feed(x, 0, Probe.list(126));
            Probe.due(n + " gathered: bad at the mark", 1, x.count(1, Probe.BAD));
            Probe.due("gathered behind the mark", 0, x.about(1, Probe.GATHERED));
            Probe.feed(x, 0, Probe.list(126));
            Probe.due(n + " gathered: counted once", 1, x.count(1, Probe.BAD));
            Probe.due("a packet behind it", 1, Probe.tell(x, 0, 2, 1, 2));
        }
        // The first 40 bytes are a packet, so only the forty-first makes it bad.
        List<Integer> whole = Probe.frame(Probe.join(Probe.list(2), new int[37]));
        whole.add(whole.size() - 1, 5);
        bad("a byte behind forty good ones", whole);
        whole.set(whole.size() - 2, 125);
        whole.add(whole.size() - 1, 5);
        bad("an escaped byte behind forty good ones", whole);
    }

    private static void gatheredIsCounted() {
        LineTalk x = new LineTalk();
        int[] bytes = {126, 1, 125, 94, 125, 125, 2, 125, 126, 3};
        int[] gathered = {0, 1, 1, 2, 2, 3, 4, 4, 0, 1};
        for (int i = 0; i < bytes.length; i++) {
            Probe.feed(x, 1, Probe.list(bytes[i]));
            Probe.due("gathered at " + i, gathered[i], x.about(0, Probe.GATHERED));
        }
        Probe.feed(x, 1, Probe.row(38, 0));
        Probe.due("gathered", 39, x.about(0, Probe.GATHERED));
        Probe.feed(x, 1, Probe.list(125));
        Probe.due("gathered with a 125 that waits", 39, x.about(0, Probe.GATHERED));
        Probe.feed(x, 1, Probe.list(1, 1));
        Probe.due("gathered at most", 40, x.about(0, Probe.GATHERED));
        Probe.due("the other end's", 0, x.about(1, Probe.GATHERED));
    }

    private static void oneReceiverForTwoLines() {
        LineTalk x = new LineTalk();
        List<Integer> frame = Probe.frame(Probe.list(2, 1, 2));
        x.loop(0, true);
        Probe.feed(x, 0, frame.subList(0, 3));
        Probe.due("half by the looped line", 2, x.about(0, Probe.GATHERED));
        Probe.due("the other half by line 1", 1, Probe.feed(x, 1, frame.subList(3, frame.size())));
        Probe.due("good at end 0", 1, x.count(0, Probe.GOOD));
    }

    private static void loopTurnedInMidFrame() {
        LineTalk x = new LineTalk();
        Probe.put(x, 1, Probe.frame(Probe.list(2, 1, 2)));
        x.pass(1, 3);
        x.loop(1, true);
        x.pass(1, 300);
        Probe.due("gathered at end 0", 2, x.about(0, Probe.GATHERED));
        Probe.due("bad at end 1", 1, x.count(1, Probe.BAD));
        Probe.due("bad at end 0", 0, x.count(0, Probe.BAD));
    }

    private static void protocols() {
        for (int protocol = 0; protocol < 256; protocol++) {
            List<Integer> frame = Probe.frame(Probe.list(protocol, 5, 3));
            if (protocol == 1 || protocol == 2) {
                good("protocol " + protocol, frame);
            } else {
                bad("protocol " + protocol, frame);
            }
        }
    }

    private static void contentsByCode() {
        for (int code = 0; code < 256; code++) {
            for (int n = 0; n <= 6; n++) {
                boolean fits = code == 5 || code == 6 ? n == 0
                        : code == 7 ? n == 1
                        : code == 9 || code == 10 ? n == 4
                        : code < 1 || code > 4 || n == 0 || n == 2;
                // Types 32, 32, .. come twice as soon as there are four bytes.
                List<Integer> frame = Probe.frame(Probe.join(Probe.list(1, code, 1), Probe.times(n, 32)));
                if (fits) {
                    good("code " + code + " with " + n, frame);
                } else {
                    bad("code " + code + " with " + n, frame);
                }
            }
        }
    }

    private static void options() {
        for (int code = 1; code <= 4; code++) {
            good("none", Probe.frame(Probe.list(1, code, 1)));
            good("size", Probe.frame(Probe.list(1, code, 1, 1, 0, 0)));
            good("number", Probe.frame(Probe.list(1, code, 1, 5, 0, 0, 0, 0)));
            good("others", Probe.frame(Probe.list(1, code, 1, 0, 1, 2, 2, 255, 3)));
            good("all", Probe.frame(Probe.list(1, code, 1, 9, 1, 5, 1, 1, 1, 1, 1, 5, 5, 4, 4)));
            bad("size cut off", Probe.frame(Probe.list(1, code, 1, 1, 5)));
            bad("size without bytes", Probe.frame(Probe.list(1, code, 1, 1)));
            bad("number cut off", Probe.frame(Probe.list(1, code, 1, 5, 1, 2, 3)));
            bad("other cut off", Probe.frame(Probe.list(1, code, 1, 9)));
            bad("a byte too many", Probe.frame(Probe.list(1, code, 1, 1, 5, 5, 0)));
            bad("size twice", Probe.frame(Probe.list(1, code, 1, 1, 5, 5, 1, 5, 5)));
            bad("number twice", Probe.frame(Probe.list(1, code, 1, 5, 0, 0, 0, 1, 9, 9, 5, 0, 0, 0, 2)));
            bad("other twice", Probe.frame(Probe.list(1, code, 1, 7, 1, 8, 2, 7, 3)));
            List<Integer> most = new ArrayList<>(Probe.list(1, code, 1));
            for (int type = 20; type < 37; type++) {
                most.add(type);
                most.add(20);
            }
            good("seventeen of them", Probe.frame(most));
        }
    }

    private static void good(String what, List<Integer> bytes) {
        comes(what, bytes, 1);
    }

    private static void bad(String what, List<Integer> bytes) {
        comes(what, bytes, 0);
    }

    private static void comes(String what, List<Integer> bytes, int good) {
        LineTalk x = new LineTalk();
        Probe.due(what + ": pass", good, Probe.feed(x, 0, bytes));
        Probe.due(what + ": good", good, x.count(1, Probe.GOOD));
        Probe.due(what + ": bad", 1 - good, x.count(1, Probe.BAD));
        Probe.due(what + ": at the other end", 0, x.count(0, Probe.GOOD) + x.count(0, Probe.BAD));
    }
}
