import java.util.ArrayList;
import java.util.List;

/** Frames and their check, what a receiver gathers, and which packets are bad by their shape: sentence by sentence. */
public final class ReceiverTest {
    public static void main(String[] args) {
        checkKnownFromElsewhere();
        checkLowerByteFirst();
        justTwoBytesAreEscaped();
        escapedInEachPlace();
        escapedInTheCheck();
        everyByteIsSentAndRead();
        anyChangedBitIsBad();
        escapesAreTakenBack();
        fiveBytesAtLeast();
        escapeAloneAtTheEnd();
        noByteAtAll();
        oneMarkBetweenTwo();
        bytesAheadOfTheFirstMark();
        gatheredAheadOfTheFirstMark();
        fortyAndNoMore();
        overfullTillTheNextMark();
        overfullByAnEscapedByte();
        gatheredIsCounted();
        gatheredStaysThroughEvents();
        oneReceiverForTwoLines();
        loopTurnedInMidFrame();
        protocols();
        dataOfTwoAtLeast();
        contentsByCode();
        optionsCutOff();
        optionsTwice();
        asManyOptionsAsFit();
        Probe.end();
    }

    /** The check is CRC-16/X-25, whose value over the digits 1 to 9 is known; so Probe's own is the right one. */
    private static void checkKnownFromElsewhere() {
        Probe.due("the check of the digits", 0x906E, Probe.check(Probe.list(49, 50, 51, 52, 53, 54, 55, 56, 57)));
        good("data 1, 2 with the check written out", Probe.list(126, 2, 1, 2, 190, 73, 126));
        good("code 8 with the check written out", Probe.list(126, 1, 8, 3, 75, 96, 126));
    }

    /** "The check is two bytes, the lower one first". */
    private static void checkLowerByteFirst() {
        bad("the check's bytes the other way round", Probe.list(126, 2, 1, 2, 73, 190, 126));
        bad("its lower byte one more", Probe.list(126, 2, 1, 2, 191, 73, 126));
        bad("its higher byte one less", Probe.list(126, 2, 1, 2, 190, 72, 126));
        bad("its higher byte missing", Probe.list(126, 2, 1, 2, 190, 126));
        LineTalk x = Probe.in(0, 9);
        x.send(0, 2, 1);
        Probe.due("the check of what is sent", Probe.list(126, 2, 1, 2, 190, 73, 126), Probe.line(x, 0));
    }

    /** "of what is between, each 125 and each 126 is sent as 125 and that byte xor 32": 124 and 127 are not. */
    private static void justTwoBytesAreEscaped() {
        LineTalk x = Probe.in(0, 9);
        x.send(0, 4, 124);
        Probe.due("124 .. 127", Probe.list(126, 2, 124, 125, 93, 125, 94, 127), Probe.line(x, 0).subList(0, 8));
        LineTalk y = Probe.in(0, 9);
        y.send(0, 2, 93);
        Probe.due("93, 94", Probe.list(126, 2, 93, 94), Probe.line(y, 0).subList(0, 4));
    }

    private static void escapedInEachPlace() {
        for (int number : new int[] {0x7D000000, 0x007E0000, 0x00007D00, 0x0000007E, 0x7E7D7E7D}) {
            LineTalk x = new LineTalk();
            x.set(0, 125, 64, number);
            x.event(0, Probe.UP);
            x.event(0, Probe.OPEN);
            List<Integer> request = Probe.join(Probe.list(1, 1, 1, 1, 0, 125, 5), Probe.four(number));
            Probe.due("request with " + number, Probe.frame(request), Probe.line(x, 0));
        }
        for (int b = 124; b <= 127; b++) {
            LineTalk x = Probe.in(0, 6);
            Probe.tell(x, 1, 1, Probe.END, b);
            Probe.due("ENDED with the id " + b, Probe.frame(Probe.list(1, Probe.ENDED, b)), Probe.line(x, 0));
            x.lose(0, 300);
            Probe.tell(x, 1, 1, b, 9);
            Probe.due("UNKNOWN with the code " + b, Probe.frame(Probe.list(1, Probe.UNKNOWN, 2, b)), Probe.line(x, 0));
        }
    }

    /** "a byte 126, the bytes of a packet and of its CHECK, and 126; of what is between": the check is too. */
    private static void escapedInTheCheck() {
        for (int place = 0; place < 2; place++) {
            for (int b = 125; b <= 126; b++) {
                int[] found = dataWithCheck(place, b);
                LineTalk x = Probe.open();
                List<Integer> frame = Probe.frame(data(found[0], found[1]));
                Probe.due("byte " + place + " of the check is " + b, frame.size(), x.send(0, found[0], found[1]));
                Probe.due("its frame", frame, Probe.line(x, 0));
                Probe.due("it is read", 1, x.pass(0, 300));
            }
        }
    }

    /** Finds a send() without 125 and 126 in its data, whose check has this byte in this place. */
    private static int[] dataWithCheck(int place, int b) {
        for (int n = 2; n <= 20; n++) {
            for (int v = 0; v < 100; v++) {
                if ((Probe.check(data(n, v)) >> 8 * place & 255) == b) {
                    return new int[] {n, v};
                }
            }
        }
        throw new IllegalStateException("no data has the check");
    }

    private static List<Integer> data(int n, int v) {
        List<Integer> packet = Probe.list(2);
        for (int i = 0; i < n; i++) {
            packet.add((v + i) % 256);
        }
        return packet;
    }

    /** The frame of data is the one due, byte by byte, and is read back as it was. */
    private static void everyByteIsSentAndRead() {
        for (int v = 0; v < 256; v++) {
            LineTalk x = Probe.open();
            int n = 2 + v % 19;
            List<Integer> packet = data(n, v);
            List<Integer> frame = Probe.frame(packet);
            Probe.due("send(0, " + n + ", " + v + ")", frame.size(), x.send(0, n, v));
            Probe.due("the frame of " + packet, frame, Probe.line(x, 0));
            Probe.due("pass of " + packet, 1, x.pass(0, 300));
            Probe.due("first of " + packet, v, x.data(1, 0));
            Probe.due("last of " + packet, (v + n - 1) % 256, x.data(1, n - 1));
            Probe.due("behind " + packet, LineTalk.NONE, x.data(1, n));
        }
    }

    /** "with the check, which is right". */
    private static void anyChangedBitIsBad() {
        int length = Probe.frame(Probe.list(2, 11, 22, 33)).size();
        for (int i = 1; i < length - 1; i++) {
            for (int bit = 0; bit < 8; bit++) {
                LineTalk x = new LineTalk();
                Probe.put(x, 0, Probe.frame(Probe.list(2, 11, 22, 33)));
                x.damage(0, i, 1 << bit);
                Probe.due("byte " + i + " bit " + bit + " changed: good", 0, x.pass(0, 300));
            }
        }
    }

    /** "125 and the byte behind it are that byte xor 32", whatever that byte is, but for a mark. */
    private static void escapesAreTakenBack() {
        for (int b = 0; b < 256; b++) {
            if (b != 126) {
                List<Integer> sealed = Probe.sealed(Probe.list(2, b ^ 32, 7));
                List<Integer> frame = Probe.list(126, 2, 125, b, 7);
                frame.addAll(Probe.escaped(sealed.subList(3, 5)));
                frame.add(126);
                good("125 and " + b, frame);
            }
        }
        LineTalk x = Probe.in(0, 9);
        List<Integer> sealed = Probe.sealed(Probe.list(2, 93, 7));
        Probe.feed(x, 1, Probe.list(126, 2, 125, 125, 7, sealed.get(3), sealed.get(4), 126));
        Probe.due("125 behind 125 is 93", 93, x.data(0, 0));
        Probe.due("and no 125 any more", 7, x.data(0, 1));
        LineTalk y = new LineTalk();
        Probe.feed(y, 0, Probe.list(126, 2, 125, 126));
        Probe.due("126 behind 125 is a mark", 0, y.about(1, Probe.GATHERED));
        Probe.due("126 behind 125: bad", 1, y.count(1, Probe.BAD));
        Probe.due("an escape does not reach over the mark", 1, Probe.tell(y, 0, 2, 1, 2));
    }

    /** "a packet if it has at least 5 bytes with the check". */
    private static void fiveBytesAtLeast() {
        bad("one byte", Probe.list(126, 2, 126));
        bad("two bytes, a check alone", Probe.frame(Probe.list()));
        bad("three bytes with a right check", Probe.frame(Probe.list(2)));
        bad("four bytes of data with a right check", Probe.frame(Probe.list(2, 7)));
        bad("four bytes of control with a right check", Probe.frame(Probe.list(1, 5)));
        good("five bytes of data", Probe.frame(Probe.list(2, 7, 7)));
        good("five bytes of control", Probe.frame(Probe.list(1, 5, 7)));
        good("six bytes", Probe.frame(Probe.list(2, 7, 7, 7)));
        bad("five bytes with a wrong check", Probe.list(126, 2, 7, 7, 7, 7, 126));
    }

    /** "and no 125 stood alone at its end". */
    private static void escapeAloneAtTheEnd() {
        List<Integer> frame = Probe.frame(Probe.list(2, 1, 2));
        good("without it", frame);
        frame.add(frame.size() - 1, 125);
        bad("125 alone behind a whole packet", frame);
        List<Integer> most = Probe.frame(Probe.join(Probe.list(2), new int[37]));
        most.add(most.size() - 1, 125);
        bad("125 alone behind forty bytes", most);
    }

    /** "but if no byte at all came since the 126 ahead, that is nothing (a 125 alone is BAD)". */
    private static void noByteAtAll() {
        LineTalk x = new LineTalk();
        Probe.due("the first mark of all", 0, Probe.feed(x, 0, Probe.list(126)));
        Probe.due("it is not bad", 0, x.count(1, Probe.BAD));
        Probe.due("marks alone", 0, Probe.feed(x, 0, Probe.row(50, 126)));
        Probe.due("they are not bad", 0, x.count(1, Probe.BAD));
        Probe.tell(x, 0, 2, 1, 2);
        Probe.feed(x, 0, Probe.list(126));
        Probe.due("a mark behind a packet is not bad", 0, x.count(1, Probe.BAD));
        Probe.feed(x, 0, Probe.list(9, 126));
        Probe.due("one byte is bad", 1, x.count(1, Probe.BAD));
        Probe.feed(x, 0, Probe.list(126));
        Probe.due("a mark behind what was bad is not", 1, x.count(1, Probe.BAD));
        Probe.due("nor is it good", 1, x.count(1, Probe.GOOD));
        bad("125 alone", Probe.list(126, 125, 126));
        bad("125 alone at the very start", Probe.list(125, 126));
        LineTalk y = new LineTalk();
        Probe.feed(y, 0, Probe.list(126, 125));
        Probe.due("125 alone shows as none gathered", 0, y.about(1, Probe.GATHERED));
        Probe.feed(y, 0, Probe.list(126, 125, 126));
        Probe.due("125 alone twice", 2, y.count(1, Probe.BAD));
    }

    private static void oneMarkBetweenTwo() {
        LineTalk x = new LineTalk();
        List<Integer> two = Probe.frame(Probe.list(2, 1, 2));
        two.addAll(Probe.frame(Probe.list(2, 3, 4)).subList(1, 7));
        Probe.due("one mark between two frames", 2, Probe.feed(x, 0, two));
        Probe.due("good behind good", 1, Probe.tell(x, 0, 2, 1, 2));
        Probe.due("bad behind good", 0, Probe.feed(x, 0, Probe.list(126, 9, 126)));
        Probe.due("good behind bad", 1, Probe.tell(x, 0, 2, 1, 2));
        Probe.due("bad in all", 1, x.count(1, Probe.BAD));
    }

    /**
     * "gathers the bytes that come out of a line to it", "At 126, what was gathered is a packet if ..; if not, it is
     * BAD": neither sentence asks for a mark ahead, so the first mark of all judges like any other.
     */
    private static void bytesAheadOfTheFirstMark() {
        good("no mark ahead", Probe.frame(Probe.list(2, 1, 2)).subList(1, 7));
        bad("rubbish ahead", Probe.list(1, 126));
        bad("four bytes ahead", Probe.frame(Probe.list(2, 7)).subList(1, 6));
        List<Integer> most = Probe.frame(Probe.join(Probe.list(2), Probe.times(37, 1)));
        good("forty bytes ahead", most.subList(1, most.size()));
        List<Integer> over = Probe.frame(Probe.join(Probe.list(2), Probe.times(38, 1)));
        bad("forty-one bytes ahead", over.subList(1, over.size()));
        LineTalk x = new LineTalk();
        Probe.put(x, 0, Probe.frame(Probe.list(2, 1, 2)));
        x.lose(0, 3);
        Probe.due("the rest of a frame", 0, x.pass(0, 300));
        Probe.due("the rest of a frame is bad", 1, x.count(1, Probe.BAD));
        Probe.due("a frame behind it", 1, Probe.tell(x, 0, 2, 1, 2));
    }

    /** Bytes ahead of the first mark are gathered at once, by either end, from either line. */
    private static void gatheredAheadOfTheFirstMark() {
        List<Integer> frame = Probe.frame(Probe.list(2, 1, 2));
        for (int line = 0; line < 2; line++) {
            for (int end = 0; end < 2; end++) {
                String what = "by line " + line + " to end " + end;
                LineTalk x = new LineTalk();
                x.loop(line, end == line);
                Probe.due(what + ", without a mark", 0, Probe.feed(x, line, frame.subList(1, 6)));
                Probe.due(what + ": gathered", 5, x.about(end, Probe.GATHERED));
                Probe.due(what + ": bad till then", 0, x.count(end, Probe.BAD));
                Probe.due(what + ", the mark", 1, Probe.feed(x, line, Probe.list(126)));
                Probe.due(what + ": gathered behind the mark", 0, x.about(end, Probe.GATHERED));
                Probe.due(what + ": good", 1, x.count(end, Probe.GOOD));
                Probe.due(what + ": bad", 0, x.count(end, Probe.BAD));
            }
        }
    }

    /** "More than 40 bytes gathered: all till the next 126 is bad": forty are a packet, plain and escaped. */
    private static void fortyAndNoMore() {
        good("39 bytes", Probe.frame(Probe.join(Probe.list(2), Probe.times(36, 1))));
        good("40 bytes", Probe.frame(Probe.join(Probe.list(2), Probe.times(37, 1))));
        bad("41 bytes", Probe.frame(Probe.join(Probe.list(2), Probe.times(38, 1))));
        good("40 bytes in 77 or more", Probe.frame(Probe.join(Probe.list(2), Probe.times(37, 125))));
        bad("41 bytes in 79 or more", Probe.frame(Probe.join(Probe.list(2), Probe.times(38, 125))));
        bad("80 bytes with a right check", Probe.frame(Probe.join(Probe.list(2), Probe.times(77, 1))));
        bad("41 bytes of control", Probe.frame(Probe.join(Probe.list(1, 99, 1), Probe.times(36, 1))));
        good("40 bytes of control", Probe.frame(Probe.join(Probe.list(1, 99, 1), Probe.times(35, 1))));
    }

    /** "all till the next 126 is bad (counted once, there)". */
    private static void overfullTillTheNextMark() {
        for (int n : new int[] {41, 42, 80, 81, 82, 250}) {
            LineTalk x = new LineTalk();
            List<Integer> frame = Probe.list(126);
            frame.addAll(Probe.row(n, 1));
            Probe.due("till the mark", 0, Probe.feed(x, 0, frame));
            Probe.due(n + " gathered show as", 40, x.about(1, Probe.GATHERED));
            Probe.due(n + " gathered: bad ahead of the mark", 0, x.count(1, Probe.BAD));
            Probe.feed(x, 0, Probe.list(126));
            Probe.due(n + " gathered: bad at the mark", 1, x.count(1, Probe.BAD));
            Probe.due("gathered behind the mark", 0, x.about(1, Probe.GATHERED));
            Probe.feed(x, 0, Probe.list(126));
            Probe.due(n + " gathered: counted once", 1, x.count(1, Probe.BAD));
            Probe.due("a packet behind it", 1, Probe.tell(x, 0, 2, 1, 2));
        }
        // What comes behind the forty-first is a packet by itself, but without a mark ahead of it.
        List<Integer> hidden = Probe.row(41, 1);
        hidden.addAll(Probe.frame(Probe.list(2, 1, 2)).subList(1, 7));
        bad("a packet behind 41 bytes", hidden);
        List<Integer> open = Probe.list(126);
        open.addAll(Probe.row(41, 1));
        open.addAll(Probe.list(125, 126));
        bad("41 bytes and a 125 alone are one", open);
    }

    /** The first 40 bytes are a packet, so only the forty-first makes it bad. */
    private static void overfullByAnEscapedByte() {
        List<Integer> whole = Probe.frame(Probe.join(Probe.list(2), new int[37]));
        good("forty good ones", whole);
        List<Integer> plain = Probe.join(whole);
        plain.add(plain.size() - 1, 5);
        bad("a byte behind forty good ones", plain);
        List<Integer> escaped = Probe.join(whole);
        escaped.add(escaped.size() - 1, 125);
        escaped.add(escaped.size() - 1, 5);
        bad("an escaped byte behind forty good ones", escaped);
    }

    /** Promise 14: "how many are gathered (125 and the byte behind it are one, when that came; 40 at most)". */
    private static void gatheredIsCounted() {
        LineTalk x = new LineTalk();
        int[] bytes = {126, 1, 125, 94, 125, 125, 2, 125, 126, 3};
        int[] gathered = {0, 1, 1, 2, 2, 3, 4, 4, 0, 1};
        for (int i = 0; i < bytes.length; i++) {
            Probe.feed(x, 1, Probe.list(bytes[i]));
            Probe.due("gathered at " + i, gathered[i], x.about(0, Probe.GATHERED));
        }
        Probe.feed(x, 1, Probe.row(38, 0));
        Probe.due("gathered", 39, x.about(0, Probe.GATHERED));
        Probe.feed(x, 1, Probe.list(125));
        Probe.due("gathered with a 125 that waits", 39, x.about(0, Probe.GATHERED));
        Probe.feed(x, 1, Probe.list(1));
        Probe.due("the byte behind it", 40, x.about(0, Probe.GATHERED));
        Probe.feed(x, 1, Probe.list(1));
        Probe.due("gathered at most", 40, x.about(0, Probe.GATHERED));
        Probe.due("the other end's", 0, x.about(1, Probe.GATHERED));
    }

    private static void gatheredStaysThroughEvents() {
        LineTalk x = Probe.in(0, 9);
        List<Integer> frame = Probe.frame(Probe.list(2, 1, 126));
        Probe.feed(x, 1, frame.subList(0, 4));
        x.event(0, Probe.DOWN);
        x.event(0, Probe.UP);
        x.tick(3);
        Probe.due("gathered", 2, x.about(0, Probe.GATHERED));
        Probe.due("the rest of the frame", 1, Probe.feed(x, 1, frame.subList(4, frame.size())));
    }

    private static void oneReceiverForTwoLines() {
        LineTalk x = new LineTalk();
        List<Integer> frame = Probe.frame(Probe.list(2, 1, 2));
        x.loop(0, true);
        Probe.feed(x, 0, frame.subList(0, 3));
        Probe.due("half by the looped line", 2, x.about(0, Probe.GATHERED));
        Probe.due("the other half by line 1", 1, Probe.feed(x, 1, frame.subList(3, frame.size())));
        Probe.due("good at end 0", 1, x.count(0, Probe.GOOD));
    }

    private static void loopTurnedInMidFrame() {
        LineTalk x = new LineTalk();
        Probe.put(x, 1, Probe.frame(Probe.list(2, 1, 2)));
        x.pass(1, 3);
        x.loop(1, true);
        x.pass(1, 300);
        Probe.due("gathered at end 0", 2, x.about(0, Probe.GATHERED));
        Probe.due("bad at end 1", 1, x.count(1, Probe.BAD));
        Probe.due("bad at end 0", 0, x.count(0, Probe.BAD));
    }

    /** "A PROTOCOL (1 control, 2 data)", "Any other protocol is bad." */
    private static void protocols() {
        for (int protocol = 0; protocol < 256; protocol++) {
            List<Integer> frame = Probe.frame(Probe.list(protocol, 5, 3));
            if (protocol == 1 || protocol == 2) {
                good("protocol " + protocol, frame);
            } else {
                bad("protocol " + protocol, frame);
            }
        }
    }

    /** "for data, its contents (2 bytes at least)". */
    private static void dataOfTwoAtLeast() {
        bad("data without contents", Probe.frame(Probe.list(2)));
        bad("one byte of data", Probe.frame(Probe.list(2, 7)));
        for (int n = 2; n <= 37; n++) {
            good(n + " bytes of data", Probe.frame(data(n, 1)));
        }
        bad("38 bytes of data", Probe.frame(data(38, 1)));
        LineTalk x = Probe.open();
        Probe.tell(x, 0, 2, 7);
        Probe.due("one byte is not kept", 0, x.count(1, Probe.KEPT));
        Probe.tell(x, 0, 2, 7, 8);
        Probe.due("two are", 1, x.count(1, Probe.KEPT));
    }

    /** "5 END, 6 ENDED without contents; 7 UNKNOWN with one byte ..", "any bytes too many or missing". */
    private static void contentsByCode() {
        for (int code = 0; code < 256; code++) {
            for (int n = 0; n <= 6; n++) {
                boolean fits = code == 5 || code == 6 ? n == 0
                        : code == 7 ? n == 1
                        : code == 9 || code == 10 ? n == 4
                        : code < 1 || code > 4 || n == 0 || n == 2;
                // Types 32, 32, .. come twice as soon as there are four bytes.
                List<Integer> frame = Probe.frame(Probe.join(Probe.list(1, code, 1), Probe.times(n, 32)));
                if (fits) {
                    good("code " + code + " with " + n, frame);
                } else {
                    bad("code " + code + " with " + n, frame);
                }
            }
        }
    }

    /** "type 1 SIZE and two bytes, type 5 NUMBER and four bytes ..; any other type has one byte", "cut off". */
    private static void optionsCutOff() {
        for (int code = 1; code <= 4; code++) {
            good("none", Probe.frame(Probe.list(1, code, 1)));
            for (int type = 0; type < 256; type++) {
                int whole = type == 1 ? 2 : type == 5 ? 4 : 1;
                for (int n = 0; n <= whole; n++) {
                    List<Integer> alone = Probe.frame(Probe.join(Probe.list(1, code, 1, type), Probe.times(n, 77)));
                    int ahead = type == 200 ? 201 : 200;
                    List<Integer> second = Probe.frame(Probe.join(Probe.list(1, code, 1, ahead, 1, type), Probe.times(n, 77)));
                    if (n == whole) {
                        good("type " + type + " of code " + code, alone);
                        good("type " + type + " behind another", second);
                    } else {
                        bad("type " + type + " with " + n, alone);
                        bad("type " + type + " behind another with " + n, second);
                    }
                }
                bad("type " + type + " and a byte too many", Probe.frame(Probe.join(Probe.list(1, code, 1, type), Probe.times(whole + 1, 77))));
            }
            good("all", Probe.frame(Probe.list(1, code, 1, 9, 1, 5, 1, 1, 1, 1, 1, 5, 5, 4, 4)));
        }
    }

    /** "a type that comes twice". */
    private static void optionsTwice() {
        for (int code = 1; code <= 4; code++) {
            bad("size twice", Probe.frame(Probe.list(1, code, 1, 1, 5, 5, 1, 5, 5)));
            bad("number twice", Probe.frame(Probe.list(1, code, 1, 5, 0, 0, 0, 1, 9, 9, 5, 0, 0, 0, 2)));
            bad("other twice", Probe.frame(Probe.list(1, code, 1, 7, 1, 7, 1)));
            bad("other twice with others between", Probe.frame(Probe.list(1, code, 1, 7, 1, 8, 2, 7, 3)));
            bad("the last two", Probe.frame(Probe.list(1, code, 1, 1, 5, 5, 8, 2, 8, 3)));
            // A byte of an option is no type, though it looks like one.
            good("a byte like a type", Probe.frame(Probe.list(1, code, 1, 7, 8, 8, 7)));
            good("size's bytes like types", Probe.frame(Probe.list(1, code, 1, 1, 1, 5, 5, 1, 5, 1, 5)));
        }
    }

    private static void asManyOptionsAsFit() {
        for (int code = 1; code <= 4; code++) {
            List<Integer> most = new ArrayList<>(Probe.list(1, code, 1));
            for (int type = 20; type < 37; type++) {
                most.add(type);
                most.add(20);
            }
            good("seventeen of them", Probe.frame(most));
            bad("and a type alone", Probe.frame(Probe.join(most, 40)));
            bad("eighteen of them", Probe.frame(Probe.join(most, 40, 1)));
            most.set(most.size() - 2, 20);
            bad("the last like the first", Probe.frame(most));
        }
    }

    private static void good(String what, List<Integer> bytes) {
        comes(what, bytes, 1);
    }

    private static void bad(String what, List<Integer> bytes) {
        comes(what, bytes, 0);
    }

    private static void comes(String what, List<Integer> bytes, int good) {
        LineTalk x = new LineTalk();
        Probe.due(what + ": pass", good, Probe.feed(x, 0, bytes));
        Probe.due(what + ": good", good, x.count(1, Probe.GOOD));
        Probe.due(what + ": bad", 1 - good, x.count(1, Probe.BAD));
        Probe.due(what + ": at the other end", 0, x.count(0, Probe.GOOD) + x.count(0, Probe.BAD));
    }
}
