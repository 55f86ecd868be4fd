import java.util.List;

/** Requests, the answers to them, what makes an answer right and what it changes, and suspicions. */
public final class OptionsTest {
    private static final int OWN = 0x12345678;

    public static void main(String[] args) {
        requestsSayWhatIsNotUsual();
        idsGoRound();
        answersToRequests();
        rejectOutdoesNakOutdoesAck();
        answersToNumbers();
        suspicions();
        rightAcks();
        rightNaks();
        rejects();
        beforeAnyRequest();
        whatIsNotRightIsBad();
        answersInStatesWithoutRequests();
        talkingToOneself();
        Probe.end();
    }

    private static void requestsSayWhatIsNotUsual() {
        asks(1500, 0, Probe.list(1, 1, 1));
        asks(1499, 0, Probe.list(1, 1, 1, 1, 5, 219));
        asks(64, 0, Probe.list(1, 1, 1, 1, 0, 64));
        asks(1500, 1, Probe.list(1, 1, 1, 5, 0, 0, 0, 1));
        asks(1500, -1, Probe.list(1, 1, 1, 5, 255, 255, 255, 255));
        asks(300, OWN, Probe.list(1, 1, 1, 1, 1, 44, 5, 18, 52, 86, 120));
    }

    private static void asks(int size, int number, List<Integer> request) {
        for (int end = 0; end < 2; end++) {
            LineTalk x = new LineTalk();
            x.set(end, size, 64, number);
            x.event(end, Probe.UP);
            x.event(end, Probe.OPEN);
            Probe.due("request by size " + size + ", number " + number, List.of(request), Probe.heard(x, end));
        }
    }

    /** One row of ids for all that an end begins by itself: echoes, refusals, requests, ends. */
    private static void idsGoRound() {
        LineTalk x = Probe.open();
        Probe.due("the request's id", 1, x.about(0, Probe.ID));
        for (int i = 2; i <= 258; i++) {
            int id = i % 256;
            if (i % 2 == 0) {
                Probe.due("echo " + i, id, x.echo(0));
            } else {
                Probe.tell(x, 1, 1, 99, 7);
            }
            Probe.due("id", id, x.about(0, Probe.ID));
            Probe.due("sent with it", id, Probe.heard(x, 0).get(0).get(2));
        }
        x.event(0, Probe.CLOSE);
        Probe.due("END", List.of(Probe.list(1, Probe.END, 3)), Probe.heard(x, 0));
        Probe.tell(x, 1, 1, Probe.END, 200);
        Probe.due("an answer takes no id", 3, x.about(0, Probe.ID));
    }

    private static LineTalk asking(int size, int least, int number) {
        LineTalk x = new LineTalk();
        x.set(0, size, least, number);
        x.event(0, Probe.UP);
        x.event(0, Probe.OPEN);
        x.lose(0, 300);
        return x;
    }

    private static void answers(String what, LineTalk x, List<Integer> request, List<Integer> answer) {
        Probe.due(what + ": not bad", 1, Probe.tell(x, 1, request));
        Probe.due(what + ": answer", List.of(answer), Probe.heard(x, 0));
        Probe.due(what + ": state", answer.get(1) == Probe.ACK ? 8 : 6, x.about(0, Probe.STATE));
    }

    private static void answersToRequests() {
        answers("empty", asking(1500, 64, 0), Probe.list(1, 1, 0), Probe.list(1, 2, 0));
        answers("size at the least", asking(1500, 300, 0), Probe.list(1, 1, 9, 1, 1, 44), Probe.list(1, 2, 9, 1, 1, 44));
        answers("size below it", asking(1500, 300, 0), Probe.list(1, 1, 9, 1, 1, 43), Probe.list(1, 3, 9, 1, 1, 44));
        answers("size 0", asking(1500, 64, 0), Probe.list(1, 1, 9, 1, 0, 0), Probe.list(1, 3, 9, 1, 0, 64));
        answers("the greatest size", asking(1500, 1500, 0), Probe.list(1, 1, 9, 1, 255, 255), Probe.list(1, 2, 9, 1, 255, 255));
        answers("both, in their order", asking(1500, 64, 0), Probe.list(1, 1, 9, 5, 0, 0, 0, 7, 1, 1, 0),
                Probe.list(1, 2, 9, 5, 0, 0, 0, 7, 1, 1, 0));
        // Marks and escapes within the options.
        answers("escapes", asking(1500, 64, 0), Probe.list(1, 1, 125, 5, 125, 126, 125, 126, 1, 126, 126),
                Probe.list(1, 2, 125, 5, 125, 126, 125, 126, 1, 126, 126));
    }

    private static void rejectOutdoesNakOutdoesAck() {
        answers("all three kinds", asking(1500, 64, OWN),
                Probe.list(1, 1, 9, 200, 1, 1, 0, 1, 0, 5, 5, 0, 0, 0, 7, 2, 2), Probe.list(1, 4, 9, 200, 1, 0, 5, 2, 2));
        answers("only the number is not good", asking(1500, 64, OWN),
                Probe.list(1, 1, 9, 1, 1, 0, 5, 0, 0, 0, 0), Probe.join(Probe.list(1, 3, 9, 5), next(OWN)));
        answers("only the size is not good", asking(1500, 64, OWN),
                Probe.list(1, 1, 9, 5, 0, 0, 0, 1, 1, 0, 63), Probe.list(1, 3, 9, 1, 0, 64));
        answers("neither is good", asking(1500, 64, OWN),
                Probe.list(1, 1, 9, 5, 18, 52, 86, 120, 1, 0, 63), Probe.join(Probe.join(Probe.list(1, 3, 9, 5), next(OWN)), 1, 0, 64));
        List<Integer> many = Probe.list(1, 1, 9);
        for (int type = 20; type < 37; type++) {
            many = Probe.join(many, type, 126);
        }
        List<Integer> rejected = Probe.join(many);
        rejected.set(1, 4);
        answers("as many as a packet takes", asking(1500, 64, 0), many, rejected);
    }

    private static int[] next(int own) {
        return Probe.four((int) (own * 1103515245L + 12345L));
    }

    private static void answersToNumbers() {
        int[] owns = {0, 1, -1, OWN, Integer.MIN_VALUE, Integer.MAX_VALUE, 77};
        for (int own : owns) {
            answers("number 0 to " + own, asking(1500, 64, own), Probe.list(1, 1, 3, 5, 0, 0, 0, 0), Probe.join(Probe.list(1, 3, 3, 5), next(own)));
            List<Integer> same = Probe.join(Probe.list(1, 1, 3, 5), Probe.four(own));
            answers("its own number to " + own, asking(1500, 64, own), same, Probe.join(Probe.list(1, 3, 3, 5), next(own)));
            List<Integer> another = Probe.join(Probe.list(1, 1, 3, 5), Probe.four(own ^ 2));
            List<Integer> ack = Probe.join(Probe.list(1, 2, 3, 5), Probe.four(own ^ 2));
            answers("another number to " + own, asking(1500, 64, own), another, ack);
        }
    }

    private static void suspicions() {
        for (int state = 0; state <= 9; state++) {
            LineTalk x = new LineTalk();
            x.set(0, 1500, 64, OWN);
            Probe.bring(x, 0, state);
            int seen = state < 2 ? 0 : 1;
            Probe.tell(x, 1, Probe.join(Probe.list(1, Probe.ECHO, 1), Probe.four(OWN)));
            Probe.due("suspicion by an echo in state " + state, seen, x.count(0, Probe.SUSPICIONS));
            Probe.tell(x, 1, Probe.join(Probe.list(1, Probe.REPLY, 1), Probe.four(OWN)));
            Probe.tell(x, 1, Probe.join(Probe.list(1, Probe.ECHO, 1), Probe.four(OWN + 1)));
            Probe.due("none by a reply or another number in state " + state, seen, x.count(0, Probe.SUSPICIONS));
            Probe.tell(x, 1, Probe.join(Probe.list(1, Probe.REQUEST, 1, 5), Probe.four(OWN)));
            Probe.due("suspicion by a request in state " + state, 2 * seen, x.count(0, Probe.SUSPICIONS));
        }
        LineTalk x = asking(1500, 64, 0);
        Probe.tell(x, 1, 1, Probe.ECHO, 1, 0, 0, 0, 0);
        Probe.tell(x, 1, 1, Probe.REQUEST, 1, 5, 0, 0, 0, 0);
        Probe.due("0 is none", 0, x.count(0, Probe.SUSPICIONS));
        LineTalk y = asking(1500, 64, OWN);
        Probe.tell(y, 1, Probe.join(Probe.list(1, Probe.REQUEST, 1, 88, 88, 5), Probe.four(OWN)));
        Probe.due("beside an option that is rejected", 1, y.count(0, Probe.SUSPICIONS));
        Probe.tell(y, 1, Probe.join(Probe.list(1, Probe.NAK, 1, 5), Probe.four(OWN)));
        Probe.due("none by a NAK", 1, y.count(0, Probe.SUSPICIONS));
        Probe.tell(y, 1, Probe.join(Probe.list(1, Probe.REJECT, 2, 5), Probe.four(OWN)));
        Probe.due("none by a REJECT", 1, y.count(0, Probe.SUSPICIONS));
    }

    private static void rightAcks() {
        int[] own = Probe.four(OWN);
        ack("as asked", 1, Probe.join(Probe.list(1, 2, 1, 1, 1, 44, 5), own));
        ack("another id", 0, Probe.join(Probe.list(1, 2, 2, 1, 1, 44, 5), own));
        ack("another order", 0, Probe.join(Probe.join(Probe.list(1, 2, 1, 5), own), 1, 1, 44));
        ack("another size", 0, Probe.join(Probe.list(1, 2, 1, 1, 1, 45, 5), own));
        ack("another number", 0, Probe.join(Probe.list(1, 2, 1, 1, 1, 44, 5), Probe.four(OWN + 1)));
        ack("one missing", 0, Probe.list(1, 2, 1, 1, 1, 44));
        ack("all missing", 0, Probe.list(1, 2, 1));
        ack("one too many", 0, Probe.join(Probe.join(Probe.list(1, 2, 1, 1, 1, 44, 5), own), 9, 9));

        LineTalk x = asking(300, 64, OWN);
        x.tick(3);
        Probe.due("ACK to a request that is not the latest", 0, Probe.tell(x, 1, Probe.join(Probe.list(1, 2, 1, 1, 1, 44, 5), own)));
        Probe.due("ACK to the latest", 1, Probe.tell(x, 1, Probe.join(Probe.list(1, 2, 2, 1, 1, 44, 5), own)));
        x.lose(0, 300);
        Probe.tell(x, 1, 1, 99, 1);
        Probe.due("the latest id is no more the request's", 3, x.about(0, Probe.ID));
        Probe.due("ACK by the latest id", 0, Probe.tell(x, 1, Probe.join(Probe.list(1, 2, 3, 1, 1, 44, 5), own)));
        Probe.due("ACK by the latest request's", 1, Probe.tell(x, 1, Probe.join(Probe.list(1, 2, 2, 1, 1, 44, 5), own)));
    }

    private static void ack(String what, int right, List<Integer> packet) {
        LineTalk x = asking(300, 64, OWN);
        Probe.due("ACK " + what, right, Probe.tell(x, 1, packet));
        Probe.due("ACK " + what + ": bad", 1 - right, x.count(0, Probe.BAD));
        Probe.due("ACK " + what + ": state", right == 1 ? 7 : 6, x.about(0, Probe.STATE));
        Probe.due("ACK " + what + ": sends", List.of(), Probe.heard(x, 0));
    }

    private static void rightNaks() {
        nak(Probe.list(1, 3, 1), 300, OWN);
        nak(Probe.list(1, 3, 1, 1, 0, 64), 64, OWN);
        nak(Probe.list(1, 3, 1, 1, 0, 63), 300, OWN);
        nak(Probe.list(1, 3, 1, 1, 5, 220), 1500, OWN);
        nak(Probe.list(1, 3, 1, 1, 5, 221), 300, OWN);
        nak(Probe.list(1, 3, 1, 1, 255, 255), 300, OWN);
        nak(Probe.list(1, 3, 1, 5, 0, 0, 0, 0), 300, 0);
        nak(Probe.list(1, 3, 1, 5, 255, 254, 253, 252), 300, 0xFFFEFDFC);
        nak(Probe.list(1, 3, 1, 9, 9, 5, 0, 0, 1, 0, 1, 2, 0, 4, 4), 512, 256);
        for (int b = 0; b < 256; b++) {
            nak(Probe.list(1, 3, 1, 7, b), 300, OWN);
        }
    }

    private static void nak(List<Integer> packet, int size, int number) {
        LineTalk x = asking(300, 64, OWN);
        Probe.due(packet + ": right", 1, Probe.tell(x, 1, packet));
        Probe.due(packet + ": size", size, x.about(0, Probe.SIZE));
        Probe.due(packet + ": number", number, x.about(0, Probe.NUMBER));
        Probe.due(packet + ": asks", 3, x.about(0, Probe.ASKS));
        List<Integer> request = Probe.list(1, 1, 2);
        request = size == 1500 ? request : Probe.join(request, 1, size >> 8, size & 255);
        request = number == 0 ? request : Probe.join(Probe.join(request, 5), Probe.four(number));
        Probe.due(packet + ": asks anew", List.of(request), Probe.heard(x, 0));
    }

    private static void rejects() {
        reject(Probe.list(1, 4, 1), 3, Probe.list(1, 1, 2, 1, 1, 44, 5, 18, 52, 86, 120));
        reject(Probe.list(1, 4, 1, 1, 9, 9), 2, Probe.list(1, 1, 2, 5, 18, 52, 86, 120));
        reject(Probe.list(1, 4, 1, 5, 9, 9, 9, 9), 1, Probe.list(1, 1, 2, 1, 1, 44));
        reject(Probe.list(1, 4, 1, 5, 9, 9, 9, 9, 7, 7, 1, 9, 9), 0, Probe.list(1, 1, 2));
        // Whatever the check is behind the options, even the type of one, it is none of them.
        for (int b = 0; b < 256; b++) {
            reject(Probe.list(1, 4, 1, 7, b), 3, Probe.list(1, 1, 2, 1, 1, 44, 5, 18, 52, 86, 120));
        }
    }

    private static void reject(List<Integer> packet, int asks, List<Integer> request) {
        LineTalk x = asking(300, 64, OWN);
        Probe.due(packet + ": right", 1, Probe.tell(x, 1, packet));
        Probe.due(packet + ": asks", asks, x.about(0, Probe.ASKS));
        Probe.due(packet + ": size stays", 300, x.about(0, Probe.SIZE));
        Probe.due(packet + ": number stays", OWN, x.about(0, Probe.NUMBER));
        Probe.due(packet + ": asks anew", List.of(request), Probe.heard(x, 0));
        // What is asked for no more is not asked for by a later set() either.
        x.event(0, Probe.CLOSE);
        x.tick(20);
        x.set(0, 400, 64, 5);
        Probe.due(packet + ": still asks", asks, x.about(0, Probe.ASKS));
    }

    private static void beforeAnyRequest() {
        for (int code = 2; code <= 4; code++) {
            LineTalk x = new LineTalk();
            x.event(0, Probe.UP);
            Probe.due("code " + code + " without a request", 0, Probe.tell(x, 1, 1, code, 0));
            Probe.due("code " + code + " without a request: bad", 1, x.count(0, Probe.BAD));
            Probe.due("code " + code + " without a request: sends", 0, x.about(0, Probe.ON_LINE));
        }
    }

    private static void whatIsNotRightIsBad() {
        for (int state = 0; state <= 9; state++) {
            for (int code = 2; code <= 4; code++) {
                LineTalk x = Probe.in(0, state);
                String what = "code " + code + " with a wrong id in state " + state;
                int right = state < 2 ? 1 : 0;
                Probe.due(what, right, Probe.tell(x, 1, 1, code, 150, 5, 0, 0, 0, 9, 1, 1, 0));
                Probe.due(what + ": good", right + (state >= 7 ? state == 9 ? 2 : 1 : 0), x.count(0, Probe.GOOD));
                Probe.due(what + ": bad", 1 - right, x.count(0, Probe.BAD));
                Probe.due(what + ": number", 0, x.about(0, Probe.NUMBER));
                Probe.due(what + ": size", 1500, x.about(0, Probe.SIZE));
                Probe.due(what + ": asks", 3, x.about(0, Probe.ASKS));
                Probe.due(what + ": state", state, x.about(0, Probe.STATE));
                Probe.due(what + ": sends", 0, x.about(0, Probe.ON_LINE));
            }
        }
    }

    /** In the states 2 to 5 no request follows, but a NAK or REJECT changes what it changes all the same. */
    private static void answersInStatesWithoutRequests() {
        for (int state = 2; state <= 5; state++) {
            int latest = state == 3 ? 5 : 1;
            LineTalk x = Probe.in(0, state);
            Probe.due("NAK", 1, Probe.tell(x, 1, 1, 3, latest, 1, 1, 0, 5, 0, 0, 1, 0));
            Probe.due("NAK in state " + state + ": size", 256, x.about(0, Probe.SIZE));
            Probe.due("NAK in state " + state + ": number", 256, x.about(0, Probe.NUMBER));
            Probe.due("REJECT", 1, Probe.tell(x, 1, 1, 4, latest, 1, 1, 0));
            Probe.due("REJECT in state " + state + ": asks", 2, x.about(0, Probe.ASKS));
        }
    }

    /** A looped line: an end hears its own number, and answers with one that it then takes. */
    private static void talkingToOneself() {
        LineTalk x = new LineTalk();
        x.set(1, 1500, 64, OWN);
        x.loop(1, true);
        x.event(1, Probe.UP);
        x.event(1, Probe.OPEN);
        int length = x.about(1, Probe.ON_LINE);
        Probe.due("its own request", 1, x.pass(1, length));
        Probe.due("suspicion", 1, x.count(1, Probe.SUSPICIONS));
        Probe.due("its own NAK", 1, x.pass(1, x.about(1, Probe.ON_LINE)));
        Probe.due("its number", (int) (OWN * 1103515245L + 12345L), x.about(1, Probe.NUMBER));
        Probe.due("end 0 hears nothing", 0, x.count(0, Probe.GOOD) + x.count(0, Probe.BAD));
    }
}
