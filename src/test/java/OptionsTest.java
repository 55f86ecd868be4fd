import java.util.List;

/** Requests, ids, answers, what makes an answer right and what it changes, and suspicions: sentence by sentence. */
public final class OptionsTest {
    private static final int OWN = 0x12345678;

    public static void main(String[] args) {
        requestsWithoutWhatIsUsual();
        requestsWithoutWhatIsRejected();
        idsGoRound();
        idsOfAnswersAreNotItsOwn();
        requestsWithTheIdsRoundTheTurn();
        goodSizes();
        goodNumbers();
        numberOfANakWraps();
        answersHaveTheRequestsId();
        answersWithAll();
        rejectOutdoesNakOutdoesAck();
        suspicionsByState();
        suspicionsByNumber();
        rightAcks();
        ackToTheLatestRequestAlone();
        ackToWhatWasAskedThen();
        rightNaks();
        nakOfWhatIsNotAsked();
        rejects();
        beforeAnyRequest();
        rightByTheStateItCameIn();
        latestRequestStays();
        whatIsNotRightIsBad();
        answersInStatesWithoutRequests();
        talkingToOneself();
        Probe.end();
    }

    /** "with its SIZE, if it asks for it and it is not 1500, then its NUMBER, if it asks for it and it is not 0". */
    private static void requestsWithoutWhatIsUsual() {
        asks(1500, 0, Probe.list(1, 1, 1));
        asks(1499, 0, Probe.list(1, 1, 1, 1, 5, 219));
        asks(64, 0, Probe.list(1, 1, 1, 1, 0, 64));
        asks(1500, 1, Probe.list(1, 1, 1, 5, 0, 0, 0, 1));
        asks(1500, -1, Probe.list(1, 1, 1, 5, 255, 255, 255, 255));
        asks(1500, Integer.MIN_VALUE, Probe.list(1, 1, 1, 5, 128, 0, 0, 0));
        asks(1500, Integer.MAX_VALUE, Probe.list(1, 1, 1, 5, 127, 255, 255, 255));
        asks(300, OWN, Probe.list(1, 1, 1, 1, 1, 44, 5, 18, 52, 86, 120));
    }

    private static void asks(int size, int number, List<Integer> request) {
        for (int end = 0; end < 2; end++) {
            LineTalk x = new LineTalk();
            x.set(end, size, 64, number);
            x.event(end, Probe.UP);
            x.event(end, Probe.OPEN);
            Probe.due("request by size " + size + ", number " + number, List.of(request), Probe.heard(x, end));
        }
    }

    /** "if it asks for it": behind a REJECT each of both is told no more, by later requests and another set() too. */
    private static void requestsWithoutWhatIsRejected() {
        int[][] rejected = {{}, {1, 0, 0}, {5, 0, 0, 0, 0}, {1, 0, 0, 5, 0, 0, 0, 0}};
        for (int i = 0; i < 4; i++) {
            LineTalk x = asking(300, 64, OWN);
            Probe.tell(x, 1, Probe.join(Probe.list(1, Probe.REJECT, 1), rejected[i]));
            x.event(0, Probe.CLOSE);
            x.tick(20);
            x.lose(0, 300);
            x.set(0, 301, 64, 7);
            Probe.due("asks", 3 - i, x.about(0, Probe.ASKS));
            int id = x.about(0, Probe.ID) + 1;
            x.event(0, Probe.OPEN);
            List<Integer> request = Probe.list(1, Probe.REQUEST, id);
            request = i % 2 == 0 ? Probe.join(request, 1, 1, 45) : request;
            request = i < 2 ? Probe.join(request, 5, 0, 0, 0, 7) : request;
            Probe.due("request behind REJECT " + i, List.of(request), Probe.heard(x, 0));
        }
    }

    /** "ids: 1, 2, .., 255, 0, 1, ..; one row of them for all packets that an end begins by itself". */
    private static void idsGoRound() {
        LineTalk x = Probe.in(0, 9);
        Probe.due("the request's id", 1, x.about(0, Probe.ID));
        // The line is full soon, but an echo that is lost has its id all the same.
        for (int id = 2; id <= 253; id++) {
            Probe.due("echo", id, x.echo(0));
        }
        x.lose(0, 300);
        Probe.tell(x, 1, 1, 99, 7);
        Probe.due("UNKNOWN", List.of(Probe.list(1, Probe.UNKNOWN, 254, 99)), Probe.heard(x, 0));
        Probe.due("echo", 255, x.echo(0));
        Probe.due("the latest id", 255, x.about(0, Probe.ID));
        Probe.due("the echo's frame", List.of(Probe.list(1, Probe.ECHO, 255, 0, 0, 0, 0)), Probe.heard(x, 0));
        Probe.due("the next one's", 0, x.echo(0));
        Probe.due("the latest id", 0, x.about(0, Probe.ID));
        Probe.due("its frame", List.of(Probe.list(1, Probe.ECHO, 0, 0, 0, 0, 0)), Probe.heard(x, 0));
        x.event(0, Probe.CLOSE);
        Probe.due("END", List.of(Probe.list(1, Probe.END, 1)), Probe.heard(x, 0));
        x.tick(3);
        Probe.due("END once more", List.of(Probe.list(1, Probe.END, 2)), Probe.heard(x, 0));
        Probe.due("the other end has a row of its own", 0, x.about(1, Probe.ID));
    }

    /** "with the request's id", "with the id of the packet that came", "with the id that came": no id is taken. */
    private static void idsOfAnswersAreNotItsOwn() {
        LineTalk x = Probe.in(0, 6);
        Probe.tell(x, 1, 1, Probe.REQUEST, 40);
        Probe.tell(x, 1, 1, Probe.REQUEST, 41, 1, 0, 0);
        Probe.tell(x, 1, 1, Probe.REQUEST, 42, 9, 9);
        Probe.tell(x, 1, 1, Probe.END, 43);
        Probe.due("ACK, NAK, REJECT, ENDED", List.of(Probe.list(1, Probe.ACK, 40), Probe.list(1, Probe.NAK, 41, 1, 0, 64),
                Probe.list(1, Probe.REJECT, 42, 9, 9), Probe.list(1, Probe.ENDED, 43)), Probe.heard(x, 0));
        Probe.due("they take no id", 1, x.about(0, Probe.ID));
        LineTalk y = Probe.in(0, 9);
        Probe.tell(y, 1, 1, Probe.ECHO, 44, 0, 0, 0, 0);
        y.send(0, 2, 2);
        Probe.due("REPLY, data", List.of(Probe.list(1, Probe.REPLY, 44, 0, 0, 0, 0), Probe.list(2, 2, 3)), Probe.heard(y, 0));
        Probe.due("they take no id", 1, y.about(0, Probe.ID));
    }

    /** The latest request has the id 255, 0 or 1: an ACK with it is right, with its neighbours not. */
    private static void requestsWithTheIdsRoundTheTurn() {
        for (int id = 255; id <= 257; id++) {
            LineTalk x = Probe.in(0, 9);
            for (int i = 2; i < id; i++) {
                x.echo(0);
            }
            x.event(0, Probe.DOWN);
            x.lose(0, 300);
            x.event(0, Probe.UP);
            Probe.due("request", List.of(Probe.list(1, Probe.REQUEST, id % 256)), Probe.heard(x, 0));
            Probe.due("ACK with the id ahead", 0, Probe.tell(x, 1, 1, Probe.ACK, (id - 1) % 256));
            Probe.due("ACK with the id behind", 0, Probe.tell(x, 1, 1, Probe.ACK, (id + 1) % 256));
            Probe.due("ACK with the id " + id % 256, 1, Probe.tell(x, 1, 1, Probe.ACK, id % 256));
            Probe.due("state", 7, x.about(0, Probe.STATE));
        }
    }

    private static LineTalk asking(int size, int least, int number) {
        LineTalk x = new LineTalk();
        x.set(0, size, least, number);
        x.event(0, Probe.UP);
        x.event(0, Probe.OPEN);
        x.lose(0, 300);
        return x;
    }

    private static void answers(String what, LineTalk x, List<Integer> request, List<Integer> answer) {
        Probe.due(what + ": not bad", 1, Probe.tell(x, 1, request));
        Probe.due(what + ": answer", List.of(answer), Probe.heard(x, 0));
        Probe.due(what + ": state", answer.get(1) == Probe.ACK ? 8 : 6, x.about(0, Probe.STATE));
    }

    /** "GOOD if each option is: SIZE not less than the least", which an end's own size does not bear on. */
    private static void goodSizes() {
        for (int least : new int[] {64, 65, 255, 256, 257, 1499, 1500}) {
            for (int size : new int[] {0, 63, least - 1, least, least + 1, 1500, 1501, 65535}) {
                int[] option = {1, size >> 8, size & 255};
                for (int own = 64; own <= 1500; own += 1436) {
                    List<Integer> request = Probe.join(Probe.list(1, Probe.REQUEST, 9), option);
                    List<Integer> ack = Probe.join(Probe.list(1, Probe.ACK, 9), option);
                    List<Integer> nak = Probe.list(1, Probe.NAK, 9, 1, least >> 8, least & 255);
                    answers("size " + size + " where " + least + " is the least", asking(own, least, 0), request, size >= least ? ack : nak);
                }
            }
        }
    }

    /** "NUMBER not 0, and not the end's own". */
    private static void goodNumbers() {
        int[] owns = {0, 1, -1, OWN, Integer.MIN_VALUE, Integer.MAX_VALUE, 77};
        for (int own : owns) {
            for (int told : new int[] {0, own, own + 1, own - 1, own ^ 1 << 31, own ^ 1 << 16, own ^ 1 << 8}) {
                List<Integer> request = Probe.join(Probe.list(1, Probe.REQUEST, 3, 5), Probe.four(told));
                List<Integer> ack = Probe.join(Probe.list(1, Probe.ACK, 3, 5), Probe.four(told));
                List<Integer> nak = Probe.join(Probe.list(1, Probe.NAK, 3, 5), next(own));
                answers(told + " told to " + own, asking(1500, 64, own), request, told != 0 && told != own ? ack : nak);
            }
        }
    }

    private static int[] next(int own) {
        return Probe.four((int) (own * 1103515245L + 12345L));
    }

    /** "NUMBER with own * 1103515245 + 12345 (wrapping)": some of them written out. */
    private static void numberOfANakWraps() {
        int[][] known = {{0, 12345}, {1, 1103527590}, {-1, -1103502900}, {2, -2087924461}, {5, 1222621274},
            {Integer.MIN_VALUE, -2147471303}, {Integer.MAX_VALUE, 1043980748}};
        for (int[] one : known) {
            answers("NAK by " + one[0], asking(1500, 64, one[0]), Probe.list(1, Probe.REQUEST, 3, 5, 0, 0, 0, 0),
                    Probe.join(Probe.list(1, Probe.NAK, 3, 5), Probe.four(one[1])));
        }
    }

    private static void answersHaveTheRequestsId() {
        for (int id : new int[] {0, 1, 125, 126, 127, 255}) {
            answers("ACK " + id, asking(1500, 64, 0), Probe.list(1, 1, id), Probe.list(1, 2, id));
            answers("NAK " + id, asking(1500, 64, 0), Probe.list(1, 1, id, 1, 0, 63), Probe.list(1, 3, id, 1, 0, 64));
            answers("REJECT " + id, asking(1500, 64, 0), Probe.list(1, 1, id, 0, 0), Probe.list(1, 4, id, 0, 0));
        }
    }

    /** "else ACK with all", in the order in which they came; a request without any is good too. */
    private static void answersWithAll() {
        answers("none", asking(1500, 64, 0), Probe.list(1, 1, 0), Probe.list(1, 2, 0));
        answers("number, size", asking(1500, 64, 0), Probe.list(1, 1, 9, 5, 0, 0, 0, 7, 1, 1, 0),
                Probe.list(1, 2, 9, 5, 0, 0, 0, 7, 1, 1, 0));
        answers("size, number", asking(1500, 64, 0), Probe.list(1, 1, 9, 1, 1, 0, 5, 0, 0, 0, 7),
                Probe.list(1, 2, 9, 1, 1, 0, 5, 0, 0, 0, 7));
        answers("with escapes", asking(1500, 64, 0), Probe.list(1, 1, 125, 5, 125, 126, 125, 126, 1, 126, 126),
                Probe.list(1, 2, 125, 5, 125, 126, 125, 126, 1, 126, 126));
    }

    /** "REJECT with all options of other types, if there are some; else NAK with all that are not good, in their order". */
    private static void rejectOutdoesNakOutdoesAck() {
        for (int type : new int[] {0, 2, 3, 4, 6, 7, 254, 255}) {
            answers("type " + type, asking(1500, 64, OWN), Probe.list(1, 1, 9, type, 77), Probe.list(1, 4, 9, type, 77));
            answers("type " + type + " beside good ones", asking(1500, 64, OWN),
                    Probe.list(1, 1, 9, 1, 1, 0, type, 77, 5, 0, 0, 0, 7), Probe.list(1, 4, 9, type, 77));
        }
        answers("all three kinds", asking(1500, 64, OWN),
                Probe.list(1, 1, 9, 200, 1, 1, 0, 1, 0, 5, 5, 0, 0, 0, 7, 2, 2), Probe.list(1, 4, 9, 200, 1, 0, 5, 2, 2));
        answers("only the number is not good", asking(1500, 64, OWN),
                Probe.list(1, 1, 9, 1, 1, 0, 5, 0, 0, 0, 0), Probe.join(Probe.list(1, 3, 9, 5), next(OWN)));
        answers("only the size is not good", asking(1500, 64, OWN),
                Probe.list(1, 1, 9, 5, 0, 0, 0, 1, 1, 0, 63), Probe.list(1, 3, 9, 1, 0, 64));
        answers("neither is good", asking(1500, 64, OWN),
                Probe.list(1, 1, 9, 5, 18, 52, 86, 120, 1, 0, 63), Probe.join(Probe.join(Probe.list(1, 3, 9, 5), next(OWN)), 1, 0, 64));
        answers("neither is good, the other way round", asking(1500, 64, OWN),
                Probe.list(1, 1, 9, 1, 0, 63, 5, 18, 52, 86, 120), Probe.join(Probe.list(1, 3, 9, 1, 0, 64, 5), next(OWN)));
        List<Integer> many = Probe.list(1, 1, 9);
        for (int type = 20; type < 37; type++) {
            many = Probe.join(many, type, 126);
        }
        List<Integer> rejected = Probe.join(many);
        rejected.set(1, 4);
        answers("as many as a packet takes", asking(1500, 64, 0), many, rejected);
    }

    /** "In the states from 2 on .. a suspicion is counted, by an ECHO, too": in 0 and 1 none is. */
    private static void suspicionsByState() {
        for (int state = 0; state <= 9; state++) {
            LineTalk x = new LineTalk();
            x.set(0, 1500, 64, OWN);
            Probe.bring(x, 0, state);
            int seen = state < 2 ? 0 : 1;
            Probe.tell(x, 1, Probe.join(Probe.list(1, Probe.ECHO, 1), Probe.four(OWN)));
            Probe.due("suspicion by an echo in state " + state, seen, x.count(0, Probe.SUSPICIONS));
            Probe.tell(x, 1, Probe.join(Probe.list(1, Probe.REPLY, 1), Probe.four(OWN)));
            Probe.due("none by a reply in state " + state, seen, x.count(0, Probe.SUSPICIONS));
            Probe.tell(x, 1, Probe.join(Probe.list(1, Probe.ECHO, 1), Probe.four(OWN + 1)));
            Probe.due("none by another number in state " + state, seen, x.count(0, Probe.SUSPICIONS));
            Probe.tell(x, 1, Probe.join(Probe.list(1, Probe.REQUEST, 1, 5), Probe.four(OWN)));
            Probe.due("suspicion by a request in state " + state, 2 * seen, x.count(0, Probe.SUSPICIONS));
            Probe.due("none at the other end", 0, x.count(1, Probe.SUSPICIONS));
        }
    }

    /** "NUMBER that is the end's own and not 0 is a SUSPICION (counted)." */
    private static void suspicionsByNumber() {
        LineTalk x = asking(1500, 64, 0);
        Probe.tell(x, 1, 1, Probe.ECHO, 1, 0, 0, 0, 0);
        Probe.tell(x, 1, 1, Probe.REQUEST, 1, 5, 0, 0, 0, 0);
        Probe.due("0 is none", 0, x.count(0, Probe.SUSPICIONS));
        for (int own : new int[] {1, -1, Integer.MIN_VALUE, Integer.MAX_VALUE, OWN}) {
            for (int told : new int[] {0, own - 1, own, own + 1, own ^ 1 << 31, own ^ 1 << 24}) {
                int due = told == own ? 1 : 0;
                LineTalk y = asking(1500, 64, own);
                Probe.tell(y, 1, Probe.join(Probe.list(1, Probe.REQUEST, 1, 5), Probe.four(told)));
                Probe.due("request of " + told + " to " + own, due, y.count(0, Probe.SUSPICIONS));
                Probe.tell(y, 1, Probe.join(Probe.list(1, Probe.ECHO, 1), Probe.four(told)));
                Probe.due("echo of " + told + " to " + own, 2 * due, y.count(0, Probe.SUSPICIONS));
            }
        }
        LineTalk z = asking(1500, 64, OWN);
        Probe.tell(z, 1, Probe.join(Probe.list(1, Probe.REQUEST, 1, 88, 88, 5), Probe.four(OWN)));
        Probe.due("beside an option that is rejected", 1, z.count(0, Probe.SUSPICIONS));
        Probe.tell(z, 1, Probe.join(Probe.list(1, Probe.NAK, 1, 5), Probe.four(OWN)));
        Probe.due("none by a NAK", 1, z.count(0, Probe.SUSPICIONS));
        Probe.tell(z, 1, Probe.join(Probe.list(1, Probe.REJECT, 2, 5), Probe.four(OWN)));
        Probe.due("none by a REJECT", 1, z.count(0, Probe.SUSPICIONS));
        Probe.tell(z, 1, Probe.join(Probe.list(1, Probe.REQUEST, 1, 5), Probe.four(OWN)));
        Probe.due("by a number that it asks for no more", 2, z.count(0, Probe.SUSPICIONS));
    }

    /** "An ACK is right if its id is that of the latest request and its options are just those of that, in its order." */
    private static void rightAcks() {
        int[] own = Probe.four(OWN);
        ack("as asked", 1, Probe.join(Probe.list(1, 2, 1, 1, 1, 44, 5), own));
        ack("the id behind", 0, Probe.join(Probe.list(1, 2, 2, 1, 1, 44, 5), own));
        ack("the id ahead", 0, Probe.join(Probe.list(1, 2, 0, 1, 1, 44, 5), own));
        ack("another order", 0, Probe.join(Probe.join(Probe.list(1, 2, 1, 5), own), 1, 1, 44));
        ack("another size", 0, Probe.join(Probe.list(1, 2, 1, 1, 1, 45, 5), own));
        ack("another number", 0, Probe.join(Probe.list(1, 2, 1, 1, 1, 44, 5), Probe.four(OWN + 1)));
        ack("another number by its highest bit", 0, Probe.join(Probe.list(1, 2, 1, 1, 1, 44, 5), Probe.four(OWN ^ 1 << 31)));
        ack("the second missing", 0, Probe.list(1, 2, 1, 1, 1, 44));
        ack("the first missing", 0, Probe.join(Probe.list(1, 2, 1, 5), own));
        ack("all missing", 0, Probe.list(1, 2, 1));
        ack("one too many", 0, Probe.join(Probe.join(Probe.list(1, 2, 1, 1, 1, 44, 5), own), 9, 9));
        ack("others of the same length", 0, Probe.list(1, 2, 1, 10, 1, 11, 1, 12, 1, 13, 1));
        LineTalk x = Probe.in(0, 6);
        Probe.due("an option where none was asked", 0, Probe.tell(x, 1, 1, Probe.ACK, 1, 1, 5, 220));
        Probe.due("none where none was asked", 1, Probe.tell(x, 1, 1, Probe.ACK, 1));
    }

    private static void ack(String what, int right, List<Integer> packet) {
        LineTalk x = asking(300, 64, OWN);
        Probe.due("ACK " + what, right, Probe.tell(x, 1, packet));
        Probe.due("ACK " + what + ": bad", 1 - right, x.count(0, Probe.BAD));
        Probe.due("ACK " + what + ": state", right == 1 ? 7 : 6, x.about(0, Probe.STATE));
        Probe.due("ACK " + what + ": sends", List.of(), Probe.heard(x, 0));
    }

    /** "its id is that of the latest request": not of one ahead of it, nor of what was sent behind it. */
    private static void ackToTheLatestRequestAlone() {
        int[] own = Probe.four(OWN);
        LineTalk x = asking(300, 64, OWN);
        x.tick(3);
        Probe.due("ACK to a request that is not the latest", 0, Probe.tell(x, 1, Probe.join(Probe.list(1, 2, 1, 1, 1, 44, 5), own)));
        Probe.due("NAK to it", 0, Probe.tell(x, 1, 1, 3, 1));
        Probe.due("REJECT to it", 0, Probe.tell(x, 1, 1, 4, 1));
        Probe.due("ACK to the latest", 1, Probe.tell(x, 1, Probe.join(Probe.list(1, 2, 2, 1, 1, 44, 5), own)));
        x.lose(0, 300);
        Probe.tell(x, 1, 1, 99, 1);
        Probe.due("the latest id is no more the request's", 3, x.about(0, Probe.ID));
        Probe.due("ACK by the latest id", 0, Probe.tell(x, 1, Probe.join(Probe.list(1, 2, 3, 1, 1, 44, 5), own)));
        Probe.due("ACK by the latest request's", 1, Probe.tell(x, 1, Probe.join(Probe.list(1, 2, 2, 1, 1, 44, 5), own)));
    }

    /** "its options are just those of that": of the request as it was sent, whatever was changed since. */
    private static void ackToWhatWasAskedThen() {
        LineTalk x = Probe.in(0, 2);
        x.set(0, 300, 64, OWN);
        Probe.due("ACK by what was set since", 0, Probe.tell(x, 1, Probe.join(Probe.list(1, 2, 1, 1, 1, 44, 5), Probe.four(OWN))));
        Probe.due("ACK by what was asked", 1, Probe.tell(x, 1, 1, 2, 1));
        LineTalk y = asking(300, 64, 0);
        y.event(0, Probe.CLOSE);
        Probe.due("NAK that no request follows", 1, Probe.tell(y, 1, 1, 3, 1, 1, 1, 45));
        Probe.due("its size", 301, y.about(0, Probe.SIZE));
        Probe.due("ACK by the new size", 0, Probe.tell(y, 1, 1, 2, 1, 1, 1, 45));
        Probe.due("ACK by the size that was asked", 1, Probe.tell(y, 1, 1, 2, 1, 1, 1, 44));
        Probe.due("REJECT that no request follows", 1, Probe.tell(y, 1, 1, 4, 1, 1, 1, 44));
        Probe.due("ACK by the size that was asked, once more", 1, Probe.tell(y, 1, 1, 2, 1, 1, 1, 44));
    }

    /** "by a NAK, SIZE becomes what it says, if that is 64 .. 1500, NUMBER what it says". */
    private static void rightNaks() {
        nak(Probe.list(1, 3, 1), 300, OWN);
        nak(Probe.list(1, 3, 1, 1, 0, 0), 300, OWN);
        nak(Probe.list(1, 3, 1, 1, 0, 63), 300, OWN);
        nak(Probe.list(1, 3, 1, 1, 0, 64), 64, OWN);
        nak(Probe.list(1, 3, 1, 1, 0, 65), 65, OWN);
        nak(Probe.list(1, 3, 1, 1, 5, 219), 1499, OWN);
        nak(Probe.list(1, 3, 1, 1, 5, 220), 1500, OWN);
        nak(Probe.list(1, 3, 1, 1, 5, 221), 300, OWN);
        nak(Probe.list(1, 3, 1, 1, 255, 255), 300, OWN);
        nak(Probe.list(1, 3, 1, 5, 0, 0, 0, 0), 300, 0);
        nak(Probe.list(1, 3, 1, 5, 18, 52, 86, 120), 300, OWN);
        nak(Probe.list(1, 3, 1, 5, 128, 0, 0, 0), 300, Integer.MIN_VALUE);
        nak(Probe.list(1, 3, 1, 5, 255, 254, 253, 252), 300, 0xFFFEFDFC);
        // A size that is not taken keeps no number from being so, on either side of it.
        nak(Probe.list(1, 3, 1, 1, 0, 63, 5, 0, 0, 0, 9), 300, 9);
        nak(Probe.list(1, 3, 1, 5, 0, 0, 0, 9, 1, 5, 221), 300, 9);
        nak(Probe.list(1, 3, 1, 9, 9, 5, 0, 0, 1, 0, 1, 2, 0, 4, 4), 512, 256);
        for (int b = 0; b < 256; b++) {
            nak(Probe.list(1, 3, 1, 7, b), 300, OWN);
        }
    }

    private static void nak(List<Integer> packet, int size, int number) {
        LineTalk x = asking(300, 64, OWN);
        Probe.due(packet + ": right", 1, Probe.tell(x, 1, packet));
        Probe.due(packet + ": size", size, x.about(0, Probe.SIZE));
        Probe.due(packet + ": number", number, x.about(0, Probe.NUMBER));
        Probe.due(packet + ": asks", 3, x.about(0, Probe.ASKS));
        List<Integer> request = Probe.list(1, 1, 2);
        request = size == 1500 ? request : Probe.join(request, 1, size >> 8, size & 255);
        request = number == 0 ? request : Probe.join(Probe.join(request, 5), Probe.four(number));
        Probe.due(packet + ": asks anew", List.of(request), Probe.heard(x, 0));
    }

    /** A NAK is right by its id alone, so what it says is taken even if the end did not ask, or asks no more. */
    private static void nakOfWhatIsNotAsked() {
        LineTalk x = Probe.in(0, 6);
        Probe.due("NAK of what was not asked", 1, Probe.tell(x, 1, 1, 3, 1, 1, 1, 0, 5, 0, 0, 0, 8));
        Probe.due("it is asked now", List.of(Probe.list(1, 1, 2, 1, 1, 0, 5, 0, 0, 0, 8)), Probe.heard(x, 0));
        Probe.due("REJECT", 1, Probe.tell(x, 1, 1, 4, 2, 1, 0, 0, 5, 0, 0, 0, 0));
        Probe.due("NAK of what is asked no more", 1, Probe.tell(x, 1, 1, 3, 3, 1, 2, 0, 5, 0, 0, 0, 9));
        Probe.due("size", 512, x.about(0, Probe.SIZE));
        Probe.due("number", 9, x.about(0, Probe.NUMBER));
        Probe.due("asks", 0, x.about(0, Probe.ASKS));
        Probe.due("requests", List.of(Probe.list(1, 1, 3), Probe.list(1, 1, 4)), Probe.heard(x, 0));
    }

    /** "by a REJECT, for each of both types in it the end asks for it no more". */
    private static void rejects() {
        reject(Probe.list(1, 4, 1), 3, Probe.list(1, 1, 2, 1, 1, 44, 5, 18, 52, 86, 120));
        reject(Probe.list(1, 4, 1, 1, 9, 9), 2, Probe.list(1, 1, 2, 5, 18, 52, 86, 120));
        reject(Probe.list(1, 4, 1, 5, 9, 9, 9, 9), 1, Probe.list(1, 1, 2, 1, 1, 44));
        reject(Probe.list(1, 4, 1, 5, 9, 9, 9, 9, 7, 7, 1, 9, 9), 0, Probe.list(1, 1, 2));
        reject(Probe.list(1, 4, 1, 1, 1, 44, 5, 18, 52, 86, 120), 0, Probe.list(1, 1, 2));
        // Whatever the check is behind the options, even the type of one, it is none of them.
        for (int b = 0; b < 256; b++) {
            reject(Probe.list(1, 4, 1, 7, b), 3, Probe.list(1, 1, 2, 1, 1, 44, 5, 18, 52, 86, 120));
        }
    }

    private static void reject(List<Integer> packet, int asks, List<Integer> request) {
        LineTalk x = asking(300, 64, OWN);
        Probe.due(packet + ": right", 1, Probe.tell(x, 1, packet));
        Probe.due(packet + ": asks", asks, x.about(0, Probe.ASKS));
        Probe.due(packet + ": size stays", 300, x.about(0, Probe.SIZE));
        Probe.due(packet + ": number stays", OWN, x.about(0, Probe.NUMBER));
        Probe.due(packet + ": asks anew", List.of(request), Probe.heard(x, 0));
        Probe.due(packet + ": the other end asks", 3, x.about(1, Probe.ASKS));
    }

    /**
     * "An ACK is right if its id is that of the latest request": ahead of the first one there is none, so that no id
     * is right, 0 (which about() tells as the latest then) no more than any other. Of the "states from 2 on" an end
     * can be in 2 alone by then, since it asks on its way to each of the others.
     */
    private static void beforeAnyRequest() {
        for (int end = 0; end < 2; end++) {
            for (int code = 2; code <= 4; code++) {
                for (int id : new int[] {0, 1, 2, 255}) {
                    notRightWithoutRequest(end, Probe.list(1, code, id));
                    notRightWithoutRequest(end, Probe.list(1, code, id, 1, 5, 220, 5, 0, 0, 0, 0));
                    notRightWithoutRequest(end, Probe.list(1, code, id, 1, 1, 44, 5, 18, 52, 86, 120));
                }
            }
        }
    }

    private static void notRightWithoutRequest(int end, List<Integer> packet) {
        String what = packet + " to end " + end + " ahead of its first request";
        LineTalk x = new LineTalk();
        x.set(end, 300, 64, OWN);
        x.event(end, Probe.UP);
        Probe.due(what, 0, Probe.tell(x, 1 - end, packet));
        int[] about = {2, 300, OWN, 0, 0, 0, 3, 0, 0};
        int[] count = {0, 1, 0, 0, 0, 0};
        for (int i = 0; i < about.length; i++) {
            Probe.due(what + ": about " + i, about[i], x.about(end, i));
        }
        for (int i = 0; i < count.length; i++) {
            Probe.due(what + ": count " + i, count[i], x.count(end, i));
        }
    }

    /**
     * "in the states 0 and 1 each ACK, NAK, REJECT is right", "In the states from 2 on, what is right is looked at":
     * the same packet is counted as good, then as bad, then, where the end has asked, by its id.
     */
    private static void rightByTheStateItCameIn() {
        for (int end = 0; end < 2; end++) {
            for (int code = 2; code <= 4; code++) {
                String what = "code " + code + " with the id 1 to end " + end;
                LineTalk x = new LineTalk();
                Probe.due(what + " in state 0", 1, Probe.tell(x, 1 - end, 1, code, 1));
                x.event(end, Probe.OPEN);
                Probe.due(what + " in state 1", 1, Probe.tell(x, 1 - end, 1, code, 1));
                x.event(end, Probe.CLOSE);
                x.event(end, Probe.UP);
                Probe.due(what + " in state 2", 0, Probe.tell(x, 1 - end, 1, code, 1));
                x.event(end, Probe.OPEN);
                Probe.due(what + " in state 6", 1, Probe.tell(x, 1 - end, 1, code, 1));
                Probe.due(what + ": good", 3, x.count(end, Probe.GOOD));
                Probe.due(what + ": bad", 1, x.count(end, Probe.BAD));
            }
        }
    }

    /** The latest request stays the latest while an end is down or closed, so an answer to it is right in state 2. */
    private static void latestRequestStays() {
        for (int code = 2; code <= 4; code++) {
            LineTalk x = Probe.in(0, 6);
            x.event(0, Probe.DOWN);
            x.event(0, Probe.CLOSE);
            x.event(0, Probe.UP);
            Probe.due("code " + code + " with the id ahead in state 2", 0, Probe.tell(x, 1, 1, code, 0));
            Probe.due("code " + code + " with the latest request's in state 2", 1, Probe.tell(x, 1, 1, code, 1));
            Probe.due("its answer", List.of(Probe.list(1, Probe.ENDED, 1)), Probe.heard(x, 0));
        }
    }

    /** "Those that are not right are bad", but "in the states 0 and 1 each ACK, NAK, REJECT is right". */
    private static void whatIsNotRightIsBad() {
        for (int state = 0; state <= 9; state++) {
            for (int code = 2; code <= 4; code++) {
                LineTalk x = Probe.in(0, state);
                String what = "code " + code + " with a wrong id in state " + state;
                int right = state < 2 ? 1 : 0;
                Probe.due(what, right, Probe.tell(x, 1, 1, code, 150, 5, 0, 0, 0, 9, 1, 1, 0));
                Probe.due(what + ": good", right + (state >= 7 ? state == 9 ? 2 : 1 : 0), x.count(0, Probe.GOOD));
                Probe.due(what + ": bad", 1 - right, x.count(0, Probe.BAD));
                Probe.due(what + ": number", 0, x.about(0, Probe.NUMBER));
                Probe.due(what + ": size", 1500, x.about(0, Probe.SIZE));
                Probe.due(what + ": asks", 3, x.about(0, Probe.ASKS));
                Probe.due(what + ": state", state, x.about(0, Probe.STATE));
                Probe.due(what + ": sends", 0, x.about(0, Probe.ON_LINE));
                Probe.due(what + " that is cut off", 0, Probe.tell(x, 1, 1, code, 150, 5));
            }
        }
    }

    /** In the states 2 to 5 no request follows, but a NAK or REJECT changes what it changes all the same. */
    private static void answersInStatesWithoutRequests() {
        for (int state = 2; state <= 5; state++) {
            int latest = state == 3 ? 5 : 1;
            LineTalk x = Probe.in(0, state);
            Probe.due("NAK", 1, Probe.tell(x, 1, 1, 3, latest, 1, 1, 0, 5, 0, 0, 1, 0));
            Probe.due("NAK in state " + state + ": size", 256, x.about(0, Probe.SIZE));
            Probe.due("NAK in state " + state + ": number", 256, x.about(0, Probe.NUMBER));
            Probe.due("REJECT", 1, Probe.tell(x, 1, 1, 4, latest, 1, 1, 0));
            Probe.due("REJECT in state " + state + ": asks", 2, x.about(0, Probe.ASKS));
        }
    }

    /** A looped line: an end hears its own number, and answers with one that it then takes. */
    private static void talkingToOneself() {
        LineTalk x = new LineTalk();
        x.set(1, 1500, 64, OWN);
        x.loop(1, true);
        x.event(1, Probe.UP);
        x.event(1, Probe.OPEN);
        int length = x.about(1, Probe.ON_LINE);
        Probe.due("its own request", 1, x.pass(1, length));
        Probe.due("suspicion", 1, x.count(1, Probe.SUSPICIONS));
        Probe.due("its own NAK", 1, x.pass(1, x.about(1, Probe.ON_LINE)));
        Probe.due("its number", (int) (OWN * 1103515245L + 12345L), x.about(1, Probe.NUMBER));
        Probe.due("end 0 hears nothing", 0, x.count(0, Probe.GOOD) + x.count(0, Probe.BAD));
    }
}
