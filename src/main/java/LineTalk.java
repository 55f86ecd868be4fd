/** Two ends and the two lines between them; ../shared/DOC.md numbers what each call promises. */
public final class LineTalk {
    public static final int NONE = -1;

    private static final int MARK = 126;
    private static final int ESCAPE = 125;
    private static final int FLIP = 32;
    private static final int ROOM = 300;
    private static final int MOST_GATHERED = 40;
    private static final int LEAST_GATHERED = 5;
    private static final int CHECK_BYTES = 2;
    private static final int CHECK_START = 65535;
    private static final int CHECK_XOR = 33800;

    private static final int CONTROL = 1;
    private static final int DATA = 2;
    private static final int CODE_PLACE = 1;
    private static final int ID_PLACE = 2;
    private static final int CONTENTS = 3;
    private static final int DATA_PLACE = 1;

    private static final int REQUEST = 1;
    private static final int ACK = 2;
    private static final int NAK = 3;
    private static final int REJECT = 4;
    private static final int END = 5;
    private static final int ENDED = 6;
    private static final int UNKNOWN = 7;
    private static final int ECHO = 9;
    private static final int REPLY = 10;

    private static final int SIZE_TYPE = 1;
    private static final int NUMBER_TYPE = 5;
    private static final int SMALLEST_SIZE = 64;
    private static final int USUAL_SIZE = 1500;
    private static final int LONGEST_REQUEST = 13;

    private static final int INITIAL = 0;
    private static final int CLOSED = 2;
    private static final int CLOSING = 4;
    private static final int ACKING = 8;
    private static final int OPEN = 9;

    private static final int FULL_COUNT = 5;
    private static final int FULL_TIMER = 3;

    private static final int COUNTS = 6;
    private static final int GOOD_ONES = 0;
    private static final int BAD_ONES = 1;
    private static final int LOST_FRAMES = 2;
    private static final int SUSPICIONS = 3;
    private static final int UPS = 4;
    private static final int DATA_KEPT = 5;

    private final Line line0;
    private final Line line1;
    private final End end0;
    private final End end1;

    public LineTalk() {
        line0 = new Line();
        line1 = new Line();
        end0 = new End(line0);
        end1 = new End(line1);
    }

    public void set(int end, int size, int least, int number)
            throws IndexOutOfBoundsException, IllegalArgumentException, IllegalStateException {
        End e = endAt(end);
        if (!isSize(size) || !isSize(least)) {
            throw new IllegalArgumentException();
        }
        if (e.state != INITIAL && e.state != CLOSED) {
            throw new IllegalStateException();
        }
        e.size = size;
        e.least = least;
        e.number = number;
    }

    public int event(int end, int which) throws IndexOutOfBoundsException, IllegalArgumentException {
        End e = endAt(end);
        switch (which) {
            case 0:
                e.happen(Event.UP);
                break;
            case 1:
                e.happen(Event.DOWN);
                break;
            case 2:
                e.happen(Event.OPEN);
                break;
            case 3:
                e.happen(Event.CLOSE);
                break;
            default:
                throw new IllegalArgumentException();
        }
        return e.state;
    }

    public int pass(int line, int n) throws IndexOutOfBoundsException, IllegalArgumentException {
        Line l = lineAt(line);
        if (n < 1 || n > ROOM) {
            throw new IllegalArgumentException();
        }
        End e = endAt(l.loops ? line : 1 - line);
        int good = 0;
        for (int i = 0; i < n && l.used > 0; i++) {
            int b = l.takeFirst();
            if (b != MARK) {
                e.receiver.gather(b);
            } else if (e.frameCame()) {
                good++;
            }
        }
        return good;
    }

    public int tick(int n) throws IllegalArgumentException {
        if (n < 1 || n > 20) {
            throw new IllegalArgumentException();
        }
        int over = 0;
        for (int i = 0; i < n; i++) {
            if (end0.timerIsOver()) {
                over++;
            }
            if (end1.timerIsOver()) {
                over++;
            }
        }
        return over;
    }

    public int put(int line, int b)
            throws IndexOutOfBoundsException, IllegalArgumentException, IllegalStateException {
        Line l = lineAt(line);
        if (!isByte(b)) {
            throw new IllegalArgumentException();
        }
        if (l.used >= ROOM) {
            throw new IllegalStateException();
        }
        l.append(b);
        return l.used;
    }

    public int damage(int line, int i, int mask) throws IndexOutOfBoundsException, IllegalArgumentException {
        Line l = lineAt(line);
        if (!l.has(i)) {
            throw new IndexOutOfBoundsException();
        }
        if (!isByte(mask)) {
            throw new IllegalArgumentException();
        }
        return l.flip(i, mask);
    }

    public int lose(int line, int n) throws IndexOutOfBoundsException, IllegalArgumentException {
        Line l = lineAt(line);
        if (n < 0) {
            throw new IllegalArgumentException();
        }
        int lost = Math.min(n, l.used);
        l.drop(lost);
        return lost;
    }

    public boolean loop(int line, boolean on) throws IndexOutOfBoundsException {
        Line l = lineAt(line);
        boolean was = l.loops;
        l.loops = on;
        return was;
    }

    public int send(int end, int n, int v)
            throws IndexOutOfBoundsException, IllegalArgumentException, IllegalStateException {
        End e = endAt(end);
        if (n < 2 || n > 20 || !isByte(v)) {
            throw new IllegalArgumentException();
        }
        if (e.state != OPEN) {
            throw new IllegalStateException();
        }
        e.sendData(n, v);
        return e.line.used;
    }

    public int echo(int end) throws IndexOutOfBoundsException, IllegalStateException {
        End e = endAt(end);
        if (e.state != OPEN) {
            throw new IllegalStateException();
        }
        e.sendEcho();
        return e.latestId;
    }

    public int data(int end, int i) throws IndexOutOfBoundsException {
        Packet kept = endAt(end).kept;
        // The bound stands on i itself, since i + DATA_PLACE would wrap for the largest int.
        if (i < 0 || i >= kept.end() - DATA_PLACE) {
            return NONE;
        }
        return kept.at(DATA_PLACE + i);
    }

    public int look(int line, int i) throws IndexOutOfBoundsException {
        Line l = lineAt(line);
        if (!l.has(i)) {
            throw new IndexOutOfBoundsException();
        }
        return l.flip(i, 0);
    }

    public int about(int end, int what) throws IndexOutOfBoundsException, IllegalArgumentException {
        End e = endAt(end);
        switch (what) {
            case 0:
                return e.state;
            case 1:
                return e.size;
            case 2:
                return e.number;
            case 3:
                return e.latestId;
            case 4:
                return e.triesLeft;
            case 5:
                return e.timer;
            case 6:
                return (e.asksSize ? 1 : 0) + (e.asksNumber ? 2 : 0);
            case 7:
                return e.line.used;
            case 8:
                return e.receiver.gathered.used;
            default:
                throw new IllegalArgumentException();
        }
    }

    public int count(int end, int what) throws IndexOutOfBoundsException, IllegalArgumentException {
        End e = endAt(end);
        if (what < 0 || what >= COUNTS) {
            throw new IllegalArgumentException();
        }
        return e.counts[what];
    }

    public float noise() {
        int bad = end0.counts[BAD_ONES] + end1.counts[BAD_ONES];
        int all = bad + end0.counts[GOOD_ONES] + end1.counts[GOOD_ONES];
        return all == 0 ? 0f : (float) bad / (float) all;
    }

    private End endAt(int end) {
        if (end != 0 && end != 1) {
            throw new IndexOutOfBoundsException();
        }
        return end == 0 ? end0 : end1;
    }

    private Line lineAt(int line) {
        if (line != 0 && line != 1) {
            throw new IndexOutOfBoundsException();
        }
        return line == 0 ? line0 : line1;
    }

    private static boolean isByte(int b) {
        return b >= 0 && b <= 255;
    }

    private static boolean isSize(int size) {
        return size >= SMALLEST_SIZE && size <= USUAL_SIZE;
    }

    /** The rows are the document's own, letter for letter, so that they can be held against it. */
    private enum Event {
        UP("2 | i q 6 | . | . | . | . | . | . | . | ."),
        DOWN(". | . | 0 | 1 | 0 | 1 | 1 | 1 | 1 | d 1"),
        OPEN("1 | 1 | i q 6 | 3 | 5 | 5 | 6 | 7 | 8 | 9"),
        CLOSE("0 | 0 | 2 | 2 | 4 | 4 | i e 4 | i e 4 | i e 4 | d i e 4"),
        OVER_MORE(". | . | . | . | e 4 | e 5 | q 6 | q 6 | q 8 | ."),
        OVER_NONE(". | . | . | . | 2 | 3 | 3 | 3 | 3 | ."),
        GOOD_REQUEST(". | . | t 2 | i q a 8 | 4 | 5 | a 8 | a u 9 | a 8 | d q a 8"),
        BAD_REQUEST(". | . | t 2 | i q n 6 | 4 | 5 | n 6 | n 7 | n 6 | d q n 6"),
        RIGHT_ACK(". | . | t 2 | t 3 | 4 | 5 | i 7 | q 6 | i u 9 | d q 6"),
        RIGHT_NAK_OR_REJECT(". | . | t 2 | t 3 | 4 | 5 | i q 6 | q 6 | i q 8 | d q 6"),
        END_CAME(". | . | t 2 | t 3 | t 4 | t 5 | t 6 | t 6 | t 6 | d z t 5"),
        ENDED_CAME(". | . | 2 | 3 | 2 | 3 | 6 | 6 | 8 | d q 6"),
        OTHER_CODE(". | . | c 2 | c 3 | c 4 | c 5 | c 6 | c 7 | c 8 | c 9"),
        UNKNOWN_1_TO_6(". | . | 2 | 3 | 2 | 3 | 3 | 3 | 3 | d i e 5"),
        UNKNOWN_CAME(". | . | 2 | 3 | 4 | 5 | 6 | 6 | 8 | 9"),
        ECHO_CAME(". | . | 2 | 3 | 4 | 5 | 6 | 7 | 8 | r 9"),
        // The document tells these two in words; k keeps the data.
        REPLY_CAME(". | . | . | . | . | . | . | . | . | ."),
        DATA_CAME(". | . | . | . | . | . | . | . | . | k 9");

        private final String row;

        Event(String row) {
            this.row = row;
        }
    }

    /** The bytes on their way, in a ring, so that taking the first one moves no other. */
    private static final class Line {
        private final int[] bytes = new int[ROOM];
        private int first;
        private int used;
        private boolean loops;

        boolean has(int i) {
            return i >= 0 && i < used;
        }

        void append(int b) {
            if (used < ROOM) {
                bytes[(first + used) % ROOM] = b;
                used++;
            }
        }

        int takeFirst() {
            int b = bytes[first];
            drop(1);
            return b;
        }

        void drop(int n) {
            first = (first + n) % ROOM;
            used -= n;
        }

        /** Answers the byte as it was; the caller has asked has(i). */
        int flip(int i, int mask) {
            int place = (first + i) % ROOM;
            int was = bytes[place];
            bytes[place] = was ^ mask;
            return was;
        }

        void carry(Packet sealed) {
            append(MARK);
            for (int i = 0; i < sealed.used; i++) {
                int b = sealed.bytes[i];
                if (Packet.needsEscape(b)) {
                    append(ESCAPE);
                    append(b ^ FLIP);
                } else {
                    append(b);
                }
            }
            append(MARK);
        }
    }

    /** A packet and, once it is sealed, its check behind it: as it is sent and as it is gathered. */
    private static final class Packet {
        private final int[] bytes;
        private int used;

        Packet(int most) {
            bytes = new int[most];
        }

        static boolean needsEscape(int b) {
            return b == ESCAPE || b == MARK;
        }

        static int optionLength(int type) {
            if (type == SIZE_TYPE) {
                return 3;
            }
            return type == NUMBER_TYPE ? 5 : 2;
        }

        void start(int code, int id) {
            used = 0;
            add(CONTROL);
            add(code);
            add(id);
        }

        void add(int b) {
            if (used < bytes.length) {
                bytes[used] = b & 255;
                used++;
            }
        }

        void addSizeOption(int size) {
            add(SIZE_TYPE);
            add(size >> 8);
            add(size);
        }

        void addNumber(int number) {
            add(number >> 24);
            add(number >> 16);
            add(number >> 8);
            add(number);
        }

        void copyFrom(Packet other) {
            used = 0;
            for (int i = 0; i < other.used; i++) {
                add(other.bytes[i]);
            }
        }

        int at(int i) {
            return i >= 0 && i < used ? bytes[i] : NONE;
        }

        int pairAt(int i) {
            return i >= 0 && i + 1 < used ? bytes[i] * 256 + bytes[i + 1] : NONE;
        }

        int numberAt(int i) {
            if (i < 0 || i + 3 >= used) {
                return 0;
            }
            return bytes[i] << 24 | bytes[i + 1] << 16 | bytes[i + 2] << 8 | bytes[i + 3];
        }

        /** The place behind the contents of a sealed packet. */
        int end() {
            return used - CHECK_BYTES;
        }

        int code() {
            return at(0) == CONTROL ? at(CODE_PLACE) : NONE;
        }

        int id() {
            return at(ID_PLACE);
        }

        void seal() {
            int check = checkOf(used);
            add(check);
            add(check >> 8);
        }

        boolean isSealed() {
            return used >= LEAST_GATHERED
                    && checkOf(end()) == bytes[used - 2] + bytes[used - 1] * 256;
        }

        private int checkOf(int n) {
            int c = CHECK_START;
            for (int i = 0; i < n; i++) {
                c ^= bytes[i];
                for (int bit = 0; bit < 8; bit++) {
                    c = (c & 1) == 1 ? c >> 1 ^ CHECK_XOR : c >> 1;
                }
            }
            return c ^ CHECK_START;
        }

        int frameLength() {
            int length = used + 2;
            for (int i = 0; i < used; i++) {
                if (needsEscape(bytes[i])) {
                    length++;
                }
            }
            return length;
        }

        boolean isWellFormed() {
            if (at(0) != CONTROL) {
                return at(0) == DATA;
            }
            int contents = end() - CONTENTS;
            switch (at(CODE_PLACE)) {
                case REQUEST:
                case ACK:
                case NAK:
                case REJECT:
                    return hasWholeOptions();
                case END:
                case ENDED:
                    return contents == 0;
                case UNKNOWN:
                    return contents == 1;
                case ECHO:
                case REPLY:
                    return contents == 4;
                default:
                    return true;
            }
        }

        private boolean hasWholeOptions() {
            int i = CONTENTS;
            for (; i < end(); i += optionLength(at(i))) {
                if (hasTypeAhead(i)) {
                    return false;
                }
            }
            return i == end();
        }

        private boolean hasTypeAhead(int place) {
            for (int i = CONTENTS; i < place; i += optionLength(at(i))) {
                if (at(i) == at(place)) {
                    return true;
                }
            }
            return false;
        }

        boolean hasIdAndContentsOf(Packet other) {
            if (used != other.used) {
                return false;
            }
            for (int i = ID_PLACE; i < end(); i++) {
                if (bytes[i] != other.at(i)) {
                    return false;
                }
            }
            return true;
        }
    }

    /** What an end has gathered since the last mark, from whichever line. */
    private static final class Receiver {
        private final Packet gathered = new Packet(MOST_GATHERED);
        private boolean escaped;
        private boolean overfull;

        void gather(int b) {
            if (b == ESCAPE && !escaped) {
                escaped = true;
                return;
            }
            if (gathered.used >= MOST_GATHERED) {
                overfull = true;
            }
            gathered.add(escaped ? b ^ FLIP : b);
            escaped = false;
        }

        boolean isEmpty() {
            return gathered.used == 0 && !escaped;
        }

        boolean holdsPacket() {
            return !overfull && !escaped && gathered.isSealed();
        }

        void clear() {
            gathered.used = 0;
            escaped = false;
            overfull = false;
        }
    }

    private static final class End {
        private final Line line;
        private final Receiver receiver = new Receiver();
        private final Packet came = receiver.gathered;
        private final Packet kept = new Packet(MOST_GATHERED);
        private final Packet asked = new Packet(LONGEST_REQUEST);
        // It is made ahead of the event, whose actions may send a request first: so it has a row of its own.
        private final Packet answer = new Packet(MOST_GATHERED);
        private final Packet draft = new Packet(MOST_GATHERED);
        private final int[] counts = new int[COUNTS];
        private int size = USUAL_SIZE;
        private int least = SMALLEST_SIZE;
        private int number;
        private boolean asksSize = true;
        private boolean asksNumber = true;
        private int state = INITIAL;
        private int latestId;
        private int triesLeft;
        private int timer;

        End(Line line) {
            this.line = line;
        }

        int nextId() {
            latestId = (latestId + 1) & 255;
            return latestId;
        }

        void sendData(int n, int v) {
            draft.used = 0;
            draft.add(DATA);
            for (int i = 0; i < n; i++) {
                draft.add(v + i);
            }
            transmit(draft);
        }

        void sendEcho() {
            draft.start(ECHO, nextId());
            draft.addNumber(number);
            transmit(draft);
        }

        private void transmit(Packet packet) {
            packet.seal();
            if (packet.frameLength() <= ROOM - line.used) {
                line.carry(packet);
            } else {
                counts[LOST_FRAMES]++;
            }
        }

        boolean timerIsOver() {
            if (state < CLOSING || state > ACKING) {
                return false;
            }
            timer--;
            if (timer > 0) {
                return false;
            }
            happen(triesLeft > 0 ? Event.OVER_MORE : Event.OVER_NONE);
            return true;
        }

        /** Whether a mark made a packet that is not bad out of what was gathered. */
        boolean frameCame() {
            if (receiver.isEmpty()) {
                return false;
            }
            boolean good = receiver.holdsPacket() && came.isWellFormed() && isRight();
            counts[good ? GOOD_ONES : BAD_ONES]++;
            if (good && state >= CLOSED) {
                learn();
                happen(eventOfPacket());
            }
            receiver.clear();
            return good;
        }

        private boolean isRight() {
            if (state < CLOSED) {
                return true;
            }
            switch (came.code()) {
                case ACK:
                    return came.hasIdAndContentsOf(asked);
                case NAK:
                case REJECT:
                    return came.id() == asked.id();
                default:
                    return true;
            }
        }

        private void learn() {
            int code = came.code();
            if (code == ECHO) {
                suspect(came.numberAt(CONTENTS));
            } else if (code >= REQUEST && code <= REJECT) {
                for (int i = CONTENTS; i < came.end(); i += Packet.optionLength(came.at(i))) {
                    learnOption(code, i);
                }
            }
        }

        private void learnOption(int code, int i) {
            int type = came.at(i);
            if (type == SIZE_TYPE) {
                learnSize(code, came.pairAt(i + 1));
            } else if (type == NUMBER_TYPE) {
                learnNumber(code, came.numberAt(i + 1));
            }
        }

        private void learnSize(int code, int told) {
            if (code == NAK && isSize(told)) {
                size = told;
            } else if (code == REJECT) {
                asksSize = false;
            }
        }

        private void learnNumber(int code, int told) {
            if (code == REQUEST) {
                suspect(told);
            } else if (code == NAK) {
                number = told;
            } else if (code == REJECT) {
                asksNumber = false;
            }
        }

        private void suspect(int told) {
            if (told == number && told != 0) {
                counts[SUSPICIONS]++;
            }
        }

        private Event eventOfPacket() {
            switch (came.code()) {
                case NONE:
                    return Event.DATA_CAME;
                case REQUEST:
                    composeAnswer();
                    return answer.code() == ACK ? Event.GOOD_REQUEST : Event.BAD_REQUEST;
                case ACK:
                    return Event.RIGHT_ACK;
                case NAK:
                case REJECT:
                    return Event.RIGHT_NAK_OR_REJECT;
                case END:
                    return Event.END_CAME;
                case ENDED:
                    return Event.ENDED_CAME;
                case UNKNOWN:
                    return refusesNegotiation() ? Event.UNKNOWN_1_TO_6 : Event.UNKNOWN_CAME;
                case ECHO:
                    return Event.ECHO_CAME;
                case REPLY:
                    return Event.REPLY_CAME;
                default:
                    return Event.OTHER_CODE;
            }
        }

        private boolean refusesNegotiation() {
            int refused = came.at(CONTENTS);
            return refused >= REQUEST && refused <= ENDED;
        }

        private void composeAnswer() {
            int code = answerCode();
            answer.start(code, came.id());
            for (int i = CONTENTS; i < came.end(); i += Packet.optionLength(came.at(i))) {
                if (optionAnswer(i) == code) {
                    answerOption(code, i);
                }
            }
        }

        /** The codes rise ACK, NAK, REJECT just as one outdoes the other, so the highest is the answer. */
        private int answerCode() {
            int code = ACK;
            for (int i = CONTENTS; i < came.end(); i += Packet.optionLength(came.at(i))) {
                code = Math.max(code, optionAnswer(i));
            }
            return code;
        }

        private int optionAnswer(int i) {
            int type = came.at(i);
            if (type == SIZE_TYPE) {
                return came.pairAt(i + 1) >= least ? ACK : NAK;
            }
            if (type == NUMBER_TYPE) {
                int told = came.numberAt(i + 1);
                return told != 0 && told != number ? ACK : NAK;
            }
            return REJECT;
        }

        private void answerOption(int code, int i) {
            int type = came.at(i);
            if (code == NAK && type == SIZE_TYPE) {
                answer.addSizeOption(least);
            } else if (code == NAK) {
                answer.add(NUMBER_TYPE);
                answer.addNumber(number * 1103515245 + 12345);
            } else {
                for (int k = 0; k < Packet.optionLength(type); k++) {
                    answer.add(came.at(i + k));
                }
            }
        }

        void happen(Event event) {
            String row = event.row;
            // The state changes while the actions are done, but the column stays that of the old one.
            int was = state;
            int column = 0;
            for (int i = 0; i < row.length() && column <= was; i++) {
                char c = row.charAt(i);
                if (c == '|') {
                    column++;
                } else if (column == was) {
                    change(c);
                    speak(c);
                }
            }
        }

        private void change(int action) {
            switch (action) {
                case 'i':
                    triesLeft = FULL_COUNT;
                    break;
                case 'z':
                    triesLeft = 0;
                    timer = FULL_TIMER;
                    break;
                case 'u':
                    counts[UPS]++;
                    break;
                case 'k':
                    kept.copyFrom(came);
                    counts[DATA_KEPT]++;
                    break;
                default:
                    // d has nothing to do: no call tells whether an end is up just now.
                    if (action >= '0' && action <= '9') {
                        state = action - '0';
                    }
                    break;
            }
        }

        private void speak(int action) {
            switch (action) {
                case 'q':
                    composeRequest();
                    transmit(asked);
                    spendTry();
                    break;
                case 'e':
                    draft.start(END, nextId());
                    transmit(draft);
                    spendTry();
                    break;
                case 'a':
                case 'n':
                    transmit(answer);
                    break;
                case 't':
                    draft.start(ENDED, came.id());
                    transmit(draft);
                    break;
                case 'c':
                    draft.start(UNKNOWN, nextId());
                    draft.add(came.code());
                    transmit(draft);
                    break;
                case 'r':
                    draft.start(REPLY, came.id());
                    draft.addNumber(number);
                    transmit(draft);
                    break;
                default:
                    break;
            }
        }

        private void composeRequest() {
            asked.start(REQUEST, nextId());
            if (asksSize && size != USUAL_SIZE) {
                asked.addSizeOption(size);
            }
            if (asksNumber && number != 0) {
                asked.add(NUMBER_TYPE);
                asked.addNumber(number);
            }
        }

        private void spendTry() {
            triesLeft--;
            timer = FULL_TIMER;
        }
    }
}
