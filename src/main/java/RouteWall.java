import java.util.Arrays;

/** A climbing contest's house; ../shared/DOC.md says what each call promises. */
public final class RouteWall {
    public static final int NONE = -1;

    private static final int FINE = 0;
    private static final int NO_SUCH = 1;
    private static final int CANNOT_BE = 2;
    private static final int TOO_MANY = 3;
    private static final int NOT_IN_OPEN = 4;
    private static final int OPEN_TRY_OR_NONE = 5;
    private static final int TRIES_SPENT = 6;
    private static final int HAS_SEEN = 7;
    private static final int RESTS = 8;
    private static final int SECOND_GONE = 9;
    private static final int NOT_NOW = 10;

    private static final int TEXT_MOST = 700;
    private static final int FEED_BYTES = 20;
    private static final int ROUNDS_MOST = 4;
    private static final int ROUTES_MOST = 5;
    private static final int CLIMBERS_MOST = 16;
    private static final int TRIES_MOST = 300;
    private static final int APPEALS_MOST = 40;
    private static final int OUTS_MOST = 20;
    private static final int HOLDS_LEAST = 2;
    private static final int HOLDS_MOST = 60;
    private static final int HOLDS_UNTOLD = 10;
    private static final int ZONES_MOST = 3;
    private static final int KEYS_MOST = 4;
    private static final int ITEMS_MOST = 40;
    private static final int NESTED_MOST = 8;
    private static final int DIGITS_MOST = 6;
    private static final int LAST_SECOND = 1000000;
    private static final int LAST_DAY = 999;
    private static final long POINTS_BOUND = 1000000000L;

    private static final int NO_FAULT = 0;
    private static final int FAULT_TOKEN = 1;
    private static final int FAULT_PLACE = 2;
    private static final int FAULT_MANY = 3;
    private static final int FAULT_NUMBER = 4;
    private static final int FAULT_AGAIN = 5;

    /** What a round's law tells, in the order of its numbers. */
    private static final int SHAPE = 4;
    private static final int SHAPE_ROUTES = 0;
    private static final int SHAPE_TRIES = 1;
    private static final int SHAPE_SECONDS = 2;
    private static final int SHAPE_REST = 3;
    private static final int[] SHAPE_LEAST = {1, 1, 10, 0};
    private static final int[] SHAPE_GREATEST = {5, 9, 999, 999};

    /** What is known of a climber on a route, numbered as of() asks for it. */
    private static final int FACTS = 6;
    private static final int FACT_TOP = 0;
    private static final int FACT_ZONE = 1;
    private static final int FACT_HOLD = 2;
    private static final int FACT_TRIES = 3;
    private static final int FACT_SECONDS = 4;
    private static final int FACT_FLASH = 5;
    private static final int WHAT_POINTS = 6;

    /** Items of an expression's code: below FACTS a name, else one of these. */
    private static final int ITEM_NUMBER = 6;
    private static final int ITEM_ADD = 7;
    private static final int ITEM_SUBTRACT = 8;
    private static final int ITEM_MULTIPLY = 9;
    private static final int ITEM_NEGATE = 10;
    private static final int ITEM_PAREN = 11;

    private static final int KEY_SUM = 0;
    private static final int KEY_MOST = 1;
    private static final int KEY_TOPS = 2;
    private static final int KEY_ZONES = 3;

    private static final int HOW_OPEN = 0;
    private static final int HOW_TOPPED = 1;
    private static final int HOW_FELL = 2;
    private static final int HOW_OVER = 3;
    private static final int HOW_BROKEN = 4;

    /** Kinds of tokens: a sign is its own byte, the others stand above all bytes. */
    private static final int TOKEN_END = 256;
    private static final int TOKEN_BAD = 257;
    private static final int TOKEN_NUMBER = 258;
    private static final int WORD_UNKNOWN = 259;
    private static final int WORD_FIRST = 260;
    private static final int WORD_ROUND = 260;
    private static final int WORD_POINTS = 261;
    private static final int WORD_KEYS = 262;
    private static final int WORD_TIES = 263;
    private static final int WORD_BACK = 264;
    private static final int WORD_SHARED = 265;
    private static final int WORD_UP = 266;
    private static final int WORD_DOWN = 267;
    /** Four words from here on are numbered as the KEY_ constants are. */
    private static final int WORD_FIRST_KEY = 268;
    /** Six words from here on are numbered as the FACT_ constants are. */
    private static final int WORD_FIRST_FACT = 272;
    private static final String WORDS =
        "round points keys ties back shared up down sum most tops zones top zone hold tries seconds flash ";

    private final int[] tape = new int[TEXT_MOST];
    private int taped;
    private final Laws laws = new Laws();
    private final LawReader reader = new LawReader();
    private final Wall wall = new Wall();
    private final Field field = new Field();
    private final Tries tries = new Tries();
    private final Appeals appeals = new Appeals();
    private final Watch watch = new Watch();
    private final Results results = new Results(laws, wall, field, tries, appeals);
    private int state = FINE;
    private int time;
    private int faultKind = NONE;
    private int faultPlace = NONE;

    public RouteWall() {
    }

    public int status() {
        return state;
    }

    public int feed(int a, int b, int c, int d, int e) {
        if (taped + FEED_BYTES > TEXT_MOST) {
            return NONE;
        }
        putOnTape(a);
        putOnTape(b);
        putOnTape(c);
        putOnTape(d);
        putOnTape(e);
        return taped;
    }

    public int load(int n) {
        if (n < 0 || n > taped) {
            return refuse(CANNOT_BE);
        }
        reader.read(tape, n);
        taped = 0;
        faultKind = reader.fault;
        faultPlace = reader.faultPlace;
        if (faultKind != NO_FAULT) {
            return refuse(NOT_NOW);
        }
        laws.take(reader.draft);
        wall.clear();
        field.clear();
        tries.clear();
        appeals.clear();
        watch.clear();
        time = 0;
        return answer(laws.rounds);
    }

    public int fault(int what) {
        if (what == 0) {
            return faultKind;
        }
        return what == 1 ? faultPlace : NONE;
    }

    public int climber() {
        if (laws.rounds == 0) {
            return refuse(NO_SUCH);
        }
        if (field.climbers >= CLIMBERS_MOST) {
            return refuse(TOO_MANY);
        }
        if (tries.many > 0 || field.open > 0) {
            return refuse(NOT_NOW);
        }
        return answer(field.enter());
    }

    public boolean route(int round, int route, int holds, int one, int two, int three) {
        if (!laws.hasRoute(round, route)) {
            return deny(NO_SUCH);
        }
        if (holds < HOLDS_LEAST || holds > HOLDS_MOST || !zonesCanBe(holds, one, two, three)) {
            return deny(CANNOT_BE);
        }
        if (wall.begunOn(round, route) > 0) {
            return deny(NOT_NOW);
        }
        wall.set(round, route, holds);
        wall.setZone(round, route, 0, one);
        wall.setZone(round, route, 1, two);
        wall.setZone(round, route, 2, three);
        return grant();
    }

    public int told(int round, int route, int what) {
        boolean ofRound = route == NONE;
        if (ofRound ? !laws.hasRound(round) : !laws.hasRoute(round, route)) {
            return refuse(NO_SUCH);
        }
        if (what < 0 || what > 4) {
            return refuse(CANNOT_BE);
        }
        if (ofRound) {
            return answer(what == 4 ? field.manyIn(round) : laws.shapeOf(round, what));
        }
        if (what == 0) {
            return answer(wall.holdsOf(round, route));
        }
        return answer(what == 4 ? wall.begunOn(round, route) : wall.zoneOf(round, route, what - 1));
    }

    public int begin(int climber, int route, int second) {
        int why = NO_SUCH;
        if (field.knows(climber) && laws.hasRoute(field.open, route)) {
            why = passTo(second);
        }
        if (why == FINE) {
            why = whyNotBegin(climber, route);
        }
        if (why != FINE) {
            return refuse(why);
        }
        wall.countBegun(field.open, route);
        return answer(tries.start(climber, field.open, route, time));
    }

    public int reach(int climber, int hold, int second) {
        int why = NO_SUCH;
        if (field.knows(climber)) {
            why = hold < 1 || hold > HOLDS_MOST ? CANNOT_BE : passTo(second);
        }
        if (why != FINE) {
            return refuse(why);
        }
        int number = tries.openOf(climber);
        if (number == NONE) {
            return refuse(OPEN_TRY_OR_NONE);
        }
        int last = wall.holdsOf(tries.round[number], tries.route[number]);
        if (hold <= tries.hold[number] || hold > last) {
            return refuse(NOT_NOW);
        }
        tries.hold[number] = hold;
        if (hold < last) {
            return answer(0);
        }
        tries.finish(number, time, HOW_TOPPED);
        return answer(1);
    }

    public boolean fall(int climber, int second, boolean broken) {
        int why = field.knows(climber) ? passTo(second) : NO_SUCH;
        if (why != FINE) {
            return deny(why);
        }
        int number = tries.openOf(climber);
        if (number == NONE) {
            return deny(OPEN_TRY_OR_NONE);
        }
        tries.finish(number, time, broken ? HOW_BROKEN : HOW_FELL);
        return grant();
    }

    public boolean out(int climber, int second, boolean out) {
        int why = field.knows(climber) ? passTo(second) : NO_SUCH;
        if (why != FINE) {
            return deny(why);
        }
        if (watch.isOut(climber) == out) {
            return deny(NOT_NOW);
        }
        if (!out) {
            watch.comeIn(climber, time);
            return grant();
        }
        if (watch.times[climber] >= OUTS_MOST) {
            return deny(TOO_MANY);
        }
        watch.goOut(climber, time);
        return grant();
    }

    public boolean clock(int second) {
        int why = passTo(second);
        return why == FINE ? grant() : deny(why);
    }

    public int now() {
        return answer(time);
    }

    public int tried(int number, int what) {
        if (!tries.knows(number)) {
            return refuse(NO_SUCH);
        }
        switch (what) {
            case 0:
                return answer(tries.climber[number]);
            case 1:
                return answer(tries.round[number]);
            case 2:
                return answer(tries.route[number]);
            case 3:
                return answer(tries.begun[number]);
            case 4:
                return answer(tries.ended[number]);
            case 5:
                return answer(tries.hold[number]);
            case 6:
                return answer(tries.how[number]);
            default:
                return refuse(CANNOT_BE);
        }
    }

    public int seen(int climber, int route) {
        if (!field.knows(climber) || !laws.hasRoute(field.open, route)) {
            return refuse(NO_SUCH);
        }
        return answer(hasSeen(climber, route) ? 1 : 0);
    }

    public int ready(int climber) {
        if (!field.knows(climber)) {
            return refuse(NO_SUCH);
        }
        if (tries.openOf(climber) != NONE) {
            return refuse(OPEN_TRY_OR_NONE);
        }
        return answer(Math.max(time, restOver(climber)));
    }

    public boolean appeal(int number, int hold, int day) {
        if (!tries.knows(number)) {
            return deny(NO_SUCH);
        }
        int last = wall.holdsOf(tries.round[number], tries.route[number]);
        if (hold < 0 || hold > last || !isDay(day)) {
            return deny(CANNOT_BE);
        }
        if (tries.how[number] == HOW_OPEN || tries.how[number] == HOW_BROKEN) {
            return deny(NOT_NOW);
        }
        if (appeals.many >= APPEALS_MOST) {
            return deny(TOO_MANY);
        }
        appeals.put(number, hold, day);
        return grant();
    }

    public int of(int round, int route, int climber, int day, int what) {
        if (!laws.hasRoute(round, route) || !field.knows(climber)) {
            return refuse(NO_SUCH);
        }
        if (!isDay(day) || what < 0 || what > WHAT_POINTS) {
            return refuse(CANNOT_BE);
        }
        results.survey(day);
        results.workFacts(round, climber, route);
        return answer(what == WHAT_POINTS ? laws.pointsFor(results.facts) : results.facts[what]);
    }

    public long key(int round, int climber, int day, int k) {
        if (!laws.hasRound(round) || !field.isIn(round, climber) || k < 0 || k >= laws.keys) {
            return refuse(NO_SUCH);
        }
        if (!isDay(day)) {
            return refuse(CANNOT_BE);
        }
        results.survey(day);
        results.workKeys(round, climber);
        state = FINE;
        return results.keyOf(round, climber, k);
    }

    public int rank(int round, int climber, int day) {
        if (!laws.hasRound(round) || !field.isIn(round, climber)) {
            return refuse(NO_SUCH);
        }
        if (!isDay(day)) {
            return refuse(CANNOT_BE);
        }
        results.workRanks(round, day);
        return answer(results.ranks[climber]);
    }

    public int advance(int most, int day) {
        if (most < 1 || most > CLIMBERS_MOST || !isDay(day)) {
            return refuse(CANNOT_BE);
        }
        if (tries.anyOpen()) {
            return refuse(OPEN_TRY_OR_NONE);
        }
        if (field.climbers == 0 || field.open + 1 >= laws.rounds) {
            return refuse(NOT_NOW);
        }
        results.workRanks(field.open, day);
        int many = field.letCome(results.ranks, most, day);
        watch.clear();
        return answer(many);
    }

    public int order(int round, int k) {
        if (!laws.hasRound(round) || k < 0 || k >= field.manyIn(round)) {
            return refuse(NO_SUCH);
        }
        if (round == 0) {
            return answer(k);
        }
        results.workRanks(round - 1, field.dayOf(round));
        return answer(results.starter(round, k));
    }

    public int parts(int round, int set, int day) {
        if (!laws.hasRound(round)) {
            return refuse(NO_SUCH);
        }
        if (set < 0 || set >= 1 << laws.shapeOf(round, SHAPE_ROUTES) || !isDay(day)) {
            return refuse(CANNOT_BE);
        }
        results.workPoints(round, day);
        return answer(results.pairsParted(round, set));
    }

    public int choose(int round, int many, int day) {
        if (!laws.hasRound(round)) {
            return refuse(NO_SUCH);
        }
        int routes = laws.shapeOf(round, SHAPE_ROUTES);
        if (many < 1 || many > routes || !isDay(day)) {
            return refuse(CANNOT_BE);
        }
        results.workPoints(round, day);
        return answer(results.bestSet(round, routes, many));
    }

    private int refuse(int why) {
        state = why;
        return NONE;
    }

    private int answer(int value) {
        state = FINE;
        return value;
    }

    private boolean deny(int why) {
        state = why;
        return false;
    }

    private boolean grant() {
        state = FINE;
        return true;
    }

    private static boolean isDay(int day) {
        return day >= 0 && day <= LAST_DAY;
    }

    private void putOnTape(int four) {
        for (int shift = 24; shift >= 0; shift -= 8) {
            if (taped < TEXT_MOST) {
                tape[taped] = (four >>> shift) & 255;
                taped++;
            }
        }
    }

    private static boolean zonesCanBe(int holds, int one, int two, int three) {
        return zoneCanBe(holds, one, 0, true)
            && zoneCanBe(holds, two, one, one != 0)
            && zoneCanBe(holds, three, two, two != 0);
    }

    /** A zone may be left out at any place, but then all behind it are left out, too. */
    private static boolean zoneCanBe(int holds, int zone, int ahead, boolean hasAhead) {
        return zone == 0 || (hasAhead && zone > ahead && zone <= holds);
    }

    /** The seconds go on even if the call that tells them is refused for a later reason. */
    private int passTo(int second) {
        if (second < 0 || second > LAST_SECOND) {
            return CANNOT_BE;
        }
        if (second < time) {
            return SECOND_GONE;
        }
        time = second;
        tries.endOverdue(second, laws.shapeOf(field.open, SHAPE_SECONDS));
        return FINE;
    }

    private int whyNotBegin(int climber, int route) {
        int open = field.open;
        if (!field.isIn(open, climber)) {
            return NOT_IN_OPEN;
        }
        if (tries.openOf(climber) != NONE) {
            return OPEN_TRY_OR_NONE;
        }
        if (tries.mayNotTry(climber, open, route, laws.shapeOf(open, SHAPE_TRIES))) {
            return TRIES_SPENT;
        }
        if (tries.many >= TRIES_MOST) {
            return TOO_MANY;
        }
        if (hasSeen(climber, route)) {
            return HAS_SEEN;
        }
        return time < restOver(climber) ? RESTS : FINE;
    }

    private boolean hasSeen(int climber, int route) {
        return watch.hasSeen(tries, climber, field.open, route, time);
    }

    /** Only tries of the open round make her rest, so one of an earlier round alone never does. */
    private int restOver(int climber) {
        int end = tries.lastEnd(climber, field.open);
        return end == NONE ? 0 : end + laws.shapeOf(field.open, SHAPE_REST);
    }

    /** What a text has told: rounds, points (as code in the order of working), keys and ties. */
    private static final class Laws {
        int rounds;
        final int[] shape = new int[ROUNDS_MOST * SHAPE];
        final int[] item = new int[ITEMS_MOST];
        final int[] number = new int[ITEMS_MOST];
        int items;
        final int[] keyKind = new int[KEYS_MOST];
        final int[] keyDown = new int[KEYS_MOST];
        int keys;
        boolean back;
        final long[] stack = new long[ITEMS_MOST];

        void setUntold() {
            rounds = 0;
            items = 0;
            addItem(ITEM_NUMBER, 100);
            addItem(FACT_TOP, 0);
            addItem(ITEM_MULTIPLY, 0);
            addItem(FACT_ZONE, 0);
            addItem(ITEM_ADD, 0);
            keys = 0;
            addKey(KEY_SUM, true);
            back = false;
        }

        void take(Laws other) {
            rounds = other.rounds;
            System.arraycopy(other.shape, 0, shape, 0, shape.length);
            System.arraycopy(other.item, 0, item, 0, item.length);
            System.arraycopy(other.number, 0, number, 0, number.length);
            items = other.items;
            System.arraycopy(other.keyKind, 0, keyKind, 0, keyKind.length);
            System.arraycopy(other.keyDown, 0, keyDown, 0, keyDown.length);
            keys = other.keys;
            back = other.back;
        }

        void addItem(int code, int value) {
            if (items < ITEMS_MOST) {
                item[items] = code;
                number[items] = value;
                items++;
            }
        }

        void addKey(int kind, boolean down) {
            if (keys < KEYS_MOST) {
                keyKind[keys] = kind;
                keyDown[keys] = down ? 1 : 0;
                keys++;
            }
        }

        boolean hasRound(int round) {
            return round >= 0 && round < rounds;
        }

        boolean hasRoute(int round, int route) {
            return hasRound(round) && route >= 0 && route < shape[round * SHAPE + SHAPE_ROUTES];
        }

        int shapeOf(int round, int what) {
            return hasRound(round) && what >= 0 && what < SHAPE ? shape[round * SHAPE + what] : 0;
        }

        int pointsFor(int[] facts) {
            int high = 0;
            for (int i = 0; i < items; i++) {
                int code = item[i];
                if (code <= ITEM_NUMBER) {
                    if (high < ITEMS_MOST) {
                        stack[high] = code == ITEM_NUMBER ? number[i] : facts[code];
                        high++;
                    }
                } else if (code == ITEM_NEGATE) {
                    if (high > 0) {
                        stack[high - 1] = -stack[high - 1];
                    }
                } else if (high > 1) {
                    high--;
                    stack[high - 1] = bounded(worked(code, stack[high - 1], stack[high]));
                }
            }
            return high > 0 ? (int) stack[0] : 0;
        }

        private static long worked(int code, long left, long right) {
            if (code == ITEM_MULTIPLY) {
                return left * right;
            }
            return code == ITEM_ADD ? left + right : left - right;
        }

        private static long bounded(long value) {
            return Math.max(-POINTS_BOUND, Math.min(POINTS_BOUND, value));
        }
    }

    /** A text parted into tokens; the last of them is the end, or the first that is none. */
    private static final class Tokens {
        final int[] kinds = new int[TEXT_MOST + 1];
        final int[] places = new int[TEXT_MOST + 1];
        final int[] values = new int[TEXT_MOST + 1];
        int many;
        int at;

        int kind() {
            return kinds[at];
        }

        int place() {
            return places[at];
        }

        int value() {
            return values[at];
        }

        void step() {
            if (at + 1 < many) {
                at++;
            }
        }

        void split(int[] bytes, int length) {
            at = 0;
            many = 0;
            int place = 0;
            for (int i = 0; i < length && place < length; i++) {
                int b = bytes[place];
                if (b == ' ' || b == 10) {
                    place++;
                } else if (isLetter(b)) {
                    place = putWord(bytes, place, length);
                } else if (isDigit(b)) {
                    place = putNumber(bytes, place, length);
                } else {
                    put(isSign(b) ? b : TOKEN_BAD, place, 0);
                    place++;
                }
                if (many > 0 && kinds[many - 1] == TOKEN_BAD) {
                    return;
                }
            }
            put(TOKEN_END, length, 0);
        }

        private void put(int kind, int place, int value) {
            if (many < kinds.length) {
                kinds[many] = kind;
                places[many] = place;
                values[many] = value;
                many++;
            }
        }

        private int putWord(int[] bytes, int from, int length) {
            int behind = from;
            while (behind < length && isLetter(bytes[behind])) {
                behind++;
            }
            put(wordKind(bytes, from, behind), from, 0);
            return behind;
        }

        private static int wordKind(int[] bytes, int from, int behind) {
            int kind = WORD_FIRST;
            int at = from;
            boolean same = true;
            for (int i = 0; i < WORDS.length(); i++) {
                char c = WORDS.charAt(i);
                if (c != ' ') {
                    same = same && at < behind && bytes[at] == c;
                    at++;
                } else if (same && at == behind) {
                    return kind;
                } else {
                    kind++;
                    at = from;
                    same = true;
                }
            }
            return WORD_UNKNOWN;
        }

        private int putNumber(int[] bytes, int from, int length) {
            int behind = from;
            int value = 0;
            while (behind < length && isDigit(bytes[behind])) {
                if (behind - from < DIGITS_MOST) {
                    value = value * 10 + bytes[behind] - '0';
                }
                behind++;
            }
            put(behind - from > DIGITS_MOST ? TOKEN_BAD : TOKEN_NUMBER, from, value);
            return behind;
        }

        private static boolean isLetter(int b) {
            return b >= 'a' && b <= 'z';
        }

        private static boolean isDigit(int b) {
            return b >= '0' && b <= '9';
        }

        private static boolean isSign(int b) {
            return b == '+' || b == '-' || b == '*' || b == '(' || b == ')' || b == ',' || b == ';';
        }
    }

    /** Reads a text into a draft of laws, up to its first fault. */
    private static final class LawReader {
        final Tokens tokens = new Tokens();
        final Laws draft = new Laws();
        final Expression expression = new Expression();
        int fault;
        int faultPlace;
        boolean pointsTold;
        boolean keysTold;
        boolean tiesTold;

        void read(int[] bytes, int length) {
            fault = NO_FAULT;
            faultPlace = NONE;
            pointsTold = false;
            keysTold = false;
            tiesTold = false;
            draft.setUntold();
            tokens.split(bytes, length);
            for (int i = 0; i <= TEXT_MOST && fault == NO_FAULT && tokens.kind() != TOKEN_END; i++) {
                readLaw();
            }
        }

        private void readLaw() {
            switch (tokens.kind()) {
                case WORD_ROUND:
                    readRound();
                    break;
                case WORD_POINTS:
                    refuseIf(pointsTold, FAULT_AGAIN);
                    pointsTold = true;
                    if (goOn()) {
                        note(expression.read(tokens, draft));
                    }
                    break;
                case WORD_KEYS:
                    refuseIf(keysTold, FAULT_AGAIN);
                    keysTold = true;
                    readKeys();
                    break;
                case WORD_TIES:
                    refuseIf(tiesTold, FAULT_AGAIN);
                    tiesTold = true;
                    readTies();
                    break;
                default:
                    refuseToken();
                    break;
            }
            pass(';');
        }

        /** The first fault stays: what is noted behind it is no fault of the text. */
        private void note(int kind) {
            if (fault == NO_FAULT && kind != NO_FAULT) {
                fault = kind;
                faultPlace = tokens.place();
            }
        }

        private void refuseIf(boolean wrong, int kind) {
            if (wrong) {
                note(kind);
            }
        }

        private void refuseToken() {
            note(tokens.kind() == TOKEN_BAD ? FAULT_TOKEN : FAULT_PLACE);
        }

        private boolean goOn() {
            if (fault == NO_FAULT) {
                tokens.step();
            }
            return fault == NO_FAULT;
        }

        private void pass(int kind) {
            if (tokens.kind() != kind) {
                refuseToken();
            }
            goOn();
        }

        private void readRound() {
            int round = draft.rounds;
            refuseIf(round >= ROUNDS_MOST, FAULT_MANY);
            if (!goOn()) {
                return;
            }
            for (int i = 0; i < SHAPE && fault == NO_FAULT; i++) {
                if (tokens.kind() == TOKEN_NUMBER) {
                    refuseIf(tokens.value() < SHAPE_LEAST[i] || tokens.value() > SHAPE_GREATEST[i], FAULT_NUMBER);
                    draft.shape[round * SHAPE + i] = tokens.value();
                }
                pass(TOKEN_NUMBER);
            }
            draft.rounds = round + 1;
        }

        private void readKeys() {
            draft.keys = 0;
            for (int i = 0; i <= KEYS_MOST && goOn(); i++) {
                readKey();
                if (tokens.kind() != ',') {
                    return;
                }
            }
        }

        private void readKey() {
            boolean down = tokens.kind() == WORD_DOWN;
            if (!down && tokens.kind() != WORD_UP) {
                refuseToken();
            }
            refuseIf(draft.keys >= KEYS_MOST, FAULT_MANY);
            if (!goOn()) {
                return;
            }
            int kind = tokens.kind() - WORD_FIRST_KEY;
            if (kind < KEY_SUM || kind > KEY_ZONES) {
                refuseToken();
            } else {
                draft.addKey(kind, down);
            }
            goOn();
        }

        private void readTies() {
            if (goOn()) {
                draft.back = tokens.kind() == WORD_BACK;
                pass(draft.back ? WORD_BACK : WORD_SHARED);
            }
        }
    }

    /** Reads an expression without recursion: signs wait in a row until what they work on is whole. */
    private static final class Expression {
        /** Each nesting holds at most itself, a sum's sign and a product's sign. */
        final int[] waiting = new int[3 * NESTED_MOST + 3];
        int waits;
        int nested;
        int parens;
        int items;
        int fault;

        /** Stands at the token behind the expression, or at the one with the fault that it answers. */
        int read(Tokens tokens, Laws draft) {
            draft.items = 0;
            waits = 0;
            nested = 0;
            parens = 0;
            items = 0;
            fault = NO_FAULT;
            boolean whole = false;
            for (int i = 0; i <= TEXT_MOST && fault == NO_FAULT; i++) {
                if (whole && tokens.kind() == ';' && parens == 0) {
                    release(ITEM_ADD, draft);
                    return NO_FAULT;
                }
                whole = whole ? readBehindFactor(tokens.kind(), draft) : readFactor(tokens, draft);
                if (fault == NO_FAULT) {
                    tokens.step();
                }
            }
            return fault;
        }

        /** Whether a factor is whole with this token. */
        private boolean readFactor(Tokens tokens, Laws draft) {
            int kind = tokens.kind();
            int name = kind - WORD_FIRST_FACT;
            if (kind == TOKEN_NUMBER || (name >= 0 && name < FACTS)) {
                countItem();
                draft.addItem(kind == TOKEN_NUMBER ? ITEM_NUMBER : name, tokens.value());
                releaseNegations(draft);
                return true;
            }
            if (kind == '(') {
                nest(ITEM_PAREN);
                parens++;
            } else if (kind == '-') {
                countItem();
                nest(ITEM_NEGATE);
            } else {
                refuseToken(kind);
            }
            return false;
        }

        /** Whether what stood is still whole with this token, so that no factor must follow. */
        private boolean readBehindFactor(int kind, Laws draft) {
            switch (kind) {
                case '+':
                    putSign(ITEM_ADD, draft);
                    return false;
                case '-':
                    putSign(ITEM_SUBTRACT, draft);
                    return false;
                case '*':
                    putSign(ITEM_MULTIPLY, draft);
                    return false;
                case ')':
                    closeParen(draft);
                    return true;
                default:
                    refuseToken(kind);
                    return true;
            }
        }

        private void refuseToken(int kind) {
            fault = kind == TOKEN_BAD ? FAULT_TOKEN : FAULT_PLACE;
        }

        private void countItem() {
            items++;
            if (items > ITEMS_MOST) {
                fault = FAULT_MANY;
            }
        }

        private void nest(int code) {
            nested++;
            if (nested > NESTED_MOST) {
                fault = FAULT_MANY;
            }
            await(code);
        }

        private void await(int code) {
            if (waits < waiting.length) {
                waiting[waits] = code;
                waits++;
            }
        }

        private void putSign(int code, Laws draft) {
            countItem();
            release(code, draft);
            await(code);
        }

        private void closeParen(Laws draft) {
            if (parens == 0) {
                refuseToken(')');
                return;
            }
            release(ITEM_ADD, draft);
            waits = Math.max(0, waits - 1);
            parens--;
            nested--;
            releaseNegations(draft);
        }

        /** A minus ahead of a factor binds nothing else, so it goes as soon as that factor is whole. */
        private void releaseNegations(Laws draft) {
            while (waits > 0 && waiting[waits - 1] == ITEM_NEGATE) {
                waits--;
                nested--;
                draft.addItem(ITEM_NEGATE, 0);
            }
        }

        /** Lets go the signs that bind what is whole at least as strongly as this one would. */
        private void release(int code, Laws draft) {
            while (waits > 0 && waiting[waits - 1] != ITEM_PAREN
                && (code != ITEM_MULTIPLY || waiting[waits - 1] == ITEM_MULTIPLY)) {
                waits--;
                draft.addItem(waiting[waits], 0);
            }
        }
    }

    /** The routes of all rounds, with their holds and zones. */
    private static final class Wall {
        final int[] holds = new int[ROUNDS_MOST * ROUTES_MOST];
        final int[] begun = new int[ROUNDS_MOST * ROUTES_MOST];
        final int[] zones = new int[ROUNDS_MOST * ROUTES_MOST * ZONES_MOST];

        void clear() {
            Arrays.fill(holds, HOLDS_UNTOLD);
            Arrays.fill(begun, 0);
            Arrays.fill(zones, 0);
        }

        int holdsOf(int round, int route) {
            return holds[round * ROUTES_MOST + route];
        }

        int begunOn(int round, int route) {
            return begun[round * ROUTES_MOST + route];
        }

        int zoneOf(int round, int route, int zone) {
            return zones[(round * ROUTES_MOST + route) * ZONES_MOST + zone];
        }

        void set(int round, int route, int many) {
            holds[round * ROUTES_MOST + route] = many;
        }

        void setZone(int round, int route, int zone, int hold) {
            zones[(round * ROUTES_MOST + route) * ZONES_MOST + zone] = hold;
        }

        void countBegun(int round, int route) {
            begun[round * ROUTES_MOST + route]++;
        }

        int zonesUpTo(int round, int route, int hold) {
            int many = 0;
            for (int zone = 0; zone < ZONES_MOST; zone++) {
                int at = zoneOf(round, route, zone);
                if (at > 0 && at <= hold) {
                    many++;
                }
            }
            return many;
        }
    }

    /** The climbers; one is in all rounds up to her latest, since a round takes from the one ahead. */
    private static final class Field {
        int climbers;
        int open;
        final int[] latest = new int[CLIMBERS_MOST];
        final int[] cutDay = new int[ROUNDS_MOST];

        void clear() {
            climbers = 0;
            open = 0;
        }

        int enter() {
            latest[climbers] = 0;
            climbers++;
            return climbers - 1;
        }

        boolean knows(int climber) {
            return climber >= 0 && climber < climbers;
        }

        boolean isIn(int round, int climber) {
            return knows(climber) && latest[climber] >= round;
        }

        int manyIn(int round) {
            int many = 0;
            for (int climber = 0; climber < climbers; climber++) {
                if (latest[climber] >= round) {
                    many++;
                }
            }
            return many;
        }

        int letCome(int[] ranks, int most, int day) {
            int many = 0;
            for (int climber = 0; climber < climbers; climber++) {
                if (latest[climber] == open && ranks[climber] <= most) {
                    latest[climber] = open + 1;
                    many++;
                }
            }
            open++;
            cutDay[open] = day;
            return many;
        }

        int dayOf(int round) {
            return cutDay[round];
        }
    }

    /** All tries, numbered as they begin. */
    private static final class Tries {
        int many;
        final int[] climber = new int[TRIES_MOST];
        final int[] round = new int[TRIES_MOST];
        final int[] route = new int[TRIES_MOST];
        final int[] begun = new int[TRIES_MOST];
        final int[] ended = new int[TRIES_MOST];
        final int[] hold = new int[TRIES_MOST];
        final int[] how = new int[TRIES_MOST];
        /** A climber's open try and one more, so that what was never set means none. */
        final int[] openNext = new int[CLIMBERS_MOST];

        void clear() {
            many = 0;
            Arrays.fill(openNext, 0);
        }

        boolean knows(int number) {
            return number >= 0 && number < many;
        }

        int openOf(int who) {
            return openNext[who] - 1;
        }

        boolean anyOpen() {
            for (int who = 0; who < CLIMBERS_MOST; who++) {
                if (openNext[who] > 0) {
                    return true;
                }
            }
            return false;
        }

        int start(int who, int inRound, int on, int second) {
            int number = many;
            climber[number] = who;
            round[number] = inRound;
            route[number] = on;
            begun[number] = second;
            ended[number] = NONE;
            hold[number] = 0;
            how[number] = HOW_OPEN;
            openNext[who] = number + 1;
            many++;
            return number;
        }

        void finish(int number, int second, int way) {
            ended[number] = second;
            how[number] = way;
            openNext[climber[number]] = 0;
        }

        void endOverdue(int second, int length) {
            for (int who = 0; who < CLIMBERS_MOST; who++) {
                int number = openOf(who);
                if (number != NONE && second >= begun[number] + length) {
                    finish(number, begun[number] + length, HOW_OVER);
                }
            }
        }

        boolean isOf(int number, int who, int inRound, int on) {
            return climber[number] == who && round[number] == inRound && route[number] == on;
        }

        boolean mayNotTry(int who, int inRound, int on, int most) {
            int spent = 0;
            for (int i = 0; i < many; i++) {
                if (isOf(i, who, inRound, on) && how[i] != HOW_BROKEN) {
                    if (how[i] == HOW_TOPPED) {
                        return true;
                    }
                    spent++;
                }
            }
            return spent >= most;
        }

        int lastEnd(int who, int inRound) {
            int last = NONE;
            for (int i = 0; i < many; i++) {
                if (climber[i] == who && round[i] == inRound) {
                    last = Math.max(last, ended[i]);
                }
            }
            return last;
        }
    }

    /** Appeals in the order of their calls. */
    private static final class Appeals {
        int many;
        final int[] number = new int[APPEALS_MOST];
        final int[] hold = new int[APPEALS_MOST];
        final int[] day = new int[APPEALS_MOST];

        void clear() {
            many = 0;
        }

        void put(int which, int toHold, int onDay) {
            number[many] = which;
            hold[many] = toHold;
            day[many] = onDay;
            many++;
        }
    }

    /** When each climber was out in the open round. */
    private static final class Watch {
        final int[] times = new int[CLIMBERS_MOST];
        final int[] wentOut = new int[CLIMBERS_MOST * OUTS_MOST];
        final int[] cameIn = new int[CLIMBERS_MOST * OUTS_MOST];

        void clear() {
            Arrays.fill(times, 0);
        }

        private int latest(int climber) {
            return climber * OUTS_MOST + times[climber] - 1;
        }

        boolean isOut(int climber) {
            return times[climber] > 0 && cameIn[latest(climber)] == NONE;
        }

        void goOut(int climber, int second) {
            times[climber]++;
            wentOut[latest(climber)] = second;
            cameIn[latest(climber)] = NONE;
        }

        void comeIn(int climber, int second) {
            cameIn[latest(climber)] = second;
        }

        boolean hasSeen(Tries tries, int climber, int round, int route, int now) {
            for (int i = 0; i < tries.many; i++) {
                if (tries.round[i] == round && tries.route[i] == route && tries.climber[i] != climber
                    && wasOut(climber, tries.begun[i], tries.ended[i] == NONE ? now : tries.ended[i], now)) {
                    return true;
                }
            }
            return false;
        }

        private boolean wasOut(int climber, int from, int to, int now) {
            for (int i = climber * OUTS_MOST; i <= latest(climber); i++) {
                int until = cameIn[i] == NONE ? now : cameIn[i];
                if (wentOut[i] <= to && from <= until) {
                    return true;
                }
            }
            return false;
        }
    }

    /** Works out what is known on a day; each row is filled anew for the call that asks. */
    private static final class Results {
        static final int CELLS = CLIMBERS_MOST * ROUTES_MOST;

        final Laws laws;
        final Wall wall;
        final Field field;
        final Tries tries;
        final Appeals appeals;
        final int[] known = new int[TRIES_MOST];
        final int[] knownDay = new int[TRIES_MOST];
        final int[] counted = new int[ROUNDS_MOST * CELLS];
        final int[] best = new int[ROUNDS_MOST * CELLS];
        final int[] bestNumber = new int[ROUNDS_MOST * CELLS];
        final int[] facts = new int[FACTS];
        final int[] points = new int[CELLS];
        final long[] totals = new long[KEYS_MOST];
        final long[] keyRows = new long[ROUNDS_MOST * CLIMBERS_MOST * KEYS_MOST];
        final int[] ranks = new int[CLIMBERS_MOST];

        Results(Laws laws, Wall wall, Field field, Tries tries, Appeals appeals) {
            this.laws = laws;
            this.wall = wall;
            this.field = field;
            this.tries = tries;
            this.appeals = appeals;
        }

        private static int cellOf(int round, int climber, int route) {
            return round * CELLS + climber * ROUTES_MOST + route;
        }

        private static int keyRow(int round, int climber) {
            return (round * CLIMBERS_MOST + climber) * KEYS_MOST;
        }

        /** Finds for every climber on every route the try that counts. */
        void survey(int day) {
            hearAppeals(day);
            Arrays.fill(counted, 0);
            for (int i = 0; i < tries.many; i++) {
                if (tries.how[i] != HOW_BROKEN) {
                    int cell = cellOf(tries.round[i], tries.climber[i], tries.route[i]);
                    counted[cell]++;
                    if (counted[cell] == 1 || known[i] > known[best[cell]]) {
                        best[cell] = i;
                        bestNumber[cell] = counted[cell];
                    }
                }
            }
        }

        private void hearAppeals(int day) {
            for (int i = 0; i < tries.many; i++) {
                known[i] = tries.hold[i];
                knownDay[i] = NONE;
            }
            for (int i = 0; i < appeals.many; i++) {
                int number = appeals.number[i];
                if (appeals.day[i] <= day && appeals.day[i] >= knownDay[number]) {
                    known[number] = appeals.hold[i];
                    knownDay[number] = appeals.day[i];
                }
            }
        }

        void workFacts(int round, int climber, int route) {
            Arrays.fill(facts, 0);
            int cell = cellOf(round, climber, route);
            if (counted[cell] == 0) {
                return;
            }
            int number = best[cell];
            int hold = known[number];
            boolean top = hold == wall.holdsOf(round, route);
            facts[FACT_TOP] = top ? 1 : 0;
            facts[FACT_ZONE] = wall.zonesUpTo(round, route, hold);
            facts[FACT_HOLD] = hold;
            facts[FACT_TRIES] = bestNumber[cell];
            facts[FACT_SECONDS] = tries.how[number] == HOW_OPEN ? 0 : tries.ended[number] - tries.begun[number];
            facts[FACT_FLASH] = top && bestNumber[cell] == 1 ? 1 : 0;
        }

        void workKeys(int round, int climber) {
            Arrays.fill(totals, 0L);
            for (int route = 0; route < laws.shapeOf(round, SHAPE_ROUTES); route++) {
                workFacts(round, climber, route);
                int worth = laws.pointsFor(facts);
                totals[KEY_SUM] += worth;
                totals[KEY_MOST] = route == 0 ? worth : Math.max(totals[KEY_MOST], worth);
                totals[KEY_TOPS] += facts[FACT_TOP];
                totals[KEY_ZONES] += facts[FACT_ZONE];
            }
            for (int k = 0; k < laws.keys; k++) {
                keyRows[keyRow(round, climber) + k] = totals[laws.keyKind[k]];
            }
        }

        long keyOf(int round, int climber, int k) {
            return keyRows[keyRow(round, climber) + k];
        }

        void workRanks(int round, int day) {
            survey(day);
            for (int climber = 0; climber < field.climbers; climber++) {
                for (int r = lowestAsked(round); r <= round && field.isIn(round, climber); r++) {
                    workKeys(r, climber);
                }
            }
            for (int climber = 0; climber < field.climbers; climber++) {
                ranks[climber] = field.isIn(round, climber) ? 1 + manyAhead(round, climber) : NONE;
            }
        }

        private int manyAhead(int round, int climber) {
            int many = 0;
            for (int other = 0; other < field.climbers; other++) {
                if (field.isIn(round, other) && isAhead(round, other, climber)) {
                    many++;
                }
            }
            return many;
        }

        private int lowestAsked(int round) {
            return laws.back ? 0 : round;
        }

        private boolean isAhead(int round, int one, int other) {
            for (int r = round; r >= lowestAsked(round); r--) {
                for (int k = 0; k < laws.keys; k++) {
                    long mine = keyOf(r, one, k);
                    long hers = keyOf(r, other, k);
                    if (mine != hers) {
                        return (mine > hers) == (laws.keyDown[k] == 1);
                    }
                }
            }
            return false;
        }

        /** By the ranks last worked out, which must be those of the round ahead. */
        int starter(int round, int k) {
            for (int climber = 0; climber < field.climbers; climber++) {
                if (field.isIn(round, climber) && manyStartAhead(round, climber) == k) {
                    return climber;
                }
            }
            return NONE;
        }

        private int manyStartAhead(int round, int climber) {
            int many = 0;
            for (int other = 0; other < field.climbers; other++) {
                if (field.isIn(round, other) && (ranks[other] > ranks[climber]
                    || (ranks[other] == ranks[climber] && other > climber))) {
                    many++;
                }
            }
            return many;
        }

        void workPoints(int round, int day) {
            survey(day);
            for (int climber = 0; climber < field.climbers; climber++) {
                for (int route = 0; route < laws.shapeOf(round, SHAPE_ROUTES); route++) {
                    workFacts(round, climber, route);
                    points[climber * ROUTES_MOST + route] = laws.pointsFor(facts);
                }
            }
        }

        private long together(int climber, int set) {
            long sum = 0;
            for (int route = 0; route < ROUTES_MOST; route++) {
                if ((set >> route & 1) == 1) {
                    sum += points[climber * ROUTES_MOST + route];
                }
            }
            return sum;
        }

        int pairsParted(int round, int set) {
            int pairs = 0;
            for (int one = 0; one < field.climbers; one++) {
                for (int other = 0; other < one; other++) {
                    if (field.isIn(round, one) && field.isIn(round, other)
                        && together(one, set) != together(other, set)) {
                        pairs++;
                    }
                }
            }
            return pairs;
        }

        int bestSet(int round, int routes, int many) {
            int bestYet = NONE;
            int mostPairs = NONE;
            for (int set = 1; set < 1 << routes; set++) {
                if (Integer.bitCount(set) == many) {
                    int pairs = pairsParted(round, set);
                    if (pairs > mostPairs) {
                        mostPairs = pairs;
                        bestYet = set;
                    }
                }
            }
            return bestYet;
        }
    }
}
