import java.util.ArrayList;
import java.util.List;

/**
 * Refused calls change nothing but what the document says. Two objects are brought to the same state; one of them
 * gets the refused call, the other at most the second that it tells; then both must answer all that follows alike.
 * Each continuation has twins of its own, so that none of them is used for more than 512 calls.
 */
final class RefusedBoundaries extends Calls {
    private static final String TEXT = "round 2 3 20 5;round 2 2 15 4;round 1 1 10 0;"
        + "points hold*10-tries;keys down sum,up most;ties back;";

    interface State {
        RouteWall make();
    }

    interface Step {
        long on(RouteWall x);
    }

    interface Continuation {
        void on(Answers answers);
    }

    /** What an object answers to the calls of a continuation, with the STATUS behind each. */
    static final class Answers {
        final RouteWall x;
        final List<Long> all = new ArrayList<>();

        Answers(RouteWall x) {
            this.x = x;
        }

        void add(long answer) {
            all.add(answer);
            all.add((long) x.status());
        }

        void add(boolean answer) {
            add(answer ? 1 : 0);
        }
    }

    private RefusedBoundaries() {
    }

    static void run() {
        amidstIsSo();
        askedWithoutSeconds();
        toldWithoutSeconds();
        secondsThatDontGoOn();
        secondsThatGoOn();
        tooMany();
        atTheEnd();
        ofAFault();
        ofAFullTape();
    }

    private static long asLong(boolean b) {
        return b ? 1 : 0;
    }

    /**
     * Round 1 is open at second 40 with climbers 0, 1, 2, while 3 did not come. Climber 0 has an open try on route 0
     * since second 38, which came to hold 3. Climber 1 has fallen at 39 and rests. Climber 2 is out, has topped
     * route 0 and seen route 1. On the tape are twenty bytes of a right law and twenty of a wrong one.
     */
    private static RouteWall amidst() {
        RouteWall x = Texts.wall(TEXT, 4);
        x.route(0, 0, 6, 2, 4, 0);
        x.route(1, 1, 5, 1, 0, 0);
        climb(x, 0, 0, 5, 3);
        climb(x, 1, 0, 6, 2);
        climb(x, 2, 1, 7, 4);
        x.out(3, 10, true);
        x.begin(3, 1, 10);
        x.fall(3, 11, true);
        x.appeal(0, 6, 3);
        x.appeal(2, 2, 1);
        x.advance(3, 0);
        x.clock(30);
        climb(x, 2, 0, 10, 0);
        x.out(2, 31, true);
        x.begin(1, 1, 38);
        x.begin(0, 0, 38);
        x.reach(0, 3, 38);
        x.fall(1, 39, false);
        x.clock(40);
        Texts.feed(x, "ties back;          keys up;");
        return x;
    }

    /** Were the state poorer than it says, twins would be alike for nothing. */
    private static void amidstIsSo() {
        Check.sentence("a ROUND is OPEN, if it is the latest that has CLIMBERS");
        RouteWall x = amidst();
        due("now", x, x.now(), 40, 0);
        due("climbers of round 1", x, x.told(1, NONE, 4), 3, 0);
        due("the broken one", x, x.tried(3, 6), 4, 0);
        due("the open one", x, x.tried(6, 6), 0, 0);
        due("its hold", x, x.tried(6, 5), 3, 0);
        due("climber 1 rests", x, x.ready(1), 43, 0);
        due("climber 2 has seen route 1", x, x.seen(2, 1), 1, 0);
        due("climber 1 has not", x, x.seen(1, 1), 0, 0);
        due("climber 2 topped route 0", x, x.tried(4, 6), 1, 0);
        refused("climber 2 is out", x, x.out(2, 40, true), 10);
        due("an appeal of day 3", x, x.of(0, 0, 0, 3, 2), 6, 0);
        due("unknown on day 2", x, x.of(0, 0, 0, 2, 2), 5, 0);
        refused("the tape has 40", x, x.load(41), 2);
    }

    private static void askTold(Answers a) {
        RouteWall x = a.x;
        a.add(x.now());
        for (int round = 0; round < 3; round++) {
            for (int route = -1; route < 2; route++) {
                for (int what = 0; what < 5; what++) {
                    a.add(x.told(round, route, what));
                }
            }
        }
        for (int climber = 0; climber < 4; climber++) {
            a.add(x.ready(climber));
            a.add(x.seen(climber, 0));
            a.add(x.seen(climber, 1));
        }
    }

    private static void askTried(Answers a) {
        for (int number = 0; number < 9; number++) {
            for (int what = 0; what < 7; what++) {
                a.add(a.x.tried(number, what));
            }
        }
    }

    private static void askOf(Answers a) {
        for (int round = 0; round < 2; round++) {
            for (int climber = 0; climber < 4; climber++) {
                for (int day = 0; day < 4; day++) {
                    a.add(a.x.of(round, 0, climber, day, 2));
                    a.add(a.x.of(round, 1, climber, day, 4));
                    a.add(a.x.of(round, round, climber, day, 6));
                }
            }
        }
    }

    private static void askRanks(Answers a) {
        for (int round = 0; round < 3; round++) {
            for (int climber = 0; climber < 4; climber++) {
                a.add(a.x.key(round, climber, 1, 0));
                a.add(a.x.key(round, climber, 3, 1));
                a.add(a.x.rank(round, climber, 0));
                a.add(a.x.rank(round, climber, 3));
                a.add(a.x.order(round, climber));
            }
            for (int set = 0; set < 4; set++) {
                a.add(a.x.parts(round, set, 3));
                a.add(a.x.choose(round, set, 1));
            }
        }
    }

    private static void goOnClimbing(Answers a) {
        RouteWall x = a.x;
        for (int second = 0; second < 12; second++) {
            int now = x.now();
            for (int climber = 0; climber < 4; climber++) {
                a.add(x.begin(climber, (second + climber) % 2, now));
                a.add(x.reach(climber, second % 5 + 1, now));
                if ((second + climber) % 3 == 0) {
                    a.add(x.fall(climber, now, second % 2 == 0));
                }
                if ((second + climber) % 4 == 0) {
                    a.add(x.out(climber, now, second % 3 == 0));
                }
            }
            a.add(x.clock(now + 1));
        }
    }

    private static void goOutOften(Answers a) {
        int now = a.x.now();
        for (int climber = 0; climber < 4; climber++) {
            for (int i = 0; i < 21; i++) {
                a.add(a.x.out(climber, now, true));
                a.add(a.x.out(climber, now, false));
            }
        }
    }

    private static void appealOften(Answers a) {
        a.add(a.x.clock(a.x.now() + 20));
        for (int i = 0; i < 42; i++) {
            a.add(a.x.appeal(i % 6, i % 5, i % 4));
        }
        askRanks(a);
    }

    private static void advanceAndClimb(Answers a) {
        RouteWall x = a.x;
        a.add(x.clock(x.now() + 20));
        a.add(x.climber());
        a.add(x.advance(2, 3));
        for (int k = 0; k < 4; k++) {
            a.add(x.order(2, k));
            a.add(x.begin(k, 0, x.now()));
            a.add(x.route(2, 0, 7, 1, 0, 0));
        }
        a.add(x.advance(2, 3));
    }

    private static void useTheTape(Answers a) {
        RouteWall x = a.x;
        a.all.add((long) x.fault(0));
        a.all.add((long) x.fault(1));
        a.all.add((long) x.feed(0x20202020, 0x20202020, 0x3b3b3b3b, -1, 0));
        a.add(x.load(60));
        a.all.add((long) x.fault(0));
        a.all.add((long) x.fault(1));
        a.add(x.load(1));
        a.add(Texts.load(x, TEXT));
        a.add(x.climber());
    }

    private static final Continuation[] CONTEST = {RefusedBoundaries::askTold, RefusedBoundaries::askTried,
        RefusedBoundaries::askOf, RefusedBoundaries::askRanks, RefusedBoundaries::goOnClimbing,
        RefusedBoundaries::goOutOften, RefusedBoundaries::appealOften, RefusedBoundaries::advanceAndClimb};

    private static void alike(String what, RouteWall refused, RouteWall other, Continuation continuation) {
        Answers one = new Answers(refused);
        Answers two = new Answers(other);
        continuation.on(one);
        continuation.on(two);
        int differ = 0;
        for (int i = 0; i < one.all.size(); i++) {
            differ += one.all.get(i).equals(two.all.get(i)) ? 0 : 1;
        }
        Check.due(what + ": answers that differ behind it", differ, 0);
    }

    private static void unchanged(String what, State state, Step step, int status, int second) {
        for (Continuation continuation : CONTEST) {
            twins(what, state, step, status, second, continuation);
        }
        twins(what, state, step, status, second, RefusedBoundaries::useTheTape);
    }

    /** The second is that which goes on with the refused call, or NONE. */
    private static void twins(String what, State state, Step step, int status, int second, Continuation continuation) {
        RouteWall one = state.make();
        RouteWall two = state.make();
        long answer = step.on(one);
        Check.due(what + ": NONE or false", answer == NONE || answer == 0, true);
        Check.due(what + ": status()", one.status(), status);
        if (second != NONE) {
            Check.due(what + ": the second of its twin", two.clock(second), true);
        }
        alike(what, one, two, continuation);
    }

    private static void unchanged(String what, Step step, int status) {
        unchanged(what, RefusedBoundaries::amidst, step, status, NONE);
    }

    private static void askedWithoutSeconds() {
        Check.sentence("A call with another STATUS than 0 gives NONE, or false, and changes nothing but STATUS");
        unchanged("told 1", x -> x.told(3, 0, 0), 1);
        unchanged("told 2", x -> x.told(0, 0, 5), 2);
        unchanged("tried 1", x -> x.tried(9, 0), 1);
        unchanged("tried 2", x -> x.tried(0, 7), 2);
        unchanged("seen 1", x -> x.seen(4, 0), 1);
        unchanged("ready 1", x -> x.ready(4), 1);
        unchanged("ready 5", x -> x.ready(0), 5);
        unchanged("of 1", x -> x.of(0, 2, 0, 0, 0), 1);
        unchanged("of 2", x -> x.of(0, 0, 0, 1000, 0), 2);
        unchanged("key 1", x -> x.key(1, 3, 0, 0), 1);
        unchanged("key 2", x -> x.key(1, 0, -1, 0), 2);
        unchanged("rank 1", x -> x.rank(1, 3, 0), 1);
        unchanged("rank 2", x -> x.rank(1, 0, -1), 2);
        unchanged("order 1", x -> x.order(1, 3), 1);
        unchanged("parts 1", x -> x.parts(3, 0, 0), 1);
        unchanged("parts 2", x -> x.parts(0, 4, 0), 2);
        unchanged("choose 1", x -> x.choose(3, 1, 0), 1);
        unchanged("choose 2", x -> x.choose(0, 3, 0), 2);
    }

    private static void toldWithoutSeconds() {
        Check.sentence("gives NONE, or false, and changes nothing but STATUS");
        unchanged("load 2, below", x -> x.load(-1), 2);
        unchanged("load 2, above", x -> x.load(41), 2);
        unchanged("climber 10", x -> x.climber(), 10);
        unchanged("route 1, round", x -> asLong(x.route(3, 0, 9, 1, 2, 3)), 1);
        unchanged("route 1, route", x -> asLong(x.route(2, 1, 9, 1, 2, 3)), 1);
        unchanged("route 2, holds", x -> asLong(x.route(2, 0, 61, 1, 2, 3)), 2);
        unchanged("route 2, the last zone", x -> asLong(x.route(2, 0, 9, 1, 2, 2)), 2);
        unchanged("route 10, the open round", x -> asLong(x.route(1, 0, 9, 1, 2, 3)), 10);
        unchanged("route 10, the one ahead", x -> asLong(x.route(0, 0, 9, 1, 2, 3)), 10);
        unchanged("appeal 1", x -> asLong(x.appeal(9, 1, 0)), 1);
        unchanged("appeal 2, hold", x -> asLong(x.appeal(0, 7, 0)), 2);
        unchanged("appeal 2, day", x -> asLong(x.appeal(0, 1, 1000)), 2);
        unchanged("appeal 10, open", x -> asLong(x.appeal(6, 1, 0)), 10);
        unchanged("appeal 10, broken", x -> asLong(x.appeal(3, 1, 0)), 10);
        unchanged("advance 2, most", x -> x.advance(17, 0), 2);
        unchanged("advance 2, day", x -> x.advance(1, 1000), 2);
        unchanged("advance 5", x -> x.advance(1, 0), 5);
    }

    private static void secondsThatDontGoOn() {
        Check.sentence("that has a second and no STATUS 1, 2, 9");
        unchanged("begin 1, climber", x -> x.begin(4, 0, 60), 1);
        unchanged("begin 1, route", x -> x.begin(1, 2, 60), 1);
        unchanged("begin 2, below", x -> x.begin(1, 0, -1), 2);
        unchanged("begin 2, beyond", x -> x.begin(1, 0, 1000001), 2);
        unchanged("begin 9", x -> x.begin(1, 0, 39), 9);
        unchanged("reach 1", x -> x.reach(4, 4, 60), 1);
        unchanged("reach 2, hold 0", x -> x.reach(0, 0, 60), 2);
        unchanged("reach 2, hold 61", x -> x.reach(0, 61, 60), 2);
        unchanged("reach 2, second", x -> x.reach(0, 4, 1000001), 2);
        unchanged("reach 9", x -> x.reach(0, 4, 39), 9);
        unchanged("fall 1", x -> asLong(x.fall(4, 60, false)), 1);
        unchanged("fall 2", x -> asLong(x.fall(0, 1000001, false)), 2);
        unchanged("fall 9", x -> asLong(x.fall(0, 39, false)), 9);
        unchanged("break 9", x -> asLong(x.fall(0, 39, true)), 9);
        unchanged("out 1", x -> asLong(x.out(4, 60, true)), 1);
        unchanged("out 2", x -> asLong(x.out(1, 1000001, true)), 2);
        unchanged("out 9", x -> asLong(x.out(1, 39, true)), 9);
        unchanged("in 9", x -> asLong(x.out(2, 39, false)), 9);
        unchanged("clock 2", x -> asLong(x.clock(1000001)), 2);
        unchanged("clock 9", x -> asLong(x.clock(39)), 9);
    }

    private static void goOn(String what, WallBoundaries.Timed call, int status, int... seconds) {
        for (int second : seconds) {
            unchanged(what + " at " + second, RefusedBoundaries::amidst, x -> call.at(x, second), status, second);
        }
    }

    private static void secondsThatGoOn() {
        Check.sentence("but the seconds go on with each call that has a second");
        goOn("begin 4", (x, s) -> x.begin(3, 0, s), 4, 40, 41, 53, 1000000);
        goOn("begin 5", (x, s) -> x.begin(0, 1, s), 5, 40, 41, 52);
        goOn("begin 6", (x, s) -> x.begin(2, 0, s), 6, 40, 52, 53, 60);
        goOn("begin 7", (x, s) -> x.begin(2, 1, s), 7, 40, 52, 53, 60);
        goOn("begin 8", (x, s) -> x.begin(1, 0, s), 8, 40, 42);
        goOn("reach 5", (x, s) -> x.reach(1, 4, s), 5, 40, 52, 53, 60);
        goOn("reach 5, over by it", (x, s) -> x.reach(0, 4, s), 5, 53, 54, 99);
        goOn("reach 10, not above", (x, s) -> x.reach(0, 3, s), 10, 40, 52);
        goOn("reach 10, above the last", (x, s) -> x.reach(0, 11, s), 10, 40, 52);
        goOn("fall 5", (x, s) -> asLong(x.fall(1, s, false)), 5, 40, 52, 53, 60);
        goOn("fall 5, over by it", (x, s) -> asLong(x.fall(0, s, false)), 5, 53, 54);
        goOn("break 5, over by it", (x, s) -> asLong(x.fall(0, s, true)), 5, 53, 54);
        goOn("out 10", (x, s) -> asLong(x.out(2, s, true)), 10, 40, 52, 53, 60);
        goOn("in 10", (x, s) -> asLong(x.out(1, s, false)), 10, 40, 52, 53, 60);
    }

    /** Three hundred tries, which leave some hundred and ninety calls. */
    private static RouteWall threeHundred() {
        RouteWall x = Texts.wall("round 5 9 10 0;round 1 1 10 0;", 16);
        for (int i = 0; i < 300; i++) {
            x.begin(i % 16, i / 16 % 5, 10 * i);
        }
        return x;
    }

    private static void askBehindThreeHundred(Answers a) {
        RouteWall x = a.x;
        a.add(x.now());
        for (int route = 0; route < 5; route++) {
            a.add(x.told(0, route, 4));
            a.add(x.of(0, route, 12, 0, 3));
        }
        for (int climber = 9; climber < 14; climber++) {
            a.add(x.ready(climber));
            a.add(x.rank(0, climber, 0));
            a.add(x.begin(climber, 3, 3000));
        }
        for (int what = 0; what < 7; what++) {
            a.add(x.tried(299, what));
            a.add(x.tried(300, what));
        }
        a.add(x.appeal(299, 10, 5));
        a.add(x.advance(1, 5));
        a.add(x.told(1, NONE, 4));
    }

    private static RouteWall outTwenty() {
        RouteWall x = Texts.wall("round 2 9 99 0;round 1 1 10 0;", 4);
        for (int i = 0; i < 20; i++) {
            x.out(1, i, true);
            x.out(1, i, false);
        }
        x.begin(0, 0, 30);
        return x;
    }

    private static RouteWall fortyAppeals() {
        RouteWall x = Texts.wall(TEXT, 4);
        climb(x, 0, 0, 3, 1);
        climb(x, 1, 0, 4, 1);
        for (int i = 0; i < 40; i++) {
            x.appeal(i % 2, i % 10, i % 3);
        }
        return x;
    }

    private static void tooMany() {
        Check.sentence("3 one too many");
        for (int second : new int[] {2990, 2999, 3000, 5000}) {
            twins("begin 3 at " + second, RefusedBoundaries::threeHundred, x -> x.begin(13, 4, second), 3, second,
                RefusedBoundaries::askBehindThreeHundred);
        }
        for (int second : new int[] {30, 31, 129}) {
            unchanged("out 3 at " + second, RefusedBoundaries::outTwenty, x -> asLong(x.out(1, second, true)), 3, second);
        }
        unchanged("appeal 3", RefusedBoundaries::fortyAppeals, x -> asLong(x.appeal(0, 9, 0)), 3, NONE);
        unchanged("climber 3", () -> Texts.wall(TEXT, 16), x -> x.climber(), 3, NONE);
    }

    /** The last round is open, and nobody climbs. */
    private static RouteWall lastRound() {
        RouteWall x = Texts.wall(TEXT, 4);
        climb(x, 0, 0, 3, 1);
        x.advance(16, 0);
        x.advance(16, 0);
        x.out(2, 5, true);
        climb(x, 1, 0, 4, 1);
        return x;
    }

    private static void atTheEnd() {
        Check.sentence("10: there is no next one, or no CLIMBER");
        unchanged("advance 10, no next one", RefusedBoundaries::lastRound, x -> x.advance(1, 9), 10, NONE);
        unchanged("advance 10, no climber", () -> Texts.wall(TEXT, 0), x -> x.advance(1, 9), 10, NONE);
        unchanged("advance 10, no round", RouteWall::new, x -> x.advance(1, 9), 10, NONE);
        unchanged("climber 1, no round", RouteWall::new, x -> x.climber(), 1, NONE);
    }

    private static void ofAFault() {
        Check.sentence("(2: n below 0, or more than the tape has; 10: a FAULT, the tape is empty then, too)");
        String[] texts = {"?", "round 1 1 10 0;round 5 9 99 9;points 7;keys up sum;ties shared;;", "round 1 1 10 0",
            "points 1;points 1;", "keys up zones,up zones,up zones,up zones,up zones;"};
        for (String text : texts) {
            for (Continuation continuation : CONTEST) {
                twins("a fault of " + text, RefusedBoundaries::emptied, x -> Texts.load(x, text), 10, NONE, continuation);
            }
            RouteWall x = emptied();
            Texts.load(x, text);
            Check.due("the tape is empty", x.feed(0, 0, 0, 0, 0), 20);
        }
    }

    /** The same contest with an empty tape, which only a load() can leave: a fault, so that the contest stays. */
    private static RouteWall emptied() {
        RouteWall x = amidst();
        x.load(40);
        return x;
    }

    private static void ofAFullTape() {
        Check.sentence("how many it has; NONE if there would be more than 700.");
        for (int i = 0; i < CONTEST.length; i++) {
            RouteWall one = amidst();
            RouteWall two = amidst();
            for (int k = 0; k < 33; k++) {
                one.feed(0, 0, 0, 0, 0);
                two.feed(0, 0, 0, 0, 0);
            }
            Check.due("more than 700", one.feed(1, 2, 3, 4, 5), NONE);
            Check.due("it has no STATUS", one.status(), 0);
            alike("a full tape", one, two, CONTEST[i]);
            Check.due("it is as it was", one.load(701), NONE);
        }
    }
}
