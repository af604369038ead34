/** Section 4 of the document: of several statuses that hold at once the one that is asked first. */
final class StatusBoundaries extends Calls {
    private StatusBoundaries() {
    }

    static void run() {
        newObject();
        callsWithoutStatus();
        everyOtherCallHasOne();
        load();
        climber();
        route();
        told();
        beginArguments();
        beginNotInTheOpenRound();
        beginOpenTry();
        beginNoneLeft();
        beginTooMany();
        beginSeen();
        reach();
        fall();
        out();
        clock();
        tried();
        ready();
        appeal();
        resultCalls();
        advance();
        partsAndChoose();
        calls512();
    }

    private static void newObject() {
        Check.sentence("No ROUNDS, no CLIMBERS, an empty tape; STATUS 0.");
        RouteWall x = new RouteWall();
        Check.due("status()", x.status(), 0);
        due("now()", x, x.now(), 0, 0);
        refused("load(1)", x, x.load(1), 2);
        Check.due("fault(0)", x.fault(0), NONE);
        Check.due("feed()", x.feed(0, 0, 0, 0, 0), 20);
        emptyContest(new RouteWall());
        Check.sentence("how many ROUNDS (2: n below 0, or more than the tape has");
        x = new RouteWall();
        due("no byte, no round", x, x.load(0), 0, 0);
        emptyContest(x);
        x = Texts.wall("round 5 9 99 0;", 16);
        x.begin(0, 0, 0);
        due("ties alone, no round", x, Texts.load(x, "ties back;"), 0, 0);
        emptyContest(x);
    }

    private static void emptyContest(RouteWall x) {
        refused("climber", x, x.climber(), 1);
        refused("route", x, x.route(0, 0, 10, 0, 0, 0), 1);
        refused("told of a round", x, x.told(0, NONE, 0), 1);
        refused("told of a route", x, x.told(0, 0, 0), 1);
        refused("begin", x, x.begin(0, 0, 5), 1);
        refused("reach", x, x.reach(0, 1, 5), 1);
        refused("fall", x, x.fall(0, 5, false), 1);
        refused("out", x, x.out(0, 5, true), 1);
        due("no second went on", x, x.now(), 0, 0);
        refused("tried", x, x.tried(0, 0), 1);
        refused("seen", x, x.seen(0, 0), 1);
        refused("ready", x, x.ready(0), 1);
        refused("appeal", x, x.appeal(0, 0, 0), 1);
        refused("of", x, x.of(0, 0, 0, 0, 0), 1);
        refused("key", x, x.key(0, 0, 0, 0), 1);
        refused("rank", x, x.rank(0, 0, 0), 1);
        refused("advance", x, x.advance(1, 0), 10);
        refused("order", x, x.order(0, 0), 1);
        refused("parts", x, x.parts(0, 0, 0), 1);
        refused("choose", x, x.choose(0, 1, 0), 1);
        due("clock", x, x.clock(5), true, 0);
        due("it goes on", x, x.now(), 5, 0);
    }

    private static void callsWithoutStatus() {
        Check.sentence("status(), fault() and feed() have none.");
        RouteWall x = new RouteWall();
        x.clock(-1);
        for (int i = 0; i < 36; i++) {
            x.feed(0, 0, 0, 0, 0);
            Check.due("behind feed " + i, x.status(), 2);
        }
        for (int what = -1; what <= 2; what++) {
            x.fault(what);
            Check.due("behind fault(" + what + ")", x.status(), 2);
        }
        x.load(700);
        x.fault(0);
        Check.due("behind a load", x.status(), 10);
        Check.due("asked again", x.status(), 10);
    }

    private static void everyOtherCallHasOne() {
        Check.sentence("The STATUS of the latest call that has one.");
        RouteWall x = Texts.wall("round 1 9 99 0;round 1 9 99 0;", 2);
        x.begin(0, 0, 0);
        x.fall(0, 0, false);
        WallBoundaries.Call[] calls = {y -> y.told(0, 0, 0), y -> y.tried(0, 0), y -> y.seen(0, 0), y -> y.ready(0),
            y -> y.of(0, 0, 0, 0, 0), y -> y.key(0, 0, 0, 0), y -> y.rank(0, 0, 0), y -> y.order(0, 0),
            y -> y.parts(0, 1, 0), y -> y.choose(0, 1, 0), y -> y.now(), y -> y.clock(1) ? 1 : 0,
            y -> y.out(0, 1, true) ? 1 : 0, y -> y.begin(0, 0, 1), y -> y.reach(0, 1, 1), y -> y.fall(0, 1, true) ? 1 : 0,
            y -> y.appeal(0, 1, 0) ? 1 : 0, y -> y.route(1, 0, 5, 0, 0, 0) ? 1 : 0, y -> y.advance(1, 0),
            y -> y.load(0), y -> Texts.load(y, "round 1 1 10 0;"), y -> y.climber()};
        for (int i = 0; i < calls.length; i++) {
            x.tried(-1, 0);
            Check.due("STATUS 1 ahead of call " + i, x.status(), 1);
            calls[i].on(x);
            Check.due("STATUS 0 of call " + i, x.status(), 0);
        }
        x = new RouteWall();
        Check.due("a new object", x.status(), 0);
    }

    private static void load() {
        Check.sentence("STATUS of a call is the first of these that holds");
        RouteWall x = new RouteWall();
        Texts.feed(x, "?");
        refused("load: 2 ahead of 10", x, x.load(21), 2);
        refused("load: 2 ahead of 10", x, x.load(-1), 2);
        refused("load: 10", x, x.load(20), 10);
    }

    private static void climber() {
        Check.sentence("her number (1: there is no ROUND; 3; 10: a TRY was begun, or a ROUND advanced)");
        RouteWall x = Texts.wall("round 1 9 99 0;round 1 9 99 0;", 16);
        x.begin(0, 0, 0);
        refused("3 ahead of 10, a try", x, x.climber(), 3);
        x.fall(0, 0, false);
        x.advance(1, 0);
        refused("3 ahead of 10, a round", x, x.climber(), 3);
        x = Texts.wall("round 1 9 99 0;round 1 9 99 0;", 15);
        x.begin(0, 0, 0);
        refused("10 with fifteen", x, x.climber(), 10);
    }

    private static void route() {
        Check.sentence("(1; 2; 10: a TRY was begun on it)");
        RouteWall x = Texts.wall("round 1 9 99 0;", 1);
        refused("1 ahead of 2, the round", x, x.route(1, 0, 1, 0, 0, 0), 1);
        refused("1 ahead of 2, the route", x, x.route(0, 1, 61, 9, 8, 7), 1);
        x.begin(0, 0, 0);
        refused("2 ahead of 10, holds", x, x.route(0, 0, 61, 0, 0, 0), 2);
        refused("2 ahead of 10, zones", x, x.route(0, 0, 10, 2, 1, 0), 2);
        refused("10", x, x.route(0, 0, 10, 1, 2, 0), 10);
    }

    private static void told() {
        Check.sentence("4: CLIMBERS in it (1; 2).");
        RouteWall x = Texts.wall("round 1 9 99 0;", 1);
        refused("1 ahead of 2, the round", x, x.told(1, NONE, 5), 1);
        refused("1 ahead of 2, the route", x, x.told(0, 1, 5), 1);
        refused("1 ahead of 2, route -2", x, x.told(0, -2, -1), 1);
        refused("2", x, x.told(0, NONE, 5), 2);
    }

    private static void beginArguments() {
        Check.sentence("A TRY begins (1; 2: second; 9; 4; 5; 6; 3; 7; 8: asked in this order)");
        RouteWall x = Texts.wall("round 1 1 99 50;round 1 1 99 50;points hold;", 3);
        x.clock(10);
        refused("1 ahead of 2, the climber", x, x.begin(3, 0, -1), 1);
        refused("1 ahead of 2, the route", x, x.begin(0, 1, 1000001), 1);
        refused("1 ahead of 9", x, x.begin(0, 1, 9), 1);
        refused("2 ahead of 9", x, x.begin(0, 0, -1), 2);
        x.begin(0, 0, 10);
        refused("1 ahead of 5", x, x.begin(0, 1, 10), 1);
        refused("2 ahead of 5", x, x.begin(0, 0, 1000001), 2);
        refused("9 ahead of 5", x, x.begin(0, 0, 9), 9);
        x.fall(0, 10, false);
        refused("9 ahead of 6 and 8", x, x.begin(0, 0, 9), 9);
        refused("2 ahead of 6 and 8", x, x.begin(0, 0, -1), 2);
        refused("1 ahead of 8", x, x.begin(0, -1, 10), 1);
    }

    private static void beginNotInTheOpenRound() {
        Check.sentence("4 she is not in the OPEN ROUND.");
        RouteWall x = Texts.wall("round 2 1 99 50;round 1 1 99 50;points hold;", 3);
        climb(x, 0, 0, 5, 0);
        climb(x, 1, 0, 4, 0);
        x.advance(1, 0);
        x.clock(10);
        refused("1 ahead of 4", x, x.begin(1, 1, 10), 1);
        refused("2 ahead of 4", x, x.begin(1, 0, -1), 2);
        refused("9 ahead of 4", x, x.begin(1, 0, 9), 9);
        refused("4, with no try left in the round ahead", x, x.begin(1, 0, 10), 4);
        x.out(1, 10, true);
        x.begin(0, 0, 10);
        due("she has seen it", x, x.seen(1, 0), 1, 0);
        refused("4 ahead of 7", x, x.begin(1, 0, 10), 4);
        refused("5 of her that is in it", x, x.begin(0, 0, 10), 5);
        x = Texts.wall("round 5 9 10 0;round 1 1 10 0;points hold;", 16);
        for (int i = 0; i < 300; i++) {
            x.begin(i % 16, i / 16 % 5, 10 * i);
        }
        x.clock(3000);
        x.appeal(0, 5, 0);
        x.advance(1, 0);
        refused("4 ahead of 3", x, x.begin(1, 0, 3000), 4);
        refused("3 of her that is in it", x, x.begin(0, 0, 3000), 3);
    }

    private static void beginOpenTry() {
        Check.sentence("5 she has an open TRY, or has none.");
        RouteWall x = Texts.wall("round 2 1 99 50;", 2);
        x.out(0, 0, true);
        x.begin(0, 0, 0);
        refused("5 ahead of 6", x, x.begin(0, 0, 0), 5);
        x.begin(1, 1, 0);
        due("she has seen the other", x, x.seen(0, 1), 1, 0);
        refused("5 ahead of 7", x, x.begin(0, 1, 0), 5);
        x = Texts.wall("round 5 9 10 0;", 16);
        for (int i = 0; i < 300; i++) {
            x.begin(i % 16, i / 16 % 5, 10 * i);
        }
        refused("5 ahead of 3", x, x.begin(299 % 16, 0, 2990), 5);
        x = Texts.wall("round 2 9 99 50;", 1);
        x.begin(0, 0, 0);
        x.fall(0, 0, false);
        x.begin(0, 1, 50);
        refused("5, and no rest from an open one", x, x.begin(0, 0, 50), 5);
    }

    private static void beginNoneLeft() {
        Check.sentence("6 no TRIES left on that ROUTE");
        RouteWall x = Texts.wall("round 1 1 99 50;", 2);
        x.out(0, 0, true);
        x.begin(0, 0, 0);
        x.begin(1, 0, 0);
        x.fall(0, 0, false);
        due("she has seen it", x, x.seen(0, 0), 1, 0);
        refused("6 ahead of 7 and 8", x, x.begin(0, 0, 0), 6);
        refused("6 ahead of 7", x, x.begin(0, 0, 50), 6);
        x = Texts.wall("round 2 9 99 50;", 1);
        x.begin(0, 0, 0);
        x.reach(0, 10, 0);
        refused("6 ahead of 8, topped", x, x.begin(0, 0, 0), 6);
        refused("8 on the other", x, x.begin(0, 1, 0), 8);
        x = Texts.wall("round 5 4 10 9;", 16);
        for (int i = 0; i < 300; i++) {
            x.begin(i % 16, i / 16 % 5, 10 * i);
        }
        x.clock(3000);
        refused("6 ahead of 3", x, x.begin(0, 0, 3000), 6);
        refused("3 with one left", x, x.begin(15, 4, 3000), 3);
    }

    private static void beginTooMany() {
        Check.sentence("3 one too many (also TRIES");
        RouteWall x = Texts.wall("round 5 9 10 9;", 16);
        for (int i = 0; i < 300; i++) {
            x.begin(i % 16, i / 16 % 5, 10 * i);
        }
        x.out(0, 2990, true);
        int route = 299 / 16 % 5;
        due("she has seen it", x, x.seen(0, route), 1, 0);
        refused("3 ahead of 7", x, x.begin(0, route, 2990), 3);
        x.clock(3000);
        due("she rests", x, x.ready(299 % 16), 3009, 0);
        refused("3 ahead of 8", x, x.begin(299 % 16, 0, 3000), 3);
        refused("9 ahead of 3", x, x.begin(0, route, 2999), 9);
    }

    private static void beginSeen() {
        Check.sentence("7 she has SEEN it. 8 her REST.");
        RouteWall x = Texts.wall("round 1 9 99 50;", 2);
        x.out(0, 0, true);
        x.begin(0, 0, 0);
        x.begin(1, 0, 0);
        x.fall(0, 0, false);
        refused("7 ahead of 8", x, x.begin(0, 0, 0), 7);
        refused("7 ahead of 8, her last second of rest", x, x.begin(0, 0, 49), 7);
        refused("7", x, x.begin(0, 0, 50), 7);
    }

    private static void reach() {
        Check.sentence("2: a HOLD below 1 or above 60, too; 9; 5; 10: not above the one ahead, or above the last; in this order");
        RouteWall x = Texts.wall("round 1 9 99 0;", 2);
        x.clock(10);
        refused("1 ahead of 2, the hold", x, x.reach(2, 0, 10), 1);
        refused("1 ahead of 2, the second", x, x.reach(2, 1, -1), 1);
        refused("1 ahead of 9", x, x.reach(-1, 1, 9), 1);
        refused("2 ahead of 9, the hold", x, x.reach(0, 61, 9), 2);
        refused("2 ahead of 9, the second", x, x.reach(0, 1, -1), 2);
        refused("2 ahead of 5", x, x.reach(0, 0, 10), 2);
        refused("9 ahead of 5", x, x.reach(0, 1, 9), 9);
        refused("5 ahead of 10", x, x.reach(0, 11, 10), 5);
        x.begin(0, 0, 10);
        x.reach(0, 5, 10);
        refused("2 ahead of 10", x, x.reach(0, 0, 10), 2);
        refused("9 ahead of 10, not above", x, x.reach(0, 5, 9), 9);
        refused("9 ahead of 10, above the last", x, x.reach(0, 11, 9), 9);
        refused("5 ahead of 10, over by this call", x, x.reach(0, 5, 109), 5);
    }

    private static void fall() {
        Check.sentence("She falls (broken false), or a hold breaks (1; 2; 9; 5; in this order).");
        for (int i = 0; i < 2; i++) {
            boolean broken = i == 1;
            RouteWall x = Texts.wall("round 1 9 99 0;", 2);
            x.clock(10);
            refused("1 ahead of 2", x, x.fall(2, -1, broken), 1);
            refused("1 ahead of 9", x, x.fall(-1, 9, broken), 1);
            refused("2 ahead of 9 and 5", x, x.fall(0, -1, broken), 2);
            refused("2 ahead of 5", x, x.fall(0, 1000001, broken), 2);
            refused("9 ahead of 5", x, x.fall(0, 9, broken), 9);
            refused("5", x, x.fall(0, 10, broken), 5);
        }
    }

    private static void out() {
        Check.sentence("She goes OUT, or comes IN (1; 2; 9; 10: she is so; 3: she was OUT 20 times in the OPEN ROUND; in this order).");
        RouteWall x = Texts.wall("round 1 9 99 0;", 2);
        x.clock(10);
        refused("1 ahead of 2", x, x.out(2, -1, true), 1);
        refused("1 ahead of 9", x, x.out(-1, 9, true), 1);
        refused("2 ahead of 9 and 10", x, x.out(0, -1, false), 2);
        refused("2 ahead of 10", x, x.out(0, 1000001, false), 2);
        refused("9 ahead of 10", x, x.out(0, 9, false), 9);
        for (int i = 0; i < 19; i++) {
            x.out(0, 10, true);
            x.out(0, 10, false);
        }
        x.out(0, 10, true);
        refused("10 ahead of 3, out for the 20th time", x, x.out(0, 10, true), 10);
        x.out(0, 10, false);
        refused("9 ahead of 3", x, x.out(0, 9, true), 9);
        refused("2 ahead of 3", x, x.out(0, -1, true), 2);
        refused("10 ahead of 3, in", x, x.out(0, 10, false), 10);
        refused("3", x, x.out(0, 10, true), 3);
    }

    private static void clock() {
        Check.sentence("It is that second (2; 9).");
        RouteWall x = new RouteWall();
        x.clock(10);
        refused("2 ahead of 9", x, x.clock(-1), 2);
        refused("9", x, x.clock(9), 9);
        refused("2 ahead of 9", x, x.clock(LEAST), 2);
    }

    private static void tried() {
        Check.sentence("4 broken) (1; 2).");
        RouteWall x = Texts.wall("round 1 9 99 0;", 1);
        refused("1 ahead of 2", x, x.tried(0, 7), 1);
        refused("1 ahead of 2", x, x.tried(-1, -1), 1);
        x.begin(0, 0, 0);
        refused("2", x, x.tried(0, 7), 2);
    }

    private static void ready() {
        Check.sentence("(1; 5: she has an open TRY)");
        RouteWall x = Texts.wall("round 1 9 99 5;", 1);
        x.begin(0, 0, 0);
        refused("1", x, x.ready(1), 1);
        refused("5", x, x.ready(0), 5);
    }

    private static void appeal() {
        Check.sentence("its HOLD (1; 2; 10: it is open, or broken; 3: 40 appeals; in this order)");
        RouteWall x = Texts.wall("round 1 9 99 0;", 2);
        refused("1 ahead of 2", x, x.appeal(0, -1, -1), 1);
        x.begin(0, 0, 0);
        x.begin(1, 0, 0);
        x.fall(1, 0, true);
        refused("2 ahead of 10, the hold of an open one", x, x.appeal(0, 11, 0), 2);
        refused("2 ahead of 10, the day of an open one", x, x.appeal(0, 1, 1000), 2);
        refused("2 ahead of 10, a broken one", x, x.appeal(1, -1, 0), 2);
        x.begin(1, 0, 0);
        x.fall(1, 0, false);
        for (int i = 0; i < 40; i++) {
            x.appeal(2, 1, 0);
        }
        refused("1 ahead of 3", x, x.appeal(3, 1, 0), 1);
        refused("2 ahead of 3", x, x.appeal(2, 11, 0), 2);
        refused("10 ahead of 3, open", x, x.appeal(0, 1, 0), 10);
        refused("10 ahead of 3, broken", x, x.appeal(1, 1, 0), 10);
        refused("3", x, x.appeal(2, 1, 0), 3);
    }

    private static void resultCalls() {
        Check.sentence("1 no such ROUND, ROUTE, CLIMBER, TRY. 2 a number that can't be.");
        RouteWall x = Texts.wall("round 1 9 99 0;round 1 9 99 0;", 1);
        refused("of: the round", x, x.of(2, 0, 0, -1, 7), 1);
        refused("of: the route", x, x.of(0, 1, 0, 1000, 0), 1);
        refused("of: the climber", x, x.of(0, 0, 1, 0, 7), 1);
        refused("key: the round", x, x.key(2, 0, -1, 0), 1);
        refused("key: the climber", x, x.key(0, 1, -1, 0), 1);
        refused("key: one not in it", x, x.key(1, 0, 1000, 0), 1);
        refused("key: no such key", x, x.key(0, 0, 1000, 1), 1);
        refused("rank: the round", x, x.rank(2, 0, -1), 1);
        refused("rank: the climber", x, x.rank(0, 1, -1), 1);
        refused("rank: one not in it", x, x.rank(1, 0, 1000), 1);
    }

    private static void advance() {
        Check.sentence("how many (2; 5: any has an open TRY; 10: there is no next one, or no CLIMBER)");
        RouteWall x = new RouteWall();
        refused("2 ahead of 10, no round", x, x.advance(0, 0), 2);
        refused("2 ahead of 10, no round", x, x.advance(1, 1000), 2);
        x = Texts.wall("round 1 9 99 0;", 1);
        refused("2 ahead of 10, no next one", x, x.advance(17, 0), 2);
        x.begin(0, 0, 0);
        refused("2 ahead of 5", x, x.advance(1, -1), 2);
        refused("5 ahead of 10", x, x.advance(1, 0), 5);
        x.fall(0, 0, false);
        refused("10", x, x.advance(1, 0), 10);
    }

    private static void partsAndChoose() {
        Check.sentence("1 no such ROUND");
        RouteWall x = Texts.wall("round 1 9 99 0;", 1);
        refused("parts: 1 ahead of 2, the set", x, x.parts(1, -1, 0), 1);
        refused("parts: 1 ahead of 2, the day", x, x.parts(-1, 1, 1000), 1);
        refused("choose: 1 ahead of 2, how many", x, x.choose(1, 0, 0), 1);
        refused("choose: 1 ahead of 2, the day", x, x.choose(-1, 1, -1), 1);
        refused("order: the round", x, x.order(1, 0), 1);
    }

    private static void calls512() {
        Check.sentence("An object is used for at most 512 calls after it has been made");
        RouteWall x = new RouteWall();
        for (int i = 1; i < 510; i++) {
            x.clock(i);
        }
        Check.due("the 510th call", x.now(), 509);
        Check.due("the 511th", x.status(), 0);
        Check.due("the 512th", x.now(), 509);
    }
}
