/** Section 2 of the document and promises 6 to 17: climbers, routes, seconds, tries, what is seen, and rest. */
final class WallBoundaries extends Calls {
    private static final int NEVER = 9;

    /** A call that tells a second. */
    interface Timed {
        long at(RouteWall x, int second);
    }

    private static final Timed[] TIMED = {
        (x, s) -> x.begin(1, 0, s), (x, s) -> x.reach(0, 1, s), (x, s) -> asLong(x.fall(0, s, false)),
        (x, s) -> asLong(x.fall(0, s, true)), (x, s) -> asLong(x.out(0, s, true)), (x, s) -> asLong(x.clock(s))};
    private static final String[] TIMED_NAMES = {"begin", "reach", "fall", "break", "out", "clock"};

    private WallBoundaries() {
    }

    static void run() {
        sixteenClimbers();
        climberWithoutRound();
        climberTooLate();
        untoldRoutes();
        holds();
        zones();
        routeTooLate();
        routeArguments();
        climbersOfRounds();
        openRound();
        seconds();
        neverBack();
        holdsOfATry();
        topping();
        secondsAreOver();
        overByAnyCall();
        overByRefusedCalls();
        openBehindOtherStatuses();
        broken();
        oneTryAtATime();
        seenAtASecond();
        seenOwnTries();
        seenWhenOver();
        newRoundNoneSeen();
        outAndIn();
        twentyTimesOut();
        rest();
        restOfEachTry();
        restOfTheRound();
        triesLeft();
        threeHundredTries();
        toldArguments();
        reachArguments();
        triedArguments();
        seenArguments();
        readySecond();
        nowAtFirst();
    }

    private static long asLong(boolean b) {
        return b ? 1 : 0;
    }

    private static void sixteenClimbers() {
        Check.sentence("CLIMBERS, at most 16, numbered as they come.");
        RouteWall x = Texts.wall("round 1 1 10 0;", 0);
        refused("no climber yet", x, x.ready(0), 1);
        for (int i = 0; i < 16; i++) {
            due("climber " + i, x, x.climber(), i, 0);
            due("is known", x, x.ready(i), 0, 0);
            refused("the next one is not", x, x.ready(i + 1), 1);
        }
        refused("a 17th", x, x.climber(), 3);
        refused("and again", x, x.climber(), 3);
        due("sixteen are in round 0", x, x.told(0, NONE, 4), 16, 0);
        due("the last one climbs", x, x.begin(15, 0, 0), 0, 0);
    }

    private static void climberWithoutRound() {
        Check.sentence("1: there is no ROUND");
        RouteWall x = new RouteWall();
        refused("a new object", x, x.climber(), 1);
        x.load(0);
        refused("an empty text", x, x.climber(), 1);
        Texts.load(x, "ties back;points 1;");
        refused("a text without a round", x, x.climber(), 1);
        Texts.load(x, "round 1 1 10 0");
        refused("a text with a fault", x, x.climber(), 1);
        Texts.load(x, "round 1 1 10 0;");
        due("one round", x, x.climber(), 0, 0);
        x.load(0);
        refused("none again", x, x.climber(), 1);
    }

    private static void climberTooLate() {
        Check.sentence("10: a TRY was begun, or a ROUND advanced");
        String text = "round 1 1 10 0;round 1 1 10 0;";
        RouteWall x = Texts.wall(text, 1);
        x.clock(100);
        x.out(0, 100, true);
        x.route(0, 0, 5, 0, 0, 0);
        x.begin(0, 1, 100);
        x.begin(0, 0, -1);
        x.begin(0, 0, 99);
        x.advance(0, 0);
        due("no try was begun, no round advanced", x, x.climber(), 1, 0);
        x.begin(0, 0, 100);
        refused("a try is open", x, x.climber(), 10);
        x.fall(0, 100, true);
        refused("it was a broken one", x, x.climber(), 10);
        x = Texts.wall(text, 1);
        x.advance(1, 0);
        refused("a round advanced", x, x.climber(), 10);
        Texts.load(x, text);
        due("with a new text they come again", x, x.climber(), 0, 0);
        x = Texts.wall("round 1 1 10 0;", 1);
        x.advance(1, 0);
        due("none advanced where no next one is", x, x.climber(), 1, 0);
    }

    private static void untoldRoutes() {
        Check.sentence("A ROUTE of a ROUND has 10 HOLDS and no ZONES until it is told");
        RouteWall x = Texts.wall("round 5 9 99 0;".repeat(4), 1);
        for (int round = 0; round < 4; round++) {
            for (int route = 0; route < 5; route++) {
                int[] due = {10, 0, 0, 0, 0};
                for (int what = 0; what < 5; what++) {
                    due("what " + what, x, x.told(round, route, what), due[what], 0);
                }
            }
        }
        x.begin(0, 4, 0);
        due("hold 9", x, x.reach(0, 9, 0), 0, 0);
        refused("hold 11", x, x.reach(0, 11, 0), 10);
        due("hold 10", x, x.reach(0, 10, 0), 1, 0);
        due("no zone", x, x.of(0, 4, 0, 0, 1), 0, 0);
    }

    private static void holds() {
        Check.sentence("HOLDS 2 to 60");
        RouteWall x = Texts.wall("round 1 9 99 0;", 1);
        for (int many : new int[] {LEAST, -2, -1, 0, 1, 61, 62, 256 + 5, GREATEST}) {
            refused("holds " + many, x, x.route(0, 0, many, 0, 0, 0), 2);
            due("as they were", x, x.told(0, 0, 0), 10, 0);
        }
        for (int many : new int[] {59, 60, 3, 2}) {
            due("holds " + many, x, x.route(0, 0, many, 0, 0, 0), true, 0);
            due("as told", x, x.told(0, 0, 0), many, 0);
        }
        x.begin(0, 0, 0);
        due("the first of two", x, x.reach(0, 1, 0), 0, 0);
        due("the last of two", x, x.reach(0, 2, 0), 1, 0);
        x = Texts.wall("round 1 9 99 0;", 1);
        x.route(0, 0, 60, 58, 59, 60);
        x.begin(0, 0, 0);
        for (int hold = 1; hold < 60; hold++) {
            due("hold " + hold, x, x.reach(0, hold, 0), 0, 0);
        }
        due("hold 60", x, x.reach(0, 60, 0), 1, 0);
        due("with three zones", x, x.of(0, 0, 0, 0, 1), 3, 0);
    }

    private static boolean areZones(int holds, int one, int two, int three) {
        boolean within = Math.min(one, Math.min(two, three)) >= 0 && Math.max(one, Math.max(two, three)) <= holds;
        boolean noneBehindNone = (one > 0 || two == 0) && (two > 0 || three == 0);
        return within && noneBehindNone && (two == 0 || two > one) && (three == 0 || three > two);
    }

    private static void zones() {
        Check.sentence("up to 3 ZONES (HOLDS 1 to HOLDS, each above the one ahead)");
        for (int holds = 2; holds <= 4; holds++) {
            for (int one = -1; one <= holds + 1; one++) {
                for (int two = -1; two <= holds + 1; two++) {
                    for (int three = -1; three <= holds + 1; three++) {
                        zonesOf(holds, one, two, three);
                    }
                }
            }
        }
        zonesOf(60, 60, 0, 0);
        zonesOf(60, 1, 60, 0);
        zonesOf(60, 1, 2, 60);
        zonesOf(60, 61, 0, 0);
        zonesOf(60, 1, 61, 0);
        zonesOf(60, 1, 2, 61);
        for (int wild : new int[] {LEAST, GREATEST}) {
            zonesOf(60, wild, 0, 0);
            zonesOf(60, 1, wild, 0);
            zonesOf(60, 1, 2, wild);
        }
        Check.sentence("and its ZONES (0: none; those behind must be 0, too)");
        zonesOf(9, 0, 0, 0);
        zonesOf(9, 3, 0, 0);
        zonesOf(9, 3, 4, 0);
        zonesOf(9, 0, 4, 0);
        zonesOf(9, 0, 0, 5);
        zonesOf(9, 3, 0, 5);
        zonesOf(9, 0, 4, 5);
        zonesOf(9, 0, -1, 0);
        RouteWall x = Texts.wall("round 1 9 99 0;", 0);
        x.route(0, 0, 9, 1, 2, 3);
        due("told again with fewer", x, x.route(0, 0, 9, 4, 0, 0), true, 0);
        due("the second is gone", x, x.told(0, 0, 2), 0, 0);
        due("the third is gone", x, x.told(0, 0, 3), 0, 0);
    }

    private static void zonesOf(int holds, int one, int two, int three) {
        RouteWall x = Texts.wall("round 1 1 10 0;", 0);
        String what = "route(0, 0, " + holds + ", " + one + ", " + two + ", " + three + ")";
        boolean right = areZones(holds, one, two, three);
        due(what, x, x.route(0, 0, holds, one, two, three), right, right ? 0 : 2);
        int[] due = right ? new int[] {holds, one, two, three} : new int[] {10, 0, 0, 0};
        for (int i = 0; i < 4; i++) {
            Check.due(what + ": told " + i, x.told(0, 0, i), due[i]);
        }
    }

    private static void routeTooLate() {
        Check.sentence("10: a TRY was begun on it");
        RouteWall x = Texts.wall("round 2 9 99 0;round 2 9 99 0;", 1);
        x.begin(0, 2, 0);
        x.begin(0, 0, -1);
        due("none was begun", x, x.route(0, 0, 5, 1, 0, 0), true, 0);
        x.begin(0, 0, 0);
        refused("one was", x, x.route(0, 0, 5, 1, 0, 0), 10);
        refused("with other numbers, too", x, x.route(0, 0, 60, 0, 0, 0), 10);
        due("holds as told", x, x.told(0, 0, 0), 5, 0);
        due("none on the next", x, x.route(0, 1, 6, 0, 0, 0), true, 0);
        due("none on that of the next round", x, x.route(1, 0, 7, 0, 0, 0), true, 0);
        x.fall(0, 0, true);
        refused("a broken one was begun, too", x, x.route(0, 0, 8, 0, 0, 0), 10);
        x.advance(1, 0);
        refused("also when its round is over", x, x.route(0, 0, 8, 0, 0, 0), 10);
        due("a route of a round that is over, without a try", x, x.route(0, 1, 8, 0, 0, 0), true, 0);
        due("a route of the open round", x, x.route(1, 0, 9, 0, 0, 0), true, 0);
        due("its holds", x, x.told(1, 0, 0), 9, 0);
    }

    private static void routeArguments() {
        Check.sentence("HOLDS of a ROUTE, and its ZONES");
        RouteWall x = Texts.wall("round 2 9 99 0;round 5 9 99 0;", 0);
        for (int round : new int[] {LEAST, -1, 2, 3, 4, GREATEST}) {
            refused("round " + round, x, x.route(round, 0, 5, 0, 0, 0), 1);
        }
        for (int route : new int[] {LEAST, -1, 2, 3, 5, GREATEST}) {
            refused("route " + route, x, x.route(0, route, 5, 0, 0, 0), 1);
        }
        due("the last route of two", x, x.route(0, 1, 5, 0, 0, 0), true, 0);
        due("the last route of five", x, x.route(1, 4, 5, 0, 0, 0), true, 0);
        refused("a sixth", x, x.route(1, 5, 5, 0, 0, 0), 1);
        due("no other changed with it", x, x.told(1, 3, 0), 10, 0);
        x = new RouteWall();
        refused("without a round", x, x.route(0, 0, 5, 0, 0, 0), 1);
    }

    private static void climbersOfRounds() {
        Check.sentence("ROUND 0 has all CLIMBERS; each next one those that advance() has let come.");
        RouteWall x = Texts.wall("round 1 9 99 0;".repeat(4) + "points hold;", 4);
        for (int round = 0; round < 4; round++) {
            due("in round " + round, x, x.told(round, NONE, 4), round == 0 ? 4 : 0, 0);
        }
        for (int round = 0; round < 3; round++) {
            for (int climber = 0; climber < 4 - round; climber++) {
                climb(x, climber, 0, 9 - climber, 0);
            }
            due("come to round " + (round + 1), x, x.advance(3 - round, 0), 3 - round, 0);
            due("are in it", x, x.told(round + 1, NONE, 4), 3 - round, 0);
            due("as many as ever in the one ahead", x, x.told(round, NONE, 4), 4 - round, 0);
        }
        due("in the last round", x, x.told(3, NONE, 4), 1, 0);
        due("her rank there", x, x.rank(3, 0, 0), 1, 0);
        refused("another is not in it", x, x.rank(3, 1, 0), 1);
    }

    private static void openRound() {
        Check.sentence("A CLIMBER climbs in the latest ROUND that she is in; a ROUND is OPEN, if it is the latest that has CLIMBERS.");
        RouteWall x = Texts.wall("round 1 9 99 0;round 2 9 99 0;round 1 9 99 0;points hold;", 3);
        due("a try", x, x.begin(0, 0, 0), 0, 0);
        due("of round 0", x, x.tried(0, 1), 0, 0);
        x.reach(0, 5, 0);
        x.fall(0, 0, false);
        climb(x, 1, 0, 5, 0);
        refused("round 0 has one route", x, x.begin(0, 1, 0), 1);
        refused("nor is there one to see", x, x.seen(0, 1), 1);
        x.advance(2, 0);
        refused("one that did not come", x, x.begin(2, 0, 0), 4);
        due("round 1 has two routes", x, x.begin(0, 1, 0), 2, 0);
        due("of round 1", x, x.tried(2, 1), 1, 0);
        due("one to see", x, x.seen(0, 1), 0, 0);
        x.fall(0, 0, false);
        x.advance(2, 0);
        due("a try", x, x.begin(1, 0, 0), 3, 0);
        due("of round 2", x, x.tried(3, 1), 2, 0);
        refused("round 2 has one route", x, x.begin(0, 1, 0), 1);
        refused("1 also for one that did not come", x, x.begin(2, 1, 0), 1);
        refused("she is two rounds behind", x, x.begin(2, 0, 0), 4);
    }

    /** Second 5, climber 0 with an open try since then, climber 1 without. */
    private static RouteWall atFive() {
        RouteWall x = Texts.wall("round 1 9 999 0;", 2);
        x.begin(0, 0, 5);
        return x;
    }

    private static void seconds() {
        Check.sentence("Seconds go on from 0 to 1,000,000 (2 beyond)");
        for (int i = 0; i < TIMED.length; i++) {
            for (int second : new int[] {LEAST, -1000000, -1, 1000001, 1000005, GREATEST}) {
                RouteWall x = atFive();
                long none = i < 2 ? NONE : 0;
                due(TIMED_NAMES[i] + " at " + second, x, TIMED[i].at(x, second), none, 2);
                due("it is as it was", x, x.now(), 5, 0);
            }
            for (int second : new int[] {999999, 1000000}) {
                RouteWall x = atFive();
                boolean needsHerTry = i >= 1 && i <= 3;
                TIMED[i].at(x, second);
                Check.due(TIMED_NAMES[i] + " at " + second, x.status(), needsHerTry ? 5 : 0);
                due("it is that second", x, x.now(), second, 0);
            }
        }
        RouteWall x = Texts.wall("round 1 9 999 0;", 1);
        due("clock(0)", x, x.clock(0), true, 0);
        due("out at 0", x, x.out(0, 0, true), true, 0);
        due("a try at 0", x, x.begin(0, 0, 0), 0, 0);
        due("a hold at 0", x, x.reach(0, 1, 0), 0, 0);
        due("a fall at 0", x, x.fall(0, 0, false), true, 0);
        due("the last second", x, x.clock(1000000), true, 0);
        due("and again", x, x.clock(1000000), true, 0);
        due("a try at the last second", x, x.begin(0, 0, 1000000), 1, 0);
        due("its end at the last second", x, x.reach(0, 10, 1000000), 1, 0);
        refused("one beyond", x, x.clock(1000001), 2);
    }

    private static void neverBack() {
        Check.sentence("never back");
        for (int i = 0; i < TIMED.length; i++) {
            for (int second : new int[] {0, 4}) {
                RouteWall x = atFive();
                due(TIMED_NAMES[i] + " at " + second, x, TIMED[i].at(x, second), i < 2 ? NONE : 0, 9);
                due("it is as it was", x, x.now(), 5, 0);
            }
            for (int second : new int[] {5, 6}) {
                RouteWall x = atFive();
                due(TIMED_NAMES[i] + " at " + second, x, TIMED[i].at(x, second), i == 1 ? 0 : 1, 0);
                due("it is that second", x, x.now(), second, 0);
            }
        }
        Check.sentence("9 a second that is gone.");
        RouteWall x = new RouteWall();
        x.clock(1000000);
        refused("one ahead of the last", x, x.clock(999999), 9);
        refused("second 0", x, x.clock(0), 9);
    }

    private static void holdsOfATry() {
        Check.sentence("comes to HOLDS (each above the one ahead, at later or the same seconds)");
        RouteWall x = Texts.wall("round 1 9 999 0;", 2);
        x.begin(0, 0, 3);
        due("a hold at its beginning", x, x.reach(0, 4, 3), 0, 0);
        refused("the same", x, x.reach(0, 4, 3), 10);
        refused("one below", x, x.reach(0, 3, 3), 10);
        refused("the first", x, x.reach(0, 1, 3), 10);
        due("one above at the same second", x, x.reach(0, 5, 3), 0, 0);
        due("one above later", x, x.reach(0, 6, 4), 0, 0);
        refused("a second ahead", x, x.reach(0, 7, 3), 9);
        due("hold as told", x, x.tried(0, 5), 6, 0);
        x.fall(0, 4, false);
        x.begin(0, 0, 4);
        due("her next try begins at no hold", x, x.reach(0, 1, 4), 0, 0);
        x.begin(1, 0, 4);
        due("each try has its own", x, x.reach(1, 1, 4), 0, 0);
    }

    private static void topping() {
        Check.sentence("she TOPS it with the last HOLD");
        RouteWall x = Texts.wall("round 1 9 999 0;", 1);
        x.route(0, 0, 7, 0, 0, 0);
        x.begin(0, 0, 0);
        due("one below the last", x, x.reach(0, 6, 1), 0, 0);
        due("it is open", x, x.tried(0, 6), 0, 0);
        refused("one above the last", x, x.reach(0, 8, 2), 10);
        due("the last", x, x.reach(0, 7, 3), 1, 0);
        due("topped", x, x.tried(0, 6), 1, 0);
        due("at that second", x, x.tried(0, 4), 3, 0);
        refused("it has ended", x, x.reach(0, 7, 3), 5);
        refused("so she can't fall", x, x.fall(0, 3, false), 5);
    }

    private static void secondsAreOver() {
        Check.sentence("her seconds are over (by the first call, of any CLIMBER, whose second is that many or more behind the beginning: it has ended that many behind it)");
        for (int length : new int[] {10, 11, 999}) {
            String text = "round 1 9 " + length + " 0;";
            for (int behind : new int[] {length - 1, length, length + 1, length + 5000}) {
                RouteWall x = Texts.wall(text, 1);
                x.begin(0, 0, 7);
                x.clock(7 + behind);
                boolean over = behind >= length;
                due("ended", x, x.tried(0, 4), over ? 7 + length : NONE, 0);
                due("how", x, x.tried(0, 6), over ? 3 : 0, 0);
                due("seconds known", x, x.of(0, 0, 0, 0, 4), over ? length : 0, 0);
            }
        }
        RouteWall x = Texts.wall("round 1 9 10 0;", 3);
        x.begin(0, 0, 0);
        x.begin(1, 0, 1);
        x.begin(2, 0, 2);
        x.clock(11);
        due("the first is over", x, x.tried(0, 4), 10, 0);
        due("the second, too", x, x.tried(1, 4), 11, 0);
        due("the third is open", x, x.tried(2, 4), NONE, 0);
        due("a hold at her last second", x, x.reach(2, 10, 11), 1, 0);
        x = Texts.wall("round 1 9 10 0;", 2);
        x.begin(0, 0, 999990);
        x.begin(1, 0, 999991);
        x.clock(1000000);
        due("over at the last second of all", x, x.tried(0, 4), 1000000, 0);
        due("one that is never over", x, x.tried(1, 4), NONE, 0);
        x = Texts.wall("round 1 9 10 0;", 1);
        x.begin(0, 0, 0);
        x.reach(0, 3, 9);
        due("she falls a second ahead", x, x.fall(0, 9, false), true, 0);
        due("fell", x, x.tried(0, 6), 2, 0);
        x.begin(0, 0, 9);
        x.reach(0, 3, 9);
        refused("too late for the top", x, x.reach(0, 10, 19), 5);
        due("over", x, x.tried(1, 6), 3, 0);
        due("at the hold as told", x, x.tried(1, 5), 3, 0);
        due("a next one begins at that second", x, x.begin(0, 0, 19), 2, 0);
        refused("too late to break", x, x.fall(0, 29, true), 5);
        due("over, not broken", x, x.tried(2, 6), 3, 0);
    }

    private static void overAt(String what, Timed call, int status) {
        RouteWall x = Texts.wall("round 2 2 10 0;", 4);
        x.begin(0, 0, 5);
        x.begin(1, 1, 6);
        call.at(x, 14);
        due(what + ": open", x, x.tried(0, 4), NONE, 0);
        x = Texts.wall("round 2 2 10 0;", 4);
        x.begin(0, 0, 5);
        x.begin(1, 1, 6);
        call.at(x, 15);
        Check.due(what + ": status", x.status(), status);
        due(what + ": over", x, x.tried(0, 6), 3, 0);
        due(what + ": at", x, x.tried(0, 4), 15, 0);
        due(what + ": it is", x, x.now(), 15, 0);
    }

    private static void overByAnyCall() {
        Check.sentence("by the first call, of any CLIMBER");
        overAt("begin of another", (x, s) -> x.begin(2, 0, s), 0);
        overAt("reach of another", (x, s) -> x.reach(1, 1, s), 0);
        overAt("fall of another", (x, s) -> asLong(x.fall(1, s, false)), 0);
        overAt("a break of another", (x, s) -> asLong(x.fall(1, s, true)), 0);
        overAt("another goes out", (x, s) -> asLong(x.out(2, s, true)), 0);
        overAt("clock", (x, s) -> asLong(x.clock(s)), 0);
        overAt("she goes out", (x, s) -> asLong(x.out(0, s, true)), 0);
        overAt("her own hold is too late", (x, s) -> s == 15 ? x.reach(0, 1, s) : x.reach(0, 2, s), 5);
        RouteWall x = Texts.wall("round 1 2 10 0;", 1);
        x.begin(0, 0, 5);
        refused("her own begin ahead of it", x, x.begin(0, 0, 14), 5);
        due("her own begin at it", x, x.begin(0, 0, 15), 1, 0);
        due("the first is over", x, x.tried(0, 4), 15, 0);
    }

    private static void overByRefusedCalls() {
        Check.sentence("but the seconds go on with each call that has a second and no STATUS 1, 2, 9, and TRIES end by them.");
        overAt("STATUS 5 of reach", (x, s) -> x.reach(2, 1, s), 5);
        overAt("STATUS 5 of fall", (x, s) -> asLong(x.fall(2, s, true)), 5);
        overAt("STATUS 5 of begin", (x, s) -> x.begin(1, 0, s), 5);
        overAt("STATUS 10 of reach", (x, s) -> x.reach(1, 11, s), 10);
        overAt("STATUS 10 of out", (x, s) -> asLong(x.out(2, s, false)), 10);
        overBehind("STATUS 6 of begin", x -> x.begin(1, 0, 15), 6);
        overBehind("STATUS 7 of begin", x -> x.begin(2, 0, 15), 7);
        overBehind("STATUS 8 of begin", x -> x.begin(1, 1, 15), 8);
        RouteWall x = Texts.wall("round 1 9 10 0;round 1 9 10 0;points hold;", 2);
        climb(x, 0, 0, 5, 0);
        x.advance(1, 0);
        x.begin(0, 0, 5);
        refused("STATUS 4 of begin", x, x.begin(1, 0, 15), 4);
        due("over", x, x.tried(1, 4), 15, 0);
        x = Texts.wall("round 1 9 10 0;", 2);
        for (int i = 0; i < 20; i++) {
            x.out(1, 0, true);
            x.out(1, 0, false);
        }
        x.begin(0, 0, 5);
        refused("STATUS 3 of out", x, x.out(1, 15, true), 3);
        due("over", x, x.tried(0, 4), 15, 0);
    }

    interface Call {
        long on(RouteWall x);
    }

    /** Climber 1 has topped route 0 and rests, climber 2 has seen it, climber 0 has a try on it since second 5. */
    private static void overBehind(String what, Call call, int status) {
        RouteWall x = Texts.wall("round 2 2 10 90;", 4);
        climb(x, 1, 0, 10, 0);
        x.begin(0, 0, 5);
        x.out(2, 5, true);
        refused(what, x, call.on(x), status);
        due(what + ": over", x, x.tried(1, 4), 15, 0);
        due(what + ": it is", x, x.now(), 15, 0);
    }

    private static void openBehind(String what, Call call, int status) {
        RouteWall x = Texts.wall("round 1 2 10 0;", 2);
        x.begin(0, 0, 5);
        call.on(x);
        Check.due(what + ": status", x.status(), status);
        due(what + ": open", x, x.tried(0, 4), NONE, 0);
        due(what + ": it is", x, x.now(), 5, 0);
    }

    private static void openBehindOtherStatuses() {
        Check.sentence("and no STATUS 1, 2, 9");
        for (int nobody : new int[] {LEAST, -1, 2, 16, GREATEST}) {
            openBehind("begin of nobody", x -> x.begin(nobody, 0, 15), 1);
            openBehind("reach of nobody", x -> x.reach(nobody, 1, 15), 1);
            openBehind("fall of nobody", x -> asLong(x.fall(nobody, 15, false)), 1);
            openBehind("out of nobody", x -> asLong(x.out(nobody, 15, true)), 1);
        }
        openBehind("begin on no route", x -> x.begin(1, 1, 15), 1);
        openBehind("begin on route -1", x -> x.begin(1, -1, 15), 1);
        openBehind("hold 0", x -> x.reach(0, 0, 15), 2);
        openBehind("hold 61", x -> x.reach(0, 61, 15), 2);
        openBehind("second 1000001", x -> asLong(x.clock(1000001)), 2);
        openBehind("a second that is gone", x -> asLong(x.clock(4)), 9);
    }

    private static void broken() {
        Check.sentence("or a hold breaks: it counts nowhere, and not as one of her TRIES.");
        RouteWall x = Texts.wall("round 1 1 99 0;points tries*100+hold;", 2);
        x.route(0, 0, 9, 1, 2, 3);
        for (int i = 0; i < 12; i++) {
            due("again and again", x, x.begin(0, 0, i), i, 0);
            x.reach(0, 8, i);
            due("a hold breaks", x, x.fall(0, i, true), true, 0);
        }
        for (int what = 0; what < 7; what++) {
            due("what " + what, x, x.of(0, 0, 0, 0, what), 0, 0);
        }
        due("no pair parted", x, x.parts(0, 1, 0), 0, 0);
        due("the only one of her tries", x, x.begin(0, 0, 20), 12, 0);
        due("topped", x, x.reach(0, 9, 25), 1, 0);
        due("it is her first", x, x.of(0, 0, 0, 0, 3), 1, 0);
        due("a flash", x, x.of(0, 0, 0, 0, 5), 1, 0);
        x.begin(1, 0, 30);
        x.fall(1, 30, false);
        refused("none left for the other", x, x.begin(1, 0, 31), 6);
    }

    private static void oneTryAtATime() {
        Check.sentence("One CLIMBER has one TRY at a time, a ROUTE may have many.");
        RouteWall x = Texts.wall("round 2 9 99 0;", 16);
        for (int climber = 0; climber < 16; climber++) {
            due("a try of " + climber, x, x.begin(climber, 0, 1), climber, 0);
        }
        for (int climber = 0; climber < 16; climber++) {
            refused("a second one", x, x.begin(climber, 0, 1), 5);
            refused("on the other route", x, x.begin(climber, 1, 1), 5);
        }
        x.fall(15, 1, false);
        due("behind its end", x, x.begin(15, 1, 1), 16, 0);
        due("the others are open", x, x.tried(14, 6), 0, 0);
    }

    /**
     * Climber 1 is out from one second to another and climber 0 has a try from one to another; within a second the
     * calls come in each order that is possible. She has seen it, if a second belongs to both.
     */
    private static void seenAtASecond() {
        Check.sentence("if she was OUT at a second at which another one had a TRY on it that wasn't her own (beginnings and ends counted)");
        String[] orders = {"OIBE", "BEOI", "OBIE", "BOEI", "OBEI", "BOIE"};
        int[] seconds = {0, 1, 2, 3, 4, NEVER};
        for (int out = 0; out < 5; out++) {
            for (int in : seconds) {
                for (int begun = 0; begun < 5; begun++) {
                    for (int ended : seconds) {
                        for (int i = 0; i < orders.length && in >= out && ended >= begun; i++) {
                            seenBetween(orders[i], out, in, begun, ended);
                        }
                    }
                }
            }
        }
    }

    private static void seenBetween(String order, int out, int in, int begun, int ended) {
        RouteWall x = Texts.wall("round 2 9 99 0;", 3);
        for (int second = 0; second < 5; second++) {
            for (int i = 0; i < 4; i++) {
                switch (order.charAt(i)) {
                    case 'O': if (out == second) { x.out(1, second, true); } break;
                    case 'I': if (in == second) { x.out(1, second, false); } break;
                    case 'B': if (begun == second) { x.begin(0, 0, second); } break;
                    default: if (ended == second) { x.fall(0, second, out % 2 == 0); } break;
                }
            }
        }
        x.clock(4);
        String what = order + ": out " + out + " to " + in + ", a try " + begun + " to " + ended;
        int seen = out <= ended && begun <= in ? 1 : 0;
        due(what, x, x.seen(1, 0), seen, 0);
        due(what + ", the other route", x, x.seen(1, 1), 0, 0);
        due(what + ", her own try", x, x.seen(0, 0), 0, 0);
        due(what + ", one that was in", x, x.seen(2, 0), 0, 0);
        due(what + ", begin", x, x.begin(1, 0, 4), seen == 1 ? NONE : 1, seen == 1 ? 7 : 0);
    }

    private static void seenOwnTries() {
        Check.sentence("another one had a TRY on it that wasn't her own");
        RouteWall x = Texts.wall("round 1 9 10 0;", 2);
        x.out(0, 0, true);
        x.begin(0, 0, 1);
        x.fall(0, 2, false);
        due("her own alone", x, x.seen(0, 0), 0, 0);
        due("she may try again", x, x.begin(0, 0, 3), 1, 0);
        x.begin(1, 0, 4);
        due("another one's beside her own", x, x.seen(0, 0), 1, 0);
        x.fall(0, 4, false);
        refused("so she may not", x, x.begin(0, 0, 5), 7);
    }

    private static void seenWhenOver() {
        Check.sentence("it has ended that many behind it");
        for (int out = 9; out <= 12; out++) {
            RouteWall x = Texts.wall("round 1 9 10 0;", 2);
            x.begin(0, 0, 0);
            x.out(1, out, true);
            due("out at " + out, x, x.seen(1, 0), out <= 10 ? 1 : 0, 0);
        }
        RouteWall x = Texts.wall("round 1 9 10 0;", 2);
        x.begin(0, 0, 0);
        x.clock(5000);
        x.out(1, 5000, true);
        due("long behind it", x, x.seen(1, 0), 0, 0);
    }

    private static void newRoundNoneSeen() {
        Check.sentence("With a new ROUND all are IN and have SEEN none.");
        RouteWall x = Texts.wall("round 1 9 10 0;".repeat(3), 3);
        x.out(1, 0, true);
        climb(x, 0, 0, 3, 0);
        due("she has seen it", x, x.seen(1, 0), 1, 0);
        x.advance(3, 0);
        due("none of the new round", x, x.seen(1, 0), 0, 0);
        refused("she is in", x, x.out(1, 0, false), 10);
        x.begin(0, 0, 0);
        due("and sees nothing", x, x.seen(1, 0), 0, 0);
        x.fall(0, 0, false);
        x.out(1, 0, true);
        due("until she goes out", x, x.seen(1, 0), 1, 0);
        x.out(1, 0, false);
        x.advance(3, 0);
        x.out(1, 0, true);
        due("a try of the round ahead at this second is none of it", x, x.seen(1, 0), 0, 0);
        x.advance(3, 0);
        refused("an advance that was refused lets her be out", x, x.out(1, 0, true), 10);
    }

    private static void outAndIn() {
        Check.sentence("10: she is so");
        RouteWall x = Texts.wall("round 1 9 10 0;round 1 9 10 0;points hold;", 2);
        refused("in at first", x, x.out(0, 0, false), 10);
        due("out", x, x.out(0, 0, true), true, 0);
        refused("out again", x, x.out(0, 0, true), 10);
        due("in", x, x.out(0, 0, false), true, 0);
        refused("in again", x, x.out(0, 0, false), 10);
        refused("the other is in", x, x.out(1, 0, false), 10);
        climb(x, 0, 0, 1, 0);
        x.advance(1, 0);
        due("one that did not come may go out, too", x, x.out(1, 0, true), true, 0);
        refused("she is out", x, x.out(1, 0, true), 10);
    }

    private static void outs(RouteWall x, int climber, int many) {
        for (int i = 0; i < many; i++) {
            due("out", x, x.out(climber, x.now(), true), true, 0);
            due("in", x, x.out(climber, x.now(), false), true, 0);
        }
    }

    private static void twentyTimesOut() {
        Check.sentence("3: she was OUT 20 times in the OPEN ROUND");
        RouteWall x = Texts.wall("round 1 9 10 0;round 1 9 10 0;", 16);
        outs(x, 15, 19);
        due("a 20th time", x, x.out(15, 0, true), true, 0);
        due("she comes in from it", x, x.out(15, 0, false), true, 0);
        refused("a 21st time", x, x.out(15, 0, true), 3);
        refused("in she is", x, x.out(15, 0, false), 10);
        due("the one ahead of her has her own", x, x.out(14, 0, true), true, 0);
        x.begin(0, 0, 0);
        x.fall(0, 0, false);
        due("what she saw in none of her times", x, x.seen(13, 0), 0, 0);
        due("in one of her twenty", x, x.seen(15, 0), 1, 0);
        x.advance(16, 0);
        outs(x, 15, 20);
        refused("20 times in each round", x, x.out(15, 0, true), 3);
    }

    private static void restBehind(int rest, String how, int begun, int ended) {
        for (int second = ended + rest - 1; second <= ended + rest + 1; second++) {
            RouteWall x = Texts.wall("round 2 9 10 " + rest + ";", 2);
            x.begin(0, 0, begun);
            if (how.equals("topped")) {
                x.reach(0, 10, ended);
            } else if (!how.equals("over")) {
                x.fall(0, ended, how.equals("broken"));
            }
            x.clock(Math.max(ended, x.now()));
            due(how + ", rest " + rest, x, x.ready(0), ended + rest, 0);
            if (second < ended) {
                continue;
            }
            boolean over = second >= ended + rest;
            due(how + ", rest " + rest + ", begin at " + second, x, x.begin(0, 1, second), over ? 1 : NONE, over ? 0 : 8);
        }
    }

    private static void rest() {
        Check.sentence("Her REST: from the end of each of her TRIES (a broken one's too) of that ROUND, REST seconds.");
        for (int rest : new int[] {0, 1, 7, 999}) {
            restBehind(rest, "fell", 3, 8);
            restBehind(rest, "broken", 3, 8);
            restBehind(rest, "topped", 3, 8);
            restBehind(rest, "over", 3, 13);
            restBehind(rest, "fell", 4, 4);
        }
        RouteWall x = Texts.wall("round 2 9 10 5;", 2);
        x.begin(0, 0, 0);
        x.clock(12);
        due("from its end, not from the call that told it", x, x.ready(0), 15, 0);
        refused("her rest", x, x.begin(0, 0, 14), 8);
        due("it is over", x, x.begin(0, 0, 15), 1, 0);
        due("the other one has none", x, x.ready(1), 15, 0);
    }

    private static void restOfEachTry() {
        Check.sentence("from the end of each of her TRIES");
        RouteWall x = Texts.wall("round 5 9 10 3;", 2);
        for (int route = 0; route < 5; route++) {
            due("a try", x, x.begin(0, route, 10 * route), route, 0);
            x.fall(0, 10 * route + 1, route % 2 == 0);
            due("ready", x, x.ready(0), 10 * route + 4, 0);
            refused("on the same route", x, x.begin(0, route, 10 * route + 3), 8);
            refused("on another", x, x.begin(0, 4 - route, 10 * route + 3), 8);
        }
    }

    private static void restOfTheRound() {
        Check.sentence("of that ROUND, REST seconds");
        RouteWall x = Texts.wall("round 1 9 10 100;round 1 9 10 2;round 1 9 10 0;", 2);
        climb(x, 0, 0, 10, 1);
        due("rest of round 0", x, x.ready(0), 101, 0);
        x.advance(1, 0);
        due("a new round has none yet", x, x.ready(0), 1, 0);
        due("she begins", x, x.begin(0, 0, 1), 1, 0);
        x.fall(0, 1, false);
        due("rest of round 1", x, x.ready(0), 3, 0);
        refused("she rests", x, x.begin(0, 0, 2), 8);
        x.advance(1, 0);
        due("round 2 has none at all", x, x.begin(0, 0, 2), 2, 0);
        x.fall(0, 2, false);
        due("she begins at once", x, x.begin(0, 0, 2), 3, 0);
    }

    private static void triesLeft() {
        Check.sentence("6 no TRIES left on that ROUTE, or she has TOPPED it.");
        for (int most = 1; most <= 9; most++) {
            RouteWall x = Texts.wall("round 2 " + most + " 10 0;round 1 1 10 0;", 2);
            for (int i = 0; i < most; i++) {
                due("try " + i, x, x.begin(0, 0, 0), i, 0);
                x.fall(0, 0, false);
            }
            refused("one more", x, x.begin(0, 0, 0), 6);
            due("on the other route", x, x.begin(0, 1, 0), most, 0);
            due("the other climber", x, x.begin(1, 0, 0), most + 1, 0);
        }
        RouteWall x = Texts.wall("round 1 2 10 0;round 1 1 10 0;", 2);
        x.begin(0, 0, 0);
        x.fall(0, 0, true);
        x.begin(0, 0, 0);
        x.clock(10);
        due("behind a broken one and one that was over", x, x.begin(0, 0, 10), 2, 0);
        x.clock(20);
        refused("none left", x, x.begin(0, 0, 20), 6);
        x.begin(1, 0, 20);
        x.reach(1, 10, 20);
        refused("one left, but topped", x, x.begin(1, 0, 20), 6);
        x.advance(2, 0);
        due("anew in the next round", x, x.begin(0, 0, 20), 4, 0);
        due("for her that topped, too", x, x.begin(1, 0, 20), 5, 0);
    }

    private static void threeHundredTries() {
        Check.sentence("3 one too many (also TRIES: 300 in all).");
        RouteWall x = Texts.wall("round 5 9 10 0;", 16);
        int begun = 0;
        for (int i = 0; i < 299; i++) {
            begun += x.begin(i % 16, i / 16 % 5, 10 * i) == i ? 1 : 0;
        }
        Check.due("299 begun", begun, 299);
        due("the 300th", x, x.begin(12, 0, 2990), 299, 0);
        due("is there", x, x.tried(299, 3), 2990, 0);
        refused("a 301st", x, x.begin(13, 0, 3000), 3);
        due("the seconds went on with it", x, x.now(), 3000, 0);
        refused("it is not there", x, x.tried(300, 0), 1);
        due("the 300th was over by it", x, x.tried(299, 4), 3000, 0);
        due("all on five routes", x, x.told(0, 0, 4) + x.told(0, 1, 4) + x.told(0, 2, 4) + x.told(0, 3, 4)
            + x.told(0, 4, 4), 300, 0);
        Texts.load(x, "round 5 9 10 0;");
        x.climber();
        due("with a new text from 0 on", x, x.begin(0, 0, 0), 0, 0);
    }

    private static void toldArguments() {
        Check.sentence("Of a ROUTE, what 0: HOLDS, 1 to 3: its ZONES (0: none), 4: TRIES begun on it; of a ROUND (route NONE), what 0: ROUTES, 1: tries, 2: seconds, 3: REST, 4: CLIMBERS in it (1; 2).");
        RouteWall x = Texts.wall("round 2 9 99 0;round 5 8 98 7;", 2);
        for (int what : new int[] {LEAST, -2, -1, 5, 6, GREATEST}) {
            refused("of a route, what " + what, x, x.told(0, 0, what), 2);
            refused("of a round, what " + what, x, x.told(0, NONE, what), 2);
        }
        for (int round : new int[] {LEAST, -1, 2, 4, GREATEST}) {
            refused("round " + round, x, x.told(round, NONE, 0), 1);
            refused("a route of round " + round, x, x.told(round, 0, 0), 1);
        }
        for (int route : new int[] {LEAST, -3, -2, 2, 5, GREATEST}) {
            refused("route " + route, x, x.told(0, route, 0), 1);
        }
        due("the last route", x, x.told(1, 4, 0), 10, 0);
        refused("behind the last", x, x.told(1, 5, 0), 1);
        int[] second = {5, 8, 98, 7, 0};
        for (int what = 0; what < 5; what++) {
            due("of round 1, what " + what, x, x.told(1, NONE, what), second[what], 0);
        }
        x.begin(0, 1, 0);
        x.begin(0, 1, 0);
        due("one that was refused isn't begun", x, x.told(0, 1, 4), 1, 0);
        x.begin(1, 1, 0);
        due("two", x, x.told(0, 1, 4), 2, 0);
        due("none on the other", x, x.told(0, 0, 4), 0, 0);
        due("none in the next round", x, x.told(1, 1, 4), 0, 0);
    }

    private static void reachArguments() {
        Check.sentence("2: a HOLD below 1 or above 60, too");
        RouteWall x = Texts.wall("round 1 9 99 0;", 1);
        x.begin(0, 0, 0);
        for (int hold : new int[] {LEAST, -1, 0, 61, 62, GREATEST}) {
            refused("hold " + hold, x, x.reach(0, hold, 0), 2);
        }
        Check.sentence("10: not above the one ahead, or above the last");
        for (int hold : new int[] {11, 59, 60}) {
            refused("hold " + hold, x, x.reach(0, hold, 0), 10);
        }
        due("hold 1", x, x.reach(0, 1, 0), 0, 0);
        refused("hold 1 again", x, x.reach(0, 1, 0), 10);
        due("hold 2", x, x.reach(0, 2, 0), 0, 0);
        due("it came to", x, x.tried(0, 5), 2, 0);
        due("hold 10", x, x.reach(0, 10, 0), 1, 0);
    }

    private static void triedArguments() {
        Check.sentence("Of a TRY, what 0: CLIMBER, 1: ROUND, 2: ROUTE, 3: the second at which it began, 4: ended (NONE: it is open), 5: HOLD as told, 6: how it ended (0 open, 1 TOPPED, 2 fell, 3 over, 4 broken) (1; 2).");
        RouteWall x = Texts.wall("round 3 9 10 0;", 5);
        refused("no try yet", x, x.tried(0, 0), 1);
        x.begin(4, 2, 7);
        for (int number : new int[] {LEAST, -1, 1, 299, 300, GREATEST}) {
            refused("try " + number, x, x.tried(number, 0), 1);
        }
        for (int what : new int[] {LEAST, -1, 7, 8, GREATEST}) {
            refused("what " + what, x, x.tried(0, what), 2);
        }
        tried(x, 0, 4, 0, 2, 7, NONE, 0, 0);
        x.reach(4, 10, 8);
        tried(x, 0, 4, 0, 2, 7, 8, 10, 1);
        x.appeal(0, 3, 0);
        tried(x, 0, 4, 0, 2, 7, 8, 10, 1);
        x.begin(3, 1, 9);
        x.fall(3, 9, false);
        tried(x, 1, 3, 0, 1, 9, 9, 0, 2);
        x.begin(3, 1, 9);
        x.reach(3, 9, 10);
        x.fall(3, 11, true);
        tried(x, 2, 3, 0, 1, 9, 11, 9, 4);
        x.begin(2, 0, 12);
        x.reach(2, 1, 21);
        x.clock(22);
        tried(x, 3, 2, 0, 0, 12, 22, 1, 3);
    }

    private static void tried(RouteWall x, int number, int... due) {
        for (int what = 0; what < due.length; what++) {
            due("tried(" + number + ", " + what + ")", x, x.tried(number, what), due[what], 0);
        }
    }

    private static void seenArguments() {
        Check.sentence("Whether a CLIMBER has SEEN a ROUTE of the OPEN ROUND: 1 or 0 (1).");
        RouteWall x = Texts.wall("round 2 9 10 0;round 5 9 10 0;points hold;", 3);
        for (int climber : new int[] {LEAST, -1, 3, 16, GREATEST}) {
            refused("climber " + climber, x, x.seen(climber, 0), 1);
        }
        for (int route : new int[] {LEAST, -1, 2, 5, GREATEST}) {
            refused("route " + route, x, x.seen(0, route), 1);
        }
        due("the last route", x, x.seen(2, 1), 0, 0);
        climb(x, 0, 0, 3, 0);
        x.advance(1, 0);
        due("the last route of the next round", x, x.seen(0, 4), 0, 0);
        refused("a sixth", x, x.seen(0, 5), 1);
        x.out(2, 0, true);
        x.begin(0, 3, 0);
        due("one that did not come sees it, too", x, x.seen(2, 3), 1, 0);
        due("not the next", x, x.seen(2, 4), 0, 0);
    }

    private static void readySecond() {
        Check.sentence("The first second, now or later, at which a CLIMBER's REST is over (1; 5: she has an open TRY).");
        RouteWall x = Texts.wall("round 1 9 10 999;", 16);
        for (int climber : new int[] {LEAST, -1, 16, GREATEST}) {
            refused("climber " + climber, x, x.ready(climber), 1);
        }
        due("the last climber", x, x.ready(15), 0, 0);
        x.begin(15, 0, 0);
        refused("she has an open try", x, x.ready(15), 5);
        due("another has none", x, x.ready(14), 0, 0);
        x.fall(15, 0, false);
        due("later", x, x.ready(15), 999, 0);
        x.clock(998);
        due("a second later", x, x.ready(15), 999, 0);
        x.clock(999);
        due("now", x, x.ready(15), 999, 0);
        x.clock(1000);
        due("now, and over since a second", x, x.ready(15), 1000, 0);
        x.clock(1000000);
        due("the last second", x, x.ready(15), 1000000, 0);
        x.begin(15, 0, 1000000);
        x.fall(15, 1000000, false);
        due("a second that never comes", x, x.ready(15), 1000999, 0);
        refused("so she rests on", x, x.begin(15, 0, 1000000), 8);
    }

    private static void nowAtFirst() {
        Check.sentence("The second that it is.");
        RouteWall x = new RouteWall();
        due("a new object", x, x.now(), 0, 0);
        x.clock(9);
        due("without a text", x, x.now(), 9, 0);
        Texts.load(x, "ties");
        due("behind a fault", x, x.now(), 9, 0);
        x.load(1);
        due("behind a load with STATUS 2", x, x.now(), 9, 0);
        Texts.load(x, "ties back;");
        due("behind a text", x, x.now(), 0, 0);
    }
}
