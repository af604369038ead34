/** Section 3 of the document and promises 18 to 25: what is known on a day, ranks, advance, orders, parting sets. */
final class ResultBoundaries extends Calls {
    private static final int[] WILD_DAYS = {LEAST, -1000, -1, 1000, 1001, GREATEST};

    private ResultBoundaries() {
    }

    static void run() {
        appealsOfADay();
        laterCallOfADay();
        appealDays();
        appealHolds();
        appealOpenOrBroken();
        fortyAppeals();
        greatestHold();
        topIsTheLastHold();
        zonesComeTo();
        numberOfTheTry();
        secondsOfTheTry();
        flash();
        nothingWithoutATry();
        eachRouteOfEachRound();
        ofArguments();
        sumsBeyondAnInt();
        mostOfThem();
        topsAndZones();
        keyArguments();
        aheadByKeys();
        tiesGoBack();
        ranks();
        rankArguments();
        advanceArguments();
        advanceRanks();
        advanceNowhere();
        orderOfRoundZero();
        orderOfOthers();
        orderArguments();
        pairs();
        partsArguments();
        partsBeyondAnInt();
        chooseArguments();
        leastOfSeveral();
    }

    /** One climber with a try that came to hold 4 of 8, and ended. */
    private static RouteWall oneTry() {
        RouteWall x = Texts.wall("round 1 9 20 0;", 1);
        x.route(0, 0, 8, 0, 0, 0);
        climb(x, 0, 0, 4, 1);
        return x;
    }

    private static void hold(String what, RouteWall x, int day, int hold) {
        due(what + ", day " + day, x, x.of(0, 0, 0, day, 2), hold, 0);
    }

    private static void appealsOfADay() {
        Check.sentence("each has the HOLD that it came to, or that of the latest appeal for it (0 to HOLDS) told on that DAY or ahead of it");
        RouteWall x = oneTry();
        x.appeal(0, 6, 10);
        hold("ahead of it as it came", x, 9, 4);
        hold("on that day", x, 10, 6);
        hold("a day later", x, 11, 6);
        hold("on the last day", x, 999, 6);
        hold("on the first day", x, 0, 4);
        x.appeal(0, 2, 20);
        x.appeal(0, 7, 15);
        hold("ahead of the one told last", x, 14, 6);
        hold("on its day", x, 15, 7);
        hold("ahead of the latest day", x, 19, 7);
        hold("the latest day, if told ahead of another", x, 20, 2);
        x.appeal(0, 1, 0);
        hold("told for the first day", x, 0, 1);
        hold("until the next", x, 9, 1);
        hold("which stays", x, 10, 6);
        x.appeal(0, 3, 999);
        hold("ahead of the last day", x, 998, 2);
        hold("on the last day", x, 999, 3);
        due("hold as told stays", x, x.tried(0, 5), 4, 0);
    }

    private static void laterCallOfADay() {
        Check.sentence("of one DAY the later call");
        RouteWall x = oneTry();
        x.appeal(0, 6, 10);
        x.appeal(0, 5, 10);
        hold("a lesser one", x, 10, 5);
        x.appeal(0, 7, 10);
        hold("a greater one", x, 10, 7);
        x.appeal(0, 1, 9);
        hold("one for the day ahead changes nothing", x, 10, 7);
        x.appeal(0, 4, 10);
        hold("back to what it came to", x, 10, 4);
        climb(x, 0, 0, 2, 1);
        x.appeal(1, 8, 10);
        hold("each try has its own", x, 10, 8);
        x.appeal(1, 0, 10);
        hold("and the other stays", x, 10, 4);
    }

    private static void appealDays() {
        Check.sentence("told on a DAY (0 to 999)");
        RouteWall x = oneTry();
        for (int day : WILD_DAYS) {
            refused("day " + day, x, x.appeal(0, 1, day), 2);
        }
        hold("none of them is told", x, 999, 4);
        due("day 0", x, x.appeal(0, 1, 0), true, 0);
        due("day 999", x, x.appeal(0, 2, 999), true, 0);
        hold("as told", x, 998, 1);
        hold("as told", x, 999, 2);
    }

    private static void appealHolds() {
        Check.sentence("latest appeal for it (0 to HOLDS)");
        for (int holds : new int[] {2, 10, 60}) {
            RouteWall x = Texts.wall("round 1 9 20 0;", 1);
            x.route(0, 0, holds, 0, 0, 0);
            climb(x, 0, 0, 1, 1);
            for (int hold : new int[] {LEAST, -1, holds + 1, 61, GREATEST}) {
                refused("hold " + hold, x, x.appeal(0, hold, 0), 2);
            }
            hold("none of them is told", x, 0, 1);
            due("hold 0", x, x.appeal(0, 0, 0), true, 0);
            hold("as told", x, 0, 0);
            due("the last hold", x, x.appeal(0, holds, 0), true, 0);
            hold("as told", x, 0, holds);
            due("which is a top", x, x.of(0, 0, 0, 0, 0), 1, 0);
        }
        for (int number : new int[] {LEAST, -1, 1, 300, GREATEST}) {
            RouteWall x = oneTry();
            refused("try " + number, x, x.appeal(number, 1, 0), 1);
        }
    }

    private static void appealOpenOrBroken() {
        Check.sentence("10: it is open, or broken");
        RouteWall x = Texts.wall("round 1 9 20 0;", 1);
        x.begin(0, 0, 0);
        refused("open", x, x.appeal(0, 1, 0), 10);
        x.reach(0, 3, 0);
        refused("open, at a hold", x, x.appeal(0, 1, 0), 10);
        x.fall(0, 1, false);
        due("fell", x, x.appeal(0, 1, 0), true, 0);
        x.begin(0, 0, 1);
        x.fall(0, 1, true);
        refused("broken", x, x.appeal(1, 1, 0), 10);
        x.begin(0, 0, 1);
        x.clock(20);
        refused("still open", x, x.appeal(2, 1, 0), 10);
        x.clock(21);
        due("over", x, x.appeal(2, 1, 0), true, 0);
        x.begin(0, 0, 21);
        x.reach(0, 10, 21);
        due("topped", x, x.appeal(3, 1, 0), true, 0);
    }

    private static void fortyAppeals() {
        Check.sentence("3: 40 appeals");
        RouteWall x = oneTry();
        climb(x, 0, 0, 2, 1);
        for (int i = 0; i < 40; i++) {
            due("appeal " + i, x, x.appeal(i % 2, i % 8, i), true, 0);
        }
        refused("a 41st", x, x.appeal(0, 8, 500), 3);
        refused("for the other try", x, x.appeal(1, 8, 500), 3);
        hold("the 39th and the 40th hold", x, 500, 7);
        hold("the first does", x, 0, 2);
        x.load(0);
        Texts.load(x, "round 1 9 20 0;");
        x.climber();
        climb(x, 0, 0, 2, 1);
        due("with a new text there may be 40 more", x, x.appeal(0, 8, 0), true, 0);
        x = oneTry();
        for (int i = 0; i < 60; i++) {
            refused("one that is refused is none", x, x.appeal(0, -1, 0), 2);
        }
        due("the first", x, x.appeal(0, 8, 0), true, 0);
    }

    private static void greatestHold() {
        Check.sentence("The one that COUNTS: that with the greatest HOLD, of several the first.");
        RouteWall x = Texts.wall("round 1 9 20 0;", 1);
        climb(x, 0, 0, 0, 1);
        known(x, 0, 0, 0, 0, 1, 1);
        climb(x, 0, 0, 0, 2);
        known(x, 0, 0, 0, 0, 1, 1);
        climb(x, 0, 0, 3, 3);
        known(x, 0, 0, 0, 3, 3, 3);
        climb(x, 0, 0, 3, 4);
        known(x, 0, 0, 0, 3, 3, 3);
        climb(x, 0, 0, 2, 5);
        known(x, 0, 0, 0, 3, 3, 3);
        climb(x, 0, 0, 4, 6);
        known(x, 0, 0, 0, 4, 6, 6);
        x.appeal(0, 4, 1);
        known(x, 0, 0, 0, 4, 6, 6);
        known(x, 1, 0, 0, 4, 1, 1);
        x.appeal(0, 3, 2);
        x.appeal(5, 3, 2);
        known(x, 2, 0, 0, 3, 1, 1);
    }

    /** top, zone, hold, tries, seconds of climber 0 on route 0 of round 0. */
    private static void known(RouteWall x, int day, int... due) {
        for (int what = 0; what < due.length; what++) {
            due("of(0, 0, 0, " + day + ", " + what + ")", x, x.of(0, 0, 0, day, what), due[what], 0);
        }
    }

    private static void topIsTheLastHold() {
        Check.sentence("top is 1, if that is the last HOLD");
        for (int holds : new int[] {2, 10, 60}) {
            RouteWall x = Texts.wall("round 1 9 20 0;", 1);
            x.route(0, 0, holds, 0, 0, 0);
            climb(x, 0, 0, holds - 1, 1);
            due("one below the last", x, x.of(0, 0, 0, 0, 0), 0, 0);
            climb(x, 0, 0, holds, 1);
            due("the last", x, x.of(0, 0, 0, 0, 0), 1, 0);
            x.appeal(1, holds - 1, 3);
            due("taken away", x, x.of(0, 0, 0, 3, 0), 0, 0);
            x.appeal(0, holds, 4);
            due("given", x, x.of(0, 0, 0, 4, 0), 1, 0);
        }
    }

    private static void zonesComeTo() {
        Check.sentence("zone how many ZONES it has come to");
        RouteWall x = Texts.wall("round 1 9 20 0;", 1);
        x.route(0, 0, 9, 1, 5, 9);
        climb(x, 0, 0, 0, 0);
        int[] zones = {0, 1, 1, 1, 1, 2, 2, 2, 2, 3};
        for (int hold = 0; hold <= 9; hold++) {
            x.appeal(0, hold, hold);
            due("hold " + hold, x, x.of(0, 0, 0, hold, 1), zones[hold], 0);
        }
    }

    private static void numberOfTheTry() {
        Check.sentence("tries its number among her TRIES there that count, from 1");
        RouteWall x = Texts.wall("round 2 9 20 0;", 2);
        climb(x, 0, 1, 9, 1);
        climb(x, 1, 0, 9, 1);
        x.begin(0, 0, 2);
        x.fall(0, 2, true);
        for (int number = 1; number <= 9; number++) {
            climb(x, 0, 0, number, 1);
            due("number " + number, x, x.of(0, 0, 0, 0, 3), number, 0);
            if (number < 9) {
                x.begin(0, 0, x.now());
                x.fall(0, x.now(), true);
            }
        }
        due("on the other route", x, x.of(0, 1, 0, 0, 3), 1, 0);
        due("of the other climber", x, x.of(0, 0, 1, 0, 3), 1, 0);
    }

    private static void secondsOfTheTry() {
        Check.sentence("seconds from its beginning to its end (of one that is still open 0)");
        RouteWall x = Texts.wall("round 1 9 20 0;", 1);
        x.begin(0, 0, 5);
        x.reach(0, 2, 9);
        due("open", x, x.of(0, 0, 0, 0, 4), 0, 0);
        x.clock(24);
        due("open at its last second", x, x.of(0, 0, 0, 0, 4), 0, 0);
        x.clock(25);
        due("over", x, x.of(0, 0, 0, 0, 4), 20, 0);
        x.begin(0, 0, 25);
        x.reach(0, 3, 25);
        x.fall(0, 25, false);
        due("ended at its beginning", x, x.of(0, 0, 0, 0, 4), 0, 0);
        x.begin(0, 0, 25);
        x.reach(0, 4, 26);
        x.fall(0, 44, false);
        due("fell at its last second", x, x.of(0, 0, 0, 0, 4), 19, 0);
        x.begin(0, 0, 50);
        x.reach(0, 10, 51);
        due("topped", x, x.of(0, 0, 0, 0, 4), 1, 0);
    }

    private static void flash() {
        Check.sentence("flash 1, if top is 1 and tries 1.");
        RouteWall x = Texts.wall("round 1 9 20 0;", 2);
        climb(x, 0, 0, 9, 1);
        due("her first, no top", x, x.of(0, 0, 0, 0, 5), 0, 0);
        climb(x, 0, 0, 10, 1);
        due("a top, her second", x, x.of(0, 0, 0, 0, 5), 0, 0);
        climb(x, 1, 0, 10, 1);
        due("a top, her first", x, x.of(0, 0, 1, 0, 5), 1, 0);
        x.appeal(0, 10, 1);
        due("her first by an appeal", x, x.of(0, 0, 0, 1, 5), 1, 0);
        x.appeal(2, 9, 1);
        due("gone by an appeal", x, x.of(0, 0, 1, 1, 5), 0, 0);
    }

    private static void nothingWithoutATry() {
        Check.sentence("All are 0 without one.");
        RouteWall x = Texts.wall("round 1 9 20 0;round 1 9 20 0;points 7-tries-hold-top-zone-seconds-flash;", 1);
        for (int what = 0; what < 6; what++) {
            due("what " + what, x, x.of(0, 0, 0, 0, what), 0, 0);
            due("of the next round, what " + what, x, x.of(1, 0, 0, 0, what), 0, 0);
        }
        due("points by it", x, x.of(0, 0, 0, 0, 6), 7, 0);
        x.begin(0, 0, 0);
        due("one that has just begun is one", x, x.of(0, 0, 0, 0, 3), 1, 0);
        due("points by it", x, x.of(0, 0, 0, 0, 6), 6, 0);
        x.fall(0, 0, true);
        due("a broken one is none", x, x.of(0, 0, 0, 0, 3), 0, 0);
    }

    private static void eachRouteOfEachRound() {
        Check.sentence("Of a CLIMBER on a ROUTE as known on a DAY");
        RouteWall x = Texts.wall("round 5 9 99 0;".repeat(4), 2);
        for (int round = 0; round < 4; round++) {
            for (int route = 0; route < 5; route++) {
                x.route(round, route, 60, 0, 0, 0);
                climb(x, 1, route, 1 + 5 * round + route, 0);
            }
            x.advance(2, 0);
        }
        for (int round = 0; round < 4; round++) {
            for (int route = 0; route < 5; route++) {
                due("hold", x, x.of(round, route, 1, 0, 2), 1 + 5 * round + route, 0);
                due("tries", x, x.of(round, route, 1, 0, 3), 1, 0);
                due("the other's hold", x, x.of(round, route, 0, 0, 2), 0, 0);
            }
        }
    }

    private static void ofArguments() {
        Check.sentence("what 0: top, 1: zone, 2: hold, 3: tries, 4: seconds, 5: flash, 6: POINTS; STATUS tells NONE (1; 2).");
        RouteWall x = Texts.wall("round 2 9 20 0;round 5 9 20 0;points 0-1;", 16);
        for (int what : new int[] {LEAST, -1, 7, 8, GREATEST}) {
            refused("what " + what, x, x.of(0, 0, 0, 0, what), 2);
        }
        for (int day : WILD_DAYS) {
            refused("day " + day, x, x.of(0, 0, 0, day, 0), 2);
        }
        for (int climber : new int[] {LEAST, -1, 16, 17, GREATEST}) {
            refused("climber " + climber, x, x.of(0, 0, climber, 0, 0), 1);
        }
        for (int route : new int[] {LEAST, -1, 2, 5, GREATEST}) {
            refused("route " + route, x, x.of(0, route, 0, 0, 0), 1);
        }
        for (int round : new int[] {LEAST, -1, 2, 4, GREATEST}) {
            refused("round " + round, x, x.of(round, 0, 0, 0, 0), 1);
        }
        due("points of -1 with STATUS 0", x, x.of(0, 0, 0, 0, 6), NONE, 0);
        due("the last of all", x, x.of(1, 4, 15, 999, 6), -1, 0);
    }

    private static void sumsBeyondAnInt() {
        Check.sentence("sum of POINTS over its ROUTES");
        for (int routes = 1; routes <= 5; routes++) {
            RouteWall x = Texts.wall("round " + routes + " 9 20 0;points 999999*999999;", 1);
            due("greatest", x, x.key(0, 0, 0, 0), 1000000000L * routes, 0);
            x = Texts.wall("round " + routes + " 9 20 0;points -999999*999999;", 1);
            due("least", x, x.key(0, 0, 0, 0), -1000000000L * routes, 0);
        }
        RouteWall x = wide();
        due("2 to the 32nd", x, x.key(0, 0, 0, 0), 4294967296L, 0);
        due("is ahead of 0", x, x.rank(0, 0, 0), 1, 0);
        due("which is behind it", x, x.rank(0, 1, 0), 2, 0);
    }

    /** Climber 0 has 4,294,967,296 points in all, which an int takes for the 0 of climber 1. */
    private static RouteWall wide() {
        RouteWall x = Texts.wall("round 5 9 20 0;points 144027*2048*hold;", 2);
        for (int route = 0; route < 5; route++) {
            climb(x, 0, route, route == 4 ? 1 : 4, 0);
        }
        return x;
    }

    private static void mostOfThem() {
        Check.sentence("most of them");
        RouteWall x = Texts.wall("round 3 9 20 0;points hold-5;keys down most;", 1);
        due("all below 0", x, x.key(0, 0, 0, 0), -5, 0);
        climb(x, 0, 2, 3, 0);
        due("on the last route", x, x.key(0, 0, 0, 0), -2, 0);
        climb(x, 0, 0, 9, 0);
        due("on the first route", x, x.key(0, 0, 0, 0), 4, 0);
        climb(x, 0, 1, 8, 0);
        due("a lesser one", x, x.key(0, 0, 0, 0), 4, 0);
    }

    private static void topsAndZones() {
        Check.sentence("tops; zones, together");
        RouteWall x = Texts.wall("round 5 9 20 0;keys down tops,down zones;", 1);
        for (int route = 0; route < 5; route++) {
            x.route(0, route, 4, 1, 2, 3);
        }
        due("no top", x, x.key(0, 0, 0, 0), 0, 0);
        due("no zone", x, x.key(0, 0, 0, 1), 0, 0);
        for (int route = 0; route < 5; route++) {
            climb(x, 0, route, 3, 0);
            due("no top", x, x.key(0, 0, 0, 0), route, 0);
            due("zones", x, x.key(0, 0, 0, 1), 3 * route + 3, 0);
            climb(x, 0, route, 4, 0);
            due("tops", x, x.key(0, 0, 0, 0), route + 1, 0);
            due("as many zones", x, x.key(0, 0, 0, 1), 3 * route + 3, 0);
        }
    }

    private static void keyArguments() {
        Check.sentence("KEY k as the text has it; STATUS tells NONE (1: also of one not in it, no such KEY; 2).");
        RouteWall x = Texts.wall("round 1 9 20 0;round 1 9 20 0;points 0-1;keys up sum,down most,up tops;", 16);
        for (int k : new int[] {LEAST, -1, 3, 4, GREATEST}) {
            refused("key " + k, x, x.key(0, 0, 0, k), 1);
        }
        for (int day : WILD_DAYS) {
            refused("day " + day, x, x.key(0, 0, day, 0), 2);
        }
        for (int climber : new int[] {LEAST, -1, 16, GREATEST}) {
            refused("climber " + climber, x, x.key(0, climber, 0, 0), 1);
        }
        for (int round : new int[] {LEAST, -1, 2, 4, GREATEST}) {
            refused("round " + round, x, x.key(round, 0, 0, 0), 1);
        }
        refused("a round that she is not in", x, x.key(1, 15, 0, 0), 1);
        due("a key of -1 with STATUS 0", x, x.key(0, 15, 999, 0), NONE, 0);
        due("the last key", x, x.key(0, 15, 0, 2), 0, 0);
        x.advance(16, 0);
        due("now she is in it", x, x.key(1, 15, 0, 0), -1, 0);
    }

    private static void aheadByKeys() {
        Check.sentence("Ahead of two in a ROUND is that with the greater (down) or lesser (up) one in the first KEY in which they differ");
        String[] keys = {"up sum", "down sum", "up tops", "down tops"};
        int[][] due = {{2, 1}, {1, 2}, {2, 1}, {1, 2}};
        for (int i = 0; i < keys.length; i++) {
            RouteWall x = Texts.wall("round 1 9 20 0;points hold;keys " + keys[i] + ";", 2);
            climb(x, 0, 0, 10, 0);
            due(keys[i], x, x.rank(0, 0, 0), due[i][0], 0);
            due(keys[i], x, x.rank(0, 1, 0), due[i][1], 0);
            x = Texts.wall("round 1 9 20 0;points hold;keys up zones,down zones,up zones," + keys[i] + ";", 2);
            climb(x, 0, 0, 10, 0);
            due("fourth " + keys[i], x, x.rank(0, 0, 0), due[i][0], 0);
            x = Texts.wall("round 1 9 20 0;points hold;keys " + keys[i] + ",up most,up most,up most;", 2);
            climb(x, 0, 0, 10, 0);
            due("first " + keys[i], x, x.rank(0, 0, 0), due[i][0], 0);
        }
        for (String four : new String[] {"down sum", "down sum,up most,down tops,up zones"}) {
            RouteWall x = Texts.wall("round 1 9 20 0;points hold;keys " + four + ";", 4);
            climb(x, 0, 0, 4, 0);
            climb(x, 1, 0, 4, 0);
            climb(x, 3, 0, 4, 0);
            int[] ranks = {1, 1, 4, 1};
            for (int climber = 0; climber < 4; climber++) {
                due("none differs but the third", x, x.rank(0, climber, 0), ranks[climber], 0);
            }
        }
    }

    private static void tiesGoBack() {
        Check.sentence("if none, and ties go back, that which is ahead in the ROUND ahead (as known on that DAY), if there is one.");
        RouteWall x = Texts.wall("round 1 9 20 0;".repeat(4) + "points hold;ties back;", 2);
        due("round 0 has none ahead", x, x.rank(0, 0, 0), 1, 0);
        due("round 0 has none ahead", x, x.rank(0, 1, 0), 1, 0);
        climb(x, 1, 0, 3, 0);
        climb(x, 0, 0, 2, 0);
        for (int round = 1; round < 4; round++) {
            x.advance(16, 0);
            due("back to round 0 from " + round, x, x.rank(round, 1, 0), 1, 0);
            due("back to round 0 from " + round, x, x.rank(round, 0, 0), 2, 0);
        }
        x.appeal(1, 3, 5);
        due("like ones on day 5", x, x.rank(3, 0, 5), 1, 0);
        due("like ones on day 5", x, x.rank(3, 1, 5), 1, 0);
        due("not on day 4", x, x.rank(3, 0, 4), 2, 0);
        x.appeal(1, 4, 6);
        due("turned on day 6", x, x.rank(3, 1, 6), 2, 0);
        climb(x, 1, 0, 1, 0);
        due("the round itself is asked first", x, x.rank(3, 1, 6), 1, 0);
        due("and no round behind", x, x.rank(2, 1, 6), 2, 0);
    }

    private static RouteWall sixteen(String laws) {
        return Texts.wall("round 1 9 99 0;round 1 9 99 0;" + laws, 16);
    }

    private static void ranks() {
        Check.sentence("RANK: 1 and how many of the CLIMBERS in that ROUND are ahead.");
        RouteWall x = sixteen("points hold;");
        x.route(0, 0, 60, 0, 0, 0);
        for (int climber = 0; climber < 16; climber++) {
            due("at first", x, x.rank(0, climber, 0), 1, 0);
        }
        for (int climber = 0; climber < 16; climber++) {
            climb(x, climber, 0, 20 - climber / 2, 0);
        }
        for (int climber = 0; climber < 16; climber++) {
            due("two and two alike", x, x.rank(0, climber, 0), 1 + climber / 2 * 2, 0);
        }
        x.appeal(15, 1, 7);
        due("all others are ahead", x, x.rank(0, 15, 7), 16, 0);
        due("alone ahead of her", x, x.rank(0, 14, 7), 15, 0);
        x.advance(2, 0);
        due("of those in the round alone", x, x.rank(1, 1, 0), 1, 0);
        due("the round ahead keeps all", x, x.rank(0, 15, 7), 16, 0);
        x = Texts.wall("round 1 9 99 0;", 1);
        due("alone", x, x.rank(0, 0, 0), 1, 0);
    }

    private static void rankArguments() {
        Check.sentence("RANK as known on a DAY (1: also of one not in it; 2).");
        RouteWall x = sixteen("");
        for (int day : WILD_DAYS) {
            refused("day " + day, x, x.rank(0, 0, day), 2);
        }
        for (int climber : new int[] {LEAST, -1, 16, GREATEST}) {
            refused("climber " + climber, x, x.rank(0, climber, 0), 1);
        }
        for (int round : new int[] {LEAST, -1, 1, 2, 4, GREATEST}) {
            refused("round " + round, x, x.rank(round, 0, 0), 1);
        }
        due("day 999", x, x.rank(0, 15, 999), 1, 0);
        climb(x, 3, 0, 10, 0);
        x.advance(1, 0);
        due("one in it", x, x.rank(1, 3, 0), 1, 0);
        refused("one not in it", x, x.rank(1, 4, 0), 1);
        due("but in round 0", x, x.rank(0, 4, 0), 2, 0);
    }

    private static void advanceArguments() {
        Check.sentence("The CLIMBERS of the OPEN ROUND with a RANK of at most so many (1 to 16)");
        RouteWall x = sixteen("");
        for (int most : new int[] {LEAST, -1, 0, 17, 18, GREATEST}) {
            refused("most " + most, x, x.advance(most, 0), 2);
        }
        for (int day : WILD_DAYS) {
            refused("day " + day, x, x.advance(1, day), 2);
        }
        due("none came by them", x, x.told(1, NONE, 4), 0, 0);
        due("most 1", x, x.advance(1, 0), 16, 0);
        x = sixteen("");
        due("most 16", x, x.advance(16, 999), 16, 0);
    }

    private static void advanceRanks() {
        Check.sentence("come to the next one: how many");
        for (int most = 1; most <= 16; most++) {
            RouteWall x = sixteen("points hold;");
            x.route(0, 0, 60, 0, 0, 0);
            for (int climber = 0; climber < 16; climber++) {
                climb(x, climber, 0, 20 - climber, 0);
            }
            due("most " + most, x, x.advance(most, 0), most, 0);
            due("are in it", x, x.told(1, NONE, 4), most, 0);
            due("the last that came", x, x.rank(1, most - 1, 0), 1, 0);
            refused("the first that did not", x, x.rank(1, most, 0), 1);
        }
        for (int most = 1; most <= 4; most++) {
            RouteWall x = Texts.wall("round 1 9 99 0;round 1 9 99 0;points hold;", 4);
            climb(x, 3, 0, 9, 0);
            climb(x, 2, 0, 5, 0);
            climb(x, 1, 0, 5, 0);
            int[] come = {1, 3, 3, 4};
            due("like ones at the bound, most " + most, x, x.advance(most, 0), come[most - 1], 0);
        }
        RouteWall x = Texts.wall("round 1 9 99 0;round 1 9 99 0;points hold;", 2);
        climb(x, 0, 0, 5, 0);
        climb(x, 1, 0, 4, 0);
        x.appeal(1, 6, 10);
        due("as known a day ahead", x, x.advance(1, 9), 1, 0);
        due("the first came", x, x.rank(1, 0, 0), 1, 0);
    }

    private static void advanceNowhere() {
        Check.sentence("5: any has an open TRY; 10: there is no next one, or no CLIMBER");
        RouteWall x = new RouteWall();
        refused("no round", x, x.advance(1, 0), 10);
        x = Texts.wall("round 1 9 10 0;round 1 9 10 0;", 0);
        refused("no climber", x, x.advance(1, 0), 10);
        x = Texts.wall("round 1 9 10 0;", 1);
        refused("no next one", x, x.advance(1, 0), 10);
        x = Texts.wall("round 1 9 10 0;".repeat(4), 16);
        x.begin(15, 0, 0);
        refused("the last climber has an open try", x, x.advance(1, 0), 5);
        x.clock(9);
        refused("until its last second", x, x.advance(1, 0), 5);
        x.clock(10);
        due("then it is over", x, x.advance(16, 0), 16, 0);
        due("to round 2", x, x.advance(16, 0), 16, 0);
        due("to round 3", x, x.advance(16, 0), 16, 0);
        refused("there is no round 4", x, x.advance(16, 0), 10);
        x.begin(0, 0, 10);
        due("the last round is open", x, x.tried(1, 1), 3, 0);
        x = Texts.wall("round 1 9 10 0;round 1 9 10 0;", 1);
        due("one climber alone", x, x.advance(1, 0), 1, 0);
    }

    private static void starts(RouteWall x, int round, int... due) {
        for (int k = 0; k < due.length; k++) {
            due("order(" + round + ", " + k + ")", x, x.order(round, k), due[k], 0);
        }
        for (int k : new int[] {LEAST, -1, due.length, due.length + 1, GREATEST}) {
            refused("order(" + round + ", " + k + ")", x, x.order(round, k), 1);
        }
    }

    private static void orderOfRoundZero() {
        Check.sentence("ORDER of START of a ROUND: of ROUND 0 by numbers");
        RouteWall x = sixteen("points hold;");
        starts(x, 0, 0, 1, 2, 3, 4, 5, 6, 7, 8, 9, 10, 11, 12, 13, 14, 15);
        climb(x, 9, 0, 5, 0);
        due("results change nothing", x, x.order(0, 9), 9, 0);
        x.advance(1, 0);
        due("nor that others did not come", x, x.order(0, 15), 15, 0);
    }

    private static void orderOfOthers() {
        Check.sentence("of others by RANKS of the ROUND ahead as known on the DAY of advance(), the greatest number first, of like ones the greater CLIMBER first.");
        RouteWall x = sixteen("points hold;");
        x.advance(1, 0);
        starts(x, 1, 15, 14, 13, 12, 11, 10, 9, 8, 7, 6, 5, 4, 3, 2, 1, 0);
        x = Texts.wall("round 1 9 99 0;".repeat(3) + "points hold;", 5);
        int[] holds = {6, 4, 6, 9, 4};
        for (int climber = 0; climber < 5; climber++) {
            climb(x, climber, 0, holds[climber], 0);
        }
        x.appeal(3, 1, 8);
        x.advance(16, 7);
        starts(x, 1, 4, 1, 2, 0, 3);
        for (int climber = 0; climber < 5; climber++) {
            climb(x, climber, 0, climber + 1, 0);
        }
        starts(x, 1, 4, 1, 2, 0, 3);
        x.advance(3, 8);
        starts(x, 2, 2, 3, 4);
        starts(x, 1, 4, 1, 2, 0, 3);
        for (int day = 7; day <= 9; day++) {
            x = Texts.wall("round 1 9 99 0;round 1 9 99 0;points hold;", 3);
            climb(x, 0, 0, 6, 0);
            climb(x, 1, 0, 3, 0);
            x.appeal(0, 1, 8);
            x.advance(3, day);
            if (day < 8) {
                starts(x, 1, 2, 1, 0);
            } else {
                starts(x, 1, 2, 0, 1);
            }
        }
    }

    private static void orderArguments() {
        Check.sentence("The k-th CLIMBER in the ORDER of START of a ROUND (1: also k).");
        RouteWall x = Texts.wall("round 1 9 99 0;round 1 9 99 0;points hold;", 0);
        starts(x, 0);
        x.climber();
        starts(x, 0, 0);
        x.climber();
        climb(x, 1, 0, 5, 0);
        starts(x, 0, 0, 1);
        starts(x, 1);
        for (int round : new int[] {LEAST, -1, 2, 3, 4, GREATEST}) {
            refused("round " + round, x, x.order(round, 0), 1);
        }
        x.advance(1, 0);
        starts(x, 1, 1);
    }

    private static void pairs() {
        Check.sentence("How many pairs of the CLIMBERS in a ROUND a set of its ROUTES (1 for ROUTE 0, 2 for 1, 4 for 2 ..) PARTS as known on a DAY: the POINTS on them together differ");
        for (int many = 0; many <= 16; many++) {
            RouteWall x = Texts.wall("round 5 9 99 0;points hold;", many);
            due("all are alike", x, x.parts(0, 31, 0), 0, 0);
            for (int route = 0; route < 5; route++) {
                x.route(0, route, 60, 0, 0, 0);
            }
            for (int climber = 0; climber < many; climber++) {
                climb(x, climber, 3, climber + 1, 0);
            }
            due(many + " by the route", x, x.parts(0, 8, 0), many * (many - 1) / 2, 0);
            due(many + " by all", x, x.parts(0, 31, 0), many * (many - 1) / 2, 0);
            due(many + " by the others", x, x.parts(0, 23, 0), 0, 0);
        }
        RouteWall x = Texts.wall("round 2 9 99 0;points hold;", 2);
        climb(x, 0, 0, 3, 0);
        climb(x, 1, 1, 3, 0);
        due("route 0", x, x.parts(0, 1, 0), 1, 0);
        due("route 1", x, x.parts(0, 2, 0), 1, 0);
        due("together they are alike", x, x.parts(0, 3, 0), 0, 0);
        x.appeal(0, 4, 5);
        due("ahead of that day", x, x.parts(0, 3, 4), 0, 0);
        due("on that day", x, x.parts(0, 3, 5), 1, 0);
    }

    private static void partsArguments() {
        Check.sentence("a set of its ROUTES (1 for ROUTE 0, 2 for 1, 4 for 2 ..)");
        for (int routes = 1; routes <= 5; routes++) {
            RouteWall x = Texts.wall("round " + routes + " 9 99 0;", 2);
            int all = (1 << routes) - 1;
            due("no route", x, x.parts(0, 0, 0), 0, 0);
            due("the first alone", x, x.parts(0, 1, 0), 0, 0);
            due("all " + routes, x, x.parts(0, all, 0), 0, 0);
            for (int set : new int[] {LEAST, -1, all + 1, 2 * all + 2, all + 33, GREATEST}) {
                refused("set " + set + " of " + routes, x, x.parts(0, set, 0), 2);
            }
            for (int day : WILD_DAYS) {
                refused("day " + day, x, x.parts(0, 1, day), 2);
            }
            for (int round : new int[] {LEAST, -1, 1, 4, GREATEST}) {
                refused("round " + round, x, x.parts(round, 1, 0), 1);
            }
            due("day 999", x, x.parts(0, 1, 999), 0, 0);
        }
    }

    private static void partsBeyondAnInt() {
        Check.sentence("the POINTS on them together differ");
        RouteWall x = wide();
        due("2 to the 32nd and 0", x, x.parts(0, 31, 0), 1, 0);
        due("the only set of five", x, x.choose(0, 5, 0), 31, 0);
    }

    private static void chooseArguments() {
        Check.sentence("1; 2: fewer than 1, more than there are");
        for (int routes = 1; routes <= 5; routes++) {
            RouteWall x = Texts.wall("round " + routes + " 9 99 0;", 2);
            for (int many : new int[] {LEAST, -1, 0, routes + 1, 32, GREATEST}) {
                refused(many + " of " + routes, x, x.choose(0, many, 0), 2);
            }
            due("one", x, x.choose(0, 1, 0), 1, 0);
            due("all", x, x.choose(0, routes, 999), (1 << routes) - 1, 0);
            for (int day : WILD_DAYS) {
                refused("day " + day, x, x.choose(0, 1, day), 2);
            }
            for (int round : new int[] {LEAST, -1, 1, 4, GREATEST}) {
                refused("round " + round, x, x.choose(round, 1, 0), 1);
            }
        }
    }

    private static void leastOfSeveral() {
        Check.sentence("The set of so many ROUTES of a ROUND that PARTS most pairs, of several the least number");
        int[] least = {0, 1, 3, 7, 15, 31};
        int[] withTheLast = {0, 16, 17, 19, 23, 31};
        for (int many = 1; many <= 5; many++) {
            RouteWall x = Texts.wall("round 5 9 99 0;points hold;", 3);
            due("all alike, " + many, x, x.choose(0, many, 0), least[many], 0);
            climb(x, 1, 4, 3, 0);
            due("the last route parts, " + many, x, x.choose(0, many, 0), withTheLast[many], 0);
            climb(x, 2, 0, 4, 0);
            due("the first as many, " + many, x, x.choose(0, many, 0), many == 1 ? 1 : withTheLast[many], 0);
            x.appeal(1, 0, 3);
            due("ahead of that day, " + many, x, x.choose(0, many, 2), many == 1 ? 1 : withTheLast[many], 0);
            due("on that day, " + many, x, x.choose(0, many, 3), many == 1 ? 16 : withTheLast[many], 0);
        }
        RouteWall x = Texts.wall("round 5 9 99 0;", 0);
        due("without climbers", x, x.choose(0, 3, 0), 7, 0);
        x = Texts.wall("round 5 9 99 0;round 2 9 99 0;points hold;", 2);
        for (int route = 0; route < 5; route++) {
            climb(x, 1, route, 4, 0);
        }
        x.advance(2, 0);
        for (int many = 1; many <= 2; many++) {
            due("of five", x, x.choose(0, many, 0), least[many], 0);
            due("of two, on which nobody climbed", x, x.choose(1, many, 0), least[many], 0);
        }
    }
}
