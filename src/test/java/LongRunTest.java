/** Long runs in which the promises meet, each answer worked out by hand; no run has more calls than are promised. */
public final class LongRunTest {
    public static void main(String[] args) {
        threeRounds();
        textsReadAgain();
        brokenHolds();
        whatIsSeen();
        appealsOnSeveralDays();
        tiesThatGoBack();
        greatPoints();
        fullTables();
        lastSeconds();
        Check.finish();
    }

    /** Climbers 0 to 2 have 13 points each in round 0, so ties go back to it until an appeal parts them. */
    private static void threeRounds() {
        Script s = new Script("three rounds");
        s.load("round 2 2 30 5; round 1 2 30 5; round 1 1 30 0;\npoints 10*top+zone; ties back;", 3);
        for (int climber = 0; climber < 5; climber++) {
            s.due("climber", climber);
        }
        s.due("route 0 0 6 2 4 0", 1);
        s.due("route 0 1 8 3 0 0", 1);
        s.due("route 1 0 5 1 2 3", 1);
        climbFirstRound(s);
        askFirstRound(s);
        s.due("advance 1 2", 3);
        s.refused("climber", 10);
        s.due("told 1 -1 4", 3);
        s.row("order 1 #", 2, 1, 0);
        s.refused("order 1 3", 1);
        s.refused("rank 1 3 0", 1);
        s.refused("key 1 4 0 0", 1);
        climbSecondRound(s);
        s.due("advance 2 5", 2);
        s.row("order 2 #", 1, 2);
        climbThirdRound(s);
        s.end();
    }

    private static void climbFirstRound(Script s) {
        s.due("begin 0 0 0", 0);
        s.due("reach 0 3 2", 0);
        s.due("reach 0 6 10", 1);
        s.due("ready 0", 15);
        s.refused("begin 0 0 10", 6);
        s.refused("begin 0 1 14", 8);
        s.due("begin 0 1 15", 1);
        s.due("begin 1 0 15", 2);
        s.due("reach 1 2 16", 0);
        s.due("fall 1 17 false", 1);
        s.due("reach 0 4 20", 0);
        s.refused("begin 1 0 21", 8);
        s.due("begin 1 0 22", 3);
        s.due("reach 1 6 30", 1);
        s.due("begin 2 1 30", 4);
        s.due("reach 2 8 44", 1);
        s.due("tried 1 6", 0);
        s.due("begin 3 0 45", 5);
        s.row("tried 1 #", 0, 0, 1, 15, 45, 4, 3);
        s.due("reach 3 3 50", 0);
        s.due("fall 3 50 false", 1);
        s.due("begin 1 1 50", 6);
        s.due("reach 1 7 60", 0);
        s.due("fall 1 61 false", 1);
        s.due("begin 2 0 61", 7);
        s.due("reach 2 5 70", 0);
        s.due("fall 2 70 false", 1);
        s.due("begin 3 1 70", 8);
        s.due("reach 3 3 72", 0);
        s.due("fall 3 73 false", 1);
    }

    private static void askFirstRound(Script s) {
        s.row("of 0 0 0 0 #", 1, 2, 6, 1, 10, 1, 12);
        s.row("of 0 1 0 0 #", 0, 1, 4, 1, 30, 0, 1);
        s.row("of 0 0 1 0 #", 1, 2, 6, 2, 8, 0, 12);
        s.row("of 0 1 2 0 #", 1, 1, 8, 1, 14, 1, 11);
        s.row("of 0 0 4 0 #", 0, 0, 0, 0, 0, 0, 0);
        s.row("key 0 # 0 0", 13, 13, 13, 2, 0);
        s.row("rank 0 # 0", 1, 1, 1, 4, 5);
        parts(s, 0, 9, 7, 7);
        s.due("choose 0 1 0", 1);
        s.due("appeal 5 6 3", 1);
        s.row("rank 0 # 2", 1, 1, 1, 4, 5);
        s.row("rank 0 # 3", 1, 1, 1, 1, 5);
        parts(s, 3, 7, 7, 4);
        s.due("choose 0 1 3", 1);
        s.due("appeal 0 3 5", 1);
        s.row("rank 0 # 5", 4, 1, 1, 1, 5);
    }

    /** Sets of two routes: the first, the second, both. */
    private static void parts(Script s, int day, int first, int second, int both) {
        s.due("parts 0 1 " + day, first);
        s.due("parts 0 2 " + day, second);
        s.due("parts 0 3 " + day, both);
    }

    private static void climbSecondRound(Script s) {
        s.refused("begin 3 0 73", 4);
        s.refused("begin 0 1 73", 1);
        s.row("rank 1 # 2", 1, 1, 1);
        s.row("rank 1 # 5", 3, 1, 1);
        s.due("begin 2 0 76", 9);
        s.due("reach 2 2 80", 0);
        s.due("fall 2 80 false", 1);
        s.due("begin 1 0 80", 10);
        s.due("reach 1 2 84", 0);
        s.due("fall 1 85 false", 1);
        s.due("begin 0 0 85", 11);
        s.due("reach 0 1 86", 0);
        s.due("fall 0 90 true", 1);
        s.refused("begin 0 0 94", 8);
        s.due("ready 0", 95);
        s.due("begin 0 0 95", 12);
        s.refused("advance 3 0", 5);
        s.due("reach 0 2 99", 0);
        s.due("fall 0 100 false", 1);
        s.due("of 1 0 0 0 3", 1);
        s.row("key 1 # 0 0", 2, 2, 2);
        s.row("rank 1 # 0", 1, 1, 1);
        s.row("rank 1 # 5", 3, 1, 1);
        s.due("appeal 9 3 4", 1);
        s.row("rank 1 # 4", 2, 2, 1);
        s.row("rank 1 # 5", 3, 2, 1);
    }

    private static void climbThirdRound(Script s) {
        s.due("begin 1 0 100", 13);
        s.due("begin 2 0 100", 14);
        s.due("clock 130", 1);
        s.due("tried 13 4", 130);
        s.due("tried 14 6", 3);
        s.refused("begin 1 0 130", 6);
        s.due("rank 2 1 0", 1);
        s.due("rank 2 2 0", 1);
        s.due("rank 2 1 4", 2);
        s.due("rank 2 2 4", 1);
        s.due("appeal 3 5 0", 1);
        s.due("rank 2 1 0", 2);
        s.due("rank 2 2 0", 1);
        s.row("rank 0 # 0", 1, 3, 1, 4, 5);
        s.row("rank 0 # 5", 4, 3, 1, 1, 5);
        s.due("appeal 13 10 6", 1);
        s.due("rank 2 1 5", 2);
        s.due("rank 2 1 6", 1);
        s.due("rank 2 2 6", 2);
        s.refused("advance 1 6", 10);
    }

    private static void textsReadAgain() {
        Script s = new Script("texts read again");
        s.load("round 1 2 30 0; points hold; ties shared;", 1);
        s.due("climber", 0);
        s.due("climber", 1);
        s.due("route 0 0 9 1 0 0", 1);
        s.due("begin 0 0 0", 0);
        s.due("reach 0 4 5", 0);
        s.due("fall 0 6 false", 1);
        s.due("appeal 0 9 7", 1);
        s.due("out 1 6 true", 1);
        faultsLeaveAllAsItWas(s);
        s.feed("round 2 1 20 3; keys up tops;\n?");
        s.due("load 29", 1);
        nothingIsLeft(s);
        s.due("load 0", 0);
        s.refused("climber", 1);
        s.refused("told 0 -1 0", 1);
        s.refused("advance 1 0", 10);
        s.due("now", 0);
        s.due("clock 5", 1);
        fourRoundsTwice(s);
        s.end();
    }

    private static void faultsLeaveAllAsItWas(Script s) {
        s.faulty("round 1 2 30 0; points hold; points top;", 5, 29);
        s.faulty("round 1 2 30 0; points (hold", 2, 28);
        s.faulty("round 1 2 30 0; points 1234567 ]", 1, 23);
        s.faulty("round 1 2 9 0; points", 4, 10);
        s.refused("load 1", 2);
        s.only("fault 0", 4);
        s.only("fault 1", 10);
        s.due("now", 6);
        s.due("told 0 -1 2", 30);
        s.due("told 0 0 0", 9);
        s.due("of 0 0 0 6 6", 4);
        s.due("of 0 0 0 7 6", 9);
        s.due("of 0 0 0 7 0", 1);
        s.due("seen 1 0", 1);
        s.refused("out 1 6 true", 10);
        s.refused("clock 5", 9);
    }

    private static void nothingIsLeft(Script s) {
        s.only("fault 0", 0);
        s.only("fault 1", RouteWall.NONE);
        s.refused("load 1", 2);
        s.due("now", 0);
        s.refused("tried 0 0", 1);
        s.refused("seen 1 0", 1);
        s.due("told 0 0 0", 10);
        s.row("told 0 -1 #", 2, 1, 20, 3, 0);
        s.due("climber", 0);
        s.due("climber", 1);
        s.due("seen 1 0", 0);
        s.due("out 1 0 true", 1);
        s.due("begin 0 0 0", 0);
        s.due("reach 0 10 1", 1);
        s.due("of 0 0 0 999 6", 100);
        s.row("key 0 # 0 0", 1, 0);
        s.row("rank 0 # 0", 2, 1);
    }

    private static void fourRoundsTwice(Script s) {
        String four = "round 1 1 10 0;round 2 1 10 0;round 3 1 10 0;round 4 1 10 0;";
        for (int i = 0; i < 2; i++) {
            s.load(four, 4);
            s.row("told # -1 0", 1, 2, 3, 4);
            s.due("climber", 0);
            s.row("told # -1 4", 1, 0, 0, 0);
            s.due("advance 1 0", 1);
            s.due("advance 16 999", 1);
            s.due("advance 2 0", 1);
            s.refused("advance 2 0", 10);
            s.refused("climber", 10);
            s.row("told # -1 4", 1, 1, 1, 1);
            s.due("begin 0 3 0", 0);
            s.due("tried 0 1", 3);
            s.faulty(four + "round 5 1 10 0;", 3, 60);
        }
    }

    private static void brokenHolds() {
        Script s = new Script("broken holds");
        s.load("round 1 2 20 10; points 100*flash+10*top+hold;", 1);
        for (int climber = 0; climber < 3; climber++) {
            s.due("climber", climber);
        }
        s.due("route 0 0 4 2 0 0", 1);
        s.due("begin 0 0 0", 0);
        s.due("reach 0 3 1", 0);
        s.due("of 0 0 0 0 6", 3);
        s.due("out 1 2 true", 1);
        s.due("fall 0 3 true", 1);
        s.row("tried 0 #", 0, 0, 0, 0, 3, 3, 4);
        s.row("of 0 0 0 0 #", 0, 0, 0, 0, 0, 0, 0);
        s.refused("appeal 0 4 0", 10);
        s.due("seen 1 0", 1);
        s.refused("begin 1 0 3", 7);
        s.refused("begin 0 0 3", 8);
        s.due("ready 0", 13);
        s.due("begin 0 0 13", 1);
        s.due("reach 0 1 14", 0);
        s.due("fall 0 14 true", 1);
        s.due("ready 0", 24);
        s.due("begin 0 0 24", 2);
        s.due("reach 0 4 30", 1);
        s.row("of 0 0 0 0 #", 1, 1, 4, 1, 6, 1, 114);
        s.refused("begin 0 0 40", 6);
        twoThatCountAndOneThatDoesNot(s);
        s.due("out 1 92 false", 1);
        s.refused("begin 1 0 92", 7);
        s.end();
    }

    private static void twoThatCountAndOneThatDoesNot(Script s) {
        s.due("begin 2 0 40", 3);
        s.due("fall 2 41 false", 1);
        s.due("begin 2 0 51", 4);
        s.due("fall 2 52 true", 1);
        s.due("begin 2 0 62", 5);
        s.refused("fall 2 82 true", 5);
        s.row("tried 5 #", 2, 0, 0, 62, 82, 0, 3);
        s.due("ready 2", 92);
        s.refused("begin 2 0 92", 6);
        s.row("of 0 0 2 0 #", 0, 0, 0, 1, 1, 0, 0);
        s.due("appeal 5 2 1", 1);
        s.due("appeal 3 2 2", 1);
        s.due("appeal 3 4 3", 1);
        s.refused("appeal 4 4 3", 10);
        s.row("of 0 0 2 1 #", 0, 1, 2, 2, 20, 0, 2);
        s.row("of 0 0 2 2 #", 0, 1, 2, 1, 1, 0, 2);
        s.row("of 0 0 2 3 #", 1, 1, 4, 1, 1, 1, 114);
        s.row("rank 0 # 0", 1, 2, 2);
        s.row("rank 0 # 2", 1, 3, 2);
        s.row("rank 0 # 3", 1, 3, 1);
        s.due("parts 0 1 0", 2);
        s.due("parts 0 1 2", 3);
        s.due("parts 0 1 3", 2);
    }

    private static void whatIsSeen() {
        Script s = new Script("what is seen");
        s.load("round 2 9 50 0; round 2 9 50 0;", 2);
        for (int climber = 0; climber < 4; climber++) {
            s.due("climber", climber);
        }
        s.due("out 1 5 true", 1);
        s.due("begin 0 0 5", 0);
        s.row("seen # 0", 0, 1, 0, 0);
        s.row("seen # 1", 0, 0, 0, 0);
        s.due("out 1 6 false", 1);
        s.refused("begin 1 0 6", 7);
        s.due("begin 1 1 6", 1);
        s.due("out 2 6 true", 1);
        s.row("seen 2 #", 1, 1);
        s.due("fall 0 7 false", 1);
        s.due("fall 1 7 false", 1);
        s.due("out 2 8 false", 1);
        s.due("out 3 8 true", 1);
        s.due("clock 20", 1);
        s.row("seen 3 #", 0, 0);
        s.due("out 3 20 false", 1);
        s.due("begin 0 0 21", 2);
        s.due("out 0 22 true", 1);
        s.row("seen 0 #", 0, 0);
        s.refused("begin 2 1 22", 7);
        s.due("seen 3 0", 0);
        s.due("out 3 71 true", 1);
        s.due("tried 2 4", 71);
        s.due("seen 3 0", 1);
        s.refused("begin 2 1 71", 7);
        outTwentyTimes(s, 71);
        s.due("advance 4 0", 4);
        allAreInAndHaveSeenNone(s);
        s.end();
    }

    /** Climber 0 is out for the first time when this begins. */
    private static void outTwentyTimes(Script s, int second) {
        for (int i = 1; i < 20; i++) {
            s.only("out 0 " + second + " false", 1);
            s.only("out 0 " + second + " true", 1);
        }
        s.refused("out 0 " + second + " true", 10);
        s.due("out 0 " + second + " false", 1);
        s.refused("out 0 " + second + " false", 10);
        s.refused("out 0 " + second + " true", 3);
    }

    private static void allAreInAndHaveSeenNone(Script s) {
        for (int climber = 0; climber < 4; climber++) {
            s.refused("out " + climber + " 71 false", 10);
            s.row("seen " + climber + " #", 0, 0);
        }
        s.due("out 0 71 true", 1);
        s.due("begin 1 0 71", 3);
        s.row("seen # 0", 1, 0, 0, 0);
        s.refused("begin 0 0 72", 7);
        s.due("begin 0 1 72", 4);
        s.due("out 3 72 true", 1);
        s.row("seen 3 #", 1, 1);
        s.row("seen 0 #", 1, 0);
    }

    private static void appealsOnSeveralDays() {
        Script s = new Script("appeals on several days");
        s.load("round 2 3 40 0;points hold*2-tries;keys down sum,up most;ties shared;", 1);
        for (int climber = 0; climber < 3; climber++) {
            s.due("climber", climber);
        }
        climb(s, 0, 0, 0, 5, 0);
        climb(s, 0, 0, 10, 7, 1);
        climb(s, 1, 0, 20, 7, 2);
        climb(s, 2, 0, 30, 3, 3);
        climb(s, 2, 1, 40, 4, 4);
        s.row("key 0 # 0 0", 12, 13, 12);
        s.row("key 0 # 0 1", 12, 13, 7);
        s.row("rank 0 # 0", 3, 1, 2);
        s.due("appeal 1 3 5", 1);
        s.due("of 0 0 0 5 6", 9);
        s.due("appeal 1 9 3", 1);
        s.due("appeal 1 10 5", 1);
        s.due("appeal 1 0 4", 1);
        s.due("of 0 0 0 4 6", 9);
        s.due("of 0 0 0 5 6", 18);
        s.due("appeal 0 10 4", 1);
        long[] points = {12, 12, 12, 16, 19, 19, 19};
        s.row("of 0 0 0 # 6", points);
        s.due("of 0 0 0 999 6", 19);
        s.row("of 0 0 0 3 #", 0, 0, 9, 2, 9, 0, 16);
        s.row("of 0 0 0 5 #", 1, 0, 10, 1, 9, 1, 19);
        s.row("tried 0 #", 0, 0, 0, 0, 9, 5, 2);
        s.row("rank 0 # 2", 3, 1, 2);
        s.row("rank 0 # 3", 1, 2, 3);
        parts(s, 2, 3, 2, 2);
        parts(s, 3, 3, 2, 3);
        s.due("choose 0 1 3", 1);
        s.due("appeal 3 0 1", 1);
        s.due("appeal 4 7 1", 1);
        s.row("key 0 # 1 0", 12, 13, 12);
        s.row("key 0 # 1 1", 12, 13, 13);
        s.row("rank 0 # 1", 2, 1, 3);
        s.row("rank 0 # 0", 3, 1, 2);
        s.end();
    }

    /** A try of nine seconds that ends by a fall. */
    private static void climb(Script s, int climber, int route, int second, int hold, int number) {
        s.only("begin " + climber + " " + route + " " + second, number);
        s.only("reach " + climber + " " + hold + " " + (second + 8), 0);
        s.only("fall " + climber + " " + (second + 9) + " false", 1);
    }

    private static void tiesThatGoBack() {
        for (boolean back : new boolean[] {true, false}) {
            Script s = new Script(back ? "ties back" : "ties shared");
            s.load("round 1 1 10 0;round 1 1 10 0;round 1 1 10 0;round 1 1 10 0;keys up zones,down sum;points hold;"
                + (back ? "ties back;" : "ties shared;"), 4);
            for (int climber = 0; climber < 4; climber++) {
                s.due("climber", climber);
            }
            climb(s, 0, 0, 0, 4, 0);
            climb(s, 1, 0, 10, 4, 1);
            climb(s, 2, 0, 20, 3, 2);
            climb(s, 3, 0, 30, 9, 3);
            s.row("rank 0 # 0", 2, 2, 4, 1);
            s.due("advance 4 0", 4);
            s.row("order 1 #", 2, 1, 0, 3);
            s.row("rank 1 # 0", back ? new long[] {2, 2, 4, 1} : new long[] {1, 1, 1, 1});
            climb(s, 3, 0, 40, 1, 4);
            climb(s, 0, 0, 50, 2, 5);
            climb(s, 1, 0, 60, 2, 6);
            climb(s, 2, 0, 70, 2, 7);
            s.row("rank 1 # 0", back ? new long[] {1, 1, 3, 4} : new long[] {1, 1, 1, 4});
            s.due("advance 3 0", 3);
            s.row("order 2 #", 2, 1, 0);
            s.due("advance 3 0", 3);
            s.row("order 3 #", 2, 1, 0);
            s.row("rank 3 # 0", back ? new long[] {1, 1, 3} : new long[] {1, 1, 1});
            appealsThatPart(s, back);
            s.end();
        }
    }

    /** What is known on a day of any round ahead parts those who are alike in all rounds behind it. */
    private static void appealsThatPart(Script s, boolean back) {
        s.due("appeal 1 5 1", 1);
        s.due("appeal 6 1 2", 1);
        s.due("appeal 7 9 3", 1);
        s.row("rank 3 # 0", back ? new long[] {1, 1, 3} : new long[] {1, 1, 1});
        s.row("rank 3 # 1", back ? new long[] {2, 1, 3} : new long[] {1, 1, 1});
        s.row("rank 3 # 2", back ? new long[] {1, 3, 2} : new long[] {1, 1, 1});
        s.row("rank 3 # 3", back ? new long[] {2, 3, 1} : new long[] {1, 1, 1});
        s.row("rank 1 # 2", back ? new long[] {1, 4, 2, 3} : new long[] {1, 3, 1, 3});
        climb(s, 1, 0, 80, 1, 8);
        s.row("rank 3 # 3", back ? new long[] {3, 1, 2} : new long[] {2, 1, 2});
        s.row("rank 2 # 3", back ? new long[] {2, 3, 1} : new long[] {1, 1, 1});
        s.refused("rank 2 3 3", 1);
    }

    /** A product beyond 1,000,000,000 is that; sums of five routes go beyond it, and beyond an int. */
    private static void greatPoints() {
        Script s = new Script("great points");
        s.load("round 5 1 10 0;points 999999*hold*hold*hold;keys up sum,down most;", 1);
        s.due("climber", 0);
        s.due("climber", 1);
        s.due("climber", 2);
        for (int route = 0; route < 5; route++) {
            s.due("route 0 " + route + " 60 20 40 60", 1);
            s.only("begin 0 " + route + " " + route, 2 * route);
            s.only("reach 0 60 " + route, 1);
            s.only("begin 1 " + route + " " + route, 2 * route + 1);
            s.only("reach 1 " + (route == 4 ? 10 : 60) + " " + route, route == 4 ? 0 : 1);
        }
        s.row("of 0 4 # 0 6", 1_000_000_000L, 999_999_000L, 0);
        s.row("key 0 # 0 0", 5_000_000_000L, 4_999_999_000L, 0);
        s.row("key 0 # 0 1", 1_000_000_000L, 1_000_000_000L, 0);
        s.row("rank 0 # 0", 3, 2, 1);
        s.due("parts 0 15 0", 2);
        s.due("parts 0 16 0", 3);
        s.due("parts 0 31 0", 3);
        s.due("choose 0 1 0", 16);
        s.due("choose 0 2 0", 17);
        s.due("choose 0 5 0", 31);
        s.load("round 5 1 10 0;points 0-999999*(hold+1)*(hold+1)*(hold+1)*(hold+1);", 1);
        s.due("climber", 0);
        for (int route = 0; route < 5; route++) {
            s.only("begin 0 " + route + " " + route, route);
            s.only("reach 0 10 " + route, 1);
        }
        s.due("of 0 0 0 0 6", -1_000_000_000L);
        s.due("key 0 0 0 0", -5_000_000_000L);
        s.end();
    }

    /** 700 bytes, 4 rounds, 40 items, 8 within one another, 4 keys, 16 climbers, 300 tries, 40 appeals, 20 times out. */
    private static void fullTables() {
        Script s = new Script("full tables");
        StringBuilder text = new StringBuilder("round 5 9 10 0;round 5 9 10 0;round 5 9 10 0;round 5 9 10 999;");
        text.append("keys down sum,down most,up zones,down tops;ties back;points -(((((((0-hold)))))))");
        for (int i = 0; i < 9; i++) {
            text.append("+0*top");
        }
        while (text.length() < 699) {
            text.append(text.length() % 2 == 0 ? ' ' : '\n');
        }
        s.load(text.append(';').toString(), 4);
        for (int climber = 0; climber < 16; climber++) {
            s.only("climber", climber);
        }
        s.refused("climber", 3);
        s.only("route 0 0 60 20 40 60", 1);
        for (int number = 0; number < 300; number++) {
            int batch = number / 16;
            s.only("begin " + number % 16 + " " + batch / 4 + " " + 10 * batch, number);
        }
        s.refused("begin 12 4 180", 3);
        s.refused("appeal 299 1 0", 10);
        s.row("told 0 # 4", 64, 64, 64, 64, 44);
        s.only("clock 190", 1);
        appealsForAll(s);
        onlyTheFullAdvance(s);
        s.end();
    }

    private static void appealsForAll(Script s) {
        for (int i = 0; i < 40; i++) {
            int climber = i % 16;
            int hold = i < 16 ? 60 - climber : i < 32 ? climber : 30;
            s.only("appeal " + climber + " " + hold + " " + i / 16, 1);
        }
        s.refused("appeal 299 1 0", 3);
        s.row("of 0 0 0 0 #", 1, 3, 60, 1, 10, 1, 60);
        s.row("key 0 0 0 #", 60, 60, 3, 1);
        s.only("rank 0 15 0", 16);
        s.only("rank 0 15 1", 1);
        s.only("rank 0 0 1", 16);
        s.only("rank 0 7 2", 1);
        s.only("rank 0 8 2", 16);
        s.only("parts 0 1 0", 120);
        s.only("parts 0 1 2", 92);
        s.only("parts 0 30 0", 0);
        s.only("choose 0 3 1", 7);
    }

    private static void onlyTheFullAdvance(Script s) {
        s.only("advance 8 2", 8);
        s.only("order 1 0", 7);
        s.only("order 1 7", 0);
        s.only("advance 3 0", 3);
        s.only("order 2 0", 2);
        s.only("order 2 2", 0);
        s.only("advance 1 1", 1);
        s.only("order 3 0", 2);
        s.refused("order 3 1", 1);
        s.refused("begin 2 0 190", 3);
        s.refused("begin 3 0 190", 4);
        s.refused("advance 1 0", 10);
    }

    private static void lastSeconds() {
        Script s = new Script("last seconds");
        s.load("round 1 9 10 3;round 1 9 10 0;", 2);
        s.due("climber", 0);
        s.due("climber", 1);
        s.due("begin 0 0 999980", 0);
        s.due("begin 1 0 999985", 1);
        s.refused("reach 0 1 999990", 5);
        s.due("tried 0 4", 999990);
        s.due("tried 1 4", RouteWall.NONE);
        s.refused("begin 0 0 1000001", 2);
        s.refused("begin 0 0 999989", 9);
        s.refused("begin 0 0 999992", 8);
        s.due("begin 0 0 999993", 2);
        s.due("reach 1 10 999994", 1);
        s.refused("begin 1 0 1000000", 6);
        s.due("tried 2 4", RouteWall.NONE);
        s.refused("clock 999999", 9);
        s.refused("clock 1000003", 2);
        s.refused("advance 2 0", 5);
        s.due("reach 0 9 1000000", 0);
        s.due("fall 0 1000000 false", 1);
        s.row("tried 2 #", 0, 0, 0, 999993, 1000000, 9, 2);
        s.refused("begin 0 0 1000000", 8);
        s.due("now", 1000000);
        s.due("advance 2 0", 2);
        s.due("begin 1 0 1000000", 3);
        s.due("reach 1 10 1000000", 1);
        s.row("of 1 0 1 0 #", 1, 0, 10, 1, 0, 1, 100);
        s.row("rank 1 # 0", 2, 1);
        s.load("", 0);
        s.due("now", 0);
        s.end();
    }
}
