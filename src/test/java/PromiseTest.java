/** For each promise of the document: ordinary calls, the edges it names, and wrong inputs. */
public final class PromiseTest extends Calls {
    public static void main(String[] args) {
        promise1();
        promise2();
        promise3();
        promise4();
        promise4Cut();
        promise4Again();
        promise5();
        FaultCases.run();
        promise6();
        promise7();
        promise8();
        promise9();
        promise9Order();
        promise9Appealed();
        promise10();
        promise11();
        promise12();
        promise13();
        promise14();
        promise15();
        promise16();
        promise17();
        promise18();
        promise19();
        promise19Expressions();
        promise20();
        promise21();
        promise22();
        promise23();
        promise24();
        promise25();
        Check.finish();
    }

    private static void promise1() {
        RouteWall x = new RouteWall();
        Check.due("NONE", RouteWall.NONE, -1);
        Check.due("new: status()", x.status(), 0);
        refused("new: no rounds", x, x.told(0, NONE, 0), 1);
        refused("new: no climbers", x, x.ready(0), 1);
        refused("new: no tries", x, x.tried(0, 0), 1);
        refused("new: an empty tape", x, x.load(1), 2);
        Check.due("new: the first feed", x.feed(0, 0, 0, 0, 0), 20);
        Check.due("new: now()", x.now(), 0);
    }

    private static void promise2() {
        RouteWall x = new RouteWall();
        x.clock(-1);
        Check.due("status of the latest call", x.status(), 2);
        Check.due("status() has none itself", x.status(), 2);
        x.fault(0);
        Check.due("fault() has none", x.status(), 2);
        x.feed(0, 0, 0, 0, 0);
        Check.due("feed() has none", x.status(), 2);
        for (int i = 0; i < 35; i++) {
            x.feed(0, 0, 0, 0, 0);
        }
        Check.due("nor a feed() that gives NONE", x.status(), 2);
        x.now();
        Check.due("now() has STATUS 0", x.status(), 0);
    }

    private static void promise3() {
        RouteWall x = new RouteWall();
        for (int i = 1; i <= 35; i++) {
            Check.due("feed " + i, x.feed(0x20202020, 0x20202020, 0x20202020, 0x20202020, 0x20202020), 20 * i);
        }
        Check.due("feed beyond 700", x.feed(0, 0, 0, 0, 0), NONE);
        due("700 blanks are a text", x, x.load(700), 0, 0);
        Check.due("the tape is empty behind it", x.feed(0x726f756e, 0x64203320, 0x32203130, 0x20343b3f, -1), 20);
        due("the highest byte of each int comes first", x, x.load(15), 1, 0);
        Check.due("ROUTES", x.told(0, NONE, 0), 3);
        Check.due("REST", x.told(0, NONE, 3), 4);
        x.feed(0x3b202020, 0, 0, 0, 0);
        refused("bytes are not signed", x, x.load(20), 10);
        x.feed(-1, -1, -1, -1, -1);
        x.load(20);
        Check.due("byte 255 begins no token", x.fault(0), 1);
    }

    private static void promise4() {
        RouteWall x = new RouteWall();
        due("an empty text", x, x.load(0), 0, 0);
        Texts.feed(x, "round 1 1 10 0;");
        refused("n below 0", x, x.load(-1), 2);
        refused("n above the tape", x, x.load(21), 2);
        due("neither empties the tape", x, x.load(20), 1, 0);
        refused("the tape is empty behind a text", x, x.load(1), 2);
        x.climber();
        x.route(0, 0, 5, 1, 2, 3);
        x.begin(0, 0, 3);
        x.fall(0, 4, false);
        x.appeal(0, 2, 0);
        refused("a fault", x, Texts.load(x, "round 1 1 10 0; x"), 10);
        refused("the tape is empty behind a fault", x, x.load(1), 2);
        Check.due("behind a fault: the second stays", x.now(), 4);
        Check.due("behind a fault: tries stay", x.tried(0, 4), 4);
        Check.due("behind a fault: rounds stay", x.told(0, NONE, 0), 1);
        Check.due("behind a fault: appeals stay", x.of(0, 0, 0, 0, 2), 2);
        due("four rounds", x, Texts.load(x, "round 1 1 10 0;round 2 2 20 1;round 5 9 999 999;round 1 1 10 0;"), 4, 0);
        Check.due("it is second 0", x.now(), 0);
        refused("climbers are gone", x, x.ready(0), 1);
        refused("tries are gone", x, x.tried(0, 0), 1);
        Check.due("routes are new", x.told(0, 0, 0), 10);
        Check.due("zones are gone", x.told(0, 0, 1), 0);
        Check.due("no tries on it", x.told(0, 0, 4), 0);
        due("the numbers begin anew", x, x.climber(), 0, 0);
        Check.due("and the tries'", x.begin(0, 0, 0), 0);
        x.fall(0, 1, false);
        Check.due("no old appeal holds for the new try", x.of(0, 0, 0, 9, 2), 0);
        Check.due("words, numbers and signs need no blanks between", Texts.load(x, "round1 2 10\n0;points-1;"), 1);
        Check.due("tries", x.told(0, NONE, 1), 2);
        x.climber();
        Check.due("points", x.of(0, 0, 0, 0, 6), -1);
        Check.due("what isn't told again is as untold", Texts.load(x, "round 1 1 10 0;"), 1);
        x.climber();
        x.begin(0, 0, 0);
        x.reach(0, 10, 0);
        Check.due("untold points", x.of(0, 0, 0, 0, 6), 100);
        Check.due("a text may end by a law without rounds", Texts.load(x, "ties back;"), 0);
    }

    /** A text ends at n, even within a word or a number that goes on behind it on the tape. */
    private static void promise4Cut() {
        RouteWall x = new RouteWall();
        Texts.feed(x, "ties backs;");
        refused("cut within a word", x, x.load(9), 10);
        Check.due("the end can't stand there", x.fault(0), 2);
        Check.due("the text's length", x.fault(1), 9);
        Texts.feed(x, "round 12");
        refused("cut within a number", x, x.load(7), 10);
        Check.due("the end can't stand there", x.fault(0), 2);
        Check.due("the text's length", x.fault(1), 7);
        Texts.feed(x, "ties back;?");
        due("what is behind n is no part of it", x, x.load(10), 0, 0);
        Texts.feed(x, " ".repeat(690) + "points top");
        refused("a word at the end of 700 bytes", x, x.load(700), 10);
        Check.due("the text's length", x.fault(1), 700);
        Texts.feed(x, ";".repeat(700));
        refused("700 tokens", x, x.load(700), 10);
        Check.due("the first of them", x.fault(1), 0);
        Texts.feed(x, "points 1" + " ".repeat(691) + ";");
        due("a sign at the end of 700 bytes", x, x.load(700), 0, 0);
    }

    /** Nothing of an earlier text, or of a contest under it, is left behind a new one. */
    private static void promise4Again() {
        RouteWall x = new RouteWall();
        String text = "points -(hold-1)*2;keys up sum,down tops;ties back;round 1 5 10 0;round 1 5 10 0;";
        due("a text", x, Texts.load(x, text), 2, 0);
        x.climber();
        x.climber();
        x.begin(0, 0, 0);
        x.reach(0, 3, 1);
        x.fall(0, 1, false);
        x.advance(1, 0);
        x.out(0, 2, true);
        x.begin(0, 0, 2);
        due("the same text again", x, Texts.load(x, text), 2, 0);
        x.climber();
        x.climber();
        Check.due("round 0 is open, its climbers in no other", x.told(1, NONE, 4), 0);
        refused("all are in", x, x.out(0, 0, false), 10);
        Check.due("nobody has an open try", x.ready(0), 0);
        due("a try of round 0", x, x.begin(0, 0, 0), 0, 0);
        Check.due("its round", x.tried(0, 1), 0);
        Check.due("its hold", x.tried(0, 5), 0);
        Check.due("it is open", x.tried(0, 6), 0);
        x.fall(0, 0, false);
        due("points", x, x.of(0, 0, 0, 0, 6), 2, 0);
        for (int i = 0; i < 3; i++) {
            Texts.load(x, "points 1*(2+-(((((((1");
            due("an expression behind one that ended too early", x, Texts.load(x, "points 2*-(-(-(-(3))))-7;"), 0, 0);
        }
        Texts.load(x, "points --;");
        Texts.load(x, "points -");
        due("a minus that found no factor is gone", x, Texts.load(x, "points 5;round 1 1 10 0;"), 1, 0);
        x.climber();
        Check.due("its points", x.of(0, 0, 0, 0, 6), 5);
        Texts.load(x, "points 1 1");
        due("untold", x, Texts.load(x, "round 1 5 10 0;round 1 5 10 0;"), 2, 0);
        x.climber();
        x.climber();
        climb(x, 1, 0, 10, 1);
        refused("untold: one key", x, x.key(0, 0, 0, 1), 1);
        due("untold: the sum", x, x.key(0, 1, 0, 0), 100, 0);
        due("untold: down", x, x.rank(0, 1, 0), 1, 0);
        x.advance(2, 0);
        due("untold: ties are shared", x, x.rank(1, 0, 0), 1, 0);
        Texts.load(x, "round 1 5 10 0;");
        x.climber();
        x.climber();
        x.out(0, 1, true);
        Check.due("an old try shows nobody anything", x.seen(0, 0), 0);
    }

    private static void promise5() {
        RouteWall x = new RouteWall();
        Check.due("ahead of any", x.fault(0), NONE);
        Check.due("ahead of any, its place", x.fault(1), NONE);
        x.load(5);
        Check.due("a load() with STATUS 2 is none", x.fault(0), NONE);
        Texts.load(x, "round 1 1 10 0; x");
        Check.due("the fault", x.fault(0), 2);
        Check.due("its place", x.fault(1), 16);
        Check.due("what 2", x.fault(2), NONE);
        Check.due("what -1", x.fault(-1), NONE);
        x.load(-1);
        Check.due("still the fault", x.fault(0), 2);
        Check.due("still its place", x.fault(1), 16);
        x.load(0);
        Check.due("none", x.fault(0), 0);
        Check.due("no place", x.fault(1), NONE);
    }

    private static void promise6() {
        RouteWall x = new RouteWall();
        refused("no round", x, x.climber(), 1);
        Texts.load(x, "round 1 1 10 0;round 1 1 10 0;");
        for (int i = 0; i < 16; i++) {
            due("climber " + i, x, x.climber(), i, 0);
        }
        refused("a 17th", x, x.climber(), 3);
        Check.due("all in round 0", x.told(0, NONE, 4), 16);
        Check.due("none in round 1", x.told(1, NONE, 4), 0);
        x.begin(0, 0, 0);
        refused("3 is asked ahead of 10", x, x.climber(), 3);
        x = Texts.wall("round 1 1 10 0;round 1 1 10 0;", 2);
        x.begin(0, 0, 0);
        x.fall(0, 0, true);
        refused("a try was begun, if a broken one", x, x.climber(), 10);
        x = Texts.wall("round 1 1 10 0;round 1 1 10 0;", 2);
        x.advance(1, 0);
        refused("a round advanced", x, x.climber(), 10);
    }

    private static void promise7() {
        RouteWall x = Texts.wall("round 2 1 10 0;round 1 1 10 0;", 1);
        int[][] right = {{2, 0, 0, 0}, {60, 1, 2, 60}, {2, 1, 2, 0}, {5, 5, 0, 0}, {9, 1, 2, 3}};
        for (int[] r : right) {
            due("route " + r[0], x, x.route(0, 0, r[0], r[1], r[2], r[3]), true, 0);
            for (int what = 0; what < 4; what++) {
                Check.due("told " + what, x.told(0, 0, what), r[what]);
            }
        }
        int[][] wrong = {{1, 0, 0, 0}, {61, 0, 0, 0}, {5, 6, 0, 0}, {5, -1, 0, 0}, {5, 2, 2, 0}, {5, 2, 1, 0},
            {5, 0, 1, 0}, {5, 0, 0, 1}, {5, 1, 0, 2}, {5, 1, 2, 2}, {5, 1, 2, 6}, {5, 1, 6, 0}, {5, 1, 2, -1},
            {5, 1, -1, 0}, {-5, 0, 0, 0}, {5, 3, 4, 1}};
        for (int[] w : wrong) {
            refused("wrong route " + w[0], x, x.route(0, 0, w[0], w[1], w[2], w[3]), 2);
        }
        Check.due("nothing has changed", x.told(0, 0, 0), 9);
        Check.due("nor its zones", x.told(0, 0, 3), 3);
        refused("no such round", x, x.route(2, 0, 1, 0, 0, 0), 1);
        refused("round -1", x, x.route(-1, 0, 5, 0, 0, 0), 1);
        refused("no such route", x, x.route(0, 2, 5, 0, 0, 0), 1);
        refused("route -1", x, x.route(0, -1, 5, 0, 0, 0), 1);
        refused("a route that only another round has", x, x.route(1, 1, 5, 0, 0, 0), 1);
        x.begin(0, 0, 0);
        x.fall(0, 0, true);
        refused("2 is asked ahead of 10", x, x.route(0, 0, 1, 0, 0, 0), 2);
        refused("a try was begun on it", x, x.route(0, 0, 5, 0, 0, 0), 10);
        due("none on the other", x, x.route(0, 1, 5, 0, 0, 0), true, 0);
        due("none in the next round", x, x.route(1, 0, 7, 0, 0, 0), true, 0);
        Check.due("each has its own holds", x.told(1, 0, 0), 7);
    }

    private static void promise8() {
        RouteWall x = Texts.wall("round 3 2 60 10;round 1 9 999 0;", 3);
        int[] first = {3, 2, 60, 10, 3};
        int[] second = {1, 9, 999, 0, 0};
        for (int what = 0; what < 5; what++) {
            due("of round 0", x, x.told(0, NONE, what), first[what], 0);
            due("of round 1", x, x.told(1, NONE, what), second[what], 0);
        }
        Check.due("holds untold", x.told(0, 2, 0), 10);
        Check.due("zones untold", x.told(0, 2, 1) + x.told(0, 2, 2) + x.told(0, 2, 3), 0);
        x.begin(0, 2, 0);
        x.fall(0, 1, true);
        x.begin(1, 2, 1);
        Check.due("tries begun on it, the broken one too", x.told(0, 2, 4), 2);
        Check.due("none on another", x.told(0, 1, 4), 0);
        refused("no such round", x, x.told(2, NONE, 0), 1);
        refused("round -1", x, x.told(-1, NONE, 0), 1);
        refused("no such route", x, x.told(0, 3, 9), 1);
        refused("route -2", x, x.told(0, -2, 0), 1);
        refused("what -1 of a round", x, x.told(0, NONE, -1), 2);
        refused("what 5 of a round", x, x.told(0, NONE, 5), 2);
        refused("what -1 of a route", x, x.told(0, 0, -1), 2);
        refused("what 5 of a route", x, x.told(0, 0, 5), 2);
        x.fall(1, 2, false);
        x.advance(1, 0);
        Check.due("climbers that came", x.told(1, NONE, 4), 3);
    }

    private static void promise9() {
        RouteWall x = Texts.wall("round 2 2 20 5;round 1 1 10 9;", 3);
        refused("no such climber", x, x.begin(3, 0, 0), 1);
        refused("climber -1", x, x.begin(-1, 0, 0), 1);
        refused("no such route", x, x.begin(0, 2, 0), 1);
        refused("route -1", x, x.begin(0, -1, 0), 1);
        refused("second -1", x, x.begin(0, 0, -1), 2);
        refused("second 1000001", x, x.begin(0, 0, 1000001), 2);
        due("a try", x, x.begin(0, 0, 10), 0, 0);
        due("a route may have many", x, x.begin(1, 0, 10), 1, 0);
        refused("a second that is gone", x, x.begin(2, 0, 9), 9);
        refused("one at a time", x, x.begin(0, 1, 12), 5);
        Check.due("the seconds went on with it", x.now(), 12);
        x.fall(0, 13, false);
        refused("her rest", x, x.begin(0, 1, 17), 8);
        due("it is over", x, x.begin(0, 1, 18), 2, 0);
        x.fall(0, 18, true);
        refused("a broken try's rest", x, x.begin(0, 1, 22), 8);
        due("and its try again", x, x.begin(0, 1, 23), 3, 0);
        x.fall(0, 24, false);
        due("the second one", x, x.begin(0, 1, 29), 4, 0);
        x.fall(0, 29, false);
        refused("no tries left", x, x.begin(0, 1, 40), 6);
        due("but on the other", x, x.begin(0, 0, 40), 5, 0);
        x.reach(0, 10, 41);
        x.clock(60);
        x.out(2, 60, true);
        x.begin(1, 0, 60);
        x.fall(1, 61, false);
        x.out(2, 61, false);
        refused("she has seen it", x, x.begin(2, 0, 70), 7);
        due("not the other", x, x.begin(2, 1, 70), 7, 0);
        x.reach(2, 10, 70);
        refused("she has topped it", x, x.begin(2, 1, 80), 6);
        x.advance(1, 0);
        refused("she did not come to the open round", x, x.begin(1, 0, 80), 4);
        refused("a route that only the round ahead has", x, x.begin(0, 1, 80), 1);
        due("no rest from the round ahead", x, x.begin(2, 0, 80), 8, 0);
        due("as the other one did", x, x.begin(0, 0, 80), 9, 0);
        refused("the last second", x, x.begin(1, 0, 1000000), 4);
        Check.due("is one", x.now(), 1000000);
    }

    /** begin() has no DAY, so TOPPED is what was told, whatever appeals say of any day. */
    private static void promise9Appealed() {
        RouteWall x = Texts.wall("round 2 2 10 0;", 1);
        climb(x, 0, 0, 10, 1);
        climb(x, 0, 1, 9, 1);
        x.appeal(0, 3, 0);
        x.appeal(1, 10, 0);
        Check.due("no top as known on day 0", x.of(0, 0, 0, 0, 0), 0);
        refused("but she has topped it", x, x.begin(0, 0, x.now()), 6);
        Check.due("a top as known on day 0", x.of(0, 1, 0, 0, 0), 1);
        due("but she has not topped it", x, x.begin(0, 1, x.now()), 2, 0);
    }

    /** 1, 2, 9, 4, 5, 6, 3, 7, 8: each is asked ahead of those behind it. */
    private static void promise9Order() {
        RouteWall x = Texts.wall("round 5 9 10 0;round 1 1 10 0;", 16);
        x.clock(5);
        refused("1 ahead of 2", x, x.begin(16, 0, -1), 1);
        refused("2 ahead of 9", x, x.begin(0, 0, -1), 2);
        int begun = 0;
        for (int i = 0; i < 300; i++) {
            int climber = i % 16;
            begun += x.begin(climber, i / 16 % 5, 5 + i * 10) == i ? 1 : 0;
        }
        Check.due("300 tries", begun, 300);
        x.clock(4000);
        refused("300 in all", x, x.begin(15, 4, 4000), 3);
        refused("no 300th number", x, x.tried(300, 0), 1);
        due("results of 300 tries", x, x.of(0, 4, 0, 0, 3), 1, 0);
        due("a rank among them", x, x.rank(0, 0, 0), 1, 0);
        Check.due("the last one", x.tried(299, 3), 2995);
        x.out(15, 4000, true);
        refused("3 ahead of 7", x, x.begin(15, 4, 4000), 3);

        x = Texts.wall("round 1 1 10 50;round 1 1 10 50;", 3);
        x.begin(0, 0, 0);
        x.out(0, 0, true);
        x.begin(1, 0, 1);
        refused("9 ahead of 5", x, x.begin(0, 0, 0), 9);
        refused("5 ahead of 6", x, x.begin(0, 0, 2), 5);
        x.fall(0, 2, false);
        refused("6 ahead of 7 and 8", x, x.begin(0, 0, 2), 6);
        x.fall(1, 3, false);
        x = Texts.wall("round 1 2 10 50;round 1 1 10 50;", 3);
        x.begin(0, 0, 0);
        x.out(0, 0, true);
        x.begin(1, 0, 1);
        x.reach(1, 10, 1);
        x.fall(0, 2, false);
        refused("7 ahead of 8", x, x.begin(0, 0, 2), 7);
        x.advance(1, 0);
        refused("9 ahead of 4", x, x.begin(0, 0, 1), 9);
        x.begin(1, 0, 5);
        refused("4 ahead of the rest", x, x.begin(0, 0, 6), 4);
    }

    private static void promise10() {
        RouteWall x = Texts.wall("round 1 3 20 0;", 2);
        x.route(0, 0, 6, 0, 0, 0);
        refused("no such climber", x, x.reach(2, 0, -1), 1);
        refused("hold 0", x, x.reach(0, 0, 0), 2);
        refused("hold 61", x, x.reach(0, 61, 0), 2);
        refused("second -1", x, x.reach(0, 1, -1), 2);
        refused("second 1000001", x, x.reach(0, 1, 1000001), 2);
        refused("she has no open try", x, x.reach(0, 1, 3), 5);
        Check.due("the seconds went on", x.now(), 3);
        x.begin(0, 0, 3);
        refused("2 ahead of 9", x, x.reach(0, 61, 2), 2);
        refused("a second that is gone", x, x.reach(0, 1, 2), 9);
        due("hold 2", x, x.reach(0, 2, 4), 0, 0);
        due("hold 3 at the same second", x, x.reach(0, 3, 4), 0, 0);
        refused("hold 3 again", x, x.reach(0, 3, 5), 10);
        refused("a hold below", x, x.reach(0, 1, 5), 10);
        refused("above the last", x, x.reach(0, 7, 6), 10);
        Check.due("the seconds went on with it", x.now(), 6);
        Check.due("nothing else", x.tried(0, 5), 3);
        due("the last one", x, x.reach(0, 6, 8), 1, 0);
        Check.due("it has ended", x.tried(0, 4), 8);
        Check.due("by topping", x.tried(0, 6), 1);
        refused("so she has none", x, x.reach(0, 6, 8), 5);
        RouteWall high = Texts.wall("round 1 3 20 0;", 1);
        high.route(0, 0, 60, 0, 0, 0);
        high.begin(0, 0, 0);
        due("hold 59 of 60", high, high.reach(0, 59, 0), 0, 0);
        due("hold 60", high, high.reach(0, 60, 0), 1, 0);
        x.begin(1, 0, 10);
        due("a second ahead of the end", x, x.reach(1, 1, 29), 0, 0);
        refused("her seconds are over", x, x.reach(1, 2, 30), 5);
        Check.due("as it came", x.tried(1, 5), 1);
        Check.due("over", x.tried(1, 6), 3);
    }

    private static void promise11() {
        RouteWall x = Texts.wall("round 1 2 10 0;", 2);
        refused("no such climber", x, x.fall(2, -1, false), 1);
        refused("climber -1", x, x.fall(-1, 0, true), 1);
        refused("second -1", x, x.fall(0, -1, false), 2);
        refused("second 1000001", x, x.fall(0, 1000001, false), 2);
        refused("she has no open try", x, x.fall(0, 5, false), 5);
        Check.due("the seconds went on", x.now(), 5);
        refused("a second that is gone", x, x.fall(0, 4, false), 9);
        x.begin(0, 0, 5);
        x.reach(0, 4, 6);
        due("she falls", x, x.fall(0, 7, false), true, 0);
        Check.due("fell", x.tried(0, 6), 2);
        Check.due("at", x.tried(0, 4), 7);
        x.begin(0, 0, 7);
        x.reach(0, 9, 8);
        due("a hold breaks", x, x.fall(0, 8, true), true, 0);
        Check.due("broken", x.tried(1, 6), 4);
        Check.due("its hold as told", x.tried(1, 5), 9);
        Check.due("it counts nowhere", x.of(0, 0, 0, 0, 2), 4);
        x.begin(0, 0, 8);
        x.reach(0, 5, 8);
        Check.due("nor as a try", x.of(0, 0, 0, 0, 3), 2);
        refused("over at that second", x, x.fall(0, 18, false), 5);
        Check.due("over", x.tried(2, 6), 3);
        Check.due("it has ended there", x.tried(2, 4), 18);
    }

    private static void promise12() {
        RouteWall x = Texts.wall("round 1 1 10 0;round 1 1 10 0;", 2);
        refused("no such climber", x, x.out(2, -1, true), 1);
        refused("second -1", x, x.out(0, -1, true), 2);
        refused("second 1000001", x, x.out(0, 1000001, true), 2);
        refused("she is in", x, x.out(0, 3, false), 10);
        Check.due("the seconds went on", x.now(), 3);
        refused("a second that is gone", x, x.out(0, 2, false), 9);
        due("out", x, x.out(0, 3, true), true, 0);
        refused("she is out", x, x.out(0, 4, true), 10);
        due("in", x, x.out(0, 4, false), true, 0);
        for (int i = 1; i < 20; i++) {
            due("out " + i, x, x.out(0, 4 + i, true), true, 0);
            if (i == 19) {
                refused("10 ahead of 3", x, x.out(0, 30, true), 10);
            }
            due("in " + i, x, x.out(0, i < 19 ? 4 + i : 30, false), true, 0);
        }
        refused("a 21st time", x, x.out(0, 31, true), 3);
        Check.due("the seconds went on with it", x.now(), 31);
        due("each has her own", x, x.out(1, 31, true), true, 0);
        x.advance(2, 0);
        refused("with a new round all are in", x, x.out(1, 31, false), 10);
        due("and may go again", x, x.out(0, 31, true), true, 0);
    }

    private static void promise13() {
        RouteWall x = new RouteWall();
        due("second 0", x, x.clock(0), true, 0);
        due("second 5", x, x.clock(5), true, 0);
        due("again", x, x.clock(5), true, 0);
        refused("gone", x, x.clock(4), 9);
        refused("-1", x, x.clock(-1), 2);
        refused("1000001", x, x.clock(1000001), 2);
        due("1000000", x, x.clock(1000000), true, 0);
        x = Texts.wall("round 1 1 15 0;", 1);
        x.begin(0, 0, 2);
        x.clock(16);
        Check.due("a try is open", x.tried(0, 6), 0);
        Check.due("without an end", x.tried(0, 4), NONE);
        x.clock(40);
        Check.due("over", x.tried(0, 6), 3);
        Check.due("it has ended that many behind its beginning", x.tried(0, 4), 17);
    }

    private static void promise14() {
        RouteWall x = Texts.wall("round 1 1 10 0;", 1);
        due("at first", x, x.now(), 0, 0);
        x.clock(7);
        due("as told", x, x.now(), 7, 0);
        x.clock(6);
        x.clock(-3);
        x.begin(4, 0, 9);
        x.begin(0, 4, 9);
        due("not by calls with STATUS 1, 2, 9", x, x.now(), 7, 0);
        x.fall(0, 9, false);
        due("but by others", x, x.now(), 9, 0);
    }

    private static void promise15() {
        RouteWall x = Texts.wall("round 2 2 10 0;round 2 2 10 0;", 2);
        x.begin(1, 1, 3);
        int[] open = {1, 0, 1, 3, NONE, 0, 0};
        for (int what = 0; what < 7; what++) {
            due("an open try's " + what, x, x.tried(0, what), open[what], 0);
        }
        x.reach(1, 4, 5);
        x.fall(1, 6, false);
        x.appeal(0, 7, 0);
        int[] fell = {1, 0, 1, 3, 6, 4, 2};
        for (int what = 0; what < 7; what++) {
            due("a try's " + what, x, x.tried(0, what), fell[what], 0);
        }
        refused("what -1", x, x.tried(0, -1), 2);
        refused("what 7", x, x.tried(0, 7), 2);
        refused("no such try", x, x.tried(1, 7), 1);
        refused("try -1", x, x.tried(-1, 0), 1);
        x.advance(2, 0);
        x.begin(1, 0, 6);
        Check.due("round 1", x.tried(1, 1), 1);
    }

    private static void promise16() {
        RouteWall x = Texts.wall("round 2 5 10 0;round 1 1 10 0;", 4);
        refused("no such climber", x, x.seen(4, 0), 1);
        refused("no such route", x, x.seen(0, 2), 1);
        refused("route -1", x, x.seen(0, -1), 1);
        x.out(1, 0, true);
        x.out(1, 4, false);
        x.begin(0, 0, 4);
        due("beginnings and her coming in are counted", x, x.seen(1, 0), 1, 0);
        due("not of another route", x, x.seen(1, 1), 0, 0);
        due("not by one that is in", x, x.seen(2, 0), 0, 0);
        x.out(0, 5, true);
        Check.due("her own try shows her nothing", x.seen(0, 0), 0);
        x.fall(0, 6, false);
        x.out(2, 6, true);
        Check.due("ends and her going out are counted", x.seen(2, 0), 1);
        x.out(3, 7, true);
        Check.due("not a second later", x.seen(3, 0), 0);
        x.out(3, 8, false);
        x.begin(2, 1, 9);
        Check.due("not a second ahead", x.seen(3, 1), 0);
        x.fall(2, 9, true);
        Check.due("one that is out sees a broken one, too", x.seen(0, 1), 1);
        x.out(0, 9, false);
        x.begin(3, 1, 10);
        x.out(0, 21, true);
        Check.due("it was over at 20", x.tried(2, 4), 20);
        x.begin(3, 0, 30);
        x.out(1, 40, true);
        Check.due("one whose seconds are over ends there", x.tried(3, 4), 40);
        x.advance(4, 0);
        Check.due("with a new round none has seen any", x.seen(0, 0), 0);
        x.begin(1, 0, 40);
        Check.due("and all are in", x.seen(0, 0), 0);
        refused("a route of the round ahead", x, x.seen(0, 1), 1);
        x.out(0, 41, true);
        x.out(0, 41, false);
        Check.due("out for no longer than a second", x.seen(0, 0), 1);

        x = Texts.wall("round 1 5 10 0;", 3);
        x.begin(0, 0, 0);
        x.out(1, 10, true);
        x.out(2, 11, true);
        Check.due("at the second at which it was over", x.seen(1, 0), 1);
        Check.due("and behind it", x.seen(2, 0), 0);
    }

    private static void promise17() {
        RouteWall x = Texts.wall("round 1 5 20 7;round 1 5 20 3;", 2);
        refused("no such climber", x, x.ready(2), 1);
        refused("climber -1", x, x.ready(-1), 1);
        x.clock(4);
        due("without a try: now", x, x.ready(0), 4, 0);
        x.begin(0, 0, 4);
        refused("an open try", x, x.ready(0), 5);
        x.fall(0, 6, false);
        due("rest", x, x.ready(0), 13, 0);
        x.clock(13);
        due("over", x, x.ready(0), 13, 0);
        x.clock(14);
        due("later", x, x.ready(0), 14, 0);
        x.begin(0, 0, 14);
        x.fall(0, 15, true);
        due("a broken one's, too", x, x.ready(0), 22, 0);
        x.begin(1, 0, 16);
        x.clock(50);
        due("one that was over rests from its end", x, x.ready(1), 50, 0);
        x.begin(1, 0, 50);
        x.reach(1, 10, 50);
        due("a top's", x, x.ready(1), 57, 0);
        x.begin(0, 0, 50);
        x.fall(0, 50, false);
        due("a fall's", x, x.ready(0), 57, 0);
        due("only the one with the top comes", x, x.advance(1, 0), 1, 0);
        due("none from the round ahead", x, x.ready(1), 50, 0);
        due("nor for one that did not come", x, x.ready(0), 50, 0);
        x.begin(1, 0, 50);
        x.fall(1, 52, false);
        due("this round's rest", x, x.ready(1), 55, 0);
    }

    private static void promise18() {
        RouteWall x = Texts.wall("round 1 9 10 0;", 2);
        x.route(0, 0, 6, 0, 0, 0);
        refused("no such try", x, x.appeal(0, -1, 0), 1);
        x.begin(0, 0, 0);
        refused("an open one", x, x.appeal(0, 3, 0), 10);
        refused("2 ahead of 10", x, x.appeal(0, 7, 0), 2);
        x.reach(0, 3, 1);
        x.fall(0, 1, false);
        refused("hold -1", x, x.appeal(0, -1, 0), 2);
        refused("hold 7 of 6", x, x.appeal(0, 7, 0), 2);
        refused("day -1", x, x.appeal(0, 1, -1), 2);
        refused("day 1000", x, x.appeal(0, 1, 1000), 2);
        due("hold 6", x, x.appeal(0, 6, 999), true, 0);
        due("hold 0", x, x.appeal(0, 0, 0), true, 0);
        Check.due("on day 0", x.of(0, 0, 0, 0, 2), 0);
        Check.due("on day 998", x.of(0, 0, 0, 998, 2), 0);
        Check.due("on day 999", x.of(0, 0, 0, 999, 2), 6);
        x.appeal(0, 4, 5);
        x.appeal(0, 2, 3);
        Check.due("ahead of both", x.of(0, 0, 0, 2, 2), 0);
        Check.due("of day 3", x.of(0, 0, 0, 4, 2), 2);
        Check.due("the latest day, not the latest call", x.of(0, 0, 0, 5, 2), 4);
        x.appeal(0, 5, 3);
        Check.due("of one day the later call", x.of(0, 0, 0, 3, 2), 5);
        Check.due("the day behind it stays", x.of(0, 0, 0, 5, 2), 4);
        x.begin(1, 0, 2);
        x.fall(1, 2, true);
        refused("a broken one", x, x.appeal(1, 3, 0), 10);
        for (int i = 5; i < 40; i++) {
            due("appeal " + i, x, x.appeal(0, 1, 900), true, 0);
        }
        refused("10 ahead of 3", x, x.appeal(1, 3, 0), 10);
        refused("a 41st", x, x.appeal(0, 1, 900), 3);
        Check.due("nothing has changed by it", x.of(0, 0, 0, 3, 2), 5);
    }

    private static void facts(String what, RouteWall x, int climber, int day, int... due) {
        for (int i = 0; i < due.length; i++) {
            due(what + ", fact " + i, x, x.of(0, 0, climber, day, i), due[i], 0);
        }
    }

    private static void promise19() {
        RouteWall x = Texts.wall("round 1 9 20 0;round 1 1 10 0;", 2);
        x.route(0, 0, 8, 2, 4, 8);
        facts("without a try", x, 0, 0, 0, 0, 0, 0, 0, 0, 0);
        x.begin(0, 0, 0);
        facts("just begun", x, 0, 0, 0, 0, 0, 1, 0, 0, 0);
        x.reach(0, 4, 3);
        facts("still open", x, 0, 0, 0, 2, 4, 1, 0, 0, 2);
        x.fall(0, 5, false);
        facts("fell", x, 0, 0, 0, 2, 4, 1, 5, 0, 2);
        climb(x, 0, 0, 3, 2);
        facts("a lesser one does not count", x, 0, 0, 0, 2, 4, 1, 5, 0, 2);
        climb(x, 0, 0, 4, 1);
        facts("nor a like one that came later", x, 0, 0, 0, 2, 4, 1, 5, 0, 2);
        x.begin(0, 0, 10);
        x.reach(0, 7, 10);
        x.fall(0, 10, true);
        climb(x, 0, 0, 8, 9);
        facts("topped at her fourth that counts", x, 0, 0, 1, 3, 8, 4, 9, 0, 103);
        x.appeal(0, 8, 4);
        facts("unknown on day 3", x, 0, 3, 1, 3, 8, 4, 9, 0, 103);
        facts("a flash on day 4", x, 0, 4, 1, 3, 8, 1, 5, 1, 103);
        x.appeal(4, 0, 6);
        x.appeal(0, 1, 6);
        facts("taken away on day 6", x, 0, 6, 0, 2, 4, 3, 1, 0, 2);
        facts("others have their own", x, 1, 6, 0, 0, 0, 0, 0, 0, 0);
        refused("no such round", x, x.of(2, 0, 0, 0, 0), 1);
        refused("no such route", x, x.of(0, 1, 0, 0, 9), 1);
        refused("no such climber", x, x.of(0, 0, 2, -1, 0), 1);
        refused("day -1", x, x.of(0, 0, 0, -1, 0), 2);
        refused("day 1000", x, x.of(0, 0, 0, 1000, 0), 2);
        refused("what -1", x, x.of(0, 0, 0, 0, -1), 2);
        refused("what 7", x, x.of(0, 0, 0, 0, 7), 2);
        due("one not in that round has nothing there", x, x.of(1, 0, 1, 0, 6), 0, 0);
    }

    private static void worthOfHerBest(String expression, int due) {
        RouteWall x = Texts.wall("round 1 9 20 0;points " + expression + ";", 1);
        x.route(0, 0, 8, 2, 4, 6);
        climb(x, 0, 0, 1, 1);
        climb(x, 0, 0, 7, 13);
        due(expression, x, x.of(0, 0, 0, 0, 6), due, 0);
    }

    /** Worked out for: top 0, zone 3, hold 7, tries 2, seconds 13, flash 0. */
    private static void promise19Expressions() {
        worthOfHerBest("100*top+zone", 3);
        worthOfHerBest("hold-tries-seconds", -8);
        worthOfHerBest("hold-(tries-seconds)", 18);
        worthOfHerBest("1+hold*tries-3*zone", 6);
        worthOfHerBest("(1+hold)*(tries-zone)", -8);
        worthOfHerBest("-hold*tries", -14);
        worthOfHerBest("2*-hold+1", -13);
        worthOfHerBest("--hold", 7);
        worthOfHerBest("-(hold+-tries)-1", -6);
        worthOfHerBest("-(-(-(-(zone*2))))", 6);
        worthOfHerBest("flash+top", 0);
        worthOfHerBest("999999*999999", 1000000000);
        worthOfHerBest("-999999*999999", -1000000000);
        worthOfHerBest("999999*999999-1", 999999999);
        worthOfHerBest("999999*1000+999999+999999", 1000000000);
        worthOfHerBest("999999*1000+999999+999999-999999", 999000001);
        worthOfHerBest("0-999999*1000-999999-999999+1", -999999999);
        worthOfHerBest("999999*999999*0", 0);
        worthOfHerBest("999999*999999*999999*999999*(0-1)", -1000000000);
        worthOfHerBest("000007", 7);
        worthOfHerBest("1+1+1+1+1+1+1+1+1+1+1+1+1+1+1+1+1+1+1-tries", 17);
        worthOfHerBest("((((((((hold))))))))", 7);
        worthOfHerBest("1*2*3*4*5*6*7*8*9*10*11*12*13", 1000000000);
        worthOfHerBest("1+2*3-4*5+6*7-8", 21);
        worthOfHerBest("zone-(hold-(seconds-(tries-1)))", 8);
    }

    private static RouteWall threeRoutes(String laws) {
        RouteWall x = Texts.wall("round 3 9 20 0; round 1 9 20 0;" + laws, 4);
        x.route(0, 0, 5, 1, 2, 3);
        x.route(0, 1, 5, 4, 0, 0);
        return x;
    }

    private static void promise20() {
        RouteWall x = threeRoutes("points hold*10-tries; keys down sum, up most, down tops, up zones;");
        climb(x, 0, 0, 2, 1);
        climb(x, 0, 1, 5, 1);
        due("sum", x, x.key(0, 0, 0, 0), 68, 0);
        due("most", x, x.key(0, 0, 0, 1), 49, 0);
        due("tops", x, x.key(0, 0, 0, 2), 1, 0);
        due("zones", x, x.key(0, 0, 0, 3), 3, 0);
        refused("no such key", x, x.key(0, 0, 0, 4), 1);
        refused("key -1", x, x.key(0, 0, 0, -1), 1);
        refused("no such round", x, x.key(2, 0, 0, 0), 1);
        refused("no such climber", x, x.key(0, 4, -1, 0), 1);
        refused("not in it", x, x.key(1, 0, 0, 0), 1);
        refused("day -1", x, x.key(0, 0, -1, 0), 2);
        refused("day 1000", x, x.key(0, 0, 1000, 0), 2);
        x.appeal(0, 5, 7);
        x.clock(-1);
        due("sum on day 7", x, x.key(0, 0, 7, 0), 98, 0);
        due("tops on day 7", x, x.key(0, 0, 7, 2), 2, 0);
        due("zones of each route alone", x, x.key(0, 0, 7, 3), 4, 0);
        x = threeRoutes("points 0-999999*999999;keys up most,down sum;");
        due("a sum is not bounded", x, x.key(0, 3, 0, 1), -3000000000L, 0);
        due("most of negative ones", x, x.key(0, 3, 0, 0), -1000000000L, 0);
        x = threeRoutes("");
        due("untold: sum", x, x.key(0, 0, 0, 0), 0, 0);
        refused("untold: one key", x, x.key(0, 0, 0, 1), 1);
    }

    private static void ranks(String what, RouteWall x, int round, int day, int... due) {
        for (int climber = 0; climber < due.length; climber++) {
            due(what + ", rank of " + climber, x, x.rank(round, climber, day), due[climber], 0);
        }
    }

    private static void promise21() {
        RouteWall x = threeRoutes("points hold;keys up tops, down sum;");
        ranks("at first all are like", x, 0, 0, 1, 1, 1, 1);
        climb(x, 0, 0, 4, 1);
        climb(x, 1, 0, 5, 1);
        climb(x, 2, 0, 4, 1);
        ranks("up tops, then down sum", x, 0, 0, 1, 4, 1, 3);
        x.appeal(1, 0, 2);
        x.appeal(2, 1, 2);
        ranks("as known on day 1", x, 0, 1, 1, 4, 1, 3);
        ranks("as known on day 2", x, 0, 2, 1, 3, 2, 3);
        refused("no such round", x, x.rank(2, 0, 0), 1);
        refused("no such climber", x, x.rank(0, 4, -1), 1);
        refused("not in it", x, x.rank(1, 0, 0), 1);
        refused("day -1", x, x.rank(0, 0, -1), 2);
        refused("day 1000", x, x.rank(0, 0, 1000), 2);
        x = threeRoutes("points hold;");
        backRounds(x);
        ranks("ties are shared", x, 1, 0, 1, 1, 1);
        x = threeRoutes("points hold;ties shared;");
        backRounds(x);
        ranks("ties are shared by a law", x, 1, 0, 1, 1, 1);
        x = threeRoutes("points hold;ties back;");
        backRounds(x);
        ranks("ties go back", x, 1, 0, 3, 2, 1);
        refused("the last did not come", x, x.rank(1, 3, 0), 1);
        ranks("the round ahead keeps its ranks", x, 0, 0, 3, 2, 1, 4);
        x.appeal(0, 5, 4);
        x.appeal(1, 5, 4);
        ranks("ties go back to what is known on that day", x, 1, 4, 1, 1, 3);
        climb(x, 1, 0, 1, 1);
        ranks("only if none differs", x, 1, 4, 2, 1, 3);
        x = Texts.wall("round 1 1 10 0;keys up tops,up zones,up zones,up most;points hold*0+1;", 3);
        climb(x, 2, 0, 10, 1);
        ranks("four keys, each of her own", x, 0, 0, 1, 1, 3);
        x = Texts.wall("round 1 1 10 0;round 1 1 10 0;round 1 1 10 0;ties back;points hold;", 3);
        climb(x, 2, 0, 3, 1);
        climb(x, 1, 0, 2, 1);
        x.advance(3, 0);
        Check.due("nobody comes two rounds on", x.told(2, NONE, 4), 0);
        x.advance(3, 0);
        ranks("two rounds back", x, 2, 0, 3, 2, 1);
    }

    /** Climber 2 ahead of 1, 1 of 0, 0 of 3 in round 0; three come to round 1. */
    private static void backRounds(RouteWall x) {
        climb(x, 0, 0, 2, 1);
        climb(x, 1, 0, 3, 1);
        climb(x, 2, 0, 4, 1);
        x.advance(3, 0);
    }

    private static void promise22() {
        RouteWall x = new RouteWall();
        refused("no round", x, x.advance(1, 0), 10);
        x = Texts.wall("round 1 3 10 0;round 1 3 10 0;points hold;", 0);
        refused("no climber", x, x.advance(1, 0), 10);
        for (int i = 0; i < 4; i++) {
            x.climber();
        }
        refused("most 0", x, x.advance(0, 0), 2);
        refused("most 17", x, x.advance(17, 0), 2);
        refused("day -1", x, x.advance(1, -1), 2);
        refused("day 1000", x, x.advance(1, 1000), 2);
        x.begin(0, 0, 0);
        refused("an open try", x, x.advance(1, 0), 5);
        refused("2 ahead of 5", x, x.advance(0, 0), 2);
        x.reach(0, 5, 1);
        x.fall(0, 1, false);
        climb(x, 1, 0, 3, 1);
        climb(x, 2, 0, 3, 1);
        x.appeal(1, 9, 5);
        Check.due("none came yet", x.told(1, NONE, 4), 0);
        due("like ones come together", x, x.advance(2, 4), 3, 0);
        Check.due("three are in it", x.told(1, NONE, 4), 3);
        Check.due("four in round 0", x.told(0, NONE, 4), 4);
        Check.due("the last is not", x.rank(1, 3, 0), NONE);
        refused("there is no next one", x, x.advance(1, 0), 10);
        x.begin(1, 0, 50);
        Check.due("the new one is open", x.tried(3, 1), 1);
        refused("5 ahead of 10", x, x.advance(1, 0), 5);
        x = Texts.wall("round 1 3 10 0;round 1 3 10 0;points hold;", 16);
        due("all of 16", x, x.advance(16, 999), 16, 0);
        x = Texts.wall("round 1 3 10 0;round 1 3 10 0;points hold;", 3);
        climb(x, 0, 0, 5, 1);
        climb(x, 1, 0, 3, 1);
        x.appeal(1, 9, 5);
        due("as known on that day", x, x.advance(1, 5), 1, 0);
        due("it was the other", x, x.rank(1, 1, 0), 1, 0);
    }

    private static void order(RouteWall x, int round, int... due) {
        for (int k = 0; k < due.length; k++) {
            due("order(" + round + ", " + k + ")", x, x.order(round, k), due[k], 0);
        }
        refused("behind the last", x, x.order(round, due.length), 1);
        refused("k -1", x, x.order(round, -1), 1);
    }

    private static void promise23() {
        RouteWall x = Texts.wall("round 1 3 10 0;round 1 3 10 0;points hold;", 0);
        order(x, 0);
        for (int i = 0; i < 5; i++) {
            x.climber();
        }
        order(x, 0, 0, 1, 2, 3, 4);
        order(x, 1);
        refused("no such round", x, x.order(2, 0), 1);
        refused("round -1", x, x.order(-1, 0), 1);
        climb(x, 0, 0, 3, 1);
        climb(x, 1, 0, 7, 1);
        climb(x, 2, 0, 3, 1);
        climb(x, 4, 0, 5, 1);
        x.appeal(1, 4, 3);
        x.advance(4, 2);
        order(x, 1, 2, 0, 4, 1);
        order(x, 0, 0, 1, 2, 3, 4);
        x.appeal(3, 9, 3);
        order(x, 1, 2, 0, 4, 1);
        climb(x, 2, 0, 9, 1);
        order(x, 1, 2, 0, 4, 1);
        x.appeal(3, 9, 1);
        order(x, 1, 2, 0, 1, 4);
    }

    private static RouteWall parting() {
        RouteWall x = threeRoutes("points hold;");
        climb(x, 0, 0, 2, 1);
        climb(x, 1, 0, 2, 1);
        climb(x, 2, 1, 2, 1);
        climb(x, 3, 2, 1, 1);
        return x;
    }

    private static void promise24() {
        RouteWall x = parting();
        int[] due = {0, 4, 3, 3, 3, 5, 5, 3};
        for (int set = 0; set < 8; set++) {
            due("set " + set, x, x.parts(0, set, 0), due[set], 0);
        }
        x.appeal(0, 0, 3);
        due("on day 2", x, x.parts(0, 1, 2), 4, 0);
        due("on day 3", x, x.parts(0, 1, 3), 3, 0);
        due("a round without climbers", x, x.parts(1, 1, 0), 0, 0);
        refused("set 8 of 3 routes", x, x.parts(0, 8, 0), 2);
        refused("set 2 of 1 route", x, x.parts(1, 2, 0), 2);
        refused("set -1", x, x.parts(0, -1, 0), 2);
        refused("day -1", x, x.parts(0, 1, -1), 2);
        refused("day 1000", x, x.parts(0, 1, 1000), 2);
        refused("no such round", x, x.parts(2, 1, -1), 1);
        refused("round -1", x, x.parts(-1, 1, 0), 1);
        x.advance(1, 0);
        climb(x, 0, 0, 1, 1);
        due("only climbers in it make pairs", x, x.parts(1, 1, 0), x.told(1, NONE, 4) - 1, 0);
        due("round 0 has all", x, x.parts(0, 1, 0), 4, 0);
        x = Texts.wall("round 5 1 10 0;points hold;", 16);
        climb(x, 15, 4, 3, 1);
        due("16 climbers, all routes", x, x.parts(0, 31, 0), 15, 0);
        due("the last route", x, x.parts(0, 16, 0), 15, 0);
        due("the others", x, x.parts(0, 15, 0), 0, 0);
        due("her rank", x, x.rank(0, 15, 0), 1, 0);
    }

    private static void promise25() {
        RouteWall x = parting();
        due("one", x, x.choose(0, 1, 0), 1, 0);
        due("two: of several the least", x, x.choose(0, 2, 0), 5, 0);
        due("all", x, x.choose(0, 3, 0), 7, 0);
        x.appeal(1, 0, 3);
        x.appeal(0, 0, 3);
        due("one on day 2", x, x.choose(0, 1, 2), 1, 0);
        due("one on day 3", x, x.choose(0, 1, 3), 2, 0);
        due("two on day 3", x, x.choose(0, 2, 3), 6, 0);
        due("without climbers the least", x, x.choose(1, 1, 0), 1, 0);
        x.advance(4, 0);
        x.choose(0, 1, 0);
        due("routes of another round count nothing", x, x.choose(1, 1, 0), 1, 0);
        refused("none", x, x.choose(0, 0, 0), 2);
        refused("-1", x, x.choose(0, -1, 0), 2);
        refused("more than there are", x, x.choose(0, 4, 0), 2);
        refused("day -1", x, x.choose(0, 1, -1), 2);
        refused("day 1000", x, x.choose(0, 1, 1000), 2);
        refused("no such round", x, x.choose(2, 0, 0), 1);
        refused("round -1", x, x.choose(-1, 1, 0), 1);
    }
}
