/** What the tests of single promises and of boundaries have in common; they extend it to use its names plainly. */
abstract class Calls {
    static final int NONE = RouteWall.NONE;
    static final int LEAST = Integer.MIN_VALUE;
    static final int GREATEST = Integer.MAX_VALUE;

    /** What a call answered, and the STATUS behind it. */
    static void due(String what, RouteWall x, long got, long want, int status) {
        Check.due(what, got, want);
        Check.due(what + ": status()", x.status(), status);
    }

    static void due(String what, RouteWall x, boolean got, boolean want, int status) {
        due(what, x, got ? 1 : 0, want ? 1 : 0, status);
    }

    static void refused(String what, RouteWall x, long got, int status) {
        due(what, x, got, NONE, status);
    }

    static void refused(String what, RouteWall x, boolean got, int status) {
        due(what, x, got, false, status);
    }

    /** One try of a climber that begins now, comes to a hold (0: to none), takes so many seconds and ends; its number. */
    static int climb(RouteWall x, int climber, int route, int hold, int seconds) {
        int number = x.begin(climber, route, x.now());
        int end = x.now() + seconds;
        boolean topped = hold > 0 && x.reach(climber, hold, end) == 1;
        if (!topped) {
            x.fall(climber, end, false);
        }
        return number;
    }

    static void fault(String text, int kind, int place) {
        RouteWall x = new RouteWall();
        Texts.load(x, text);
        String shown = text.length() > 90 ? text.substring(0, 90) + ".." : text;
        Check.due("fault(0) of " + shown, x.fault(0), kind);
        Check.due("fault(1) of " + shown, x.fault(1), place);
        Check.due("status of " + shown, x.status(), kind == 0 ? 0 : 10);
    }

    static void right(String text) {
        fault(text, 0, NONE);
    }

    /** POINTS of a climber without a try, for whom every name is 0. */
    static int points(String expression) {
        return Texts.wall("round 1 1 10 0;points " + expression + ";", 1).of(0, 0, 0, 0, 6);
    }

    static void worth(String expression, long due) {
        Check.due("points " + expression, points(expression), due);
    }
}
