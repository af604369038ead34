import java.util.Random;

/** Runs of calls with fixed seeds on the class and on the Model; every answer and STATUS must be the same. */
public final class ModelTest {
    private final Random dice;
    private final RouteWall x = new RouteWall();
    private final Model m = new Model();
    private final String run;

    private ModelTest(long seed) {
        dice = new Random(seed);
        run = "seed " + seed + ": ";
    }

    public static void main(String[] args) {
        int runs = args.length > 0 ? Integer.parseInt(args[0]) : 1500;
        for (int seed = 0; seed < runs; seed++) {
            ModelTest test = new ModelTest(seed);
            if (seed % 3 == 0) {
                test.texts();
            } else if (seed % 25 == 1) {
                test.fullContest();
            } else {
                test.contest();
            }
        }
        Check.finish();
    }

    private boolean oneIn(int many) {
        return dice.nextInt(many) == 0;
    }

    private int from(int least, int greatest) {
        return least + dice.nextInt(greatest - least + 1);
    }

    private String pick(String... some) {
        return some[dice.nextInt(some.length)];
    }

    private void same(String call, long got, long want) {
        Check.due(run + call, got, want);
        Check.due(run + call + " status()", x.status(), m.status);
    }

    private static int asInt(boolean b) {
        return b ? 1 : 0;
    }

    // ---- texts

    private String expression(int depth) {
        StringBuilder text = new StringBuilder(factor(depth));
        int more = oneIn(8) ? from(0, 20) : from(0, 3);
        for (int i = 0; i < more; i++) {
            text.append(pick("+", " - ", "*", " * ", "-")).append(factor(depth));
        }
        return text.toString();
    }

    private String factor(int depth) {
        if (depth > 0 && oneIn(4)) {
            return "(" + expression(depth - 1) + ")";
        }
        if (depth > 0 && oneIn(4)) {
            return "-" + factor(depth - 1);
        }
        if (oneIn(3)) {
            return pick("0", "1", "7", "100", "999999", "000012");
        }
        return pick("top", "zone", "hold", "tries", "seconds", "flash");
    }

    private String law() {
        switch (dice.nextInt(8)) {
            case 0:
                return "points " + expression(oneIn(4) ? 9 : 2) + ";";
            case 1:
                StringBuilder keys = new StringBuilder("keys ");
                int many = from(1, oneIn(5) ? 5 : 4);
                for (int i = 0; i < many; i++) {
                    keys.append(i > 0 ? pick(",", " , ") : "").append(pick("up ", "down "))
                        .append(pick("sum", "most", "tops", "zones"));
                }
                return keys + ";";
            case 2:
                return "ties " + pick("back", "shared") + ";";
            default:
                return "round " + from(1, 5) + " " + from(1, 4) + " " + from(10, 40) + " " + from(0, 12) + ";";
        }
    }

    private String text() {
        StringBuilder text = new StringBuilder();
        int laws = from(0, 7);
        for (int i = 0; i < laws; i++) {
            text.append(law()).append(pick("", " ", "\n", "  \n"));
        }
        return text.length() > 700 ? text.substring(0, 700) : text.toString();
    }

    private String spoiled(String text) {
        StringBuilder spoiled = new StringBuilder(text);
        for (int i = from(0, 3); i > 0 && spoiled.length() > 0; i--) {
            int at = dice.nextInt(spoiled.length());
            switch (dice.nextInt(5)) {
                case 0:
                    spoiled.deleteCharAt(at);
                    break;
                case 1:
                    spoiled.insert(at, pick("(", ")", "-", ",", ";", "+", "x", "9", "?", "\t", " ", "\u00e9"));
                    break;
                case 2:
                    spoiled.insert(at, pick("round ", "points ", "up ", "sum ", "1234567", "keys ", "ties ", "\n"));
                    break;
                case 3:
                    spoiled.setLength(at);
                    break;
                default:
                    spoiled.setCharAt(at, (char) dice.nextInt(256));
                    break;
            }
        }
        return spoiled.length() > 700 ? spoiled.substring(0, 700) : spoiled.toString();
    }

    private void feed(String text) {
        for (int i = 0; i < text.length(); i += 20) {
            int[] five = new int[5];
            for (int k = 0; k < 5; k++) {
                five[k] = Texts.four(text, i + 4 * k);
            }
            Check.due(run + "feed", x.feed(five[0], five[1], five[2], five[3], five[4]), m.feed(five));
        }
    }

    private void load(String text) {
        feed(text);
        int n = oneIn(20) ? from(-1, 720) : text.length();
        same("load(" + n + ") of " + text, x.load(n), m.load(n));
        for (int what = -1; what <= 2; what++) {
            Check.due(run + "fault(" + what + ") of " + text, x.fault(what), m.fault(what));
        }
    }

    private void texts() {
        for (int i = 0; i < 60; i++) {
            load(oneIn(3) ? text() : spoiled(text()));
            for (int round = 0; round < 4; round++) {
                for (int what = 0; what < 4; what++) {
                    same("told", x.told(round, -1, what), m.told(round, -1, what));
                }
            }
        }
    }

    // ---- contests

    private int climber() {
        return oneIn(30) ? from(-2, 17) : dice.nextInt(Math.max(1, m.climbers));
    }

    private int round() {
        return oneIn(30) ? from(-2, 5) : dice.nextInt(Math.max(1, m.rounds.size()));
    }

    private int route() {
        return oneIn(30) ? from(-2, 6) : dice.nextInt(oneIn(2) ? 5 : 2);
    }

    private int second() {
        if (oneIn(40)) {
            return oneIn(2) ? m.now - from(1, 3) : from(1_000_001, 1_000_003);
        }
        return m.now + (oneIn(3) ? 0 : from(0, oneIn(12) ? 30 : 4));
    }

    private int day() {
        return oneIn(40) ? from(0, 1) * 1001 - 1 : oneIn(10) ? 999 : from(0, 5);
    }

    private int number() {
        return oneIn(30) ? from(-1, 301) : dice.nextInt(Math.max(1, m.tries.size()));
    }

    private String contestText() {
        StringBuilder text = new StringBuilder();
        int rounds = from(1, 4);
        for (int i = 0; i < rounds; i++) {
            text.append("round ").append(from(1, oneIn(3) ? 5 : 2)).append(' ').append(from(1, 3)).append(' ')
                .append(from(10, 25)).append(' ').append(oneIn(2) ? 0 : from(0, 10)).append("; ");
        }
        if (!oneIn(3)) {
            text.append("points ").append(expression(2)).append(";");
        }
        if (!oneIn(3)) {
            text.append("keys ").append(pick("up", "down")).append(pick(" tops", " zones", " most", " sum"));
            text.append(oneIn(2) ? ", down sum;" : ";");
        }
        return text.append(oneIn(3) ? "" : pick("ties back;", "ties shared;")).toString();
    }

    private void contest() {
        load(contestText());
        int many = oneIn(6) ? from(14, 18) : from(1, 6);
        for (int i = 0; i < many; i++) {
            same("climber()", x.climber(), m.climber());
        }
        for (int i = 0; i < 10; i++) {
            tellRoute();
        }
        for (int i = 0; i < 250; i++) {
            if (oneIn(3)) {
                ask();
            } else {
                act();
            }
        }
        if (oneIn(300)) {
            load(contestText());
            same("climber()", x.climber(), m.climber());
        }
        askAll();
    }

    /** Sixteen climbers near the last second, as many tries, appeals and times out as there may be, and more. */
    private void fullContest() {
        load("round 5 " + from(5, 9) + " 10 " + from(0, 1) + ";round 2 9 10 0;keys down sum,up most;ties back;"
            + "points hold*" + pick("1", "7", "999999*999") + "-tries;");
        for (int i = 0; i < 17; i++) {
            same("climber()", x.climber(), m.climber());
        }
        int first = 1_000_000 - from(900, 1300);
        same("clock(" + first + ")", asInt(x.clock(first)), m.clock(first));
        for (int i = 0; i < 330; i++) {
            int climber = i % 16;
            int second = m.now + (oneIn(4) ? 0 : from(1, 6));
            int route = (i / 16 + from(0, oneIn(9) ? 1 : 0)) % 5;
            same("begin(" + climber + ", " + route + ", " + second + ")",
                x.begin(climber, route, second), m.begin(climber, route, second));
            if (oneIn(3)) {
                int hold = from(1, 10);
                same("reach(" + climber + ", " + hold + ", " + second + ")",
                    x.reach(climber, hold, second), m.reach(climber, hold, second));
            }
            if (oneIn(5)) {
                appeal();
            }
            boolean out = i % 2 == 0;
            if (i % 16 < 8) {
                same("out(15, " + m.now + ", " + out + ")", asInt(x.out(15, m.now, out)), m.out(15, m.now, out));
            }
            ask();
        }
        clearAll();
        advance();
        askAll();
    }

    private void tellRoute() {
        int round = round();
        int route = route();
        int holds = oneIn(10) ? from(0, 62) : from(2, 8);
        int one = from(0, 3);
        int two = oneIn(3) ? from(0, 8) : one == 0 ? 0 : one + from(0, 2);
        int three = oneIn(3) ? from(0, 8) : two == 0 ? 0 : two + 1;
        same("route(" + round + ", " + route + ", " + holds + ", " + one + ", " + two + ", " + three + ")",
            asInt(x.route(round, route, holds, one, two, three)), m.route(round, route, holds, one, two, three));
    }

    private void act() {
        int climber = climber();
        int second = second();
        switch (dice.nextInt(16)) {
            case 0:
            case 1:
            case 2:
            case 3:
                int route = route();
                same("begin(" + climber + ", " + route + ", " + second + ")",
                    x.begin(climber, route, second), m.begin(climber, route, second));
                break;
            case 4:
            case 5:
            case 6:
            case 7:
            case 8:
                int hold = oneIn(20) ? from(-1, 62) : from(1, 10);
                same("reach(" + climber + ", " + hold + ", " + second + ")",
                    x.reach(climber, hold, second), m.reach(climber, hold, second));
                break;
            case 9:
                boolean broken = oneIn(3);
                same("fall(" + climber + ", " + second + ", " + broken + ")",
                    asInt(x.fall(climber, second, broken)), m.fall(climber, second, broken));
                break;
            case 10:
            case 11:
                boolean out = oneIn(2);
                same("out(" + climber + ", " + second + ", " + out + ")",
                    asInt(x.out(climber, second, out)), m.out(climber, second, out));
                break;
            case 12:
                same("clock(" + second + ")", asInt(x.clock(second)), m.clock(second));
                break;
            case 13:
                appeal();
                break;
            case 14:
                if (oneIn(4)) {
                    advance();
                } else {
                    appeal();
                }
                break;
            default:
                if (oneIn(4)) {
                    tellRoute();
                } else if (oneIn(4)) {
                    same("climber()", x.climber(), m.climber());
                } else {
                    clearAll();
                }
                break;
        }
    }

    private void appeal() {
        int number = number();
        int hold = from(oneIn(20) ? -1 : 0, 10);
        int day = day();
        same("appeal(" + number + ", " + hold + ", " + day + ")",
            asInt(x.appeal(number, hold, day)), m.appeal(number, hold, day));
    }

    private void advance() {
        int most = from(oneIn(20) ? -1 : 1, oneIn(20) ? 18 : 4);
        int day = day();
        same("advance(" + most + ", " + day + ")", x.advance(most, day), m.advance(most, day));
    }

    /** Ends all tries, so that advance() has a chance. */
    private void clearAll() {
        for (int climber = 0; climber < m.climbers; climber++) {
            if (!oneIn(5)) {
                same("fall", asInt(x.fall(climber, m.now, false)), m.fall(climber, m.now, false));
            }
        }
        if (oneIn(2)) {
            advance();
        }
    }

    private void ask() {
        int climber = climber();
        int round = round();
        int route = route();
        int day = day();
        switch (dice.nextInt(12)) {
            case 0:
                same("now()", x.now(), m.now());
                break;
            case 1:
                int number = number();
                int of = from(-1, 7);
                same("tried(" + number + ", " + of + ")", x.tried(number, of), m.tried(number, of));
                break;
            case 2:
            case 3:
                same("seen(" + climber + ", " + route + ")", x.seen(climber, route), m.seen(climber, route));
                break;
            case 4:
                same("ready(" + climber + ")", x.ready(climber), m.ready(climber));
                break;
            case 5:
                int what = from(-1, 7);
                same("of(" + round + ", " + route + ", " + climber + ", " + day + ", " + what + ")",
                    x.of(round, route, climber, day, what), m.of(round, route, climber, day, what));
                break;
            case 6:
                int k = from(-1, 2);
                same("key(" + round + ", " + climber + ", " + day + ", " + k + ")",
                    x.key(round, climber, day, k), m.key(round, climber, day, k));
                break;
            case 7:
                same("rank(" + round + ", " + climber + ", " + day + ")",
                    x.rank(round, climber, day), m.rank(round, climber, day));
                break;
            case 8:
                int place = from(-1, 5);
                same("order(" + round + ", " + place + ")", x.order(round, place), m.order(round, place));
                break;
            case 9:
                int set = from(-1, 33);
                same("parts(" + round + ", " + set + ", " + day + ")",
                    x.parts(round, set, day), m.parts(round, set, day));
                break;
            case 10:
                int many = from(0, 6);
                same("choose(" + round + ", " + many + ", " + day + ")",
                    x.choose(round, many, day), m.choose(round, many, day));
                break;
            default:
                int told = from(-1, 5);
                same("told(" + round + ", " + route + ", " + told + ")",
                    x.told(round, route, told), m.told(round, route, told));
                break;
        }
    }

    private void askAll() {
        for (int i = 0; i < m.tries.size(); i++) {
            for (int what = 0; what < 7; what++) {
                same("tried(" + i + ", " + what + ")", x.tried(i, what), m.tried(i, what));
            }
        }
        for (int round = 0; round < m.rounds.size(); round++) {
            for (int day = 0; day < 6; day++) {
                for (int climber = 0; climber < m.climbers; climber++) {
                    same("rank", x.rank(round, climber, day), m.rank(round, climber, day));
                    same("key", x.key(round, climber, day, 0), m.key(round, climber, day, 0));
                }
                for (int many = 1; many < 4; many++) {
                    same("choose", x.choose(round, many, day), m.choose(round, many, day));
                }
            }
            for (int k = 0; k < 16; k++) {
                same("order(" + round + ", " + k + ")", x.order(round, k), m.order(round, k));
            }
        }
    }
}
