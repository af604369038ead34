import java.util.Random;

/** Runs of calls with fixed seeds on the class and on the Model; every answer and STATUS must be the same. */
public final class ModelTest {
    private final Random dice;
    private final Pair pair;
    private final Model m;

    private ModelTest(long seed) {
        dice = new Random(seed);
        pair = new Pair("seed " + seed);
        m = pair.m;
    }

    public static void main(String[] args) {
        int runs = args.length > 0 ? Integer.parseInt(args[0]) : 1500;
        for (int seed = 0; seed < runs; seed++) {
            new ModelTest(seed).run(seed % 25);
        }
        Check.finish();
    }

    private void run(int kind) {
        if (kind < 8) {
            texts();
        } else if (kind < 11) {
            season();
        } else if (kind < 14) {
            alikeInAllRounds();
        } else if (kind == 14) {
            fullContest(335, 12, 12, 40);
        } else if (kind == 15) {
            fullContest(150, 9, 2, 2);
        } else {
            contest();
        }
    }

    private boolean oneIn(int many) {
        return dice.nextInt(many) == 0;
    }

    private int from(int least, int greatest) {
        return least + dice.nextInt(greatest - least + 1);
    }

    private String pick(String... some) {
        return some[dice.nextInt(some.length)];
    }

    private void call(String name, Object... arguments) {
        pair.call(name, arguments);
    }

    // ---- texts

    private String expression(int depth) {
        StringBuilder text = new StringBuilder(factor(depth));
        int more = oneIn(8) ? from(0, 20) : from(0, 3);
        for (int i = 0; i < more; i++) {
            text.append(pick("+", " - ", "*", " * ", "-")).append(factor(depth));
        }
        return text.toString();
    }

    private String factor(int depth) {
        if (depth > 0 && oneIn(4)) {
            return "(" + expression(depth - 1) + ")";
        }
        if (depth > 0 && oneIn(4)) {
            return "-" + factor(depth - 1);
        }
        if (oneIn(3)) {
            return pick("0", "1", "7", "100", "999999", "000012");
        }
        return pick("top", "zone", "hold", "tries", "seconds", "flash");
    }

    private String law() {
        switch (dice.nextInt(8)) {
            case 0:
                return "points " + expression(oneIn(4) ? 9 : 2) + ";";
            case 1:
                StringBuilder keys = new StringBuilder("keys ");
                int many = from(1, oneIn(5) ? 5 : 4);
                for (int i = 0; i < many; i++) {
                    keys.append(i > 0 ? pick(",", " , ") : "").append(pick("up ", "down "))
                        .append(pick("sum", "most", "tops", "zones"));
                }
                return keys + ";";
            case 2:
                return "ties " + pick("back", "shared") + ";";
            default:
                return "round " + from(1, 5) + " " + from(1, 4) + " " + from(10, 40) + " " + from(0, 12) + ";";
        }
    }

    private String text() {
        StringBuilder text = new StringBuilder();
        int laws = from(0, 7);
        for (int i = 0; i < laws; i++) {
            text.append(law()).append(pick("", " ", "\n", "  \n"));
        }
        return text.length() > 700 ? text.substring(0, 700) : text.toString();
    }

    private String spoiled(String text) {
        StringBuilder spoiled = new StringBuilder(text);
        for (int i = from(0, 3); i > 0 && spoiled.length() > 0; i--) {
            int at = dice.nextInt(spoiled.length());
            switch (dice.nextInt(5)) {
                case 0:
                    spoiled.deleteCharAt(at);
                    break;
                case 1:
                    spoiled.insert(at, pick("(", ")", "-", ",", ";", "+", "x", "9", "?", "\t", " ", "\u00e9"));
                    break;
                case 2:
                    spoiled.insert(at, pick("round ", "points ", "up ", "sum ", "1234567", "keys ", "ties ", "\n"));
                    break;
                case 3:
                    spoiled.setLength(at);
                    break;
                default:
                    spoiled.setCharAt(at, (char) dice.nextInt(256));
                    break;
            }
        }
        return spoiled.length() > 700 ? spoiled.substring(0, 700) : spoiled.toString();
    }

    private void feed(String text) {
        for (int i = 0; i < text.length(); i += 20) {
            call("feed", Texts.four(text, i), Texts.four(text, i + 4), Texts.four(text, i + 8),
                Texts.four(text, i + 12), Texts.four(text, i + 16));
        }
    }

    private void load(String text) {
        feed(text);
        int n = oneIn(20) ? from(-1, 720) : text.length();
        call("load", n);
        for (int what = -1; what <= 2; what++) {
            call("fault", what);
        }
    }

    private void texts() {
        for (int i = 0; i < 60 && !pair.isFull(); i++) {
            load(oneIn(3) ? text() : spoiled(text()));
            for (int round = 0; round < 4; round++) {
                for (int what = 0; what < 4; what++) {
                    call("told", round, -1, what);
                }
            }
        }
    }

    // ---- contests

    private int climber() {
        return oneIn(30) ? from(-2, 17) : dice.nextInt(Math.max(1, m.climbers));
    }

    private int round() {
        return oneIn(30) ? from(-2, 5) : dice.nextInt(Math.max(1, m.rounds.size()));
    }

    private int route() {
        return oneIn(30) ? from(-2, 6) : dice.nextInt(oneIn(2) ? 5 : 2);
    }

    private int second() {
        if (oneIn(40)) {
            return oneIn(2) ? m.now - from(1, 3) : from(1_000_001, 1_000_003);
        }
        return m.now + (oneIn(3) ? 0 : from(0, oneIn(12) ? 30 : 4));
    }

    private int day() {
        return oneIn(40) ? from(0, 1) * 1001 - 1 : oneIn(10) ? 999 : from(0, 5);
    }

    private int number() {
        return oneIn(30) ? from(-1, 301) : dice.nextInt(Math.max(1, m.tries.size()));
    }

    private String contestText() {
        StringBuilder text = new StringBuilder();
        int rounds = from(1, 4);
        for (int i = 0; i < rounds; i++) {
            text.append("round ").append(from(1, oneIn(3) ? 5 : 2)).append(' ').append(from(1, 3)).append(' ')
                .append(from(10, 25)).append(' ').append(oneIn(2) ? 0 : from(0, 10)).append("; ");
        }
        if (!oneIn(3)) {
            text.append("points ").append(expression(2)).append(";");
        }
        if (!oneIn(3)) {
            text.append("keys ").append(pick("up", "down")).append(pick(" tops", " zones", " most", " sum"));
            text.append(oneIn(2) ? ", down sum;" : ";");
        }
        return text.append(oneIn(3) ? "" : pick("ties back;", "ties shared;")).toString();
    }

    private void enter(int many) {
        for (int i = 0; i < many; i++) {
            call("climber");
        }
    }

    private void actAndAsk(int many) {
        for (int i = 0; i < many; i++) {
            if (oneIn(3)) {
                ask();
            } else {
                act();
            }
        }
    }

    private void contest() {
        load(contestText());
        enter(oneIn(6) ? from(14, 18) : from(1, 6));
        for (int i = 0; i < 10; i++) {
            tellRoute();
        }
        actAndAsk(250);
        askAll();
    }

    /** Texts read again, some with a fault, and a short contest behind each. */
    private void season() {
        for (int i = 0; i < 8 && !pair.isFull(); i++) {
            load(oneIn(3) ? spoiled(contestText()) : contestText());
            enter(from(0, 4));
            tellRoute();
            tellRoute();
            actAndAsk(60);
        }
        askAll();
    }

    /** Four rounds with few sorts of results, so that many are alike and ties go back through all rounds. */
    private void alikeInAllRounds() {
        load("round 1 2 10 0;round 1 2 10 0;round 2 1 10 1;round 1 1 10 0;ties " + pick("back;", "back;", "shared;")
            + "points " + pick("top", "hold", "zone-tries", "hold*hold-2*hold") + ";keys "
            + pick("up ", "down ") + pick("sum", "most", "tops") + pick("", ",up zones", ",down sum") + ";");
        enter(from(4, 8));
        for (int round = 0; round < 4; round++) {
            call("route", round, 0, 3, from(0, 1), 0, 0);
            for (int climber = 0; climber < m.climbers; climber++) {
                shortTry(climber);
            }
            for (int i = from(0, 4); i > 0; i--) {
                call("appeal", number(), from(0, 3), from(0, 5));
            }
            call("clock", m.now + 10);
            call("advance", from(3, 8), from(0, 5));
        }
        askAll();
    }

    private void shortTry(int climber) {
        if (oneIn(3)) {
            return;
        }
        call("begin", climber, 0, m.now + 1);
        if (!oneIn(3)) {
            call("reach", climber, from(1, 3), m.now + 1);
        }
        call("fall", climber, m.now, oneIn(5));
    }

    /** Sixteen climbers near the last second, as many tries, appeals or times out as there may be, and more. */
    private void fullContest(int begins, int reach, int appeals, int outs) {
        load("round 5 " + from(5, 9) + " 10 " + from(0, 1) + ";round 2 9 10 0;keys down sum,up most;ties back;"
            + "points hold*" + pick("1", "7", "999999*999") + "-tries;");
        enter(17);
        call("clock", 1_000_000 - from(900, 1300));
        for (int i = 0; i < begins; i++) {
            int climber = i % 16;
            int second = m.now + (oneIn(4) ? 0 : from(1, 6));
            call("begin", climber, (i / 16 + from(0, oneIn(9) ? 1 : 0)) % 5, second);
            if (oneIn(reach)) {
                call("reach", climber, from(1, 10), second);
            }
            if (oneIn(appeals)) {
                appeal();
            }
            if (i % outs == 0) {
                call("out", 15, m.now, i / outs % 2 == 0);
            }
            ask();
        }
        clearAll();
        advance();
        askAll();
    }

    private void tellRoute() {
        int round = round();
        int route = route();
        int holds = oneIn(10) ? from(0, 62) : from(2, 8);
        int one = from(0, 3);
        int two = oneIn(3) ? from(0, 8) : one == 0 ? 0 : one + from(0, 2);
        int three = oneIn(3) ? from(0, 8) : two == 0 ? 0 : two + 1;
        call("route", round, route, holds, one, two, three);
    }

    private void act() {
        int climber = climber();
        int second = second();
        switch (dice.nextInt(16)) {
            case 0:
            case 1:
            case 2:
            case 3:
                int route = route();
                call("begin", climber, route, second);
                break;
            case 4:
            case 5:
            case 6:
            case 7:
            case 8:
                int hold = oneIn(20) ? from(-1, 62) : from(1, 10);
                call("reach", climber, hold, second);
                break;
            case 9:
                boolean broken = oneIn(3);
                call("fall", climber, second, broken);
                break;
            case 10:
            case 11:
                boolean out = oneIn(2);
                call("out", climber, second, out);
                break;
            case 12:
                call("clock", second);
                break;
            case 13:
                appeal();
                break;
            case 14:
                if (oneIn(4)) {
                    advance();
                } else {
                    appeal();
                }
                break;
            default:
                if (oneIn(4)) {
                    tellRoute();
                } else if (oneIn(4)) {
                    call("climber");
                } else {
                    clearAll();
                }
                break;
        }
    }

    private void appeal() {
        int number = number();
        int hold = from(oneIn(20) ? -1 : 0, 10);
        int day = day();
        call("appeal", number, hold, day);
    }

    private void advance() {
        int most = from(oneIn(20) ? -1 : 1, oneIn(20) ? 18 : 4);
        int day = day();
        call("advance", most, day);
    }

    /** Ends all tries, so that advance() has a chance. */
    private void clearAll() {
        for (int climber = 0; climber < m.climbers; climber++) {
            if (!oneIn(5)) {
                call("fall", climber, m.now, false);
            }
        }
        if (oneIn(2)) {
            advance();
        }
    }

    private void ask() {
        int climber = climber();
        int round = round();
        int route = route();
        int day = day();
        switch (dice.nextInt(12)) {
            case 0:
                call("now");
                break;
            case 1:
                int number = number();
                int of = from(-1, 7);
                call("tried", number, of);
                break;
            case 2:
            case 3:
                call("seen", climber, route);
                break;
            case 4:
                call("ready", climber);
                break;
            case 5:
                int what = from(-1, 7);
                call("of", round, route, climber, day, what);
                break;
            case 6:
                int k = from(-1, 2);
                call("key", round, climber, day, k);
                break;
            case 7:
                call("rank", round, climber, day);
                break;
            case 8:
                int place = from(-1, 5);
                call("order", round, place);
                break;
            case 9:
                int set = from(-1, 33);
                call("parts", round, set, day);
                break;
            case 10:
                int many = from(0, 6);
                call("choose", round, many, day);
                break;
            default:
                int told = from(-1, 5);
                call("told", round, route, told);
                break;
        }
    }

    private void askAll() {
        for (int i = 0; i < m.tries.size(); i++) {
            for (int what = 0; what < 7; what++) {
                call("tried", i, what);
            }
        }
        for (int round = 0; round < m.rounds.size(); round++) {
            for (int day = 0; day < 6; day++) {
                for (int climber = 0; climber < m.climbers; climber++) {
                    call("rank", round, climber, day);
                    call("key", round, climber, day, 0);
                }
                for (int many = 1; many < 4; many++) {
                    call("choose", round, many, day);
                }
            }
            for (int k = 0; k < 16; k++) {
                call("order", round, k);
            }
        }
    }
}
