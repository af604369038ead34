import java.util.ArrayList;
import java.util.List;
import java.util.TreeMap;

/**
 * The document once more, written for plainness alone: a second reading to hold the class against.
 * It replays whole histories (second by second where that is the document's word) instead of keeping rows.
 */
final class Model {
    static final class Fault extends RuntimeException {
        private static final long serialVersionUID = 1L;
        final int kind;
        final int place;

        Fault(int kind, int place) {
            this.kind = kind;
            this.place = place;
        }
    }

    record Token(char sort, String text, int place) {
    }

    interface Node {
        long work(int[] facts);
    }

    static final class Round {
        final int[] numbers = new int[4];
        final int[] holds = {10, 10, 10, 10, 10};
        final int[][] zones = new int[5][3];
        final List<Integer> in = new ArrayList<>();
        int day;
    }

    static final class Try {
        int climber;
        int round;
        int route;
        int begun;
        int ended = -1;
        int hold;
        int how;
        final List<int[]> appeals = new ArrayList<>();
    }

    record Spell(int climber, int from, int[] to) {
    }

    record Key(boolean down, String what) {
    }

    int status;
    final List<Integer> tape = new ArrayList<>();
    int faultKind = -1;
    int faultPlace = -1;
    List<Round> rounds = new ArrayList<>();
    Node points;
    List<Key> keys = new ArrayList<>();
    boolean back;
    int climbers;
    int now;
    List<Try> tries = new ArrayList<>();
    int appealed;
    List<Spell> spells = new ArrayList<>();

    // ---- texts

    private List<Token> tokens;
    private int at;
    private List<Round> newRounds;
    private Node newPoints;
    private List<Key> newKeys;
    private Boolean newBack;
    private int counted;

    private static List<Token> split(String text) {
        List<Token> all = new ArrayList<>();
        int i = 0;
        while (i < text.length()) {
            char c = text.charAt(i);
            int j = i + 1;
            if (c == 10 || c == 32) {
                i++;
                continue;
            }
            char sort;
            if (c >= 'a' && c <= 'z') {
                while (j < text.length() && text.charAt(j) >= 'a' && text.charAt(j) <= 'z') {
                    j++;
                }
                sort = 'w';
            } else if (c >= '0' && c <= '9') {
                while (j < text.length() && text.charAt(j) >= '0' && text.charAt(j) <= '9') {
                    j++;
                }
                sort = j - i > 6 ? '?' : 'n';
            } else {
                sort = "+-*(),;".indexOf(c) >= 0 ? 's' : '?';
            }
            all.add(new Token(sort, text.substring(i, j), i));
            i = j;
        }
        all.add(new Token('e', "", text.length()));
        return all;
    }

    private Token see() {
        Token t = tokens.get(at);
        if (t.sort == '?') {
            throw new Fault(1, t.place);
        }
        return t;
    }

    private boolean sees(String text) {
        Token t = see();
        return t.sort != 'e' && t.text.equals(text);
    }

    private Fault cannotStand() {
        return new Fault(2, see().place);
    }

    private void must(String text) {
        if (!sees(text)) {
            throw cannotStand();
        }
        at++;
    }

    private void parse(String text) {
        tokens = split(text);
        at = 0;
        newRounds = new ArrayList<>();
        newPoints = null;
        newKeys = null;
        newBack = null;
        while (see().sort != 'e') {
            int place = see().place;
            if (sees("round")) {
                if (newRounds.size() == 4) {
                    throw new Fault(3, place);
                }
                at++;
                round();
            } else if (sees("points")) {
                if (newPoints != null) {
                    throw new Fault(5, place);
                }
                at++;
                counted = 0;
                newPoints = expression(0);
            } else if (sees("keys")) {
                if (newKeys != null) {
                    throw new Fault(5, place);
                }
                newKeys = new ArrayList<>();
                do {
                    at++;
                    key();
                } while (sees(","));
            } else if (sees("ties")) {
                if (newBack != null) {
                    throw new Fault(5, place);
                }
                at++;
                newBack = sees("back");
                if (!newBack && !sees("shared")) {
                    throw cannotStand();
                }
                at++;
            } else {
                throw cannotStand();
            }
            must(";");
        }
    }

    private void round() {
        int[][] limits = {{1, 5}, {1, 9}, {10, 999}, {0, 999}};
        Round r = new Round();
        for (int i = 0; i < 4; i++) {
            if (see().sort != 'n') {
                throw cannotStand();
            }
            int value = Integer.parseInt(see().text);
            if (value < limits[i][0] || value > limits[i][1]) {
                throw new Fault(4, see().place);
            }
            r.numbers[i] = value;
            at++;
        }
        newRounds.add(r);
    }

    private void key() {
        if (!sees("up") && !sees("down")) {
            throw cannotStand();
        }
        if (newKeys.size() == 4) {
            throw new Fault(3, see().place);
        }
        boolean down = sees("down");
        at++;
        if (!List.of("sum", "most", "tops", "zones").contains(see().text)) {
            throw cannotStand();
        }
        newKeys.add(new Key(down, see().text));
        at++;
    }

    private void count() {
        if (++counted > 40) {
            throw new Fault(3, see().place);
        }
    }

    private static long held(long value) {
        return value > 1_000_000_000L ? 1_000_000_000L : value < -1_000_000_000L ? -1_000_000_000L : value;
    }

    private Node expression(int depth) {
        Node left = term(depth);
        while (sees("+") || sees("-")) {
            boolean plus = sees("+");
            count();
            at++;
            Node l = left;
            Node r = term(depth);
            left = plus ? f -> held(l.work(f) + r.work(f)) : f -> held(l.work(f) - r.work(f));
        }
        return left;
    }

    private Node term(int depth) {
        Node left = factor(depth);
        while (sees("*")) {
            count();
            at++;
            Node l = left;
            Node r = factor(depth);
            left = f -> held(l.work(f) * r.work(f));
        }
        return left;
    }

    private Node factor(int depth) {
        Token t = see();
        int name = List.of("top", "zone", "hold", "tries", "seconds", "flash").indexOf(t.text);
        if (t.sort == 'n') {
            count();
            at++;
            long value = Long.parseLong(t.text);
            return f -> value;
        }
        if (name >= 0) {
            count();
            at++;
            return f -> f[name];
        }
        if (!sees("(") && !sees("-")) {
            throw cannotStand();
        }
        if (depth == 8) {
            throw new Fault(3, t.place);
        }
        if (sees("(")) {
            at++;
            Node inner = expression(depth + 1);
            must(")");
            return inner;
        }
        count();
        at++;
        Node inner = factor(depth + 1);
        return f -> held(-inner.work(f));
    }

    // ---- calls

    private int no(int why) {
        status = why;
        return -1;
    }

    private int yes(int value) {
        status = 0;
        return value;
    }

    private static boolean within(int value, int least, int greatest) {
        return value >= least && value <= greatest;
    }

    int feed(int a, int b, int c, int d, int e) {
        if (tape.size() + 20 > 700) {
            return -1;
        }
        for (int word : new int[] {a, b, c, d, e}) {
            for (int i = 3; i >= 0; i--) {
                tape.add(word >> 8 * i & 255);
            }
        }
        return tape.size();
    }

    int load(int n) {
        if (n < 0 || n > tape.size()) {
            return no(2);
        }
        StringBuilder text = new StringBuilder();
        for (int b : tape.subList(0, n)) {
            text.append((char) b);
        }
        tape.clear();
        try {
            parse(text.toString());
        } catch (Fault f) {
            faultKind = f.kind;
            faultPlace = f.place;
            return no(10);
        }
        faultKind = 0;
        faultPlace = -1;
        rounds = newRounds;
        points = newPoints != null ? newPoints : f -> 100L * f[0] + f[1];
        keys = newKeys != null ? newKeys : List.of(new Key(true, "sum"));
        back = newBack != null && newBack;
        climbers = 0;
        now = 0;
        tries = new ArrayList<>();
        appealed = 0;
        spells = new ArrayList<>();
        return yes(rounds.size());
    }

    int fault(int what) {
        return what == 0 ? faultKind : what == 1 ? faultPlace : -1;
    }

    private int open() {
        int open = -1;
        for (int i = 0; i < rounds.size(); i++) {
            if (!rounds.get(i).in.isEmpty()) {
                open = i;
            }
        }
        return open;
    }

    private boolean hasRound(int round) {
        return within(round, 0, rounds.size() - 1);
    }

    private boolean hasRoute(int round, int route) {
        return hasRound(round) && within(route, 0, rounds.get(round).numbers[0] - 1);
    }

    private boolean hasClimber(int climber) {
        return within(climber, 0, climbers - 1);
    }

    int climber() {
        if (rounds.isEmpty()) {
            return no(1);
        }
        if (climbers == 16) {
            return no(3);
        }
        if (!tries.isEmpty() || open() > 0) {
            return no(10);
        }
        rounds.get(0).in.add(climbers);
        return yes(climbers++);
    }

    int route(int round, int route, int holds, int one, int two, int three) {
        int[] zones = {one, two, three};
        if (!hasRoute(round, route)) {
            return no(1) + 1;
        }
        if (!within(holds, 2, 60)) {
            return no(2) + 1;
        }
        int many = 0;
        while (many < 3 && zones[many] != 0) {
            if (!within(zones[many], many == 0 ? 1 : zones[many - 1] + 1, holds)) {
                return no(2) + 1;
            }
            many++;
        }
        for (int i = many; i < 3; i++) {
            if (zones[i] != 0) {
                return no(2) + 1;
            }
        }
        if (begunOn(round, route) > 0) {
            return no(10) + 1;
        }
        rounds.get(round).holds[route] = holds;
        rounds.get(round).zones[route] = zones.clone();
        return yes(1);
    }

    private int begunOn(int round, int route) {
        return (int) tries.stream().filter(t -> t.round == round && t.route == route).count();
    }

    int told(int round, int route, int what) {
        if (!hasRound(round) || (route != -1 && !hasRoute(round, route))) {
            return no(1);
        }
        if (!within(what, 0, 4)) {
            return no(2);
        }
        Round r = rounds.get(round);
        if (route == -1) {
            return yes(what == 4 ? r.in.size() : r.numbers[what]);
        }
        return yes(what == 0 ? r.holds[route] : what == 4 ? begunOn(round, route) : r.zones[route][what - 1]);
    }

    private int go(int second) {
        if (!within(second, 0, 1_000_000)) {
            return 2;
        }
        if (second < now) {
            return 9;
        }
        now = second;
        for (Try t : tries) {
            int length = rounds.get(t.round).numbers[2];
            if (t.how == 0 && second - t.begun >= length) {
                t.how = 3;
                t.ended = t.begun + length;
            }
        }
        return 0;
    }

    private Try openTry(int climber) {
        return tries.stream().filter(t -> t.climber == climber && t.how == 0).findFirst().orElse(null);
    }

    int begin(int climber, int route, int second) {
        int open = open();
        if (!hasClimber(climber) || !hasRoute(open, route)) {
            return no(1);
        }
        int why = go(second);
        if (why != 0) {
            return no(why);
        }
        if (!rounds.get(open).in.contains(climber)) {
            return no(4);
        }
        if (openTry(climber) != null) {
            return no(5);
        }
        List<Try> hers = tries.stream()
            .filter(t -> t.climber == climber && t.round == open && t.route == route && t.how != 4).toList();
        if (hers.size() >= rounds.get(open).numbers[1] || hers.stream().anyMatch(t -> t.how == 1)) {
            return no(6);
        }
        if (tries.size() == 300) {
            return no(3);
        }
        if (hasSeen(climber, route)) {
            return no(7);
        }
        if (restEnd(climber) > now) {
            return no(8);
        }
        Try t = new Try();
        t.climber = climber;
        t.round = open;
        t.route = route;
        t.begun = now;
        tries.add(t);
        return yes(tries.size() - 1);
    }

    private boolean hasSeen(int climber, int route) {
        int open = open();
        int firstOut = spells.stream().filter(p -> p.climber == climber).mapToInt(p -> p.from).min().orElse(now + 1);
        for (int s = firstOut; s <= now; s++) {
            int second = s;
            boolean out = spells.stream().anyMatch(p -> p.climber == climber && p.from <= second
                && (p.to[0] < 0 || second <= p.to[0]));
            if (out && tries.stream().anyMatch(t -> t.round == open && t.route == route && t.climber != climber
                && t.begun <= second && (t.how == 0 || second <= t.ended))) {
                return true;
            }
        }
        return false;
    }

    private int restEnd(int climber) {
        int open = open();
        return tries.stream().filter(t -> t.climber == climber && t.round == open && t.how != 0)
            .mapToInt(t -> t.ended + rounds.get(open).numbers[3]).max().orElse(0);
    }

    int reach(int climber, int hold, int second) {
        if (!hasClimber(climber)) {
            return no(1);
        }
        if (!within(hold, 1, 60)) {
            return no(2);
        }
        int why = go(second);
        if (why != 0) {
            return no(why);
        }
        Try t = openTry(climber);
        if (t == null) {
            return no(5);
        }
        int last = rounds.get(t.round).holds[t.route];
        if (!within(hold, t.hold + 1, last)) {
            return no(10);
        }
        t.hold = hold;
        if (hold == last) {
            t.how = 1;
            t.ended = now;
        }
        return yes(hold == last ? 1 : 0);
    }

    int fall(int climber, int second, boolean broken) {
        int why = hasClimber(climber) ? go(second) : 1;
        if (why != 0) {
            return no(why) + 1;
        }
        Try t = openTry(climber);
        if (t == null) {
            return no(5) + 1;
        }
        t.how = broken ? 4 : 2;
        t.ended = now;
        return yes(1);
    }

    int out(int climber, int second, boolean out) {
        int why = hasClimber(climber) ? go(second) : 1;
        if (why != 0) {
            return no(why) + 1;
        }
        Spell last = null;
        int times = 0;
        for (Spell p : spells) {
            if (p.climber == climber) {
                last = p;
                times++;
            }
        }
        boolean isOut = last != null && last.to[0] < 0;
        if (isOut == out) {
            return no(10) + 1;
        }
        if (!out) {
            last.to[0] = now;
        } else if (times == 20) {
            return no(3) + 1;
        } else {
            spells.add(new Spell(climber, now, new int[] {-1}));
        }
        return yes(1);
    }

    int clock(int second) {
        int why = go(second);
        return why == 0 ? yes(1) : no(why) + 1;
    }

    int now() {
        return yes(now);
    }

    int tried(int number, int what) {
        if (!within(number, 0, tries.size() - 1)) {
            return no(1);
        }
        if (!within(what, 0, 6)) {
            return no(2);
        }
        Try t = tries.get(number);
        return yes(new int[] {t.climber, t.round, t.route, t.begun, t.ended, t.hold, t.how}[what]);
    }

    int seen(int climber, int route) {
        if (!hasClimber(climber) || !hasRoute(open(), route)) {
            return no(1);
        }
        return yes(hasSeen(climber, route) ? 1 : 0);
    }

    int ready(int climber) {
        if (!hasClimber(climber)) {
            return no(1);
        }
        if (openTry(climber) != null) {
            return no(5);
        }
        return yes(Math.max(now, restEnd(climber)));
    }

    int appeal(int number, int hold, int day) {
        if (!within(number, 0, tries.size() - 1)) {
            return no(1) + 1;
        }
        Try t = tries.get(number);
        if (!within(hold, 0, rounds.get(t.round).holds[t.route]) || !within(day, 0, 999)) {
            return no(2) + 1;
        }
        if (t.how == 0 || t.how == 4) {
            return no(10) + 1;
        }
        if (appealed == 40) {
            return no(3) + 1;
        }
        appealed++;
        t.appeals.add(new int[] {day, hold});
        return yes(1);
    }

    private static int holdOn(Try t, int day) {
        TreeMap<Integer, Integer> byDay = new TreeMap<>();
        for (int[] appeal : t.appeals) {
            byDay.put(appeal[0], appeal[1]);
        }
        return byDay.floorEntry(day) == null ? t.hold : byDay.floorEntry(day).getValue();
    }

    private int[] facts(int round, int route, int climber, int day) {
        int[] facts = new int[6];
        int greatest = -1;
        int number = 0;
        Round r = rounds.get(round);
        for (Try t : tries) {
            if (t.round == round && t.route == route && t.climber == climber && t.how != 4) {
                number++;
                int hold = holdOn(t, day);
                if (hold > greatest) {
                    greatest = hold;
                    facts[0] = hold == r.holds[route] ? 1 : 0;
                    facts[1] = 0;
                    for (int z : r.zones[route]) {
                        facts[1] += z != 0 && z <= hold ? 1 : 0;
                    }
                    facts[2] = hold;
                    facts[3] = number;
                    facts[4] = t.how == 0 ? 0 : t.ended - t.begun;
                    facts[5] = facts[0] == 1 && number == 1 ? 1 : 0;
                }
            }
        }
        return facts;
    }

    private long pointsOn(int round, int route, int climber, int day) {
        return points.work(facts(round, route, climber, day));
    }

    int of(int round, int route, int climber, int day, int what) {
        if (!hasRoute(round, route) || !hasClimber(climber)) {
            return no(1);
        }
        if (!within(day, 0, 999) || !within(what, 0, 6)) {
            return no(2);
        }
        return yes(what == 6 ? (int) pointsOn(round, route, climber, day) : facts(round, route, climber, day)[what]);
    }

    private long keyOf(int round, int climber, int day, Key key) {
        long sum = 0;
        long most = Long.MIN_VALUE;
        long tops = 0;
        long zones = 0;
        for (int route = 0; route < rounds.get(round).numbers[0]; route++) {
            long worth = pointsOn(round, route, climber, day);
            sum += worth;
            most = Math.max(most, worth);
            tops += facts(round, route, climber, day)[0];
            zones += facts(round, route, climber, day)[1];
        }
        return switch (key.what) {
            case "sum" -> sum;
            case "most" -> most;
            case "tops" -> tops;
            default -> zones;
        };
    }

    private boolean isIn(int round, int climber) {
        return hasRound(round) && rounds.get(round).in.contains(climber);
    }

    long key(int round, int climber, int day, int k) {
        if (!isIn(round, climber) || !within(k, 0, keys.size() - 1)) {
            return no(1);
        }
        if (!within(day, 0, 999)) {
            return no(2);
        }
        status = 0;
        return keyOf(round, climber, day, keys.get(k));
    }

    private boolean ahead(int round, int one, int other, int day) {
        for (Key key : keys) {
            int order = Long.compare(keyOf(round, one, day, key), keyOf(round, other, day, key));
            if (order != 0) {
                return key.down ? order > 0 : order < 0;
            }
        }
        return back && round > 0 && ahead(round - 1, one, other, day);
    }

    private int rankOf(int round, int climber, int day) {
        return 1 + (int) rounds.get(round).in.stream().filter(c -> ahead(round, c, climber, day)).count();
    }

    int rank(int round, int climber, int day) {
        if (!isIn(round, climber)) {
            return no(1);
        }
        return within(day, 0, 999) ? yes(rankOf(round, climber, day)) : no(2);
    }

    int advance(int most, int day) {
        if (!within(most, 1, 16) || !within(day, 0, 999)) {
            return no(2);
        }
        if (tries.stream().anyMatch(t -> t.how == 0)) {
            return no(5);
        }
        int open = open();
        if (open < 0 || open == rounds.size() - 1) {
            return no(10);
        }
        Round next = rounds.get(open + 1);
        List<Integer> come = rounds.get(open).in.stream().filter(c -> rankOf(open, c, day) <= most).toList();
        next.in.addAll(come);
        next.day = day;
        spells = new ArrayList<>();
        return yes(come.size());
    }

    int order(int round, int k) {
        if (!hasRound(round) || !within(k, 0, rounds.get(round).in.size() - 1)) {
            return no(1);
        }
        List<Integer> start = new ArrayList<>(rounds.get(round).in);
        if (round > 0) {
            int day = rounds.get(round).day;
            start.sort((a, b) -> {
                int byRank = rankOf(round - 1, b, day) - rankOf(round - 1, a, day);
                return byRank != 0 ? byRank : b - a;
            });
        }
        return yes(start.get(k));
    }

    private int parted(int round, int set, int day) {
        int pairs = 0;
        for (int one : rounds.get(round).in) {
            for (int other : rounds.get(round).in) {
                if (one < other && together(round, set, one, day) != together(round, set, other, day)) {
                    pairs++;
                }
            }
        }
        return pairs;
    }

    private long together(int round, int set, int climber, int day) {
        long sum = 0;
        for (int route = 0; route < rounds.get(round).numbers[0]; route++) {
            sum += (set & 1 << route) != 0 ? pointsOn(round, route, climber, day) : 0;
        }
        return sum;
    }

    int parts(int round, int set, int day) {
        if (!hasRound(round)) {
            return no(1);
        }
        if (!within(set, 0, (1 << rounds.get(round).numbers[0]) - 1) || !within(day, 0, 999)) {
            return no(2);
        }
        return yes(parted(round, set, day));
    }

    int choose(int round, int many, int day) {
        if (!hasRound(round)) {
            return no(1);
        }
        if (!within(many, 1, rounds.get(round).numbers[0]) || !within(day, 0, 999)) {
            return no(2);
        }
        int best = -1;
        for (int set = (1 << rounds.get(round).numbers[0]) - 1; set > 0; set--) {
            if (Integer.bitCount(set) == many && (best < 0 || parted(round, set, day) >= parted(round, best, day))) {
                best = set;
            }
        }
        return yes(best);
    }
}
