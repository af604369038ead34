/** Section 1 of the document and promises 3 to 5: the tape, texts, their tokens, laws, faults and expressions. */
final class TextBoundaries extends Calls {
    private static final int BLANKS = 0x20202020;
    private static final String FOUR_ROUNDS = "round 1 1 10 0;round 2 2 20 1;round 3 3 30 2;round 4 4 40 3;";
    private static final String FOUR_KEYS = "keys up sum,up most,up tops,up zones";
    /** Thirty-eight numbers and signs: the factor behind them begins with the thirty-ninth. */
    private static final String ITEMS_38 = "1+".repeat(19);

    private TextBoundaries() {
    }

    static void run() {
        texts();
        blanks();
        bytesThatBeginTokens();
        wordsAsLongAsTheyGo();
        wordsOfTheLaws();
        numbers();
        emptyText();
        cutLaws();
        roundNumbers();
        keysOfAText();
        expressionParts();
        namesOfAnExpression();
        untold();
        untoldBehindOthers();
        roundsAreNumbered();
        firstAlongTheText();
        leastKindOfAToken();
        whatCanStandThere();
        placeOfTheEnd();
        fifthRound();
        fortyItems();
        nineNested();
        fifthKey();
        numbersForWhatTheyTell();
        toldAgain();
        bounded();
        feeds();
        loads();
        tapeBehindLoads();
        faultOfTheLatest();
    }

    private static void texts() {
        Check.sentence("TEXTS have at most 700 bytes.");
        right("points 1" + " ".repeat(690) + ";");
        right("points 1" + " ".repeat(691) + ";");
        RouteWall x = new RouteWall();
        Texts.feed(x, "points 1" + " ".repeat(692) + ";");
        refused("a text of 701 bytes", x, x.load(701), 2);
        refused("its first 700", x, x.load(700), 10);
        Check.due("have no end", x.fault(1), 700);
        right(" ".repeat(700));
        fault(" ".repeat(699) + "x", 2, 699);
        fault("x" + " ".repeat(699), 2, 0);
        fault("a".repeat(700), 2, 0);
        for (String word : new String[] {"r", "roun", "round", "point", "fla", "flas", "flash", "sharedd"}) {
            boolean begins = word.equals("round");
            fault(" ".repeat(700 - word.length()) + word, 2, begins ? 700 : 700 - word.length());
        }
        fault("1".repeat(700), 1, 0);
        fault(";".repeat(700), 2, 0);
        fault("points " + "+".repeat(693), 2, 7);
        fault("points " + "(".repeat(693), 3, 15);
        right("ties back;" + "\n".repeat(675) + "round 1 1 10 0;");
    }

    private static void blanks() {
        Check.sentence("between them blanks (10, 32)");
        for (int b = 0; b < 256; b++) {
            String text = "ties" + (char) b + "back;";
            if (b == 10 || b == 32) {
                right(text);
            } else if (b >= 'a' && b <= 'z') {
                fault(text, 2, 0);
            } else {
                fault(text, isToken(b) ? 2 : 1, 4);
            }
        }
        right("\n\n  ties\n \n back\n;\n ");
    }

    private static boolean isToken(int b) {
        return (b >= 'a' && b <= 'z') || (b >= '0' && b <= '9') || "+-*(),;".indexOf(b) >= 0;
    }

    private static void bytesThatBeginTokens() {
        Check.sentence("SIGNS + - * ( ) , ;");
        for (int b = 0; b < 256; b++) {
            if (b == 10 || b == 32) {
                right("" + (char) b);
            } else {
                fault("" + (char) b, isToken(b) ? 2 : 1, 0);
                fault("ties back;" + (char) b, isToken(b) ? 2 : 1, 10);
            }
        }
    }

    private static void wordsAsLongAsTheyGo() {
        Check.sentence("TOKENS, as long as they go");
        fault("tiesback;", 2, 0);
        fault("ties backs;", 2, 5);
        fault("ties bac k;", 2, 5);
        fault("round 11 10 0;", 4, 6);
        fault("round 1 110 0;", 4, 8);
        right("round1 1 10 0;points1;keys up sum;ties back;");
        right("points(top)*-zone+hold-tries*seconds+flash;");
        fault("points 1top;", 2, 8);
        fault("points top1;", 2, 10);
        fault("points 1 2;", 2, 9);
        worth("12+3", 15);
        worth("1 + 23", 24);
    }

    /** Each word of the laws in its place, then without its last letter, with one more, and another one. */
    private static void wordsOfTheLaws() {
        Check.sentence("WORDS (small letters)");
        String[][] laws = {{"", "round", " 1 1 10 0;"}, {"", "points", " 1;"}, {"", "keys", " up sum;"},
            {"", "ties", " back;"}, {"ties ", "back", ";"}, {"ties ", "shared", ";"}, {"keys ", "up", " sum;"},
            {"keys ", "down", " sum;"}, {"keys up ", "sum", ";"}, {"keys up ", "most", ";"}, {"keys up ", "tops", ";"},
            {"keys up ", "zones", ";"}, {"points ", "top", ";"}, {"points ", "zone", ";"}, {"points ", "hold", ";"},
            {"points ", "tries", ";"}, {"points ", "seconds", ";"}, {"points ", "flash", ";"}};
        for (String[] law : laws) {
            String word = law[1];
            int place = law[0].length();
            right(law[0] + word + law[2]);
            fault(law[0] + word.substring(0, word.length() - 1) + law[2], 2, place);
            fault(law[0] + word + "x" + law[2], 2, place);
            fault(law[0] + word.substring(0, word.length() - 1) + "x" + law[2], 2, place);
            fault(law[0] + "x" + word.substring(1) + law[2], 2, place);
            fault(law[0] + word.toUpperCase() + law[2], 1, place);
            fault(law[0] + word + word + law[2], 2, place);
        }
        fault("a", 2, 0);
        fault("z", 2, 0);
        fault("`", 1, 0);
        fault("{", 1, 0);
    }

    private static void numbers() {
        Check.sentence("NUMBERS (1 to 6 digits)");
        worth("0", 0);
        worth("9", 9);
        worth("000000", 0);
        worth("999999", 999999);
        worth("000009", 9);
        worth("100000", 100000);
        Check.sentence("a NUMBER of 7 digits or more: at its first");
        fault("points 1234567;", 1, 7);
        fault("points 0000000;", 1, 7);
        fault("points 0000001;", 1, 7);
        fault("points 1+12345678;", 1, 9);
        fault("points 1+" + "9".repeat(300) + ";", 1, 9);
        fault("round 0000001 1 10 0;", 1, 6);
        fault("round 1 1 0000010 0;", 1, 10);
        right("round 000005 000009 000999 000999;");
        RouteWall x = new RouteWall();
        Texts.feed(x, "points 1234567");
        refused("cut behind its sixth digit", x, x.load(13), 10);
        Check.due("the end can't stand there", x.fault(0), 2);
        Check.due("at the text's length", x.fault(1), 13);
    }

    private static void emptyText() {
        Check.sentence("TEXT: {LAW}.");
        RouteWall x = new RouteWall();
        due("no byte", x, x.load(0), 0, 0);
        right(" ");
        right("\n");
        right("ties back;");
        right("points 1;keys up sum;ties shared;" + FOUR_ROUNDS);
        right(FOUR_ROUNDS + "ties shared;keys up sum;points 1;");
        fault(";", 2, 0);
        fault("ties back;;", 2, 10);
    }

    /** Every law that is cut behind a token has its fault at the end; with a sign too many, there. */
    private static void cutLaws() {
        Check.sentence("LAW: round NUMBER NUMBER NUMBER NUMBER ;");
        String[] laws = {"round 1 1 10 0 ;", "points ( 1 + - top ) * 2 ;", "keys up sum , down most ;", "ties back ;",
            "ties shared ;"};
        for (String law : laws) {
            String[] tokens = law.split(" ");
            String text = "";
            for (int i = 0; i < tokens.length; i++) {
                if (i > 0) {
                    fault(text, 2, text.length());
                    fault(text + "\n", 2, text.length() + 1);
                    fault(text + "x", 2, text.length());
                }
                text = text + tokens[i] + " ";
            }
            right(text);
            fault(text + tokens[tokens.length - 1], 2, text.length());
        }
        fault("round 1 1 10;", 2, 12);
        fault("round 1 1 10 0 0;", 2, 15);
        fault("round -1 1 10 0;", 2, 6);
        fault("round (1) 1 10 0;", 2, 6);
        fault("round 1,1,10,0;", 2, 7);
        fault("round top 1 10 0;", 2, 6);
    }

    private static void roundNumber(int which, int least, int greatest) {
        int[] values = {1, 1, 10, 0};
        int place = 6 + 2 * which + (which == 3 ? 1 : 0);
        for (int value : new int[] {least - 1, least, greatest, greatest + 1, 999999}) {
            if (value < 0) {
                continue;
            }
            values[which] = value;
            String text = "round " + values[0] + " " + values[1] + " " + values[2] + " " + values[3] + ";";
            if (value >= least && value <= greatest) {
                right(text);
                Check.due("number " + which, Texts.wall(text, 0).told(0, NONE, which), value);
            } else {
                fault(text, 4, place);
            }
        }
    }

    private static void roundNumbers() {
        Check.sentence("ROUTES 1 to 5");
        roundNumber(0, 1, 5);
        Check.sentence("tries on each 1 to 9");
        roundNumber(1, 1, 9);
        Check.sentence("seconds of a TRY 10 to 999");
        roundNumber(2, 10, 999);
        Check.sentence("REST 0 to 999");
        roundNumber(3, 0, 999);
    }

    private static void keysOfAText() {
        Check.sentence("keys KEY {, KEY} ;");
        fault("keys ;", 2, 5);
        for (int many = 1; many <= 4; many++) {
            String text = "round 1 1 10 0;keys up sum" + ",down zones".repeat(many - 1) + ";";
            right(text);
            RouteWall x = Texts.wall(text, 1);
            due("the last of " + many, x, x.key(0, 0, 0, many - 1), 0, 0);
            refused("one more", x, x.key(0, 0, 0, many), 1);
        }
        fault("keys up sum,;", 2, 12);
        fault("keys ,up sum;", 2, 5);
        fault("keys up sum,,up sum;", 2, 12);
        Check.sentence("KEY: up or down, then sum, most, tops or zones.");
        for (String way : new String[] {"up", "down"}) {
            for (String what : new String[] {"sum", "most", "tops", "zones"}) {
                right("keys " + way + " " + what + ";");
                fault("keys " + what + ";", 2, 5);
                fault("keys " + what + " " + way + ";", 2, 5);
            }
            for (String what : new String[] {"top", "zone", "hold", "tries", "seconds", "flash", "1", "back", "up"}) {
                fault("keys " + way + " " + what + ";", 2, 6 + way.length());
            }
        }
        Check.sentence("ties back ; or ties shared ;");
        right("ties back;");
        right("ties shared;");
        fault("ties;", 2, 4);
        fault("ties back shared;", 2, 10);
        fault("ties back,shared;", 2, 9);
    }

    private static void expressionParts() {
        Check.sentence("EXPRESSION: TERM {+ TERM or - TERM}.");
        worth("1", 1);
        worth("1-1", 0);
        worth("1" + "+1".repeat(19), 20);
        worth("20" + "-1".repeat(19), 1);
        worth("3-2-1", 0);
        worth("3-2+1", 2);
        fault("points;", 2, 6);
        fault("points +1;", 2, 7);
        fault("points 1+;", 2, 9);
        fault("points 1-;", 2, 9);
        fault("points 1++1;", 2, 9);
        worth("1+1*(".repeat(8) + "1+1*1" + ")".repeat(8), 10);
        worth("1-2*(".repeat(8) + "1-2*1" + ")".repeat(8), -341);
        Check.sentence("TERM: FACTOR {* FACTOR}.");
        worth("2" + "*1".repeat(19), 2);
        worth("2*3+4*5", 26);
        worth("2+3*4-5", 9);
        fault("points *1;", 2, 7);
        fault("points 1*;", 2, 9);
        fault("points 1**1;", 2, 9);
        Check.sentence("FACTOR: NUMBER, or top, zone, hold, tries, seconds, flash, or - FACTOR, or ( EXPRESSION ).");
        worth("-1", -1);
        worth("--1", 1);
        worth("-2*3", -6);
        worth("2*-3", -6);
        worth("-2+3", 1);
        worth("5--3", 8);
        worth("-(2+3)*2", -10);
        worth("(1)", 1);
        fault("points -;", 2, 8);
        fault("points ();", 2, 8);
        fault("points (1;", 2, 9);
        fault("points 1);", 2, 8);
        fault("points (1));", 2, 10);
        fault("points (1)(1);", 2, 10);
        fault("points 1(1);", 2, 8);
        fault("points (,);", 2, 8);
        fault("points up;", 2, 7);
        fault("points points;", 2, 7);
    }

    /** Climber 0 flashes route 0 in six seconds with two zones; on route 1 her third try comes to hold 7 in four. */
    private static int worked(String expression, int route) {
        RouteWall x = Texts.wall("round 2 9 99 0;points " + expression + ";", 1);
        x.route(0, 0, 5, 2, 4, 0);
        x.route(0, 1, 9, 1, 2, 3);
        climb(x, 0, 0, 5, 6);
        climb(x, 0, 1, 0, 1);
        climb(x, 0, 1, 6, 2);
        climb(x, 0, 1, 7, 4);
        return x.of(0, route, 0, 0, 6);
    }

    private static void namesOfAnExpression() {
        Check.sentence("top, zone, hold, tries, seconds, flash");
        String[] names = {"top", "zone", "hold", "tries", "seconds", "flash"};
        int[][] due = {{1, 2, 5, 1, 6, 1}, {0, 3, 7, 3, 4, 0}};
        for (int route = 0; route < 2; route++) {
            for (int i = 0; i < names.length; i++) {
                Check.due(names[i], worked(names[i], route), due[route][i]);
                Check.due("-" + names[i], worked("-" + names[i], route), -due[route][i]);
                for (int k = 0; k < names.length; k++) {
                    Check.due(names[i] + "*10-" + names[k], worked(names[i] + "*10-" + names[k], route),
                        due[route][i] * 10 - due[route][k]);
                }
            }
        }
    }

    private static RouteWall toppedInFive(String laws) {
        RouteWall x = Texts.wall("round 1 9 99 0;round 1 9 99 0;" + laws, 2);
        x.route(0, 0, 5, 1, 2, 0);
        climb(x, 0, 0, 5, 1);
        climb(x, 1, 0, 4, 1);
        return x;
    }

    private static void untold() {
        Check.sentence("Of what isn't told: points 100 * top + zone; keys down sum; ties shared.");
        for (String laws : new String[] {"", "keys down sum;", "ties shared;"}) {
            RouteWall x = toppedInFive(laws);
            due("a top and two zones", x, x.of(0, 0, 0, 0, 6), 102, 0);
            due("no top, two zones", x, x.of(0, 0, 1, 0, 6), 2, 0);
        }
        for (String laws : new String[] {"", "points 100*top+zone;", "ties shared;"}) {
            RouteWall x = toppedInFive(laws);
            due("the sum", x, x.key(0, 0, 0, 0), 102, 0);
            refused("is the only key", x, x.key(0, 0, 0, 1), 1);
            due("the greater is ahead", x, x.rank(0, 0, 0), 1, 0);
            due("the lesser is not", x, x.rank(0, 1, 0), 2, 0);
        }
        for (String laws : new String[] {"", "points 100*top+zone;", "keys down sum;", "ties shared;"}) {
            RouteWall x = toppedInFive(laws);
            x.advance(2, 0);
            due("like ones share a rank", x, x.rank(1, 1, 0), 1, 0);
        }
        RouteWall x = toppedInFive("ties back;");
        x.advance(2, 0);
        due("told, ties go back", x, x.rank(1, 1, 0), 2, 0);
    }

    private static void untoldBehindOthers() {
        Check.sentence("Of what isn't told: points 100 * top + zone");
        RouteWall x = new RouteWall();
        Texts.load(x, "points 5-top;keys up zones,up zones,up zones,up zones;ties back;round 1 1 10 0;");
        Texts.load(x, "points 1*(2+-(((((1");
        Texts.load(x, "keys up tops,up tops");
        Texts.load(x, "round 1 9 99 0;round 1 9 99 0;");
        x.climber();
        x.climber();
        climb(x, 1, 0, 10, 1);
        due("points", x, x.of(0, 0, 1, 0, 6), 100, 0);
        due("the sum", x, x.key(0, 1, 0, 0), 100, 0);
        refused("one key", x, x.key(0, 1, 0, 1), 1);
        due("down", x, x.rank(0, 1, 0), 1, 0);
        x.advance(2, 0);
        due("ties are shared", x, x.rank(1, 0, 0), 1, 0);
        for (String cut : new String[] {"points ((((((((1", "points --------", "points " + ITEMS_38 + "-1", "points ?"}) {
            Texts.load(x, cut);
            Check.due("a fault", x.status(), 10);
            due("nested behind " + cut, x, Texts.load(x, "points --------1+((((((((1))))))));"), 0, 0);
            Texts.load(x, cut);
            due("forty behind " + cut, x, Texts.load(x, "points " + ITEMS_38 + "-1;"), 0, 0);
            Texts.load(x, cut);
            refused("no ( to close behind " + cut, x, Texts.load(x, "points 1);"), 10);
            Texts.load(x, cut);
            Texts.load(x, "points 7;round 1 1 10 0;");
            x.climber();
            due("points behind " + cut, x, x.of(0, 0, 0, 0, 6), 7, 0);
        }
    }

    private static void roundsAreNumbered() {
        Check.sentence("ROUNDS are numbered from 0 on as they are told.");
        RouteWall x = Texts.wall("ties back;" + FOUR_ROUNDS, 0);
        for (int round = 0; round < 4; round++) {
            due("ROUTES of " + round, x, x.told(round, NONE, 0), round + 1, 0);
            due("tries of " + round, x, x.told(round, NONE, 1), round + 1, 0);
            due("seconds of " + round, x, x.told(round, NONE, 2), 10 * (round + 1), 0);
            due("REST of " + round, x, x.told(round, NONE, 3), round, 0);
        }
        for (int round : new int[] {LEAST, -1, 4, 5, GREATEST}) {
            refused("round " + round, x, x.told(round, NONE, 0), 1);
        }
        x = Texts.wall("round 1 1 10 0;", 0);
        refused("round 1 of one", x, x.told(1, NONE, 0), 1);
    }

    private static void firstAlongTheText() {
        Check.sentence("FAULTS, the first along the text");
        String[] texts = {"?", ";", FOUR_KEYS + ",up sum;", "round 0 1 10 0;", "ties back;ties back;"};
        int[] places = {0, 0, FOUR_KEYS.length() + 1, 6, 10};
        for (int first = 0; first < 5; first++) {
            for (int second = 0; second < 5; second++) {
                fault(texts[first] + " " + texts[second], first + 1, places[first]);
                fault("points 1;" + texts[first] + texts[second], first + 1, 9 + places[first]);
            }
        }
    }

    private static void leastKindOfAToken() {
        Check.sentence("of one TOKEN the least kind");
        fault("ties ?", 1, 5);
        fault("ties 1234567", 1, 5);
        fault("points " + ITEMS_38 + "1+1234567;", 1, 47);
        fault("points " + ITEMS_38 + "1+?;", 1, 47);
        fault(FOUR_KEYS + ",?", 1, 37);
        fault(FOUR_KEYS + ",1234567", 1, 37);
        fault("round 0000000 1 10 0;", 1, 6);
        fault("round 9999999 1 10 0;", 1, 6);
        fault("points " + ITEMS_38 + "1+*1;", 2, 47);
        fault("points " + ITEMS_38 + "1+1 1;", 3, 47);
        fault("points " + ITEMS_38 + "-1 1;", 2, 48);
        fault("points ((((((((1(1;", 2, 16);
        fault(FOUR_KEYS + ",sum;", 2, 37);
        fault(FOUR_KEYS + ",keys;", 2, 37);
        fault(FOUR_ROUNDS + "ties round 1 1 10 0;", 2, FOUR_ROUNDS.length() + 5);
        fault(FOUR_ROUNDS.substring(0, FOUR_ROUNDS.length() - 1) + "round", 2, FOUR_ROUNDS.length() - 1);
        fault("round 1 1 10 0 999999;", 2, 15);
        fault("ties 999999;", 2, 5);
        fault("points 1 points 1;", 2, 9);
        fault("keys up keys up sum;", 2, 8);
        fault("ties ties back;", 2, 5);
    }

    /** Behind each beginning of a text every token there is: those that can stand there, and all the others. */
    private static void whatCanStandThere() {
        Check.sentence("2 it can't stand there");
        String factor = " 1 top zone hold tries seconds flash - ( ";
        String[][] places = {{"", " round points keys ties "}, {"ties back ;", " round points keys "},
            {"round", " 1 "}, {"round 1 1 10 0", " ; "}, {"points", factor}, {"points -", factor}, {"points (", factor},
            {"points 1 +", factor}, {"points 1 -", factor}, {"points 1 *", factor}, {"points 1", " + - * ; "},
            {"points top", " + - * ; "}, {"points - 1", " + - * ; "}, {"points ( 1 )", " + - * ; "},
            {"points ( 1", " + - * ) "}, {"points ( - 1", " + - * ) "}, {"keys", " up down "},
            {"keys up", " sum most tops zones "}, {"keys up sum", " , ; "}, {"keys up sum ,", " up down "},
            {"ties", " back shared "}, {"ties back", " ; "}, {"ties shared", " ; "}};
        String[] tokens = ("round points keys ties back shared up down sum most tops zones top zone hold tries seconds"
            + " flash x 1 + - * ( ) , ;").split(" ");
        for (String[] place : places) {
            for (String token : tokens) {
                String text = place[0] + " " + token;
                RouteWall x = new RouteWall();
                Texts.load(x, text);
                boolean stands = place[1].contains(" " + token + " ");
                boolean again = place[0].startsWith("ties back ;") && token.equals("ties");
                int at = place[0].length() + 1;
                Check.due("can't stand: " + text, x.fault(1) == at && x.fault(0) == 2, !stands && !again);
                Check.due("a fault there: " + text, x.fault(1) == at, !stands);
            }
        }
    }

    private static void placeOfTheEnd() {
        Check.sentence("2 it can't stand there (the end: the text's length).");
        fault("points", 2, 6);
        fault("points  ", 2, 8);
        fault("points 1\n\n\n", 2, 11);
        fault("x", 2, 0);
        fault("  x", 2, 2);
        fault("ties back;x", 2, 10);
        fault("ties" + " ".repeat(696), 2, 700);
        RouteWall x = new RouteWall();
        Texts.feed(x, "ties back;");
        refused("n is the text's length", x, x.load(4), 10);
        Check.due("the end", x.fault(0), 2);
        Check.due("its place", x.fault(1), 4);
    }

    private static void fifthRound() {
        Check.sentence("3 one too many: a fifth ROUND (at round)");
        right(FOUR_ROUNDS);
        fault(FOUR_ROUNDS + "round 1 1 10 0;", 3, 60);
        fault(FOUR_ROUNDS + "\n round", 3, 62);
        fault(FOUR_ROUNDS + "round 0 0 0 0;", 3, 60);
        fault(FOUR_ROUNDS + "ties back;round ?", 3, 70);
        right("round 1 1 10 0;points 1;round 1 1 10 0;keys up sum;round 1 1 10 0;ties back;round 1 1 10 0;");
    }

    private static void fortyItems() {
        Check.sentence("an EXPRESSION of more than 40 (NUMBERS, names and signs that do something, - of one FACTOR too; at it)");
        right("points " + ITEMS_38 + "1;");
        right("points " + ITEMS_38 + "-1;");
        worth(ITEMS_38 + "-1", 18);
        worth("1" + "*1".repeat(18) + "+-9", -8);
        for (String more : new String[] {"+1", "-1", "*1", "+top", "*(1)"}) {
            fault("points " + ITEMS_38 + "-1" + more + ";", 3, 47);
        }
        for (String name : new String[] {"1", "top", "zone", "hold", "tries", "seconds", "flash"}) {
            right("points " + ITEMS_38 + "-" + name + ";");
            fault("points " + ITEMS_38 + "--" + name + ";", 3, 47);
            fault("points " + ITEMS_38 + "1+" + name + ";", 3, 47);
        }
        fault("points " + ITEMS_38 + "---1;", 3, 47);
        right("points ((((((" + ITEMS_38 + "-(1)))))));");
        fault("points ((((((" + ITEMS_38 + "-(1)+1))))));", 3, 55);
        right("points " + "(1)*".repeat(19) + "(-(1));");
        fault("points " + "(1)*".repeat(19) + "(-(-1));", 3, 87);
        fault("points " + ITEMS_38 + "-1;points", 5, 48);
    }

    private static void nineNested() {
        Check.sentence("a ninth ( or - FACTOR within one another (it)");
        for (int order = 0; order < 256; order++) {
            nested(order);
        }
        right("points " + "(1)+".repeat(19) + "(1);");
        right("points " + "-1+".repeat(13) + "1;");
        right("points " + "-(1)+".repeat(13) + "1;");
        right("points " + "-(1)*".repeat(13) + "1;");
        right("points " + "(-1)-".repeat(13) + "1;");
        right("points ((((((((1))))))))*((((((((1))))))));");
        right("points --------1+--------1;");
        right("points (((((((-1))))))) * (((((((-1)))))));");
        right("points -(-(-(-1*(-1)+-1)*-1)+-1);");
        right("points ((((((((1)+(1))))))));");
        right("points (((((((-1)+-(1)))))));");
        fault("points (((((((-(1))))))));", 3, 15);
        right("points (((((((1)+(1)+-1))))));");
    }

    /** Eight of ( and - in every order are taken, a ninth of either is not. */
    private static void nested(int bits) {
        StringBuilder open = new StringBuilder();
        StringBuilder close = new StringBuilder();
        for (int i = 0; i < 8; i++) {
            boolean minus = (bits >> i & 1) == 1;
            open.append(minus ? '-' : '(');
            close.append(minus ? "" : ")");
        }
        right("points " + open + "1" + close + ";");
        fault("points " + open + "(1)" + close + ";", 3, 15);
        fault("points " + open + "-1" + close + ";", 3, 15);
    }

    private static void fifthKey() {
        Check.sentence("a fifth KEY (up or down)");
        right(FOUR_KEYS + ";");
        fault(FOUR_KEYS + ",up sum;", 3, 37);
        fault(FOUR_KEYS + ",down", 3, 37);
        fault(FOUR_KEYS + " ,\n up ?", 3, 40);
        fault(FOUR_KEYS + ",", 2, 37);
        fault(FOUR_KEYS + ",;", 2, 37);
    }

    private static void numbersForWhatTheyTell() {
        Check.sentence("4 a NUMBER that is too small or too great for what it tells.");
        fault("round 0 0 9 1000;", 4, 6);
        fault("round 1 0 9 1000;", 4, 8);
        fault("round 1 1 9 1000;", 4, 10);
        fault("round 1 1 10 1000;", 4, 13);
        fault("round 6", 4, 6);
        fault("round 000006", 4, 6);
        fault("round 1 1 10 0;round 1 10 10 0;", 4, 23);
        right("points 0;");
        right("points 999999;");
    }

    private static void toldAgain() {
        Check.sentence("5 points, keys or ties told again (at it).");
        String[] laws = {"points 1;", "keys up sum;", "ties back;"};
        for (int first = 0; first < 3; first++) {
            for (int second = 0; second < 3; second++) {
                String text = laws[first] + laws[second];
                if (first == second) {
                    fault(text, 5, laws[first].length());
                    fault(laws[first] + "round 1 1 10 0;" + laws[second], 5, laws[first].length() + 15);
                } else {
                    right(text);
                    fault(text + laws[first], 5, text.length());
                    fault(text + laws[second], 5, text.length());
                }
            }
        }
        fault("points 1;points", 5, 9);
        fault("keys up sum;keys ?", 5, 12);
        fault("ties back;\n ties shared;", 5, 12);
        right("round 1 1 10 0;round 1 1 10 0;");
        RouteWall x = new RouteWall();
        due("a text", x, Texts.load(x, "points 1;keys up sum;ties back;"), 0, 0);
        due("told again in another text", x, Texts.load(x, "points 1;keys up sum;ties back;"), 0, 0);
    }

    private static void bounded() {
        Check.sentence("what would be above 1,000,000,000, or below the opposite of it, at any place, is that.");
        worth("1000*1000*1000", 1000000000);
        worth("1000*1000*1000+1", 1000000000);
        worth("1000*1000*1000-1", 999999999);
        worth("1000*1000*1000+1-1", 999999999);
        worth("1000*1000*1000-1+1", 1000000000);
        worth("1000*1000*1000-1+1+1", 1000000000);
        worth("1000*(0-1000)*1000", -1000000000);
        worth("-(1000*1000*1000)", -1000000000);
        worth("-1000*1000*1000-1", -1000000000);
        worth("-1000*1000*1000-1+1", -999999999);
        worth("-1000*1000*1000+1-1", -1000000000);
        worth("-1000*1000*1000+1-1-1", -1000000000);
        worth("0-1000*1000*1000-1", -1000000000);
        worth("999999*1000", 999999000);
        worth("999999*1001", 1000000000);
        worth("-999999*1001", -1000000000);
        worth("-(999999*999999)+1", -999999999);
        worth("--(999999*999999)-1", 999999999);
        worth("999999*1000+1000", 1000000000);
        worth("999999*1000+1001", 1000000000);
        worth("999999*1000+999", 999999999);
        worth("999999*999999*999999*999999*999999*999999", 1000000000);
        worth("999999*999999*999999*-999999*999999*999999", -1000000000);
        worth("999999*999999*0", 0);
        worth("(999999*999999)*(999999*999999)", 1000000000);
        worth("(999999*999999)*-(999999*999999)", -1000000000);
        worth("999999*999999+999999*999999-999999*999999", 0);
        worth("999999*999999-(999999*999999+5)", 0);
        worth("0-999999*999999-999999*999999+999999*999999", 0);
        worth("65536*65536", 1000000000);
        worth("46341*46341", 1000000000);
        worth("32768*65536", 1000000000);
        worth("31622*31622", 999950884);
        worth("31623*31623", 1000000000);
    }

    private static void feeds() {
        Check.sentence("Twenty bytes come behind those on the tape, the highest of each int first: how many it has");
        for (int place = 0; place < 20; place++) {
            int[] five = {BLANKS, BLANKS, BLANKS, BLANKS, BLANKS};
            five[place / 4] += ('?' - ' ') << 8 * (3 - place % 4);
            RouteWall x = new RouteWall();
            Check.due("at first", x.feed(BLANKS, BLANKS, BLANKS, BLANKS, BLANKS), 20);
            Check.due("behind them", x.feed(five[0], five[1], five[2], five[3], five[4]), 40);
            x.load(40);
            Check.due("byte " + place, x.fault(1), 20 + place);
        }
        RouteWall x = new RouteWall();
        x.feed(BLANKS | 0x80000000, BLANKS, BLANKS, BLANKS, BLANKS);
        x.load(20);
        Check.due("a byte above 127 at the highest", x.fault(0), 1);
        Check.due("its place", x.fault(1), 0);
        Check.sentence("NONE if there would be more than 700.");
        x = new RouteWall();
        for (int i = 1; i <= 35; i++) {
            Check.due("feed " + i, x.feed(BLANKS, BLANKS, BLANKS, BLANKS, BLANKS), 20 * i);
        }
        Check.due("a 36th", x.feed(LEAST, GREATEST, 0, -1, 1), NONE);
        Check.due("and again", x.feed(LEAST, GREATEST, 0, -1, 1), NONE);
        refused("the tape has no more", x, x.load(701), 2);
        due("and nothing of it has changed", x, x.load(700), 0, 0);
        Check.due("it is empty then", x.feed(BLANKS, BLANKS, BLANKS, BLANKS, BLANKS), 20);
    }

    private static void loads() {
        Check.sentence("2: n below 0, or more than the tape has");
        RouteWall x = new RouteWall();
        refused("an empty tape has no byte", x, x.load(1), 2);
        due("but none", x, x.load(0), 0, 0);
        Texts.feed(x, "ties back;");
        for (int n : new int[] {LEAST, -20, -1, 21, 40, 700, 701, GREATEST}) {
            refused("load(" + n + ")", x, x.load(n), 2);
        }
        due("all of it", x, x.load(20), 0, 0);
        Texts.feed(x, "ties back;?");
        due("the first ten", x, x.load(10), 0, 0);
        Texts.feed(x, "?");
        due("none of it", x, x.load(0), 0, 0);
        Check.sentence("how many ROUNDS");
        for (int rounds = 0; rounds <= 4; rounds++) {
            due("rounds", x, Texts.load(x, FOUR_ROUNDS.substring(0, 15 * rounds)), rounds, 0);
        }
        Check.sentence("All CLIMBERS, TRIES, appeals are gone then, and it is second 0.");
        Texts.load(x, "round 1 9 10 9;");
        x.climber();
        x.route(0, 0, 3, 1, 2, 3);
        x.out(0, 1000000 - 1, true);
        climb(x, 0, 0, 1, 1);
        x.appeal(0, 3, 0);
        due("a text without a round, too", x, x.load(0), 0, 0);
        due("second 0", x, x.now(), 0, 0);
        refused("no climber", x, x.seen(0, 0), 1);
        refused("no try", x, x.tried(0, 0), 1);
        refused("no round", x, x.told(0, NONE, 0), 1);
        Texts.load(x, "round 1 9 10 9;");
        x.climber();
        due("holds as untold", x, x.told(0, 0, 0), 10, 0);
        due("no zone", x, x.told(0, 0, 1), 0, 0);
        due("no try on it", x, x.told(0, 0, 4), 0, 0);
        due("no rest", x, x.begin(0, 0, 0), 0, 0);
        x.fall(0, 0, false);
        due("no appeal", x, x.of(0, 0, 0, 999, 2), 0, 0);
        refused("she is in", x, x.out(0, 0, false), 10);
        Texts.load(x, "round 1 9 10 9;round 1 9 10 9;");
        x.climber();
        x.advance(1, 0);
        x.out(0, 4, true);
        x.begin(0, 0, 5);
        Texts.load(x, "round 1 9 10 9;round 1 9 10 9;");
        refused("no climber", x, x.ready(0), 1);
        x.climber();
        due("no open try", x, x.ready(0), 0, 0);
        due("nobody in round 1", x, x.told(1, NONE, 4), 0, 0);
        refused("nor out", x, x.out(0, 0, false), 10);
        due("her first try", x, x.begin(0, 0, 0), 0, 0);
        due("of round 0", x, x.tried(0, 1), 0, 0);
        due("it has not ended", x, x.tried(0, 4), NONE, 0);
        due("it is open", x, x.tried(0, 6), 0, 0);
        due("at no hold", x, x.tried(0, 5), 0, 0);
    }

    private static void tapeBehindLoads() {
        Check.sentence("The first n bytes of the tape (which is empty then) are a TEXT");
        RouteWall x = new RouteWall();
        Texts.feed(x, "ties back;");
        x.load(10);
        Check.due("behind a text", x.feed(0, 0, 0, 0, 0), 20);
        Check.sentence("10: a FAULT, the tape is empty then, too");
        refused("a fault", x, x.load(3), 10);
        Check.due("behind a fault", x.feed(0, 0, 0, 0, 0), 20);
        refused("STATUS 2", x, x.load(21), 2);
        Check.due("behind STATUS 2 it is as it was", x.feed(0, 0, 0, 0, 0), 40);
    }

    private static void faultOfTheLatest() {
        Check.sentence("Of the latest load() with STATUS 0 or 10, what 0: the FAULT (0 without one), 1: its place (NONE without).");
        RouteWall x = new RouteWall();
        Texts.load(x, "ties back;?");
        Check.due("fault", x.fault(0), 1);
        Check.due("place", x.fault(1), 10);
        refused("STATUS 2", x, x.load(1), 2);
        Check.due("the same fault", x.fault(0), 1);
        Check.due("the same place", x.fault(1), 10);
        Texts.load(x, "ties back;");
        Check.due("none", x.fault(0), 0);
        Check.due("no place", x.fault(1), NONE);
        x.load(-1);
        Check.due("still none", x.fault(0), 0);
        Check.sentence("NONE for others, and ahead of any.");
        for (int what : new int[] {LEAST, -1, 2, 3, GREATEST}) {
            Check.due("fault(" + what + ")", x.fault(what), NONE);
        }
        Texts.load(x, "?");
        Check.due("fault(2) with a fault", x.fault(2), NONE);
        Check.due("fault(-1) with a fault", x.fault(-1), NONE);
        x = new RouteWall();
        Check.due("ahead of any", x.fault(0), NONE);
        Check.due("ahead of any, the place", x.fault(1), NONE);
        x.load(1);
        Check.due("behind one with STATUS 2", x.fault(0), NONE);
        x.climber();
        x.clock(3);
        Check.due("behind other calls", x.fault(0), NONE);
    }
}
