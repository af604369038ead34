/** Texts with the fault that is due and its place; 0 and NONE without one. */
final class FaultCases extends Calls {
    private FaultCases() {
    }

    static void run() {
        tokens();
        rounds();
        points();
        keys();
        ties();
    }

    private static void tokens() {
        right(" \n ");
        fault("\t", 1, 0);
        fault("\r", 1, 0);
        fault(" Round 1 1 10 0;", 1, 1);
        fault("x\t", 2, 0);
        fault("roundx 1 1 10 0;", 2, 0);
        fault("roun d 1 1 10 0;", 2, 0);
        fault("round 1 1 10 0 ;\u00e9", 1, 16);
        fault("round 1.5", 1, 7);
        fault("round 1 1 10 0;;", 2, 15);
        fault("round 0000001 1 10 0;", 1, 6);
        fault("1234567", 1, 0);
        fault("123456", 2, 0);
        fault("points 123456;points 1234567", 5, 14);
        fault("points 1/2;", 1, 8);
        fault("+", 2, 0);
        fault("sum;", 2, 0);
        right("round 000001 1 10 0;");
        fault("round{", 1, 5);
        fault("`", 1, 0);
        fault("round 1 1 10 0:", 1, 14);
    }

    private static void rounds() {
        fault("round", 2, 5);
        fault("round ", 2, 6);
        fault("round ;", 2, 6);
        fault("round x", 2, 6);
        fault("round 1 1 10;", 2, 12);
        fault("round 1 1 10 0 0;", 2, 15);
        fault("round 1 1 10 0", 2, 14);
        right("round 5 9 999 999;");
        right("round 1 1 10 0;");
        fault("round 0 1 10 0;", 4, 6);
        fault("round 6 1 10 0;", 4, 6);
        fault("round 1 0 10 0;", 4, 8);
        fault("round 1 10 10 0;", 4, 8);
        fault("round 1 1 9 0;", 4, 10);
        fault("round 1 1 1000 0;", 4, 10);
        fault("round 1 1 10 1000;", 4, 13);
        fault("round 9 9 9 9 9", 4, 6);
        fault("round 1 1 -10 0;", 2, 10);
        String four = "round 1 1 10 0;round 1 1 10 0;round 1 1 10 0;round 1 1 10 0;";
        right(four);
        fault(four + " round", 3, 61);
        right(four + "ties back;");
    }

    private static void points() {
        fault("points;", 2, 6);
        fault("points", 2, 6);
        fault("points +1;", 2, 7);
        fault("points 1+;", 2, 9);
        fault("points 1*+1;", 2, 9);
        right("points 1--1;");
        right("points 1*-1;");
        fault("points 1 1;", 2, 9);
        fault("points 1 top;", 2, 9);
        fault("points top(1);", 2, 10);
        fault("points ();", 2, 8);
        fault("points (1;", 2, 9);
        fault("points 1);", 2, 8);
        fault("points (1));", 2, 10);
        fault("points (1,2);", 2, 9);
        fault("points tops;", 2, 7);
        fault("points zones;", 2, 7);
        right("points top+zone-hold*tries+seconds-flash;");
        fault("points 1;points 1;", 5, 9);
        fault("points 1;ties back;points", 5, 19);
        right("points ((((((((1))))))));");
        fault("points (((((((((1)))))))));", 3, 15);
        fault("points (((((((((;", 3, 15);
        right("points --------1;");
        fault("points ---------1;", 3, 15);
        right("points -(-(-(-(1))));");
        fault("points -(-(-(-((1)))));", 3, 15);
        fault("points -(-(-(-(-1))));", 3, 15);
        right("points (((((((1)))))))*(((((((-1)))))));");
        right("points (((((((-1*(1)))))))) ;");
        right("points -------(1)*-------(1);");
        fault("points ((((((((1))))))))+(((((((((1", 3, 33);
        String twenty = "1+1+1+1+1+1+1+1+1+1+";
        right("points " + twenty + "1+1+1+1+1+1+1+1+1+-1;");
        fault("points " + twenty + "1+1+1+1+1+1+1+1+1+1+", 2, 47);
        fault("points " + twenty + "1+1+1+1+1+1+1+1+1+1+1;", 3, 47);
        fault("points " + twenty + "1+1+1+1+1+1+1+1+1+1+);", 2, 47);
        fault("points " + twenty + "1+1+1+1+1+1+1+1+1+1+?", 1, 47);
        fault("points " + twenty + "1+1+1+1+1+1+1+1+1+-1*1;", 3, 47);
        fault("points " + twenty + "1+1+1+1+1+1+1+1+1+--1;", 3, 47);
        fault("points " + twenty + "1+1+1+1+1+1+1+1+1+-1 1;", 2, 48);
        right("points (" + twenty + "1)+1+1+1+1+1+1+1+(1+-((1)));");
        fault("points " + twenty + "1+1+1+1+1+1+1+1+1+1+(1);", 3, 48);
    }

    private static void keys() {
        right("keys up sum;");
        right("keys down most,up tops , down zones,down sum;");
        fault("keys;", 2, 4);
        fault("keys sum;", 2, 5);
        fault("keys up;", 2, 7);
        fault("keys up top;", 2, 8);
        fault("keys up zone;", 2, 8);
        fault("keys up up;", 2, 8);
        fault("keys up sum,;", 2, 12);
        fault("keys up sum up sum;", 2, 12);
        fault("keys up sum", 2, 11);
        fault("keys up sum,", 2, 12);
        String four = "keys up sum,up sum,up sum,up sum";
        right(four + ";");
        fault(four + ",down most;", 3, 33);
        fault(four + ",up", 3, 33);
        fault(four + ",sum;", 2, 33);
        fault(four + ",?", 1, 33);
        fault(four + ",", 2, 33);
        fault("keys up sum;keys", 5, 12);
    }

    private static void ties() {
        right("ties back;");
        right("ties shared;");
        fault("ties;", 2, 4);
        fault("ties up;", 2, 5);
        fault("ties back shared;", 2, 10);
        fault("ties back", 2, 9);
        fault("ties shared;ties back;", 5, 12);
        fault("ties shared;points 1;keys up sum;ties", 5, 33);
    }
}
