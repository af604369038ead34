/** Puts texts on the tape of an object. */
final class Texts {
    private Texts() {
    }

    static void feed(RouteWall x, String text) {
        for (int i = 0; i < text.length(); i += 20) {
            x.feed(four(text, i), four(text, i + 4), four(text, i + 8), four(text, i + 12), four(text, i + 16));
        }
    }

    static int four(String text, int from) {
        int all = 0;
        for (int i = from; i < from + 4; i++) {
            all = all << 8 | (i < text.length() ? text.charAt(i) & 255 : 32);
        }
        return all;
    }

    static int load(RouteWall x, String text) {
        feed(x, text);
        return x.load(text.length());
    }

    static RouteWall wall(String text, int climbers) {
        RouteWall x = new RouteWall();
        load(x, text);
        for (int i = 0; i < climbers; i++) {
            x.climber();
        }
        return x;
    }
}
