/** The promises 1 to 43: the last values that are taken, the empty and the full state, the first and the last year. */
public final class BoundsTest {
    private static final int BEYOND = -1000001;
    private static final int FULL = -1000002;
    private static final int KIND_FINDING = -1000003;
    private static final int NONE = -1000004;
    private static final int MISSING = -1000006;

    /** What `of` tells, and `change` changes. */
    private static final int KIND = 0;
    private static final int LAYER = 1;
    private static final int COLOUR = 2;
    private static final int HOLDS = 3;
    private static final int SOAKED = 4;
    private static final int SEEN = 5;

    private static int wrong = 0;

    private static void due(String what, long want, long got) {
        if (want != got) {
            wrong++;
            System.out.println(what + ": answered " + got + ", due is " + want);
        }
    }

    private static void read(SoakTub x, String text) {
        for (int i = 0; i < text.length(); i++) {
            x.feed(text.charAt(i), 1);
        }
        due("the text '" + text + "'", text.split(";").length, x.text());
    }

    private static SoakTub tub(String text) {
        SoakTub x = new SoakTub();
        if (!text.isEmpty()) {
            read(x, text);
        }
        return x;
    }

    private static SoakTub goOn(SoakTub x, int years) {
        for (int left = years; left > 0; left -= 60) {
            x.go(Math.min(left, 60));
        }
        return x;
    }

    private static SoakTub eightStones() {
        return tub("stone;stone;stone;stone;stone;stone;stone;stone");
    }

    public static void main(String[] args) {
        newObject();
        dye();
        layer();
        lye();
        stir();
        thing();
        of();
        change();
        go();
        now();
        aheadAndDyed();
        seen();
        when();
        murky();
        treaty();
        stirFor();
        put();
        kindFor();
        holdsFor();
        lyeFor();
        outOfNone();
        outTheFewest();
        outFirstAndLastYear();
        outIsOver();
        askedFirst();
        fitsAndHeld();
        fitsByFortyNumbers();
        kinds();
        sticks();
        sticksAlike();
        odds();
        seed();
        hold();
        as();
        sheet();
        write();
        copy();
        load();
        judge();
        image();
        undoOfNothing();
        count();
        status();
        System.out.println(wrong == 0 ? "all answers are as due" : wrong + " answers are not as due");
        if (wrong != 0) {
            System.exit(1);
        }
    }

    private static void newObject() {
        SoakTub x = new SoakTub();
        for (int which = -1; which < 7; which++) {
            due("new: status " + which, 0, x.status(which));
        }
        int[] counts = {0, 0, 0, 0, 0, 0, 1, 0};
        for (int what = 0; what < counts.length; what++) {
            due("new: count " + what, counts[what], x.count(what));
        }
        int[] now = {0, 0, 0, 255, 0, 0, 0};
        for (int what = 0; what < now.length; what++) {
            due("new: now " + what, now[what], x.now(what));
        }
        for (int layer = 0; layer < 8; layer++) {
            for (int what = 0; what < 6; what++) {
                due("new: layer " + layer, 0, x.layer(layer, what));
            }
        }
        due("new: no thing", BEYOND, x.of(0, 0));
        due("new: nothing on the tape", 0, x.wipe());
        due("new: no text", -1, x.text());
        due("new: lye", 1, x.lye(1));
        due("new: z", 1, x.seed(1));
        for (int spot = 0; spot < 10; spot++) {
            due("new: spot " + spot, MISSING, x.as(spot, 0));
        }
        for (int s = 0; s < 4; s++) {
            due("new: sheet " + s, MISSING, x.load(s));
        }
        due("new: no image", NONE, x.undo());
        due("new: nothing to tear", 0, x.tear());
    }

    private static void dye() {
        SoakTub x = new SoakTub();
        for (int i = 0; i < 24; i++) {
            due("dye of " + i, 0, x.dye(i / 3, i % 3, 976 + i));
        }
        for (int i = 0; i < 24; i++) {
            due("dye " + i, 976 + i, x.layer(i / 3, i % 3));
        }
        for (int i = 0; i < 24; i++) {
            due("what it was " + i, 976 + i, x.dye(i / 3, i % 3, 0));
            due("none of it " + i, 0, x.dye(i / 3, i % 3, 999));
            due("999 of it " + i, 999, x.dye(i / 3, i % 3, 1));
        }
        due("all are 1", 24, x.now(1));
    }

    private static void layer() {
        SoakTub x = eightStones();
        for (int colour = 0; colour < 3; colour++) {
            x.dye(0, colour, 999);
            x.dye(7, colour, 2 - colour);
        }
        int[] top = {999, 999, 999, 2997, 255, 0};
        int[] ground = {2, 1, 0, 3, 0, 0};
        int[] between = {0, 0, 0, 0, 0, 0};
        for (int what = 0; what < 6; what++) {
            due("full layer 0, " + what, top[what], x.layer(0, what));
            due("layer 7, " + what, ground[what], x.layer(7, what));
            due("empty layer 3, " + what, between[what], x.layer(3, what));
        }
    }

    private static void lye() {
        SoakTub x = tub("thing;dress");
        due("it was 1", 1, x.lye(0));
        due("a thing bleeds 4 with none", 4, x.of(0, 6));
        due("it was 0", 0, x.lye(9));
        due("a thing bleeds 13 with 9", 13, x.of(0, 6));
        due("it was 9", 9, x.lye(9));
    }

    private static void stir() {
        for (int a = 0; a < 8; a++) {
            for (int b = 0; b < 8; b++) {
                if (a != b) {
                    stirTwo(a, b);
                }
            }
        }
        SoakTub all = eightStones();
        due("eight in these two", 8, all.stir(7, 0));
        due("eight in the one", 255, all.layer(7, 4));
        due("none in these two", 0, all.stir(0, 6));
    }

    private static void stirTwo(int a, int b) {
        SoakTub x = new SoakTub();
        for (int layer = 0; layer < 8; layer++) {
            x.thing(5, layer);
            x.dye(layer, 0, layer + 1);
            x.dye(layer, 1, 10 * layer + 10);
            x.dye(layer, 2, 100 * layer + 100);
        }
        due("things in " + a + " and " + b, 2, x.stir(a, b));
        for (int layer = 0; layer < 8; layer++) {
            int from = layer == a ? b : layer == b ? a : layer;
            due("dyes of " + layer, 111 * (from + 1), x.layer(layer, 3));
            due("of colour 2", 100 * (from + 1), x.layer(layer, 2));
            due("thing in " + layer, 1 << from, x.layer(layer, 4));
        }
        due("none is seen by that", 0, x.now(5));
    }

    private static void thing() {
        for (int kind = 0; kind < 7; kind++) {
            SoakTub x = new SoakTub();
            for (int layer = 0; layer < 8; layer++) {
                due("its number", layer, x.thing(kind, layer));
                due("its kind", kind, x.of(layer, KIND));
                due("its layer", layer, x.of(layer, LAYER));
            }
            due("no 9th", FULL, x.thing(kind, 0));
        }
        SoakTub y = new SoakTub();
        y.thing(0, 0);
        due("in layer 0 from the first, it isn't seen", 0, y.of(0, SEEN));
    }

    private static void of() {
        SoakTub x = tub("dance in 7 of 2 holds 999;stone;stone;stone;stone;stone;stone;medal in 3 of 1 holds 0;lye 9");
        x.change(0, SEEN, 999);
        x.change(0, SOAKED, 998);
        x.change(7, SOAKED, 999);
        int[] first = {4, 7, 2, 999, 998, 999, 20, 0, 18};
        int[] last = {6, 3, 1, 0, 999, 0, 1, -2, 999};
        for (int what = 0; what < 9; what++) {
            due("of the first, " + what, first[what], x.of(0, what));
            due("of the last, " + what, last[what], x.of(7, what));
        }
    }

    private static void change() {
        int[] first = {5, 0, 0, 60, 0, 0};
        int[] most = {6, 7, 2, 999, 999, 999};
        for (int what = 0; what < 6; what++) {
            SoakTub x = eightStones();
            for (int thing : new int[] {0, 7}) {
                int before = first[what];
                for (int v : new int[] {0, 1, most[what] - 1, most[what], 0}) {
                    due("what it was", before, x.change(thing, what, v));
                    due("what it is", v, x.of(thing, what));
                    before = v;
                    for (int other = 0; other < 6; other++) {
                        due("all else of it", other == what ? v : first[other], x.of(thing, other));
                    }
                }
            }
            due("another thing", first[what], x.of(3, what));
        }
        SoakTub y = tub("stone in 3");
        y.change(0, LAYER, 0);
        due("none is seen by that", 0, y.of(0, SEEN));
        y.change(0, KIND, 2);
        due("it rises as what it is then", 1, y.of(0, 7));
    }

    private static void go() {
        SoakTub x = new SoakTub();
        due("a year of nothing", 0, x.go(1));
        due("year 1", 1, x.now(0));
        due("60 of them", 0, x.go(60));
        due("year 61", 61, x.now(0));
        SoakTub full = new SoakTub();
        for (int i = 0; i < 24; i++) {
            full.dye(i / 3, i % 3, 999);
        }
        due("750 and seven times 999, of three colours", 3 * (750 + 7 * 999), full.go(1));
        due("layer 0 gave", 750, full.layer(0, 0));
        due("layer 7 has no more", 999, full.layer(7, 2));
        SoakTub one = tub("stone;dye 7 1 5");
        due("all dyes then", 5, one.go(60));
        due("it sank to the ground", 7, one.of(0, LAYER));
        due("soaked 60 years", 60, one.of(0, SOAKED));
    }

    private static void now() {
        SoakTub x = eightStones();
        for (int t = 0; t < 8; t++) {
            x.change(t, HOLDS, 999);
            x.change(t, SEEN, 999);
            x.change(t, COLOUR, t % 3);
        }
        for (int i = 0; i < 24; i++) {
            x.dye(i / 3, i % 3, 999);
        }
        int[] full = {0, 24 * 999, 8 * 999, 0, 255, 8 * 999, 7};
        for (int what = 0; what < full.length; what++) {
            due("full: now " + what, full[what], x.now(what));
        }
        due("full: what they hold", 8 * 999, x.count(2));
        due("full: seen", 8 * 999, x.count(3));
        due("full: dyes", 24 * 999, x.count(4));
        int[][] coloursAndSet = {{0, 0, 1}, {1, 1, 2}, {2, 2, 4}, {0, 1, 3}, {2, 0, 5}, {1, 2, 6}};
        for (int[] row : coloursAndSet) {
            SoakTub y = tub("stone of " + row[0] + ";stone of " + row[1]);
            due("colours that things are of", row[2], y.now(6));
        }
    }

    private static void aheadAndDyed() {
        String text = "dance in 5 holds 400;glove in 7 of 1 holds 300;veil in 3 of 2 holds 250;dress in 1;lye 4;dye 2 1 99";
        for (int n : new int[] {0, 1, 2, 59, 60, 61, 99, 100}) {
            SoakTub x = tub(text);
            SoakTub then = goOn(tub(text), n);
            for (int t = 0; t < 4; t++) {
                for (int what = 1; what <= 5; what++) {
                    due("thing " + t + ", " + what + " behind " + n, then.of(t, what), x.ahead(t, what, n));
                }
            }
            for (int i = 0; i < 24; i++) {
                due("dye " + i + " behind " + n, then.layer(i / 3, i % 3), x.dyed(i / 3, i % 3, n));
            }
            due("no year goes by", 0, x.now(0));
        }
        due("soaked behind 100", 100, tub("thing").ahead(0, SOAKED, 100));
        due("soaked behind 0", 0, tub("thing").ahead(0, SOAKED, 0));
    }

    private static void seen() {
        due("up in the 1st year", 1, tub("veil in 1").seen(0));
        due("up in the 7th", 7, tub("veil in 7").seen(0));
        due("it is up now: never more", NONE, tub("veil").seen(0));
        due("never", NONE, tub("thing in 1").seen(0));
        SoakTub x = tub("veil in 3");
        x.change(0, SEEN, 998);
        due("the 999th time", 3, x.seen(0));
        x.change(0, SEEN, 999);
        due("never more often than 999 times", NONE, x.seen(0));
        // These two tubs were found by search.
        String at200 = "lye0;dress in7 of0 holds960;thing in6 of2 holds777;veil in0 of1 holds371;dress in3 of1 holds754";
        due("up in the 200th", 200, tub(at200).seen(0));
        due("a year later", 199, goOn(tub(at200), 1).seen(0));
        String at201 = "lye0;dye5 2 59;veil in6 of0 holds918;dress in7 of1 holds285;dress in2 of0 holds929;"
            + "thing in6 of1 holds946";
        due("up in the 201st", NONE, tub(at201).seen(2));
        due("a year later it is the 200th", 200, goOn(tub(at201), 1).seen(2));
    }

    /** Two veils in layer 0, of 3 a year: the first has bled all in so many years, and turns in the next. */
    private static String twoVeils(int holds) {
        return "lye 2;veil in 6 of 2 holds " + holds + ";veil in 6 of 0 holds 977";
    }

    private static void when() {
        SoakTub x = tub("veil in 7 of 1 holds 0;dye 7 2 6");
        due("it is now", 0, x.when(0, 1));
        due("in a year", 1, x.when(0, 2));
        due("never", NONE, x.when(0, 0));
        due("in 200 years", 200, tub(twoVeils(597)).when(0, 0));
        due("in 201 years", NONE, tub(twoVeils(600)).when(0, 0));
        due("a year later in 200", 200, goOn(tub(twoVeils(600)), 1).when(0, 0));
        due("the last colour never", NONE, tub(twoVeils(597)).when(0, 1));
    }

    private static void murky() {
        due("10 now", 0, tub("dye 7 0 10").murky(7));
        due("9 for good", NONE, tub("dye 7 0 9").murky(7));
        due("9 of three colours for good", NONE, tub("dye 7 0 3;dye 7 1 3;dye 7 2 3").murky(7));
        due("9 and 1 that sinks", 1, tub("dye 7 0 9;dye 6 2 4").murky(7));
        due("9 and none that sinks", NONE, tub("dye 7 0 9;dye 6 2 3").murky(7));
        due("a medal's 10 years", 10, tub("medal in 7").murky(7));
        due("a medal's 9", NONE, tub("medal in 7 holds 9").murky(7));
        // These two tubs were found by search.
        String at200 = "lye0;dress in7 of0 holds927;veil in0 of1 holds951;thing in6 of1 holds764;dress in0 of2 holds605";
        due("in 200 years", 200, tub(at200).murky(0));
        due("a year later", 199, goOn(tub(at200), 1).murky(0));
        String at201 = "lye0;dress in7 of0 holds914;veil in0 of1 holds940;thing in6 of1 holds733;dress in0 of2 holds530";
        due("in 201 years", NONE, tub(at201).murky(0));
        due("a year later in 200", 200, goOn(tub(at201), 1).murky(0));
    }

    private static void treaty() {
        due("now", 0, tub("stone in 7 of 2;stone in 7 of 2").treaty(0, 1));
        due("in one layer, of two colours", NONE, tub("stone in 7 of 2;stone in 7 of 1").treaty(0, 1));
        due("of one colour, in two layers", NONE, tub("thing in 6;stone in 7").treaty(0, 1));
        due("in a year", 1, tub("stone in 6;stone in 7").treaty(0, 1));
        due("the other way", 1, tub("stone in 6;stone in 7").treaty(1, 0));
        due("in passing", 3, tub("veil in 6;thing in 3").treaty(0, 1));
        due("in 200 years", 200, tub(twoVeils(597)).treaty(0, 1));
        due("in 201 years", NONE, tub(twoVeils(600)).treaty(1, 0));
        due("a year later in 200", 200, goOn(tub(twoVeils(600)), 1).treaty(0, 1));
        SoakTub x = eightStones();
        due("the first and the last", 0, x.treaty(0, 7));
        due("the last and the first", 0, x.treaty(7, 0));
    }

    private static final String[] STIRRED_OR_PUT = {
        "lye 5;dye 3 2 4;dye 5 1 48;dye 1 1 63;veil in 7", "lye 3;dye 2 0 3;dye 7 0 2;dress in 0 of 0 holds 89;dye 6 1 92",
        "lye 2;dress in 1 holds 85;dye 5 1 94;dye 3 0 22", "lye 8;dress in 0 of 0 holds 89;dye 1 1 24;dye 5 2 81",
        "lye 0;dye 4 2 27;dress in 0 holds 80;dye 4 1 14;dye 7 0 78", "lye 1;dress in 2 of 1;dress in 7;dance in 0 of 2",
        "lye 9;dance in 7;dance in 0 of 1 holds 323;dye 1 0 21", "stone in 7", "dance in 3", "glove in 6 holds 41"};

    /** Of some tubs, the pair by trying each of them on a tub of its own. */
    private static void stirFor() {
        for (String text : STIRRED_OR_PUT) {
            for (int thing = 0; thing < tub(text).count(1); thing++) {
                for (int n : new int[] {0, 1, 7, 12, 29, 30}) {
                    String what = "stirFor(" + thing + ", " + n + ") in '" + text + "'";
                    due(what, bestPair(text, thing, n), tub(text).stirFor(thing, n));
                }
            }
        }
        due("the last pair", 8 * 6 + 7, tub(STIRRED_OR_PUT[1]).stirFor(0, 12));
        due("the first pair: no years", 1, tub("veil in 7").stirFor(0, 0));
        due("up in one year from layer 1", 8 + 7, tub("veil in 7").stirFor(0, 1));
        due("up in 6 years: all from 1 to 6 do, 1 is least", 8 + 7, tub("veil in 7").stirFor(0, 6));
        due("up in 7 years as it is", 1, tub("veil in 7").stirFor(0, 7));
    }

    private static int bestPair(String text, int thing, int n) {
        int best = -1;
        int most = -1;
        for (int pair = 0; pair < 64; pair++) {
            if (pair / 8 < pair % 8) {
                SoakTub x = tub(text);
                x.stir(pair / 8, pair % 8);
                int times = goOn(x, n).of(thing, SEEN);
                best = times > most ? pair : best;
                most = Math.max(times, most);
            }
        }
        return best;
    }

    /** What a thing must be for most of another sort, by trying each on a tub of its own. */
    private static int bestToBe(String text, int thing, int what, int last, int told, int n) {
        int best = -1;
        int most = -1;
        for (int v = 0; v <= last; v++) {
            SoakTub x = tub(text);
            x.change(thing, what, v);
            int much = goOn(x, n).of(thing, told);
            best = much > most ? v : best;
            most = Math.max(much, most);
        }
        return best;
    }

    private static void put() {
        for (String text : STIRRED_OR_PUT) {
            for (int thing = 0; thing < tub(text).count(1); thing++) {
                for (int n : new int[] {0, 1, 9, 11, 29, 30}) {
                    String what = "put(" + thing + ", " + n + ") in '" + text + "'";
                    due(what, bestToBe(text, thing, LAYER, 7, SEEN, n), tub(text).put(thing, n));
                }
            }
        }
        due("layer 7", 7, tub(STIRRED_OR_PUT[3]).put(0, 11));
        due("layer 5", 5, tub(STIRRED_OR_PUT[4]).put(0, 12));
        due("all the same: layer 0", 0, tub("stone in 7").put(0, 30));
        due("to be put in layer 0 isn't to be seen", 1, tub("veil in 7").put(0, 1));
    }

    private static void kindFor() {
        String[] texts = {
            "lye 4;dye 4 1 4;dye 7 0 15;dye 4 0 93;dress in 0 of 0 holds 0;veil in 2 of 1 holds 994",
            "lye 4;dye 7 1 13;dye 5 2 29;dye 4 1 81;thing in 0;stone in 7 of 0 holds 3",
            "lye 7;dye 4 1 48;dye 1 1 11;glove in 4 holds 5;dye 0 2 80",
            "veil in 7;stone in 3", "thing in 7 holds 0", "dance in 7 holds 995;dye 7 1 99"};
        for (String text : texts) {
            for (int thing = 0; thing < tub(text).count(1); thing++) {
                for (int n : new int[] {0, 1, 2, 3, 4, 39, 40}) {
                    String what = "kindFor(" + thing + ", " + n + ") in '" + text + "'";
                    due(what, bestToBe(text, thing, KIND, 6, HOLDS, n), tub(text).kindFor(thing, n));
                }
            }
        }
        due("no years: all the same", 0, tub("medal in 7").kindFor(0, 0));
        due("it holds nothing: all the same", 0, tub("medal in 7 holds 0").kindFor(0, 40));
        due("a stone keeps all", 5, tub("thing in 7").kindFor(0, 40));
        due("10 more is more than what a glove loses", 2, tub("stone in 7;dye 7 1 60").kindFor(0, 1));
    }

    private static void holdsFor() {
        due("no years: nothing", 0, tub("thing in 7").holdsFor(0, 0));
        due("nothing there to turn it: nothing", 0, tub("thing in 7").holdsFor(0, 40));
        String other = "lye 9;thing in 7 of 2;thing in 7 of 1 holds ";
        due("as much as 199", 199, tub(other + "199").holdsFor(0, 40));
        due("as much as 200", 200, tub(other + "200").holdsFor(0, 40));
        due("as much as 201", NONE, tub(other + "201").holdsFor(0, 40));
        SoakTub x = tub(other + "199");
        x.change(0, COLOUR, 1);
        due("of the colour that it is of now", 0, x.holdsFor(0, 40));
    }

    private static void lyeFor() {
        int[] dyes = {0, 1, 2, 3, 4, 5};
        int[] lyes = {5, 4, 3, 2, 1, 0};
        for (int i = 0; i < dyes.length; i++) {
            due("a thing's 4 and lye and " + dyes[i], lyes[i], tub("thing in 7;dye 7 1 " + dyes[i]).lyeFor(7, 1));
        }
        due("6 and 4 are too many", NONE, tub("thing in 7;dye 7 1 6").lyeFor(7, 1));
        due("a veil's 6", 9, tub("veil in 7;dye 7 1 3").lyeFor(7, 1));
        due("a veil's 5", 7, tub("veil in 7;dye 7 1 4").lyeFor(7, 1));
        due("no years, clear", 9, tub("thing in 7;dye 7 1 9").lyeFor(7, 0));
        due("no years, not clear", NONE, tub("thing in 7;dye 7 1 10").lyeFor(7, 0));
        due("40 years of nothing", 9, new SoakTub().lyeFor(0, 40));
        due("40 years of a stone's 9", 9, tub("stone in 7;dye 7 0 9").lyeFor(7, 40));
        due("39 years of a medal", NONE, tub("medal in 7 holds 40").lyeFor(7, 40));
    }

    private static void outOfNone() {
        SoakTub x = new SoakTub();
        due("clear, nothing to take out", 0, x.out(7, 20));
        x.dye(7, 0, 9);
        due("9, nothing to take out", 0, x.out(7, 20));
        x.dye(7, 0, 10);
        due("10, nothing that would help", NONE, x.out(7, 20));
        due("no years", NONE, x.out(7, 0));
        due("another layer", 0, x.out(6, 0));
    }

    private static void outTheFewest() {
        String medals = "lye 1;medal in 7;medal in 7;medal in 7;medal in 7;thing in 7;dye 7 0 ";
        int[] dyes = {0, 1, 2, 4, 5, 6, 7, 8, 9};
        int[] sets = {0, 1, 16, 16, 16, 17, 19, 23, 31};
        for (int i = 0; i < dyes.length; i++) {
            due("4 medals, a thing and " + dyes[i], sets[i], tub(medals + dyes[i]).out(7, 1));
        }
        due("4 medals, a thing and 10", NONE, tub(medals + "10").out(7, 1));
        due("two of 5 come before 5 and 8", 6, tub("medal in 7;thing in 7;thing in 7;glove in 7").out(7, 1));
        due("the one of 8 alone", 8, tub("stone in 7;veil in 7;medal in 7;glove in 7;dye 7 0 6").out(7, 1));
        SoakTub all = new SoakTub();
        for (int t = 0; t < 8; t++) {
            all.thing(6, 7);
        }
        int[] tolerable = {255, 127, 63, 31, 15, 7, 3, 1, 0};
        for (int i = 0; i < tolerable.length; i++) {
            all.dye(7, 0, 9 - i);
            due("8 medals and " + (9 - i), tolerable[i], all.out(7, 1));
        }
        all.dye(7, 0, 10);
        due("8 medals and 10", NONE, all.out(7, 1));
    }

    private static void outFirstAndLastYear() {
        SoakTub x = tub("stone;medal in 7");
        due("a medal's 9 years", 0, x.out(7, 9));
        due("10 years", 2, x.out(7, 10));
        due("20 years", 2, x.out(7, 20));
        due("no years", 0, x.out(7, 0));
        SoakTub y = tub("medal in 7 holds 20;medal in 7 holds 9");
        due("one may bleed", 1, y.out(7, 20));
        SoakTub z = tub("dress in 7 holds 46;lye 1");
        due("it bleeds elsewhere, as it rises", 0, z.out(7, 1));
        due("it is dye that sinks: no set helps", NONE, tub("stone in 7;dye 6 0 8;dye 7 0 8").out(7, 1));
    }

    /** What doesn't bleed in a question bleeds in all that comes behind it. */
    private static void outIsOver() {
        SoakTub x = tub("thing in 7;thing in 7");
        due("out both", 3, x.out(7, 20));
        due("both bleed in what will be", 10, x.dyed(7, 0, 1));
        due("out both again", 3, x.out(7, 20));
        due("murky by both", 1, x.murky(7));
        due("out both again", 3, x.out(7, 20));
        due("both bleed in a year", 10, x.go(1));
        SoakTub y = tub("dye 7 0 10;thing in 7");
        due("none helps: all were tried", NONE, y.out(7, 20));
        due("it holds less in a year", 55, y.ahead(0, HOLDS, 1));
        due("none helps", NONE, y.out(7, 20));
        read(y, "lye 0");
        due("it bleeds in a year", 14, y.go(1));
        SoakTub z = new SoakTub();
        z.thing(0, 7);
        due("the first thing of a new tub bleeds", 5, z.go(1));
    }

    /** A question may be the first call behind the things, and the first behind an image of fewer. */
    private static void askedFirst() {
        for (int question = 0; question < 13; question++) {
            SoakTub x = new SoakTub();
            x.sheet(0, 8, 0);
            x.image();
            x.thing(2, 7);
            x.thing(2, 7);
            due("question " + question + " asked first", firstAnswers(question), askedOfTwoVeils(x, question));
            SoakTub y = new SoakTub();
            y.sheet(0, 8, 0);
            y.image();
            y.thing(2, 7);
            y.thing(2, 7);
            y.ahead(1, LAYER, 1);
            y.undo();
            boolean ofThing = question < 10;
            due("asked of no thing", ofThing ? BEYOND : firstAnswers(question + 3), askedOfTwoVeils(y, question));
        }
    }

    private static long askedOfTwoVeils(SoakTub x, int question) {
        switch (question) {
            case 0: return x.ahead(1, LAYER, 1);
            case 1: return x.seen(1);
            case 2: return x.when(1, 0);
            case 3: return x.treaty(0, 1);
            case 4: return x.stirFor(1, 0);
            case 5: return x.put(1, 1);
            case 6: return x.kindFor(1, 1);
            case 7: return x.holdsFor(1, 1);
            case 8: return x.fits(0, 1, 0);
            case 9: return x.kinds(0, 1);
            case 10: return x.dyed(7, 0, 1);
            case 11: return x.murky(0);
            default: return x.out(7, 3);
        }
    }

    /** Two veils' answers; behind them those of three questions of an empty tub. */
    private static long firstAnswers(int question) {
        int[] answers = {6, 7, 0, 0, 1, 1, 5, 0, 201, 127, 4, 12, 0, 0, NONE, 0};
        return answers[question];
    }

    private static void fitsAndHeld() {
        SoakTub x = tub("thing in 7;lye 1");
        x.sheet(0, 16, 0);
        due("no numbers: all", 201, x.fits(0, 0, 0));
        due("no numbers: nothing held is least", 0, x.held(0, 0, 0));
        x.sheet(0, 16, 1);
        due("one number, as it is now", 201, x.fits(0, 0, 0));
        x.write(0, 0, 1);
        due("one number, as it isn't now", 0, x.fits(0, 0, 0));
        due("held likewise", NONE, x.held(0, 0, 0));
        x.write(0, 0, -1);
        due("any", 201, x.fits(0, 0, 0));
        x.write(0, 0, -2);
        due("-2 is not any", 0, x.fits(0, 0, 0));
        x.sheet(0, 16, 2);
        int[] bled = {0, 1, 4, 5, 6};
        int[] fits = {1, 1, 1, 196, 0};
        int[] held = {0, 1, 4, 5, NONE};
        for (int i = 0; i < bled.length; i++) {
            x.write(0, 1, bled[i]);
            due("bled " + bled[i], fits[i], x.fits(0, 0, 0));
            due("held, bled " + bled[i], held[i], x.held(0, 0, 0));
        }
        x.write(0, 1, 0);
        due("of another colour", 201, x.fits(0, 0, 1));
        due("of the last colour", 201, x.fits(0, 0, 2));
        SoakTub up = tub("veil in 7;lye 0");
        up.sheet(3, 8, 3);
        up.write(3, 1, 2);
        up.write(3, 2, 2);
        due("in the layer in which it was", 199, up.fits(3, 0, 0));
        due("held there", 2, up.held(3, 0, 0));
        SoakTub third = tub("thing in 6;stone in 1;thing in 7 of 1;lye 1");
        third.sheet(0, 8, 2);
        third.write(0, 1, 3);
        due("the third thing, of colour 1", 1, third.fits(0, 2, 1));
        due("the third thing, of colour 1, held", 3, third.held(0, 2, 1));
        due("it can't have bled colour 0", 0, third.fits(0, 2, 0));
        due("the third thing, of colour 0, held", NONE, third.held(0, 2, 0));
        SoakTub last = eightStones();
        last.sheet(1, 8, 1);
        due("the last thing", 201, last.fits(1, 7, 2));
        due("the last thing's", 0, last.held(1, 7, 2));
    }

    /** A thing bleeds 4 with no lye: 156 in the 39 years that 40 numbers tell. */
    private static void fitsByFortyNumbers() {
        SoakTub x = tub("thing in 7;lye 0");
        x.sheet(2, 16, 40);
        for (int i = 0; i < 40; i++) {
            x.write(2, i, 4 * i);
        }
        due("it holds 156 or more", 45, x.fits(2, 0, 0));
        due("156", 156, x.held(2, 0, 0));
        x.write(2, 39, 155);
        due("it holds 155", 1, x.fits(2, 0, 0));
        due("155", 155, x.held(2, 0, 0));
        x.write(2, 39, 157);
        due("it can't have bled 157", 0, x.fits(2, 0, 0));
        SoakTub y = tub("thing in 7;lye 9");
        y.sheet(0, 16, 17);
        for (int i = 0; i < 17; i++) {
            y.write(0, i, -1);
        }
        int[] bled = {199, 200, 201};
        int[] fits = {1, 1, 0};
        int[] held = {199, 200, NONE};
        for (int i = 0; i < bled.length; i++) {
            y.write(0, 16, bled[i]);
            due("bled " + bled[i] + " in 16 years", fits[i], y.fits(0, 0, 0));
            due("held, bled " + bled[i], held[i], y.held(0, 0, 0));
        }
        y.sheet(0, 8, 17);
        for (int i = 0; i < 17; i++) {
            y.write(0, i, 255);
        }
        due("255 of 8 bits is any", 201, y.fits(0, 0, 0));
        y.sheet(0, 16, 1);
        y.write(0, 0, 255);
        due("255 of 16 bits isn't", 0, y.fits(0, 0, 0));
    }

    private static void kinds() {
        SoakTub x = tub("stone in 3");
        x.sheet(0, 8, 0);
        due("no numbers: all", 127, x.kinds(0, 0));
        x.sheet(0, 8, 1);
        x.write(0, 0, 3);
        due("in its layer now", 127, x.kinds(0, 0));
        x.write(0, 0, -1);
        due("any", 127, x.kinds(0, 0));
        for (int other : new int[] {0, 2, 4, 7, 8, -2}) {
            x.write(0, 0, other);
            due("not in its layer now", 0, x.kinds(0, 0));
        }
        x.sheet(0, 32, 40);
        for (int i = 0; i < 40; i++) {
            x.write(0, i, -1);
        }
        int[] behind39 = {30, 0, 0, 1, 0, 0, 0, 96};
        for (int layer = 0; layer < 8; layer++) {
            x.write(0, 39, layer);
            due("in layer " + layer + " behind 39 years", behind39[layer], x.kinds(0, 0));
        }
        SoakTub last = eightStones();
        last.sheet(3, 8, 2);
        due("the last thing: which stay in layer 0", 1 + 2 + 4 + 16, last.kinds(3, 7));
    }

    private static void sticks() {
        for (int n : new int[] {1, 2, 19, 20}) {
            SoakTub x = tub("veil in 3;dance in 5 holds 300;glove in 7;stone;dye 3 1 90;dye 5 2 200");
            SoakTub y = tub("veil in 3;dance in 5 holds 300;glove in 7;stone;dye 3 1 90;dye 5 2 200");
            x.seed(4711);
            int z = 4711;
            for (int i = 0; i < n; i++) {
                z = z * 1103515245 + 12345;
                int a = (z >>> 8) % 8;
                z = z * 1103515245 + 12345;
                int b = (z >>> 8) % 8;
                y.stir(a, b);
                y.go(1);
            }
            due("seen of all", y.now(5), x.sticks(n));
            due("z behind " + 2 * n + " draws", z, x.count(6));
            due("year", n, x.now(0));
            for (int t = 0; t < 4; t++) {
                for (int what = 1; what < 6; what++) {
                    due("thing " + t + ", " + what, y.of(t, what), x.of(t, what));
                }
            }
            for (int layer = 0; layer < 8; layer++) {
                due("dyes of " + layer, y.layer(layer, 3), x.layer(layer, 3));
            }
        }
    }

    /** From z 101 both draws have the rest 1 by 8: nothing is stirred, so the veil comes up from layer 1. */
    private static void sticksAlike() {
        SoakTub x = tub("veil in 1;stone;dye 1 0 3");
        x.seed(101);
        due("seen of all", 1, x.sticks(1));
        due("the veil came up", 0, x.of(0, LAYER));
        due("of 3 and 2 that it bled, one sank", 4, x.layer(1, 0));
        due("that one", 1, x.layer(2, 0));
        due("a year", 1, x.now(0));
    }

    private static void odds() {
        long[][] aboveAndBelow = {{0, 1}, {1, 8}, {1, 4}, {3, 8}, {1, 2}, {5, 8}, {3, 4}, {7, 8}, {1, 1}};
        for (int clear = 0; clear <= 8; clear++) {
            SoakTub x = new SoakTub();
            for (int layer = 0; layer < 8; layer++) {
                x.dye(layer, layer % 3, layer < clear ? 9 : 10);
            }
            long above = 1;
            long below = 1;
            for (int n = 0; n <= 20; n++) {
                due(clear + " clear layers, above, n " + n, n == 0 ? 1 : above, x.odds(n, 0));
                due(clear + " clear layers, below, n " + n, clear == 0 ? 1 : below, x.odds(n, 1));
                above *= aboveAndBelow[clear][0];
                below *= aboveAndBelow[clear][1];
            }
        }
        SoakTub x = tub("dye 3 0 10");
        due("7 of 8, 20 times", 79792266297612001L, x.odds(20, 0));
        due("8, 20 times", 1152921504606846976L, x.odds(20, 1));
        due("no draw is made", 1, x.count(6));
    }

    private static void seed() {
        SoakTub x = new SoakTub();
        int before = 1;
        for (int z : new int[] {0, -1, Integer.MAX_VALUE, Integer.MIN_VALUE, 1}) {
            due("what it was", before, x.seed(z));
            due("what it is", z, x.count(6));
            before = z;
        }
    }

    private static void hold() {
        SoakTub x = new SoakTub();
        due("no thing there", BEYOND, x.hold(0, 0));
        due("nothing", 1, x.hold(9, -1));
        for (int t = 0; t < 8; t++) {
            x.thing(5, 0);
        }
        for (int spot = 0; spot < 10; spot++) {
            due("held", 1, x.hold(spot, spot % 8));
        }
        for (int spot = 0; spot < 10; spot++) {
            due("what it holds", spot % 8, x.as(spot, 5));
        }
        due("all spots", 10, x.count(7));
        due("the last thing", 1, x.hold(0, 7));
        due("a 9th", BEYOND, x.hold(0, 8));
        due("it is there", 7, x.as(0, 0));
        for (int spot = 0; spot < 10; spot++) {
            due("nothing", 1, x.hold(spot, -1));
            due("spots", 9 - spot, x.count(7));
            due("nothing again", 1, x.hold(spot, -1));
        }
        due("no spots", 0, x.count(7));
    }

    private static void as() {
        String[] under = {"0123456", "1", "234", "34", "4", "56", "6"};
        for (int of = 0; of < 7; of++) {
            SoakTub x = new SoakTub();
            x.thing(0, 0);
            x.thing(of, 0);
            x.hold(9, 1);
            for (int kind = 0; kind < 7; kind++) {
                boolean is = under[kind].indexOf('0' + of) >= 0;
                due(of + " as " + kind, is ? 1 : KIND_FINDING, x.as(9, kind));
            }
        }
    }

    private static void sheet() {
        SoakTub x = tub("thing;thing");
        for (int bits : new int[] {8, 16, 32}) {
            for (int n : new int[] {0, 1, 39, 40}) {
                due("so many numbers", n, x.sheet(0, bits, n));
                due("the last", n == 0 ? BEYOND : 1, x.write(0, n - 1, 7));
                due("the first beyond", BEYOND, x.write(0, n, 7));
            }
        }
        x.sheet(0, 8, 2);
        x.write(0, 0, 5);
        x.write(0, 1, 6);
        due("again", 2, x.sheet(0, 8, 2));
        due("all of them are 0", 2, x.load(0));
        due("the first", 0, x.of(0, HOLDS));
        due("the second", 0, x.of(1, HOLDS));
        for (int n : new int[] {0, 1, 40}) {
            x.sheet(0, 8, 2);
            due("missing", 0, x.sheet(0, 0, n));
            due("it is", MISSING, x.judge(0));
            due("it stays so", 0, x.sheet(0, 0, n));
        }
        x.sheet(1, 16, 1);
        due("another one isn't", 1, x.load(1));
    }

    private static void write() {
        SoakTub x = eightStones();
        x.sheet(0, 32, 8);
        for (int i = 0; i < 8; i++) {
            due("written", 1, x.write(0, i, 990 + i));
        }
        due("loaded", 8, x.load(0));
        for (int i = 0; i < 8; i++) {
            due("number " + i, 990 + i, x.of(i, HOLDS));
        }
        due("one alone becomes another", 1, x.write(0, 7, 0));
        due("loaded again", 8, x.load(0));
        due("number 6", 996, x.of(6, HOLDS));
        due("number 7", 0, x.of(7, HOLDS));
    }

    private static SoakTub sheetsOfEight() {
        SoakTub x = eightStones();
        x.sheet(0, 16, 8);
        x.sheet(1, 16, 40);
        for (int i = 0; i < 8; i++) {
            x.write(0, i, i + 1);
        }
        return x;
    }

    private static void loaded(String what, SoakTub x, int s, int... want) {
        x.load(s);
        for (int i = 0; i < want.length; i++) {
            due(what + ", number " + i, want[i], x.of(i, HOLDS));
        }
    }

    private static void copy() {
        SoakTub x = sheetsOfEight();
        due("none", 0, x.copy(0, 0, 1, 0, 0));
        due("none from the end", 0, x.copy(0, 8, 1, 40, 0));
        loaded("copy of none", x, 1, 0, 0, 0, 0, 0, 0, 0, 0);
        due("the last to the first", 1, x.copy(0, 7, 1, 0, 1));
        loaded("the last to the first", x, 1, 8, 0, 0, 0, 0, 0, 0, 0);
        due("the first to the last", 1, x.copy(0, 0, 1, 39, 1));
        due("and back from there", 1, x.copy(1, 39, 1, 1, 1));
        loaded("the first to the last and back", x, 1, 8, 1, 0, 0, 0, 0, 0, 0);
        due("all", 8, x.copy(0, 0, 1, 0, 8));
        loaded("all", x, 1, 1, 2, 3, 4, 5, 6, 7, 8);
        due("all to the end", 8, x.copy(0, 0, 1, 32, 8));
        due("all of 40 onto themselves", 40, x.copy(1, 0, 1, 0, 40));
        due("39 of them", 39, x.copy(1, 0, 1, 1, 39));
        loaded("39 of them", x, 1, 1, 1, 2, 3, 4, 5, 6, 7);
        SoakTub up = sheetsOfEight();
        due("onto itself, up", 7, up.copy(0, 0, 0, 1, 7));
        loaded("as they all were", up, 0, 1, 1, 2, 3, 4, 5, 6, 7);
        SoakTub down = sheetsOfEight();
        due("onto itself, down", 7, down.copy(0, 1, 0, 0, 7));
        loaded("as they all were", down, 0, 2, 3, 4, 5, 6, 7, 8, 8);
        SoakTub empty = new SoakTub();
        empty.sheet(0, 8, 0);
        empty.sheet(3, 8, 0);
        due("between two empty ones", 0, empty.copy(0, 0, 3, 0, 0));
        due("one of an empty one", BEYOND, empty.copy(0, 0, 3, 0, 1));
    }

    private static void load() {
        SoakTub none = new SoakTub();
        none.sheet(0, 8, 3);
        due("for no things", 0, none.load(0));
        due("of no numbers", 0, none.sheet(1, 8, 0) + none.load(1));
        SoakTub x = eightStones();
        x.sheet(0, 16, 40);
        due("for each thing", 8, x.load(0));
        for (int end : new int[] {-1, 1000, 32767, -32768}) {
            for (int at = 0; at < 8; at++) {
                x.sheet(0, 16, 8);
                x.write(0, at, end);
                due(end + " at " + at, at, x.load(0));
            }
        }
        SoakTub y = tub("stone;stone;stone");
        y.sheet(0, 16, 3);
        y.write(0, 0, 999);
        y.write(0, 1, 1000);
        y.write(0, 2, 5);
        due("till 1000", 1, y.load(0));
        int[] holds = {999, 60, 60};
        for (int t = 0; t < 3; t++) {
            due("thing " + t + " holds", holds[t], y.of(t, HOLDS));
        }
        y.sheet(0, 16, 2);
        due("two numbers for three things", 2, y.load(0));
        due("the third holds", 60, y.of(2, HOLDS));
        due("the second holds 0", 0, y.of(1, HOLDS));
    }

    private static void judge() {
        SoakTub x = new SoakTub();
        for (int n = 0; n <= 8; n++) {
            x.sheet(0, 8, n);
            due("so many layers of nothing", 0, x.judge(0));
        }
        for (int n = 9; n <= 40; n++) {
            x.sheet(0, 8, n);
            due("there is no layer 8", 9, x.judge(0));
        }
        x.sheet(0, 16, 8);
        for (int layer = 7; layer >= 0; layer--) {
            x.dye(layer, layer % 3, 999);
            due("the first that isn't so", layer + 1, x.judge(0));
        }
        for (int layer = 0; layer < 8; layer++) {
            x.dye(layer, (layer + 1) % 3, 999);
            x.dye(layer, (layer + 2) % 3, 999);
            x.write(0, layer, 2997);
            due("the next that isn't so", layer == 7 ? 0 : layer + 2, x.judge(0));
        }
        x.write(0, 3, -1);
        due("-1 isn't any here", 4, x.judge(0));
    }

    private static void image() {
        SoakTub x = new SoakTub();
        due("an image of nothing", 1, x.image());
        read(x, "veil in 3 of 1 holds 9;dye 0 0 9;lye 9");
        x.hold(0, 0);
        x.seed(9);
        x.go(9);
        due("undone: year", 0, x.undo());
        int[] counts = {0, 0, 0, 0, 0, 0, 1, 0};
        for (int what = 0; what < counts.length; what++) {
            due("undone: count " + what, counts[what], x.count(what));
        }
        due("undone: lye", 1, x.lye(1));
        due("undone: spot", MISSING, x.as(0, 0));
        due("a new one", 0, x.thing(5, 7));
        int[] first = {5, 7, 0, 60, 0, 0};
        for (int what = 0; what < first.length; what++) {
            due("has nothing of the old one: " + what, first[what], x.of(0, what));
        }
        x.go(60);
        due("an image of year 60", 1, x.image());
        x.go(1);
        due("undone to 60", 60, x.undo());
        due("undone twice", 60, x.undo());
        x.feed(0x6C7965, 3);
        x.sheet(0, 8, 1);
        due("undone, but", 60, x.undo());
        due("not the tape", 3, x.count(5));
        due("not the sheets", 0, x.judge(0));
        due("torn", 1, x.tear());
        due("torn again", 0, x.tear());
        due("nothing is kept", NONE, x.undo());
        due("an image again", 1, x.image());
        due("it is kept", 60, x.undo());
        due("it is torn", 1, x.tear());
    }

    private static void undoOfNothing() {
        SoakTub x = tub("stone in 7 holds 5;dye 7 0 3");
        due("nothing is kept", NONE, x.undo());
        due("the stone is there", 5, x.of(0, HOLDS));
        due("the dye is there", 3, x.layer(7, 0));
        due("undo of nothing keeps nothing", 0, x.tear());
        SoakTub full = eightStones();
        full.image();
        full.change(7, HOLDS, 0);
        full.undo();
        due("all eight are kept", 8 * 60, full.count(2));
        due("still full", FULL, full.thing(0, 0));
    }

    private static void count() {
        SoakTub x = eightStones();
        for (int i = 0; i < 30; i++) {
            x.feed(0, 4);
        }
        for (int spot = 0; spot < 10; spot++) {
            x.hold(spot, 0);
        }
        x.go(60);
        x.seed(Integer.MIN_VALUE);
        int[] want = {60, 8, 480, 0, 0, 120, Integer.MIN_VALUE, 10};
        for (int what = 0; what < want.length; what++) {
            due("count " + what, want[what], x.count(what));
        }
    }

    private static void status() {
        SoakTub x = new SoakTub();
        for (int i = 1; i <= 30; i++) {
            due("beyond", BEYOND, x.status(7));
            due("counted from then on", i, x.status(0));
            due("among all", i, x.status(-1));
        }
        for (int which = 1; which <= 6; which++) {
            due("none of another", 0, x.status(which));
        }
        x.undo();
        x.undo();
        due("two of NONE", 2, x.status(3));
        due("all", 32, x.status(-1));
    }
}
