import java.util.ArrayList;
import java.util.List;

/**
 * Each finding of each act: the first values that are refused on each side, which finding comes first, and that
 * nothing changed but what status() tells. Two tubs get the same calls, but one of them also the refused one: then
 * both must tell the same.
 */
public final class RefusalsTest {
    private static final int BEYOND = -1000001;
    private static final int FULL = -1000002;
    private static final int KIND = -1000003;
    private static final int NONE = -1000004;
    private static final int MISSING = -1000006;
    private static final int SIZE = -1000007;
    private static final int FINDINGS = 7;

    /** The things, sheets and spots of busy(). */
    private static final int THINGS = 7;
    private static final int THING = 1;
    private static final int STONE = 2;
    private static final int MEDAL = 4;
    private static final int MISSING_SHEET = 3;
    private static final int EMPTY_SPOT = 1;
    private static final int SPOT_OF_DANCE = 0;

    private static int wrong = 0;

    private interface Act {
        long on(SoakTub x);
    }

    private static void due(String what, long want, long got) {
        if (want != got) {
            wrong++;
            System.out.println(what + ": answered " + got + ", due is " + want);
        }
    }

    public static void main(String[] args) {
        layers();
        things();
        changes();
        years();
        whatWillBe();
        whatToDo();
        whatItHeld();
        sticks();
        texts();
        spots();
        sheets();
        copies();
        loadAndJudge();
        images();
        faults();
        questionsChangeNothing();
        undoTakesNoFindingBack();
        System.out.println(wrong == 0 ? "all answers are as due" : wrong + " answers are not as due");
        if (wrong != 0) {
            System.exit(1);
        }
    }

    /** The first values beyond two bounds, and the last ones that there are. */
    private static int[] outside(int least, int most) {
        return new int[] {least - 1, most + 1, Integer.MIN_VALUE, Integer.MAX_VALUE};
    }

    // ---- two tubs alike

    private static void feed(SoakTub x, String text) {
        for (int i = 0; i < text.length(); i += 4) {
            int n = Math.min(4, text.length() - i);
            int bytes = 0;
            for (int k = i; k < i + n; k++) {
                bytes = bytes << 8 | text.charAt(k);
            }
            x.feed(bytes, n);
        }
    }

    private static void read(SoakTub x, String text) {
        feed(x, text);
        due("items of '" + text + "'", text.split(";").length, x.text());
    }

    private static void fill(SoakTub x, int s, int bits, int... numbers) {
        x.sheet(s, bits, numbers.length);
        for (int i = 0; i < numbers.length; i++) {
            x.write(s, i, numbers[i]);
        }
    }

    /** A tub with something of all that there can be, an image of another state, and findings of five sorts. */
    private static SoakTub busy() {
        SoakTub x = new SoakTub();
        read(x, "veil in 5 holds 33;thing in 2 of 1;stone in 6;lye 3;dye 1 0 80;dye 4 2 7;dye 7 1 300");
        x.hold(2, 1);
        x.seed(99);
        x.go(3);
        x.image();
        read(x, "dance in 4 of 2 holds 900;medal in 1;glove in 7 of 1 holds 500;dress in 3;dye 0 2 44;dye 6 1 9;lye 6");
        x.go(2);
        x.seed(-77);
        x.hold(SPOT_OF_DANCE, 3);
        x.hold(7, 6);
        x.change(1, 4, 7);
        x.change(3, 5, 4);
        fill(x, 0, 16, 5, 6, 700);
        fill(x, 1, 8, 9, 10);
        fill(x, 2, 16, 11);
        x.dye(8, 0, 0);
        x.as(SPOT_OF_DANCE, 5);
        x.as(EMPTY_SPOT, 5);
        x.sheet(0, 8, -1);
        x.seen(STONE);
        feed(x, "lye 2;veil");
        return x;
    }

    /** All that can be told of a tub, and what becomes of it by reading sheets, image and tape. */
    private static List<String> look(SoakTub x) {
        List<String> told = new ArrayList<>();
        lookAtTub(x, told);
        for (int s = 0; s < 4; s++) {
            told.add("load(" + s + ") = " + x.load(s));
            for (int t = 0; t < 4; t++) {
                told.add("number " + t + " of sheet " + s + " = " + x.of(t, 3));
            }
            for (int t = 0; t < s; t++) {
                told.add("as many bits in " + s + " and " + t + " = " + x.copy(s, 0, t, 0, 0));
            }
        }
        for (int s = 0; s < 4; s++) {
            told.add("write = " + x.write(s, 0, 0x10175));
            told.add("load again = " + x.load(s));
            told.add("lowest bits = " + x.of(0, 3));
        }
        told.add("undo() = " + x.undo());
        lookAtTub(x, told);
        told.add("text() = " + x.text());
        told.add("things by it = " + x.count(1));
        told.add("lye by it = " + x.lye(0));
        told.add("tear() = " + x.tear());
        return told;
    }

    private static void lookAtTub(SoakTub x, List<String> told) {
        for (int what = 0; what < 8; what++) {
            told.add("count(" + what + ") = " + x.count(what));
        }
        for (int layer = 0; layer < 8; layer++) {
            for (int what = 0; what < 5; what++) {
                told.add("layer(" + layer + ", " + what + ") = " + x.layer(layer, what));
            }
        }
        for (int t = 0; t < 8; t++) {
            for (int what = 0; what < 6; what++) {
                told.add("of(" + t + ", " + what + ") = " + x.of(t, what));
            }
        }
        for (int spot = 0; spot < 10; spot++) {
            told.add("as(" + spot + ", 0) = " + x.as(spot, 0));
        }
        int lye = x.lye(0);
        x.lye(lye);
        told.add("lye = " + lye);
    }

    private static void alike(String what, SoakTub x, SoakTub y) {
        List<String> want = look(x);
        List<String> got = look(y);
        for (int i = 0; i < want.size(); i++) {
            if (!want.get(i).equals(got.get(i))) {
                wrong++;
                System.out.println(what + " changed what is told: " + got.get(i) + ", due is " + want.get(i));
                return;
            }
        }
    }

    private static void refused(String what, int finding, Act act) {
        refusedBehind(x -> 0, what, finding, act);
    }

    private static void refusedBehind(Act before, String what, int finding, Act act) {
        SoakTub x = busy();
        SoakTub y = busy();
        before.on(x);
        before.on(y);
        due(what, finding, act.on(y));
        for (int which = -1; which < FINDINGS; which++) {
            int more = which == -1 || which == BEYOND - finding ? 1 : 0;
            due(what + ": status(" + which + ")", x.status(which) + more, y.status(which));
        }
        alike(what, x, y);
    }

    private static void changesNothing(String what, Act act) {
        changesNothingBehind(x -> 0, what, act);
    }

    private static void changesNothingBehind(Act before, String what, Act act) {
        SoakTub x = busy();
        SoakTub y = busy();
        before.on(x);
        before.on(y);
        long answer = act.on(y);
        due(what + " is answered", 1, answer < -1000007 || answer > -1000001 ? 1 : 0);
        for (int which = -1; which < FINDINGS; which++) {
            due(what + ": status(" + which + ")", x.status(which), y.status(which));
        }
        alike(what, x, y);
    }

    // ---- the acts, in their order

    private static void layers() {
        for (int v : outside(0, 7)) {
            refused("dye, layer " + v, BEYOND, x -> x.dye(v, 0, 5));
            refused("layer, layer " + v, BEYOND, x -> x.layer(v, 3));
            refused("stir, a " + v, BEYOND, x -> x.stir(v, 3));
            refused("stir, b " + v, BEYOND, x -> x.stir(3, v));
        }
        for (int v : outside(0, 2)) {
            refused("dye, colour " + v, BEYOND, x -> x.dye(1, v, 5));
        }
        for (int v : outside(0, 999)) {
            refused("dye, v " + v, BEYOND, x -> x.dye(1, 0, v));
            refused("dye, v of layer 7 " + v, BEYOND, x -> x.dye(7, 2, v));
        }
        for (int v : outside(0, 5)) {
            refused("layer, what " + v, BEYOND, x -> x.layer(1, v));
        }
        for (int v : outside(0, 9)) {
            refused("lye " + v, BEYOND, x -> x.lye(v));
        }
        for (int layer = 0; layer < 8; layer++) {
            int same = layer;
            refused("stir, one and the same " + same, BEYOND, x -> x.stir(same, same));
        }
        refused("stir, one and the same beyond", BEYOND, x -> x.stir(8, 8));
    }

    private static void things() {
        Act eighth = x -> x.thing(2, 2);
        for (int v : outside(0, 6)) {
            refused("thing, kind " + v, BEYOND, x -> x.thing(v, 3));
            refusedBehind(eighth, "thing, kind before FULL " + v, BEYOND, x -> x.thing(v, 3));
        }
        for (int v : outside(0, 7)) {
            refused("thing, layer " + v, BEYOND, x -> x.thing(3, v));
            refusedBehind(eighth, "thing, layer before FULL " + v, BEYOND, x -> x.thing(3, v));
        }
        for (int kind = 0; kind < 7; kind++) {
            int of = kind;
            refusedBehind(eighth, "a 9th thing", FULL, x -> x.thing(of, 7 - of));
        }
        for (int v : outside(0, THINGS - 1)) {
            refused("of, thing " + v, BEYOND, x -> x.of(v, 1));
        }
        for (int v : outside(0, 8)) {
            refused("of, what " + v, BEYOND, x -> x.of(1, v));
        }
        refusedBehind(eighth, "of a 9th thing", BEYOND, x -> x.of(8, 1));
    }

    private static void changes() {
        int[] most = {6, 7, 2, 999, 999, 999};
        for (int what = 0; what < most.length; what++) {
            int of = what;
            for (int v : outside(0, most[what])) {
                refused("change, what " + of + " to " + v, BEYOND, x -> x.change(5, of, v));
            }
            for (int v : outside(0, THINGS - 1)) {
                refused("change, thing " + v, BEYOND, x -> x.change(v, of, 1));
            }
        }
        for (int v : outside(0, 5)) {
            refused("change, what " + v, BEYOND, x -> x.change(5, v, 1));
        }
        refusedBehind(x -> x.thing(0, 0), "change of a 9th thing", BEYOND, x -> x.change(8, 3, 1));
    }

    private static void years() {
        for (int v : outside(1, 60)) {
            refused("go " + v, BEYOND, x -> x.go(v));
        }
        for (int v : outside(0, 6)) {
            refused("now " + v, BEYOND, x -> x.now(v));
        }
    }

    private static void whatWillBe() {
        for (int v : outside(0, THINGS - 1)) {
            refused("ahead, thing " + v, BEYOND, x -> x.ahead(v, 1, 1));
            refused("seen, thing " + v, BEYOND, x -> x.seen(v));
            refused("when, thing " + v, BEYOND, x -> x.when(v, 0));
            refused("treaty, a " + v, BEYOND, x -> x.treaty(v, 0));
            refused("treaty, b " + v, BEYOND, x -> x.treaty(0, v));
        }
        for (int v : outside(1, 5)) {
            refused("ahead, what " + v, BEYOND, x -> x.ahead(0, v, 1));
        }
        for (int v : outside(0, 100)) {
            refused("ahead, n " + v, BEYOND, x -> x.ahead(0, 1, v));
            refused("dyed, n " + v, BEYOND, x -> x.dyed(0, 0, v));
        }
        for (int v : outside(0, 7)) {
            refused("dyed, layer " + v, BEYOND, x -> x.dyed(v, 0, 1));
            refused("murky, layer " + v, BEYOND, x -> x.murky(v));
        }
        for (int v : outside(0, 2)) {
            refused("dyed, colour " + v, BEYOND, x -> x.dyed(0, v, 1));
            refused("when, colour " + v, BEYOND, x -> x.when(0, v));
        }
        for (int thing = 0; thing < THINGS; thing++) {
            int same = thing;
            refused("treaty, one and the same " + same, BEYOND, x -> x.treaty(same, same));
        }
        refused("a stone isn't seen", NONE, x -> x.seen(STONE));
        refused("a stone doesn't turn", NONE, x -> x.when(STONE, 2));
        refusedBehind(RefusalsTest::allClear, "murky never", NONE, x -> x.murky(7));
        refusedBehind(x -> x.change(MEDAL, 2, 1), "a treaty of two stones of two colours", NONE,
            x -> x.treaty(STONE, MEDAL));
    }

    /** Nothing is in the tub's layers, and nothing will be. */
    private static long allClear(SoakTub x) {
        for (int t = 0; t < THINGS; t++) {
            x.change(t, 3, 0);
        }
        for (int i = 0; i < 24; i++) {
            x.dye(i / 3, i % 3, 0);
        }
        return x.now(1);
    }

    private static long oneMedalBleeds(SoakTub x) {
        allClear(x);
        x.change(MEDAL, 1, 7);
        return x.change(MEDAL, 3, 20);
    }

    private static void whatToDo() {
        for (int v : outside(0, THINGS - 1)) {
            refused("stirFor, thing " + v, BEYOND, x -> x.stirFor(v, 1));
            refused("put, thing " + v, BEYOND, x -> x.put(v, 1));
            refused("kindFor, thing " + v, BEYOND, x -> x.kindFor(v, 1));
            refused("holdsFor, thing " + v, BEYOND, x -> x.holdsFor(v, 1));
        }
        for (int v : outside(0, 30)) {
            refused("stirFor, n " + v, BEYOND, x -> x.stirFor(0, v));
            refused("put, n " + v, BEYOND, x -> x.put(0, v));
        }
        for (int v : outside(0, 40)) {
            refused("kindFor, n " + v, BEYOND, x -> x.kindFor(0, v));
            refused("holdsFor, n " + v, BEYOND, x -> x.holdsFor(0, v));
            refused("lyeFor, n " + v, BEYOND, x -> x.lyeFor(0, v));
        }
        for (int v : outside(0, 20)) {
            refused("out, n " + v, BEYOND, x -> x.out(0, v));
        }
        for (int v : outside(0, 7)) {
            refused("lyeFor, layer " + v, BEYOND, x -> x.lyeFor(v, 1));
            refused("out, layer " + v, BEYOND, x -> x.out(v, 1));
        }
        refusedBehind(RefusalsTest::thingMustTurn, "it turns, whatever it holds", NONE, x -> x.holdsFor(THING, 1));
        refused("lyeFor, it isn't clear now", NONE, x -> x.lyeFor(7, 0));
        refused("lyeFor, it won't be clear", NONE, x -> x.lyeFor(7, 40));
        refused("out, it isn't clear now", NONE, x -> x.out(7, 0));
        refused("out, it won't be clear", NONE, x -> x.out(7, 20));
    }

    private static long thingMustTurn(SoakTub x) {
        x.change(THING, 1, 7);
        x.change(THING, 2, 2);
        x.dye(7, 2, 0);
        return x.dye(7, 0, 999);
    }

    private static void whatItHeld() {
        for (int v : outside(0, 3)) {
            refused("fits, sheet " + v, BEYOND, x -> x.fits(v, 0, 0));
            refused("held, sheet " + v, BEYOND, x -> x.held(v, 0, 0));
            refused("kinds, sheet " + v, BEYOND, x -> x.kinds(v, 0));
        }
        for (int v : outside(0, THINGS - 1)) {
            refused("fits, thing " + v, BEYOND, x -> x.fits(0, v, 0));
            refused("held, thing " + v, BEYOND, x -> x.held(0, v, 0));
            refused("kinds, thing " + v, BEYOND, x -> x.kinds(0, v));
            refused("fits, MISSING before thing " + v, MISSING, x -> x.fits(MISSING_SHEET, v, 0));
            refused("held, MISSING before thing " + v, MISSING, x -> x.held(MISSING_SHEET, v, 0));
            refused("kinds, MISSING before thing " + v, MISSING, x -> x.kinds(MISSING_SHEET, v));
        }
        for (int v : outside(0, 2)) {
            refused("fits, colour " + v, BEYOND, x -> x.fits(0, 0, v));
            refused("held, colour " + v, BEYOND, x -> x.held(0, 0, v));
            refused("fits, MISSING before colour " + v, MISSING, x -> x.fits(MISSING_SHEET, 0, v));
            refused("held, MISSING before colour " + v, MISSING, x -> x.held(MISSING_SHEET, 0, v));
        }
        refused("fits, missing", MISSING, x -> x.fits(MISSING_SHEET, 0, 0));
        refused("held, missing", MISSING, x -> x.held(MISSING_SHEET, 0, 0));
        refused("kinds, missing", MISSING, x -> x.kinds(MISSING_SHEET, 0));
        refused("held, none fits", NONE, x -> x.held(0, 0, 0));
    }

    private static void sticks() {
        for (int v : outside(1, 20)) {
            refused("sticks " + v, BEYOND, x -> x.sticks(v));
        }
        for (int v : outside(0, 20)) {
            refused("odds, n " + v, BEYOND, x -> x.odds(v, 0));
        }
        for (int v : outside(0, 1)) {
            refused("odds, what " + v, BEYOND, x -> x.odds(3, v));
        }
    }

    private static void texts() {
        Act fill = x -> {
            due("bytes on the tape", 10, x.count(5));
            for (int i = 0; i < 27; i++) {
                x.feed(0x20202020, 4);
            }
            return x.count(5);
        };
        for (int v : outside(1, 4)) {
            refused("feed, n " + v, BEYOND, x -> x.feed(0x20202020, v));
            refusedBehind(fill, "feed, n before FULL " + v, BEYOND, x -> x.feed(0x20202020, v));
        }
        refusedBehind(fill, "feed, one too many", FULL, x -> x.feed(0x20202020, 3));
        refusedBehind(fill, "feed, two too many", FULL, x -> x.feed(0x20202020, 4));
    }

    private static void spots() {
        for (int v : outside(0, 9)) {
            refused("hold, spot " + v, BEYOND, x -> x.hold(v, 0));
            refused("hold nothing, spot " + v, BEYOND, x -> x.hold(v, -1));
            refused("as, spot " + v, BEYOND, x -> x.as(v, 0));
        }
        for (int v : outside(-1, THINGS - 1)) {
            refused("hold, thing " + v, BEYOND, x -> x.hold(SPOT_OF_DANCE, v));
        }
        for (int v : outside(0, 6)) {
            refused("as, kind " + v, BEYOND, x -> x.as(SPOT_OF_DANCE, v));
            refused("as, kind before MISSING " + v, BEYOND, x -> x.as(EMPTY_SPOT, v));
        }
        for (int kind = 0; kind < 7; kind++) {
            int of = kind;
            refused("as, it holds nothing", MISSING, x -> x.as(EMPTY_SPOT, of));
        }
        for (int kind : new int[] {1, 5, 6}) {
            refused("a dance is no " + kind, KIND, x -> x.as(SPOT_OF_DANCE, kind));
        }
    }

    private static void sheets() {
        for (int v : outside(0, 3)) {
            refused("sheet, s " + v, BEYOND, x -> x.sheet(v, 8, 3));
            refused("sheet, s before SIZE " + v, BEYOND, x -> x.sheet(v, 8, -1));
            refused("write, s " + v, BEYOND, x -> x.write(v, 0, 3));
        }
        for (int bits : new int[] {-32, -16, -8, -1, 1, 7, 9, 15, 17, 24, 31, 33, 64, Integer.MIN_VALUE, Integer.MAX_VALUE}) {
            refused("sheet, bits " + bits, BEYOND, x -> x.sheet(0, bits, 3));
            refused("sheet, bits before SIZE " + bits, BEYOND, x -> x.sheet(0, bits, -1));
        }
        for (int bits : new int[] {0, 8, 16, 32}) {
            refused("sheet, n -1 with bits " + bits, SIZE, x -> x.sheet(0, bits, -1));
            refused("sheet, n least with bits " + bits, SIZE, x -> x.sheet(0, bits, Integer.MIN_VALUE));
            refused("sheet, n 41 with bits " + bits, BEYOND, x -> x.sheet(0, bits, 41));
            refused("sheet, n most with bits " + bits, BEYOND, x -> x.sheet(0, bits, Integer.MAX_VALUE));
        }
        for (int v : outside(0, 2)) {
            refused("write, i " + v, BEYOND, x -> x.write(0, v, 3));
            refused("write, MISSING before i " + v, MISSING, x -> x.write(MISSING_SHEET, v, 3));
        }
        refused("write, missing", MISSING, x -> x.write(MISSING_SHEET, 0, 3));
        refusedBehind(x -> x.sheet(1, 16, 0), "write, a sheet of none", BEYOND, x -> x.write(1, 0, 3));
        refusedBehind(x -> x.sheet(1, 32, 40), "write, i 40 of 40", BEYOND, x -> x.write(1, 40, 3));
    }

    /** Sheets 0 and 2 are of 16 bits, 3 numbers and 1; sheet 1 is of 8 bits, 2 numbers. */
    private static void copies() {
        for (int v : outside(0, 3)) {
            refused("copy, s " + v, BEYOND, x -> x.copy(v, 0, 0, 0, 1));
            refused("copy, t " + v, BEYOND, x -> x.copy(0, 0, v, 0, 1));
            refused("copy, s before MISSING " + v, BEYOND, x -> x.copy(v, 0, MISSING_SHEET, 0, 1));
            refused("copy, t before MISSING " + v, BEYOND, x -> x.copy(MISSING_SHEET, 0, v, 0, 1));
        }
        for (int n : new int[] {0, 1, -1}) {
            refused("copy, s is missing, n " + n, MISSING, x -> x.copy(MISSING_SHEET, 0, 0, 0, n));
            refused("copy, t is missing, n " + n, MISSING, x -> x.copy(0, 0, MISSING_SHEET, 0, n));
            refused("copy, both are missing, n " + n, MISSING, x -> x.copy(MISSING_SHEET, 0, MISSING_SHEET, 0, n));
            refused("copy, 16 bits to 8, n " + n, KIND, x -> x.copy(0, 0, 1, 0, n));
            refused("copy, 8 bits to 16, n " + n, KIND, x -> x.copy(1, 0, 0, 0, n));
        }
        int[][] fromToN = {
            {0, 0, 2}, {0, 1, 1}, {3, 0, 1}, {2, 0, 2}, {4, 0, 0}, {0, 2, 0}, {-1, 0, 1}, {0, -1, 1}, {0, 0, -1}, {-1, 0, 0},
            {0, -1, 0}, {1, 1, -1}, {Integer.MIN_VALUE, 0, 0}, {0, Integer.MIN_VALUE, 0}, {0, 0, Integer.MIN_VALUE},
            {Integer.MAX_VALUE, 0, 1}, {0, Integer.MAX_VALUE, 1}, {0, 0, Integer.MAX_VALUE}, {1, 1, Integer.MAX_VALUE},
            {Integer.MAX_VALUE, 0, Integer.MAX_VALUE}, {0, Integer.MAX_VALUE, Integer.MAX_VALUE},
            {Integer.MAX_VALUE, Integer.MAX_VALUE, 2}, {Integer.MIN_VALUE, 0, Integer.MIN_VALUE}};
        for (int[] row : fromToN) {
            String what = row[0] + " to " + row[1] + ", n " + row[2];
            refused("copy, " + what, BEYOND, x -> x.copy(0, row[0], 2, row[1], row[2]));
            refused("copy the other way, " + what, BEYOND, x -> x.copy(2, row[1], 0, row[0], row[2]));
        }
        refused("copy onto itself, from 0 to 1, 3 of 3", BEYOND, x -> x.copy(0, 0, 0, 1, 3));
        refused("copy onto itself, from 1 to 0, 3 of 3", BEYOND, x -> x.copy(0, 1, 0, 0, 3));
        refused("copy onto itself, 4 of 3", BEYOND, x -> x.copy(0, 0, 0, 0, 4));
    }

    private static void loadAndJudge() {
        for (int v : outside(0, 3)) {
            refused("load, s " + v, BEYOND, x -> x.load(v));
            refused("judge, s " + v, BEYOND, x -> x.judge(v));
        }
        refused("load, missing", MISSING, x -> x.load(MISSING_SHEET));
        refused("judge, missing", MISSING, x -> x.judge(MISSING_SHEET));
        refusedBehind(x -> x.sheet(0, 0, 3), "load, missing again", MISSING, x -> x.load(0));
        refusedBehind(x -> x.sheet(0, 0, 3), "judge, missing again", MISSING, x -> x.judge(0));
    }

    private static void images() {
        refusedBehind(SoakTub::tear, "undo, nothing is kept", NONE, x -> x.undo());
        for (int v : outside(0, 7)) {
            refused("count " + v, BEYOND, x -> x.count(v));
        }
        for (int v : outside(-1, 6)) {
            refused("status " + v, BEYOND, x -> x.status(v));
        }
    }

    /** A text with a fault is no finding: nothing changes but that the tape is empty. */
    private static void faults() {
        String[] more = {"s", ";", ";lye 10", ";veil;veil", ";dye 0 0 1000", ";stir 0 8", " in 8", " of 0 holds 1000", "?",
            ";stone of 2 holds 1;stir 1 2;dye 1 1 1;lye 0;x", ";dye 1 1", "in 3", " in", ";stir 1"};
        for (String text : more) {
            SoakTub x = busy();
            SoakTub y = busy();
            feed(x, text);
            feed(y, text);
            x.wipe();
            due("the text with '" + text + "' has a fault", 1, y.text() < 0 ? 1 : 0);
            for (int which = -1; which < FINDINGS; which++) {
                due("no finding: status(" + which + ")", x.status(which), y.status(which));
            }
            alike("the text with '" + text + "'", x, y);
        }
    }

    private static void questionsChangeNothing() {
        changesNothing("layer", x -> x.layer(0, 5));
        changesNothing("of", x -> x.of(3, 6));
        changesNothing("now", x -> x.now(6));
        changesNothing("ahead", x -> x.ahead(0, 3, 100));
        changesNothing("dyed", x -> x.dyed(0, 0, 100));
        changesNothingBehind(x -> x.change(0, 1, 7), "seen", x -> x.seen(0));
        changesNothing("when", x -> x.when(0, 0));
        changesNothing("murky", x -> x.murky(1));
        changesNothing("treaty", x -> x.treaty(STONE, MEDAL));
        changesNothing("stirFor", x -> x.stirFor(0, 30));
        changesNothing("put", x -> x.put(0, 30));
        changesNothing("kindFor", x -> x.kindFor(0, 40));
        changesNothing("holdsFor", x -> x.holdsFor(0, 0));
        changesNothingBehind(RefusalsTest::allClear, "lyeFor", x -> x.lyeFor(5, 40));
        changesNothingBehind(RefusalsTest::allClear, "out", x -> x.out(5, 20));
        changesNothingBehind(RefusalsTest::oneMedalBleeds, "out of one", x -> x.out(7, 20));
        changesNothing("fits", x -> x.fits(0, 0, 0));
        changesNothingBehind(x -> x.sheet(0, 8, 0), "held", x -> x.held(0, 0, 0));
        changesNothing("kinds", x -> x.kinds(0, 0));
        changesNothing("odds", x -> x.odds(20, 1));
        changesNothing("as", x -> x.as(SPOT_OF_DANCE, 2));
        changesNothing("judge", x -> x.judge(0));
        changesNothing("count", x -> x.count(7));
        changesNothing("status", x -> x.status(0));
        changesNothing("copy of none", x -> x.copy(0, 3, 2, 1, 0));
        changesNothing("seed with what it is", x -> x.seed(-77));
        changesNothing("hold what it holds", x -> x.hold(SPOT_OF_DANCE, 3));
    }

    private static void undoTakesNoFindingBack() {
        SoakTub x = busy();
        due("findings before the image", 5, x.status(-1));
        x.image();
        x.dye(8, 0, 0);
        x.as(EMPTY_SPOT, 0);
        x.undo();
        due("findings behind the undo", 7, x.status(-1));
        due("BEYOND", 2, x.status(0));
        due("MISSING", 2, x.status(5));
    }
}
