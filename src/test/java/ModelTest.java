import java.math.BigInteger;
import java.util.ArrayList;
import java.util.List;
import java.util.Random;
import java.util.function.Predicate;
import java.util.regex.Matcher;
import java.util.regex.Pattern;

/** Long runs of chance calls, answered by SoakTub and by a second, slow program of another make. */
public final class ModelTest {
    private static final int RUNS = 400;
    private static final int CALLS = 512;

    public static void main(String[] args) {
        int wrong = 0;
        for (int run = 0; run < RUNS && wrong < 5; run++) {
            if (!runAlike(run)) {
                wrong++;
            }
        }
        System.out.println(wrong == 0 ? "all answers are as due" : wrong + " runs are not as due");
        if (wrong != 0) {
            System.exit(1);
        }
    }

    private static boolean runAlike(int run) {
        Random chance = new Random(run);
        SoakTub real = new SoakTub();
        Model model = new Model();
        List<String> calls = new ArrayList<>();
        List<Call> next = new ArrayList<>();
        for (int i = 0; i < CALLS; i++) {
            if (next.isEmpty() && chance.nextInt(60) == 0) {
                next.addAll(Call.feeds(Writing.text(chance)));
            }
            Call call = next.isEmpty() ? Call.any(chance, run) : next.remove(0);
            long want = call.answeredBy(model);
            long got = call.answeredBy(real);
            calls.add(call + " -> " + got);
            if (want != got) {
                System.out.println("run " + run + ": due is " + want + " behind\n" + String.join("\n", calls));
                return false;
            }
        }
        return true;
    }

    /** A call by its name's place in the face, with arguments. */
    private record Call(int method, int[] a) {
        private static final String[] NAMES = {
            "dye", "layer", "lye", "stir", "thing", "of", "change", "go", "now", "ahead", "dyed", "seen", "when",
            "murky", "treaty", "stirFor", "put", "kindFor", "holdsFor", "lyeFor", "out", "fits", "held", "kinds",
            "sticks", "odds", "seed", "feed", "wipe", "text", "hold", "as", "sheet", "write", "copy", "load",
            "judge", "image", "undo", "tear", "count", "status"};
        /** What each argument is: its greatest value that isn't wrong. */
        private static final int[][] MOST = {
            {7, 2, 999}, {7, 5}, {9}, {7, 7}, {6, 7}, {7, 8}, {7, 5, 999}, {60}, {6}, {7, 5, 100}, {7, 2, 100},
            {7}, {7, 2}, {7}, {7, 7}, {7, 30}, {7, 30}, {7, 40}, {7, 40}, {7, 40}, {7, 20}, {3, 7, 2}, {3, 7, 2},
            {3, 7}, {20}, {20, 1}, {1 << 30}, {-1, 4}, {}, {}, {9, 7}, {9, 6}, {3, 32, 40}, {3, 39, 40},
            {3, 9, 3, 9, 9}, {3}, {3}, {}, {}, {}, {7}, {6}};

        static Call any(Random chance, int run) {
            int method = chance.nextInt(NAMES.length);
            int again = chance.nextInt(4);
            if (again == 0) {
                method = new int[] {0, 4, 6, 7, 33, 27, 27, 27, 29, 32, 21, 22, 23}[chance.nextInt(13)];
            }
            if (method == 7 && run % 3 == 0 && chance.nextInt(3) != 0) {
                method = 0;
            }
            int[] a = new int[MOST[method].length];
            for (int i = 0; i < a.length; i++) {
                a[i] = argument(chance, MOST[method][i], run);
            }
            if (method == 32 && chance.nextInt(5) != 0) {
                a[1] = 8 * new int[] {0, 1, 2, 4, 2, 2}[chance.nextInt(6)];
                a[2] = chance.nextInt(6);
            }
            if (method == 33 && chance.nextInt(5) != 0) {
                a[1] = chance.nextInt(5);
                a[2] = chance.nextBoolean() ? -1 : chance.nextInt(12);
            }
            if (method == 27 && chance.nextInt(8) != 0) {
                return feed(chance);
            }
            return new Call(method, a);
        }

        private static int argument(Random chance, int most, int run) {
            switch (chance.nextInt(40)) {
                case 0:
                    return -1;
                case 1:
                    return most + 1;
                case 2:
                    return chance.nextInt();
                case 3:
                    return chance.nextBoolean() ? Integer.MAX_VALUE : Integer.MIN_VALUE;
                case 4:
                    return most;
                default:
                    int bound = most < 0 ? 1 << 30 : most == 999 && chance.nextInt(3) != 0 ? 60 : most + 1;
                    return chance.nextInt(run % 2 == 0 && most == 7 ? 5 : bound);
            }
        }

        private static final String[] PIECES = {
            "lye ", "3;  ", " 12 ", "in 1", "in 0", "of 2", "of 1", ";   ", "veil", "1 2;", "0 1 ", "9;", "7", ";", " ",
            "lye4", "hold", "s 40", "dan", "ce", "stir", "dye ", "x", "ston", "e", "glov", "e ", "meda", "l", "dres",
            "s", "thin", "g", "1000", "0007"};

        /** The tape is wiped, gets a text, and is read. */
        static List<Call> feeds(String text) {
            List<Call> calls = new ArrayList<>();
            calls.add(new Call(28, new int[0]));
            for (int i = 0; i < text.length(); i += 4) {
                int end = Math.min(i + 4, text.length());
                int bytes = 0;
                for (int k = i; k < end; k++) {
                    bytes = bytes << 8 | text.charAt(k);
                }
                calls.add(new Call(27, new int[] {bytes, end - i}));
            }
            calls.add(new Call(29, new int[0]));
            return calls;
        }

        private static Call feed(Random chance) {
            String piece = PIECES[chance.nextInt(PIECES.length)];
            int bytes = chance.nextInt(4);
            for (int i = 0; i < piece.length(); i++) {
                bytes = bytes << 8 | piece.charAt(i);
            }
            return new Call(27, new int[] {bytes, piece.length()});
        }

        long answeredBy(SoakTub x) {
            switch (NAMES[method]) {
                case "dye": return x.dye(a[0], a[1], a[2]);
                case "layer": return x.layer(a[0], a[1]);
                case "lye": return x.lye(a[0]);
                case "stir": return x.stir(a[0], a[1]);
                case "thing": return x.thing(a[0], a[1]);
                case "of": return x.of(a[0], a[1]);
                case "change": return x.change(a[0], a[1], a[2]);
                case "go": return x.go(a[0]);
                case "now": return x.now(a[0]);
                case "ahead": return x.ahead(a[0], a[1], a[2]);
                case "dyed": return x.dyed(a[0], a[1], a[2]);
                case "seen": return x.seen(a[0]);
                case "when": return x.when(a[0], a[1]);
                case "murky": return x.murky(a[0]);
                case "treaty": return x.treaty(a[0], a[1]);
                case "stirFor": return x.stirFor(a[0], a[1]);
                case "put": return x.put(a[0], a[1]);
                case "kindFor": return x.kindFor(a[0], a[1]);
                case "holdsFor": return x.holdsFor(a[0], a[1]);
                case "lyeFor": return x.lyeFor(a[0], a[1]);
                case "out": return x.out(a[0], a[1]);
                case "fits": return x.fits(a[0], a[1], a[2]);
                case "held": return x.held(a[0], a[1], a[2]);
                case "kinds": return x.kinds(a[0], a[1]);
                case "sticks": return x.sticks(a[0]);
                case "odds": return x.odds(a[0], a[1]);
                case "seed": return x.seed(a[0]);
                case "feed": return x.feed(a[0], a[1]);
                case "wipe": return x.wipe();
                case "text": return x.text();
                case "hold": return x.hold(a[0], a[1]);
                case "as": return x.as(a[0], a[1]);
                case "sheet": return x.sheet(a[0], a[1], a[2]);
                case "write": return x.write(a[0], a[1], a[2]);
                case "copy": return x.copy(a[0], a[1], a[2], a[3], a[4]);
                case "load": return x.load(a[0]);
                case "judge": return x.judge(a[0]);
                case "image": return x.image();
                case "undo": return x.undo();
                case "tear": return x.tear();
                case "count": return x.count(a[0]);
                default: return x.status(a[0]);
            }
        }

        long answeredBy(Model m) {
            long answer = m.answer(NAMES[method], a);
            m.note(NAMES[method], a, answer);
            return answer;
        }

        @Override
        public String toString() {
            StringBuilder text = new StringBuilder(NAMES[method]).append("(");
            for (int i = 0; i < a.length; i++) {
                text.append(i == 0 ? "" : ", ").append(a[i]);
            }
            return text.append(")").toString();
        }
    }

    /** Texts by chance, now and then with a slip. */
    private static final class Writing {
        static String text(Random chance) {
            StringBuilder text = new StringBuilder();
            int items = 1 + chance.nextInt(5);
            for (int i = 0; i < items; i++) {
                text.append(i == 0 ? "" : chance.nextBoolean() ? ";" : " ; ");
                text.append(item(chance));
            }
            if (chance.nextInt(4) == 0) {
                int at = chance.nextInt(text.length());
                text.replace(at, at + 1, String.valueOf("az{`09/: ;-\n\u00e9".charAt(chance.nextInt(13))));
            }
            if (chance.nextInt(6) == 0) {
                text.append("  ");
            }
            return text.length() > 120 ? text.substring(0, 120) : text.toString();
        }

        private static String item(Random chance) {
            switch (chance.nextInt(6)) {
                case 0:
                    return "dye " + upTo(chance, 7) + " " + upTo(chance, 2) + " " + upTo(chance, 999);
                case 1:
                    return "lye" + upTo(chance, 9);
                case 2:
                    return "stir " + upTo(chance, 7) + " " + upTo(chance, 7);
                default:
                    return Reading.KINDS.get(chance.nextInt(7)) + part(chance, " in ", 7) + part(chance, " of", 2)
                        + part(chance, " holds ", 999);
            }
        }

        private static String part(Random chance, String word, int most) {
            return chance.nextBoolean() ? "" : word + upTo(chance, most);
        }

        private static String upTo(Random chance, int most) {
            int v = chance.nextInt(30) == 0 ? most + 1 : chance.nextInt(5) == 0 ? 0 : chance.nextInt(most + 1);
            return chance.nextInt(10) == 0 ? "0" + v : "" + v;
        }
    }

    private abstract static class Garment {
        static Garment of(int kind) {
            switch (kind) {
                case 0: return new Plain();
                case 1: return new Glove();
                case 2: return new Veil();
                case 3: return new Dress();
                case 4: return new Dance();
                case 5: return new Stone();
                default: return new Medal();
            }
        }

        abstract int bleeds(World w, Item i);

        abstract int rises(World w, Item i);

        abstract int fast(World w, Item i);
    }

    private static class Plain extends Garment {
        int bleeds(World w, Item i) { return 4 + w.lye; }

        int rises(World w, Item i) { return 0; }

        int fast(World w, Item i) { return 20; }
    }

    private static final class Glove extends Plain {
        int bleeds(World w, Item i) { return super.bleeds(w, i) + 3; }

        int rises(World w, Item i) { return i.v[4] % 3 == 0 ? 1 : 0; }

        int fast(World w, Item i) { return super.fast(w, i) / 2; }
    }

    private static class Veil extends Plain {
        int bleeds(World w, Item i) { return super.bleeds(w, i) / 2; }

        int rises(World w, Item i) { return 1; }

        int fast(World w, Item i) { return super.fast(w, i) - 15; }
    }

    private static class Dress extends Veil {
        int bleeds(World w, Item i) { return super.bleeds(w, i) + 5; }

        int rises(World w, Item i) { return i.v[3] >= 40 ? 0 - super.rises(w, i) : super.rises(w, i); }

        int fast(World w, Item i) { return super.fast(w, i) + w.lye; }
    }

    private static final class Dance extends Dress {
        int bleeds(World w, Item i) { return super.bleeds(w, i) + Math.min(9, i.v[5]); }

        int rises(World w, Item i) { return super.rises(w, i) + (w.year % 2 == 0 ? 1 : 0); }

        int fast(World w, Item i) { return super.fast(w, i) + 4; }
    }

    private static class Stone extends Plain {
        int bleeds(World w, Item i) { return 0; }

        int rises(World w, Item i) { return -1; }

        int fast(World w, Item i) { return 999; }
    }

    private static final class Medal extends Stone {
        int bleeds(World w, Item i) { return super.bleeds(w, i) + 1; }

        int rises(World w, Item i) { return 2 * super.rises(w, i); }
    }

    /** kind, layer, colour, holds, soaked, seen. */
    private static final class Item {
        int[] v = {0, 0, 0, 60, 0, 0};
        boolean dry;

        Garment kind() { return Garment.of(v[0]); }
    }

    private static final class World {
        int[][] dye = new int[8][3];
        List<Item> items = new ArrayList<>();
        int lye = 1;
        int year;
        int z = 1;
        int[] spots = {-1, -1, -1, -1, -1, -1, -1, -1, -1, -1};

        World twin() {
            World w = new World();
            for (int l = 0; l < 8; l++) {
                w.dye[l] = dye[l].clone();
            }
            for (Item i : items) {
                Item twin = new Item();
                twin.v = i.v.clone();
                w.items.add(twin);
            }
            w.lye = lye;
            w.year = year;
            w.z = z;
            w.spots = spots.clone();
            return w;
        }

        World after(int n) {
            World w = twin();
            for (int i = 0; i < items.size(); i++) {
                w.items.get(i).dry = items.get(i).dry;
            }
            for (int i = 0; i < n; i++) {
                w.year();
            }
            return w;
        }

        void year() {
            for (Item i : items) {
                if (!i.dry) {
                    int b = Math.min(i.v[3], i.kind().bleeds(this, i));
                    i.v[3] -= b;
                    dye[i.v[1]][i.v[2]] = Math.min(999, dye[i.v[1]][i.v[2]] + b);
                }
            }
            int[][] then = new int[8][3];
            for (int l = 0; l < 8; l++) {
                for (int c = 0; c < 3; c++) {
                    int gone = l < 7 ? dye[l][c] / 4 : 0;
                    int come = l > 0 ? dye[l - 1][c] / 4 : 0;
                    then[l][c] = Math.min(999, dye[l][c] - gone + come);
                }
            }
            dye = then;
            for (Item i : items) {
                int[] d = dye[i.v[1]];
                int first = i.v[2] == 0 ? 1 : 0;
                int second = i.v[2] == 2 ? 1 : 2;
                int other = d[second] > d[first] ? second : first;
                if (d[other] > i.kind().fast(this, i) && d[other] > d[i.v[2]]) {
                    i.v[2] = other;
                    i.v[3] = Math.min(999, i.v[3] + 10);
                }
            }
            for (Item i : items) {
                int layer = i.v[1] - i.kind().rises(this, i);
                layer = layer < 0 ? 0 : layer > 7 ? 7 : layer;
                if (i.v[1] > 0 && layer == 0) {
                    i.v[5] = Math.min(999, i.v[5] + 1);
                }
                i.v[1] = layer;
                i.v[4] = Math.min(999, i.v[4] + 1);
            }
            year = Math.min(99999, year + 1);
        }

        void stir(int a, int b) {
            int[] keep = dye[a];
            dye[a] = dye[b];
            dye[b] = keep;
            for (Item i : items) {
                i.v[1] = i.v[1] == a ? b : i.v[1] == b ? a : i.v[1];
            }
        }

        int all(int layer) { return dye[layer][0] + dye[layer][1] + dye[layer][2]; }

        int all() {
            int sum = 0;
            for (int l = 0; l < 8; l++) {
                sum += all(l);
            }
            return sum;
        }

        int sum(int what) { return items.stream().mapToInt(i -> i.v[what]).sum(); }

        int layersThat(Predicate<Integer> p) {
            int set = 0;
            for (int l = 0; l < 8; l++) {
                set += p.test(l) ? 1 << l : 0;
            }
            return set;
        }

        int clear() { return layersThat(l -> all(l) <= 9); }

        int thingsIn(int layer) {
            int set = 0;
            for (int i = 0; i < items.size(); i++) {
                set += items.get(i).v[1] == layer ? 1 << i : 0;
            }
            return set;
        }

        int draw() {
            z = z * 1103515245 + 12345;
            return z >>> 8;
        }
    }

    private static final class Fault extends RuntimeException {
        private static final long serialVersionUID = 1L;
        final int place;

        Fault(int place) {
            this.place = place;
        }
    }

    private static final class Model {
        static final int LOW = -1000001;
        static final int FULL = LOW - 1;
        static final int KIND = LOW - 2;
        static final int NONE = LOW - 3;
        static final int STATE = LOW - 4;
        static final int MISSING = LOW - 5;
        static final int SIZE = LOW - 6;

        World w = new World();
        World kept;
        StringBuilder tape = new StringBuilder();
        int[][] rows = new int[4][];
        int[] bits = new int[4];
        int[] notes = new int[7];

        void note(String name, int[] a, long answer) {
            boolean any = name.equals("seed") || name.equals("count") && a[0] == 6;
            if (!any && answer <= LOW && answer >= SIZE) {
                notes[(int) (LOW - answer)]++;
            }
        }

        boolean in(int v, int least, int most) { return v >= least && v <= most; }

        boolean item(int i) { return in(i, 0, w.items.size() - 1); }

        long answer(String name, int[] a) {
            switch (name) {
                case "dye": case "layer": case "lye": case "stir": case "thing": case "of": case "change":
                    return basics(name, a);
                case "go": case "now": case "ahead": case "dyed":
                    return years(name, a);
                case "seen": case "when": case "murky": case "treaty":
                    return searches(name, a);
                case "stirFor": case "put": case "kindFor": case "holdsFor": case "lyeFor": case "out":
                    return advice(name, a);
                case "fits": case "held": case "kinds":
                    return past(name, a);
                case "sticks": case "odds": case "seed":
                    return sticks(name, a);
                case "feed": case "wipe": case "text":
                    return texts(name, a);
                case "hold": case "as": case "sheet": case "write": case "copy": case "load": case "judge":
                    return rows(name, a);
                default:
                    return images(name, a);
            }
        }

        long basics(String name, int[] a) {
            int was;
            switch (name) {
                case "dye":
                    if (!in(a[0], 0, 7) || !in(a[1], 0, 2) || !in(a[2], 0, 999)) { return LOW; }
                    was = w.dye[a[0]][a[1]];
                    w.dye[a[0]][a[1]] = a[2];
                    return was;
                case "layer":
                    if (!in(a[0], 0, 7) || !in(a[1], 0, 5)) { return LOW; }
                    int[] d = w.dye[a[0]];
                    if (a[1] < 3) { return d[a[1]]; }
                    if (a[1] == 3) { return w.all(a[0]); }
                    if (a[1] == 4) { return w.thingsIn(a[0]); }
                    return d[0] >= d[1] && d[0] >= d[2] ? 0 : d[1] >= d[2] ? 1 : 2;
                case "lye":
                    if (!in(a[0], 0, 9)) { return LOW; }
                    was = w.lye;
                    w.lye = a[0];
                    return was;
                case "stir":
                    if (!in(a[0], 0, 7) || !in(a[1], 0, 7) || a[0] == a[1]) { return LOW; }
                    was = Integer.bitCount(w.thingsIn(a[0])) + Integer.bitCount(w.thingsIn(a[1]));
                    w.stir(a[0], a[1]);
                    return was;
                case "thing":
                    if (!in(a[0], 0, 6) || !in(a[1], 0, 7)) { return LOW; }
                    if (w.items.size() == 8) { return FULL; }
                    Item made = new Item();
                    made.v[0] = a[0];
                    made.v[1] = a[1];
                    w.items.add(made);
                    return w.items.size() - 1;
                case "of":
                    if (!item(a[0]) || !in(a[1], 0, 8)) { return LOW; }
                    Item i = w.items.get(a[0]);
                    if (a[1] == 6) { return i.kind().bleeds(w, i); }
                    if (a[1] == 7) { return i.kind().rises(w, i); }
                    return a[1] == 8 ? i.kind().fast(w, i) : i.v[a[1]];
                default:
                    if (!item(a[0]) || !in(a[1], 0, 5)) { return LOW; }
                    if (!in(a[2], 0, new int[] {6, 7, 2, 999, 999, 999}[a[1]])) { return LOW; }
                    was = w.items.get(a[0]).v[a[1]];
                    w.items.get(a[0]).v[a[1]] = a[2];
                    return was;
            }
        }

        long years(String name, int[] a) {
            switch (name) {
                case "go":
                    if (!in(a[0], 1, 60)) { return LOW; }
                    if (w.year + a[0] > 99999) { return STATE; }
                    w = w.after(a[0]);
                    return w.all();
                case "now":
                    if (!in(a[0], 0, 6)) { return LOW; }
                    int colours = w.items.stream().mapToInt(i -> 1 << i.v[2]).reduce(0, (x, y) -> x | y);
                    return new int[] {w.year, w.all(), w.sum(3), w.clear(), w.thingsIn(0), w.sum(5), colours}[a[0]];
                case "ahead":
                    if (!item(a[0]) || !in(a[1], 1, 5) || !in(a[2], 0, 100)) { return LOW; }
                    return w.after(a[2]).items.get(a[0]).v[a[1]];
                default:
                    if (!in(a[0], 0, 7) || !in(a[1], 0, 2) || !in(a[2], 0, 100)) { return LOW; }
                    return w.after(a[2]).dye[a[0]][a[1]];
            }
        }

        long fewest(int from, Predicate<World> so) {
            World then = w.after(from);
            for (int n = from; n <= 200; n++) {
                if (so.test(then)) {
                    return n;
                }
                then = then.after(1);
            }
            return NONE;
        }

        long searches(String name, int[] a) {
            switch (name) {
                case "seen":
                    if (!item(a[0])) { return LOW; }
                    int was = w.items.get(a[0]).v[5];
                    return fewest(1, t -> t.items.get(a[0]).v[5] > was);
                case "when":
                    if (!item(a[0]) || !in(a[1], 0, 2)) { return LOW; }
                    return fewest(0, t -> t.items.get(a[0]).v[2] == a[1]);
                case "murky":
                    if (!in(a[0], 0, 7)) { return LOW; }
                    return fewest(0, t -> t.all(a[0]) > 9);
                default:
                    if (!item(a[0]) || !item(a[1]) || a[0] == a[1]) { return LOW; }
                    return fewest(0, t -> t.items.get(a[0]).v[1] == t.items.get(a[1]).v[1]
                        && t.items.get(a[0]).v[2] == t.items.get(a[1]).v[2]);
            }
        }

        World changed(int item, int what, int v) {
            World t = w.twin();
            t.items.get(item).v[what] = v;
            return t;
        }

        long advice(String name, int[] a) {
            boolean ofLayer = name.equals("lyeFor") || name.equals("out");
            int most = name.equals("stirFor") || name.equals("put") ? 30 : name.equals("out") ? 20 : 40;
            if (!(ofLayer ? in(a[0], 0, 7) : item(a[0])) || !in(a[1], 0, most)) {
                return LOW;
            }
            long best = NONE;
            int bestScore = Integer.MIN_VALUE;
            int last = new int[] {63, 7, 6, 200, 9, (1 << w.items.size()) - 1}[
                List.of("stirFor", "put", "kindFor", "holdsFor", "lyeFor", "out").indexOf(name)];
            for (int v = 0; v <= last; v++) {
                int score = score(name, a[0], a[1], v);
                if (score > bestScore) {
                    bestScore = score;
                    best = v;
                }
            }
            return best;
        }

        /** The greater the better; MIN_VALUE is none at all. */
        int score(String name, int of, int n, int v) {
            switch (name) {
                case "stirFor":
                    if (v / 8 >= v % 8) { return Integer.MIN_VALUE; }
                    World t = w.twin();
                    t.stir(v / 8, v % 8);
                    return t.after(n).items.get(of).v[5];
                case "put":
                    return changed(of, 1, v).after(n).items.get(of).v[5];
                case "kindFor":
                    return changed(of, 0, v).after(n).items.get(of).v[3];
                case "holdsFor":
                    boolean same = changed(of, 3, v).after(n).items.get(of).v[2] == w.items.get(of).v[2];
                    return same ? -v : Integer.MIN_VALUE;
                case "lyeFor":
                    World other = w.twin();
                    other.lye = v;
                    return other.after(n).all(of) <= 9 ? v : Integer.MIN_VALUE;
                default:
                    World without = w.twin();
                    for (int i = 0; i < without.items.size(); i++) {
                        without.items.get(i).dry = (v & 1 << i) != 0;
                    }
                    return without.after(n).all(of) <= 9 ? -Integer.bitCount(v) : Integer.MIN_VALUE;
            }
        }

        long past(String name, int[] a) {
            if (!in(a[0], 0, 3)) { return LOW; }
            if (rows[a[0]] == null) { return MISSING; }
            boolean ofKinds = name.equals("kinds");
            if (!item(a[1]) || !ofKinds && !in(a[2], 0, 2)) { return LOW; }
            int layer = w.items.get(a[1]).v[1];
            int set = 0;
            int many = 0;
            long least = NONE;
            for (int v = ofKinds ? 6 : 200; v >= 0; v--) {
                World t = changed(a[1], ofKinds ? 0 : 3, v);
                boolean so = true;
                for (int told : rows[a[0]]) {
                    int is = ofKinds ? t.items.get(a[1]).v[1] : t.dye[layer][a[2]];
                    so &= told == -1 || told == is;
                    t = so ? t.after(1) : t;
                }
                many += so ? 1 : 0;
                set |= so && ofKinds ? 1 << v : 0;
                least = so ? v : least;
            }
            return ofKinds ? set : name.equals("fits") ? many : least;
        }

        long sticks(String name, int[] a) {
            switch (name) {
                case "sticks":
                    if (!in(a[0], 1, 20)) { return LOW; }
                    if (w.year + a[0] > 99999) { return STATE; }
                    for (int i = 0; i < a[0]; i++) {
                        int one = w.draw() & 7;
                        int two = w.draw() & 7;
                        if (one != two) {
                            w.stir(one, two);
                        }
                        w.year();
                    }
                    return w.sum(5);
                case "odds":
                    if (!in(a[0], 0, 20) || !in(a[1], 0, 1)) { return LOW; }
                    BigInteger above = BigInteger.valueOf(Integer.bitCount(w.clear())).pow(a[0]);
                    BigInteger below = BigInteger.valueOf(8).pow(a[0]);
                    return (a[1] == 0 ? above : below).divide(above.gcd(below)).longValueExact();
                default:
                    int was = w.z;
                    w.z = a[0];
                    return was;
            }
        }

        long texts(String name, int[] a) {
            int was = tape.length();
            switch (name) {
                case "feed":
                    if (!in(a[1], 1, 4)) { return LOW; }
                    if (was + a[1] > 120) { return FULL; }
                    for (int i = 1; i <= a[1]; i++) {
                        tape.append((char) ((a[0] >> 8 * (a[1] - i)) & 0xFF));
                    }
                    return tape.length();
                case "wipe":
                    tape.setLength(0);
                    return was;
                default:
                    String text = tape.toString();
                    tape.setLength(0);
                    try {
                        World t = w.twin();
                        int items = new Reading(text, t).all();
                        w = t;
                        return items;
                    } catch (Fault f) {
                        return -1 - f.place;
                    }
            }
        }

        boolean under(int kind, int above) {
            return List.of("0123456", "1", "234", "34", "4", "56", "6").get(above).indexOf('0' + kind) >= 0;
        }

        long rows(String name, int[] a) {
            switch (name) {
                case "hold":
                    if (!in(a[0], 0, 9) || !in(a[1], -1, w.items.size() - 1)) { return LOW; }
                    w.spots[a[0]] = a[1];
                    return 1;
                case "as":
                    if (!in(a[0], 0, 9) || !in(a[1], 0, 6)) { return LOW; }
                    if (w.spots[a[0]] < 0) { return MISSING; }
                    return under(w.items.get(w.spots[a[0]]).v[0], a[1]) ? w.spots[a[0]] : KIND;
                case "sheet":
                    if (!in(a[0], 0, 3) || !List.of(0, 8, 16, 32).contains(a[1])) { return LOW; }
                    if (a[2] < 0) { return SIZE; }
                    if (a[2] > 40) { return LOW; }
                    rows[a[0]] = a[1] == 0 ? null : new int[a[2]];
                    bits[a[0]] = a[1];
                    return a[1] == 0 ? 0 : a[2];
                case "copy":
                    if (!in(a[0], 0, 3) || !in(a[2], 0, 3)) { return LOW; }
                    if (rows[a[0]] == null || rows[a[2]] == null) { return MISSING; }
                    if (bits[a[0]] != bits[a[2]]) { return KIND; }
                    if (a[1] < 0 || a[3] < 0 || a[4] < 0) { return LOW; }
                    if ((long) a[1] + a[4] > rows[a[0]].length || (long) a[3] + a[4] > rows[a[2]].length) { return LOW; }
                    int[] were = rows[a[0]].clone();
                    for (int i = 0; i < a[4]; i++) {
                        rows[a[2]][a[3] + i] = were[a[1] + i];
                    }
                    return a[4];
                default:
                    if (!in(a[0], 0, 3)) { return LOW; }
                    return rows[a[0]] == null ? MISSING : oneRow(name, a, rows[a[0]]);
            }
        }

        long oneRow(String name, int[] a, int[] row) {
            switch (name) {
                case "write":
                    if (!in(a[1], 0, row.length - 1)) { return LOW; }
                    row[a[1]] = a[2] << 32 - bits[a[0]] >> 32 - bits[a[0]];
                    return 1;
                case "load":
                    int came = 0;
                    while (came < row.length && item(came) && in(row[came], 0, 999)) {
                        w.items.get(came).v[3] = row[came];
                        came++;
                    }
                    return came;
                default:
                    for (int i = 0; i < row.length; i++) {
                        if (i > 7 || w.all(i) != row[i]) {
                            return i + 1;
                        }
                    }
                    return 0;
            }
        }

        long images(String name, int[] a) {
            switch (name) {
                case "image":
                    kept = w.twin();
                    return 1;
                case "undo":
                    if (kept == null) { return NONE; }
                    w = kept.twin();
                    return w.year;
                case "tear":
                    int was = kept == null ? 0 : 1;
                    kept = null;
                    return was;
                case "count":
                    if (!in(a[0], 0, 7)) { return LOW; }
                    int taken = 0;
                    for (int spot : w.spots) {
                        taken += spot < 0 ? 0 : 1;
                    }
                    return new int[] {w.year, w.items.size(), w.sum(3), w.sum(5), w.all(), tape.length(), w.z, taken}[a[0]];
                default:
                    if (!in(a[0], -1, 6)) { return LOW; }
                    int sum = 0;
                    for (int note : notes) {
                        sum += note;
                    }
                    return a[0] < 0 ? sum : notes[a[0]];
            }
        }
    }

    private static final class Reading {
        private static final List<String> KINDS = List.of("thing", "glove", "veil", "dress", "dance", "stone", "medal");
        private final List<String> tokens = new ArrayList<>();
        private final List<Integer> places = new ArrayList<>();
        private final World w;
        private int at;

        Reading(String text, World w) {
            this.w = w;
            Matcher m = Pattern.compile("[a-z]+|[0-9]+|[^ ]", Pattern.DOTALL).matcher(text);
            while (m.find()) {
                tokens.add(m.group());
                places.add(m.start());
            }
            tokens.add("");
            places.add(text.length());
        }

        int all() {
            int items = 0;
            do {
                item();
                items++;
            } while (accept(";"));
            if (!accept("")) {
                throw new Fault(places.get(at));
            }
            return items;
        }

        boolean accept(String token) {
            if (!tokens.get(at).equals(token)) {
                return false;
            }
            at++;
            return true;
        }

        int number(int most) {
            String token = tokens.get(at);
            if (!token.matches("[0-9]+") || new BigInteger(token).compareTo(BigInteger.valueOf(most)) > 0) {
                throw new Fault(places.get(at));
            }
            at++;
            return Integer.parseInt(new BigInteger(token).toString());
        }

        void item() {
            int kind = KINDS.indexOf(tokens.get(at));
            if (kind >= 0 && w.items.size() < 8) {
                at++;
                Item i = new Item();
                i.v[0] = kind;
                w.items.add(i);
                i.v[1] = accept("in") ? number(7) : 0;
                i.v[2] = accept("of") ? number(2) : 0;
                i.v[3] = accept("holds") ? number(999) : 60;
            } else if (accept("dye")) {
                int l = number(7);
                int c = number(2);
                w.dye[l][c] = number(999);
            } else if (accept("lye")) {
                w.lye = number(9);
            } else if (accept("stir")) {
                int a = number(7);
                w.stir(a, number(7));
            } else {
                throw new Fault(places.get(at));
            }
        }
    }
}
