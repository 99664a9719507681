/** A tub in layers: dyes of three colours, and things that bleed, rise, sink and change. */
public final class SoakTub {
    private static final int BEYOND = -1000001;
    private static final int FULL = BEYOND - 1;
    private static final int NOT_OF_KIND = BEYOND - 2;
    private static final int NONE = BEYOND - 3;
    private static final int STATE = BEYOND - 4;
    private static final int MISSING = BEYOND - 5;
    private static final int SIZE = BEYOND - 6;
    private static final int FINDINGS = 7;

    private static final int LAYERS = 8;
    private static final int COLOURS = 3;
    private static final int MOST_THINGS = 8;
    private static final int MOST = 999;
    private static final int MOST_LYE = 9;
    private static final int MOST_CLEAR = 9;
    private static final int LAST_YEAR = 99999;

    private static final int THING = 0;
    private static final int GLOVE = 1;
    private static final int VEIL = 2;
    private static final int DRESS = 3;
    private static final int DANCE = 4;
    private static final int STONE = 5;
    private static final int MEDAL = 6;
    private static final int KINDS = 7;
    private static final int[] KIND_ABOVE = {-1, THING, THING, VEIL, DRESS, THING, STONE};

    /** What can be asked of a thing, and (up to SEEN) changed. */
    private static final int KIND = 0;
    private static final int LAYER = 1;
    private static final int COLOUR = 2;
    private static final int HOLDS = 3;
    private static final int SOAKED = 4;
    private static final int SEEN = 5;
    private static final int BLEEDS = 6;
    private static final int RISES = 7;
    private static final int FAST = 8;

    private static final int MOST_YEARS_GONE = 60;
    private static final int MOST_YEARS_AHEAD = 100;
    private static final int MOST_YEARS_SEARCHED = 200;
    private static final int MOST_YEARS_TO_COME_UP = 30;
    private static final int MOST_YEARS_TO_CHOOSE = 40;
    private static final int MOST_YEARS_WITHOUT = 20;
    private static final int MOST_HOLDS_TRIED = 200;
    private static final int MOST_DRAWS = 20;

    private static final int TAPE_BYTES = 120;
    private static final int SPOTS = 10;
    private static final int NOTHING = -1;
    private static final int SHEETS = 4;
    private static final int SHEET_NUMBERS = 40;
    private static final int ANY = -1;

    private final Tub tub = new Tub();
    /** All that will be is played here: made once, since a call must not make many objects. */
    private final Tub trial = new Tub();
    private final Tub kept = new Tub();
    private boolean isKept = false;
    private final TextReader reader = new TextReader();
    private final Tape tape = reader.tape;
    private final Sheet[] sheets = new Sheet[SHEETS];
    private final int[] findings = new int[FINDINGS];

    public SoakTub() {
        for (int s = 0; s < sheets.length; s++) {
            sheets[s] = new Sheet();
        }
    }

    // ---- layers, things

    public int dye(int layer, int colour, int v) {
        if (!isLayer(layer) || !isColour(colour) || !isWithin(v, 0, MOST)) {
            return found(BEYOND);
        }
        int before = tub.dyeIn(layer, colour);
        tub.setDye(layer, colour, v);
        return before;
    }

    public int layer(int layer, int what) {
        if (!isLayer(layer)) {
            return found(BEYOND);
        }
        switch (what) {
            case 0:
            case 1:
            case 2:
                return tub.dyeIn(layer, what);
            case 3:
                return tub.dyesTogether(layer);
            case 4:
                return tub.thingsIn(layer);
            case 5:
                return tub.chiefColour(layer, NOTHING);
            default:
                return found(BEYOND);
        }
    }

    public int lye(int v) {
        if (!isWithin(v, 0, MOST_LYE)) {
            return found(BEYOND);
        }
        int before = tub.lye;
        tub.lye = v;
        return before;
    }

    public int stir(int a, int b) {
        if (!isLayer(a) || !isLayer(b) || a == b) {
            return found(BEYOND);
        }
        tub.exchange(a, b);
        return Integer.bitCount(tub.thingsIn(a) | tub.thingsIn(b));
    }

    public int thing(int kind, int layer) {
        if (!isKind(kind) || !isLayer(layer)) {
            return found(BEYOND);
        }
        if (tub.isFull()) {
            return found(FULL);
        }
        tub.add(kind, layer);
        return tub.count - 1;
    }

    public int of(int thing, int what) {
        if (!tub.has(thing) || !isWithin(what, KIND, FAST)) {
            return found(BEYOND);
        }
        return tub.told(thing, what);
    }

    public int change(int thing, int what, int v) {
        if (!tub.has(thing) || !isWithin(what, KIND, SEEN) || !isWithin(v, 0, mostOf(what))) {
            return found(BEYOND);
        }
        int before = tub.told(thing, what);
        tub.become(thing, what, v);
        return before;
    }

    // ---- years

    public int go(int n) {
        if (!isWithin(n, 1, MOST_YEARS_GONE)) {
            return found(BEYOND);
        }
        if (tub.year + n > LAST_YEAR) {
            return found(STATE);
        }
        tub.passYears(n);
        return tub.allDyes();
    }

    public int now(int what) {
        switch (what) {
            case 0:
                return tub.year;
            case 1:
                return tub.allDyes();
            case 2:
                return tub.sumOf(HOLDS);
            case 3:
                return tub.clearLayers();
            case 4:
                return tub.thingsIn(0);
            case 5:
                return tub.sumOf(SEEN);
            case 6:
                return tub.coloursOfThings();
            default:
                return found(BEYOND);
        }
    }

    // ---- what will be (nothing changes)

    public int ahead(int thing, int what, int n) {
        if (!tub.has(thing) || !isWithin(what, LAYER, SEEN) || !isWithin(n, 0, MOST_YEARS_AHEAD)) {
            return found(BEYOND);
        }
        beginTrial();
        trial.passYears(n);
        return trial.told(thing, what);
    }

    public int dyed(int layer, int colour, int n) {
        if (!isLayer(layer) || !isColour(colour) || !isWithin(n, 0, MOST_YEARS_AHEAD)) {
            return found(BEYOND);
        }
        beginTrial();
        trial.passYears(n);
        return trial.dyeIn(layer, colour);
    }

    public int seen(int thing) {
        if (!tub.has(thing)) {
            return found(BEYOND);
        }
        int before = tub.told(thing, SEEN);
        beginTrial();
        for (int years = 1; years <= MOST_YEARS_SEARCHED; years++) {
            trial.passYears(1);
            if (trial.told(thing, SEEN) > before) {
                return years;
            }
        }
        return found(NONE);
    }

    public int when(int thing, int colour) {
        if (!tub.has(thing) || !isColour(colour)) {
            return found(BEYOND);
        }
        beginTrial();
        for (int years = 0; years <= MOST_YEARS_SEARCHED; years++) {
            if (trial.told(thing, COLOUR) == colour) {
                return years;
            }
            trial.passYears(1);
        }
        return found(NONE);
    }

    public int murky(int layer) {
        if (!isLayer(layer)) {
            return found(BEYOND);
        }
        beginTrial();
        for (int years = 0; years <= MOST_YEARS_SEARCHED; years++) {
            if (!trial.isClear(layer)) {
                return years;
            }
            trial.passYears(1);
        }
        return found(NONE);
    }

    public int treaty(int a, int b) {
        if (!tub.has(a) || !tub.has(b) || a == b) {
            return found(BEYOND);
        }
        beginTrial();
        for (int years = 0; years <= MOST_YEARS_SEARCHED; years++) {
            if (trial.agree(a, b, LAYER) && trial.agree(a, b, COLOUR)) {
                return years;
            }
            trial.passYears(1);
        }
        return found(NONE);
    }

    // ---- what to do

    public int stirFor(int thing, int n) {
        if (!tub.has(thing) || !isWithin(n, 0, MOST_YEARS_TO_COME_UP)) {
            return found(BEYOND);
        }
        int best = NOTHING;
        int most = -1;
        for (int a = 0; a < LAYERS; a++) {
            for (int b = a + 1; b < LAYERS; b++) {
                beginTrial();
                trial.exchange(a, b);
                trial.passYears(n);
                int times = trial.told(thing, SEEN);
                if (times > most) {
                    most = times;
                    best = LAYERS * a + b;
                }
            }
        }
        return best;
    }

    public int put(int thing, int n) {
        if (!tub.has(thing) || !isWithin(n, 0, MOST_YEARS_TO_COME_UP)) {
            return found(BEYOND);
        }
        return bestToBe(thing, LAYER, SEEN, n);
    }

    public int kindFor(int thing, int n) {
        if (!tub.has(thing) || !isWithin(n, 0, MOST_YEARS_TO_CHOOSE)) {
            return found(BEYOND);
        }
        return bestToBe(thing, KIND, HOLDS, n);
    }

    public int holdsFor(int thing, int n) {
        if (!tub.has(thing) || !isWithin(n, 0, MOST_YEARS_TO_CHOOSE)) {
            return found(BEYOND);
        }
        int colour = tub.told(thing, COLOUR);
        for (int holds = 0; holds <= MOST_HOLDS_TRIED; holds++) {
            beginTrial();
            trial.become(thing, HOLDS, holds);
            trial.passYears(n);
            if (trial.told(thing, COLOUR) == colour) {
                return holds;
            }
        }
        return found(NONE);
    }

    public int lyeFor(int layer, int n) {
        if (!isLayer(layer) || !isWithin(n, 0, MOST_YEARS_TO_CHOOSE)) {
            return found(BEYOND);
        }
        for (int lye = MOST_LYE; lye >= 0; lye--) {
            beginTrial();
            trial.lye = lye;
            trial.passYears(n);
            if (trial.isClear(layer)) {
                return lye;
            }
        }
        return found(NONE);
    }

    public int out(int layer, int n) {
        if (!isLayer(layer) || !isWithin(n, 0, MOST_YEARS_WITHOUT)) {
            return found(BEYOND);
        }
        int best = NOTHING;
        int fewest = MOST_THINGS + 1;
        int sets = 1 << tub.count;
        for (int set = 0; set < sets; set++) {
            if (Integer.bitCount(set) < fewest && isClearWithout(set, layer, n)) {
                best = set;
                fewest = Integer.bitCount(set);
            }
        }
        return best == NOTHING ? found(NONE) : best;
    }

    // ---- what it held

    public int fits(int s, int thing, int colour) {
        int wrong = wrongForHolding(s, thing, colour);
        if (wrong != 0) {
            return found(wrong);
        }
        int many = 0;
        for (int holds = 0; holds <= MOST_HOLDS_TRIED; holds++) {
            if (couldHold(sheetAt(s), thing, colour, holds)) {
                many++;
            }
        }
        return many;
    }

    public int held(int s, int thing, int colour) {
        int wrong = wrongForHolding(s, thing, colour);
        if (wrong != 0) {
            return found(wrong);
        }
        for (int holds = 0; holds <= MOST_HOLDS_TRIED; holds++) {
            if (couldHold(sheetAt(s), thing, colour, holds)) {
                return holds;
            }
        }
        return found(NONE);
    }

    public int kinds(int s, int thing) {
        int wrong = wrongWithSheet(s);
        if (wrong != 0) {
            return found(wrong);
        }
        if (!tub.has(thing)) {
            return found(BEYOND);
        }
        int set = 0;
        for (int kind = 0; kind < KINDS; kind++) {
            if (couldBe(sheetAt(s), thing, kind)) {
                set |= 1 << kind;
            }
        }
        return set;
    }

    // ---- sticks

    public int sticks(int n) {
        if (!isWithin(n, 1, MOST_DRAWS)) {
            return found(BEYOND);
        }
        if (tub.year + n > LAST_YEAR) {
            return found(STATE);
        }
        for (int i = 0; i < n; i++) {
            int a = tub.draw() % LAYERS;
            int b = tub.draw() % LAYERS;
            tub.exchange(a, b);
            tub.passYears(1);
        }
        return tub.sumOf(SEEN);
    }

    public long odds(int n, int what) {
        if (!isWithin(n, 0, MOST_DRAWS) || !isWithin(what, 0, 1)) {
            return found(BEYOND);
        }
        int above = Integer.bitCount(tub.clearLayers());
        int below = LAYERS;
        // A power of two stands below the line: so halving alone leads to lowest terms.
        while (below > 1 && above % 2 == 0) {
            above /= 2;
            below /= 2;
        }
        return power(what == 0 ? above : below, n);
    }

    public int seed(int v) {
        int before = tub.z;
        tub.z = v;
        return before;
    }

    // ---- texts

    public int feed(int bytes, int n) {
        if (!isWithin(n, 1, 4)) {
            return found(BEYOND);
        }
        if (tape.length + n > TAPE_BYTES) {
            return found(FULL);
        }
        for (int i = n - 1; i >= 0; i--) {
            tape.append(bytes >>> (8 * i) & 255);
        }
        return tape.length;
    }

    public int wipe() {
        int before = tape.length;
        tape.length = 0;
        return before;
    }

    public int text() {
        beginTrial();
        int items = reader.readInto(trial);
        if (items >= 0) {
            tub.takeFrom(trial);
        }
        tape.length = 0;
        return items;
    }

    // ---- spots, sheets

    public int hold(int spot, int thing) {
        if (!isSpot(spot) || !(thing == NOTHING || tub.has(thing))) {
            return found(BEYOND);
        }
        tub.setSpot(spot, thing);
        return 1;
    }

    public int as(int spot, int kind) {
        if (!isSpot(spot) || !isKind(kind)) {
            return found(BEYOND);
        }
        int thing = tub.heldBy(spot);
        if (thing == NOTHING) {
            return found(MISSING);
        }
        if (!isUnder(tub.told(thing, KIND), kind)) {
            return found(NOT_OF_KIND);
        }
        return thing;
    }

    public int sheet(int s, int bits, int n) {
        Sheet sheet = sheetAt(s);
        if (sheet == null || !(bits == 0 || bits == 8 || bits == 16 || bits == 32)) {
            return found(BEYOND);
        }
        if (n < 0) {
            return found(SIZE);
        }
        if (n > SHEET_NUMBERS) {
            return found(BEYOND);
        }
        sheet.renew(bits, n);
        return sheet.size;
    }

    public int write(int s, int i, int v) {
        int wrong = wrongWithSheet(s);
        if (wrong != 0) {
            return found(wrong);
        }
        Sheet sheet = sheetAt(s);
        if (sheet == null || !sheet.has(i)) {
            return found(BEYOND);
        }
        sheet.set(i, v);
        return 1;
    }

    public int copy(int s, int from, int t, int to, int n) {
        Sheet source = sheetAt(s);
        Sheet target = sheetAt(t);
        if (source == null || target == null) {
            return found(BEYOND);
        }
        if (source.isMissing() || target.isMissing()) {
            return found(MISSING);
        }
        if (source.bits != target.bits) {
            return found(NOT_OF_KIND);
        }
        if (!source.hasRow(from, n) || !target.hasRow(to, n)) {
            return found(BEYOND);
        }
        System.arraycopy(source.numbers, from, target.numbers, to, n);
        return n;
    }

    public int load(int s) {
        int wrong = wrongWithSheet(s);
        if (wrong != 0) {
            return found(wrong);
        }
        Sheet sheet = sheetAt(s);
        int came = 0;
        for (int i = 0; sheet != null && i < sheet.size; i++) {
            if (!tub.has(i) || !isWithin(sheet.at(i), 0, MOST)) {
                break;
            }
            tub.become(i, HOLDS, sheet.at(i));
            came++;
        }
        return came;
    }

    public int judge(int s) {
        int wrong = wrongWithSheet(s);
        if (wrong != 0) {
            return found(wrong);
        }
        Sheet sheet = sheetAt(s);
        for (int i = 0; sheet != null && i < sheet.size; i++) {
            if (!isLayer(i) || sheet.at(i) != tub.dyesTogether(i)) {
                return 1 + i;
            }
        }
        return 0;
    }

    // ---- images

    public int image() {
        kept.takeFrom(tub);
        isKept = true;
        return 1;
    }

    public int undo() {
        if (!isKept) {
            return found(NONE);
        }
        tub.takeFrom(kept);
        return tub.year;
    }

    public int tear() {
        int before = isKept ? 1 : 0;
        isKept = false;
        return before;
    }

    public int count(int what) {
        switch (what) {
            case 0:
                return tub.year;
            case 1:
                return tub.count;
            case 2:
                return tub.sumOf(HOLDS);
            case 3:
                return tub.sumOf(SEEN);
            case 4:
                return tub.allDyes();
            case 5:
                return tape.length;
            case 6:
                return tub.z;
            case 7:
                return tub.spotsTaken();
            default:
                return found(BEYOND);
        }
    }

    public int status(int which) {
        if (!isWithin(which, -1, FINDINGS - 1)) {
            return found(BEYOND);
        }
        int sum = 0;
        for (int i = 0; i < findings.length; i++) {
            if (which == -1 || which == i) {
                sum += findings[i];
            }
        }
        return sum;
    }

    // ---- helpers

    private int found(int finding) {
        int which = BEYOND - finding;
        if (which >= 0 && which < findings.length) {
            findings[which]++;
        }
        return finding;
    }

    private static boolean isWithin(int v, int least, int most) {
        return least <= v && v <= most;
    }

    private static boolean isLayer(int layer) {
        return 0 <= layer && layer < LAYERS;
    }

    private static boolean isColour(int colour) {
        return 0 <= colour && colour < COLOURS;
    }

    private static boolean isKind(int kind) {
        return 0 <= kind && kind < KINDS;
    }

    private static boolean isSpot(int spot) {
        return 0 <= spot && spot < SPOTS;
    }

    private static int mostOf(int what) {
        switch (what) {
            case KIND:
                return KINDS - 1;
            case LAYER:
                return LAYERS - 1;
            case COLOUR:
                return COLOURS - 1;
            default:
                return MOST;
        }
    }

    private static boolean isUnder(int kind, int above) {
        int k = kind;
        for (int steps = 0; steps < KINDS && k >= 0 && k < KIND_ABOVE.length; steps++) {
            if (k == above) {
                return true;
            }
            k = KIND_ABOVE[k];
        }
        return false;
    }

    private static long power(long base, int n) {
        long product = 1;
        for (int i = 0; i < n; i++) {
            product *= base;
        }
        return product;
    }

    private void beginTrial() {
        trial.takeFrom(tub);
    }

    /** The least value with which, put in now, most is told behind n years. */
    private int bestToBe(int thing, int what, int told, int n) {
        int best = NOTHING;
        int most = -1;
        int last = mostOf(what);
        for (int v = 0; v <= last; v++) {
            beginTrial();
            trial.become(thing, what, v);
            trial.passYears(n);
            if (trial.told(thing, told) > most) {
                most = trial.told(thing, told);
                best = v;
            }
        }
        return best;
    }

    private boolean isClearWithout(int set, int layer, int n) {
        beginTrial();
        trial.dry = set;
        trial.passYears(n);
        return trial.isClear(layer);
    }

    private Sheet sheetAt(int s) {
        return s >= 0 && s < sheets.length ? sheets[s] : null;
    }

    /** The finding, or 0. */
    private int wrongWithSheet(int s) {
        Sheet sheet = sheetAt(s);
        if (sheet == null) {
            return BEYOND;
        }
        return sheet.isMissing() ? MISSING : 0;
    }

    /** The finding, or 0. */
    private int wrongForHolding(int s, int thing, int colour) {
        int wrong = wrongWithSheet(s);
        if (wrong != 0) {
            return wrong;
        }
        return tub.has(thing) && isColour(colour) ? 0 : BEYOND;
    }

    private boolean couldHold(Sheet sheet, int thing, int colour, int holds) {
        int layer = tub.told(thing, LAYER);
        beginTrial();
        trial.become(thing, HOLDS, holds);
        for (int i = 0; sheet != null && i < sheet.size; i++) {
            if (i > 0) {
                trial.passYears(1);
            }
            if (!sheet.allows(i, trial.dyeIn(layer, colour))) {
                return false;
            }
        }
        return true;
    }

    private boolean couldBe(Sheet sheet, int thing, int kind) {
        beginTrial();
        trial.become(thing, KIND, kind);
        for (int i = 0; sheet != null && i < sheet.size; i++) {
            if (i > 0) {
                trial.passYears(1);
            }
            if (!sheet.allows(i, trial.told(thing, LAYER))) {
                return false;
            }
        }
        return true;
    }

    private static final class Thing {
        int kind;
        int layer;
        int colour;
        int holds;
        int soaked;
        int seen;

        void begin(int ofKind, int inLayer) {
            kind = ofKind;
            layer = inLayer;
            colour = 0;
            holds = 60;
            soaked = 0;
            seen = 0;
        }

        void takeFrom(Thing other) {
            kind = other.kind;
            layer = other.layer;
            colour = other.colour;
            holds = other.holds;
            soaked = other.soaked;
            seen = other.seen;
        }

        int bleeds(int lye) {
            int asThing = 4 + lye;
            int asVeil = asThing / 2;
            int asDress = asVeil + 5;
            switch (kind) {
                case GLOVE:
                    return asThing + 3;
                case VEIL:
                    return asVeil;
                case DRESS:
                    return asDress;
                case DANCE:
                    return asDress + Math.min(seen, 9);
                case STONE:
                    return 0;
                case MEDAL:
                    return 1;
                default:
                    return asThing;
            }
        }

        int rises(int year) {
            int asVeil = 1;
            int asDress = holds >= 40 ? -asVeil : asVeil;
            int asStone = -1;
            switch (kind) {
                case GLOVE:
                    return soaked % 3 == 0 ? 1 : 0;
                case VEIL:
                    return asVeil;
                case DRESS:
                    return asDress;
                case DANCE:
                    return year % 2 == 0 ? asDress + 1 : asDress;
                case STONE:
                    return asStone;
                case MEDAL:
                    return 2 * asStone;
                default:
                    return 0;
            }
        }

        int fast(int lye) {
            int asThing = 20;
            int asVeil = asThing - 15;
            int asDress = asVeil + lye;
            switch (kind) {
                case GLOVE:
                    return asThing / 2;
                case VEIL:
                    return asVeil;
                case DRESS:
                    return asDress;
                case DANCE:
                    return asDress + 4;
                case STONE:
                case MEDAL:
                    return MOST;
                default:
                    return asThing;
            }
        }

        void turnInto(int newColour) {
            colour = newColour;
            holds = Math.min(holds + 10, MOST);
        }

        void rise(int year) {
            int above = Math.max(0, Math.min(layer - rises(year), LAYERS - 1));
            if (layer != 0 && above == 0) {
                seen = Math.min(seen + 1, MOST);
            }
            layer = above;
            soaked = Math.min(soaked + 1, MOST);
        }
    }

    private static final class Tub {
        private final int[] dyes = new int[LAYERS * COLOURS];
        private final Thing[] things = new Thing[MOST_THINGS];
        private final int[] spots = new int[SPOTS];
        int count = 0;
        int lye = 1;
        int year = 0;
        int z = 1;
        /** The set of things that don't bleed: for trials alone. */
        int dry = 0;

        Tub() {
            for (int t = 0; t < things.length; t++) {
                things[t] = new Thing();
            }
            for (int i = 0; i < spots.length; i++) {
                spots[i] = NOTHING;
            }
        }

        void takeFrom(Tub other) {
            System.arraycopy(other.dyes, 0, dyes, 0, dyes.length);
            System.arraycopy(other.spots, 0, spots, 0, spots.length);
            count = other.count;
            for (int t = 0; t < count && t < things.length; t++) {
                things[t].takeFrom(other.things[t]);
            }
            lye = other.lye;
            year = other.year;
            z = other.z;
            dry = 0;
        }

        boolean has(int thing) {
            return thing >= 0 && thing < count && thing < things.length;
        }

        boolean isFull() {
            return count >= things.length;
        }

        void add(int kind, int layer) {
            if (count >= 0 && count < things.length) {
                things[count].begin(kind, layer);
                count++;
            }
        }

        int told(int thing, int what) {
            if (!has(thing)) {
                return 0;
            }
            Thing one = things[thing];
            switch (what) {
                case KIND:
                    return one.kind;
                case LAYER:
                    return one.layer;
                case COLOUR:
                    return one.colour;
                case HOLDS:
                    return one.holds;
                case SOAKED:
                    return one.soaked;
                case SEEN:
                    return one.seen;
                case BLEEDS:
                    return one.bleeds(lye);
                case RISES:
                    return one.rises(year);
                case FAST:
                    return one.fast(lye);
                default:
                    return 0;
            }
        }

        void become(int thing, int what, int v) {
            if (!has(thing)) {
                return;
            }
            Thing one = things[thing];
            switch (what) {
                case KIND:
                    one.kind = v;
                    break;
                case LAYER:
                    one.layer = v;
                    break;
                case COLOUR:
                    one.colour = v;
                    break;
                case HOLDS:
                    one.holds = v;
                    break;
                case SOAKED:
                    one.soaked = v;
                    break;
                case SEEN:
                    one.seen = v;
                    break;
                default:
                    break;
            }
        }

        int dyeIn(int layer, int colour) {
            return isLayer(layer) && isColour(colour) ? dyes[layer * COLOURS + colour] : 0;
        }

        void setDye(int layer, int colour, int v) {
            if (isLayer(layer) && isColour(colour)) {
                dyes[layer * COLOURS + colour] = Math.min(v, MOST);
            }
        }

        int dyesTogether(int layer) {
            int sum = 0;
            for (int colour = 0; colour < COLOURS; colour++) {
                sum += dyeIn(layer, colour);
            }
            return sum;
        }

        int allDyes() {
            int sum = 0;
            for (int layer = 0; layer < LAYERS; layer++) {
                sum += dyesTogether(layer);
            }
            return sum;
        }

        boolean isClear(int layer) {
            return dyesTogether(layer) <= MOST_CLEAR;
        }

        int clearLayers() {
            int set = 0;
            for (int layer = 0; layer < LAYERS; layer++) {
                if (isClear(layer)) {
                    set |= 1 << layer;
                }
            }
            return set;
        }

        /** The colour, other than one, of which there is most in a layer: of several the least. */
        int chiefColour(int layer, int otherThan) {
            int chief = NOTHING;
            int most = -1;
            for (int colour = 0; colour < COLOURS; colour++) {
                if (colour != otherThan && dyeIn(layer, colour) > most) {
                    most = dyeIn(layer, colour);
                    chief = colour;
                }
            }
            return chief;
        }

        int thingsIn(int layer) {
            int set = 0;
            for (int t = 0; t < count && t < things.length; t++) {
                if (things[t].layer == layer) {
                    set |= 1 << t;
                }
            }
            return set;
        }

        int coloursOfThings() {
            int set = 0;
            for (int t = 0; t < count && t < things.length; t++) {
                set |= 1 << things[t].colour;
            }
            return set;
        }

        int sumOf(int what) {
            int sum = 0;
            for (int t = 0; t < count && t < things.length; t++) {
                sum += told(t, what);
            }
            return sum;
        }

        boolean agree(int a, int b, int what) {
            return told(a, what) == told(b, what);
        }

        /** Stirs two layers; one with itself stays as it is. */
        void exchange(int a, int b) {
            for (int colour = 0; colour < COLOURS; colour++) {
                int inA = dyeIn(a, colour);
                setDye(a, colour, dyeIn(b, colour));
                setDye(b, colour, inA);
            }
            for (int t = 0; t < count && t < things.length; t++) {
                if (things[t].layer == a) {
                    things[t].layer = b;
                } else if (things[t].layer == b) {
                    things[t].layer = a;
                }
            }
        }

        void passYears(int n) {
            for (int i = 0; i < n; i++) {
                bleed();
                sink();
                turn();
                rise();
                year = Math.min(year + 1, LAST_YEAR);
            }
        }

        private void bleed() {
            for (int t = 0; t < count && t < things.length; t++) {
                if ((dry >> t & 1) == 0) {
                    Thing one = things[t];
                    int lost = Math.min(one.holds, one.bleeds(lye));
                    one.holds -= lost;
                    setDye(one.layer, one.colour, dyeIn(one.layer, one.colour) + lost);
                }
            }
        }

        /** From below upwards: so each layer gives of what it had, before it gets any. */
        private void sink() {
            for (int i = dyes.length - 1; i >= COLOURS; i--) {
                int sunk = dyes[i - COLOURS] / 4;
                dyes[i] = Math.min(dyes[i] + sunk, MOST);
                dyes[i - COLOURS] -= sunk;
            }
        }

        private void turn() {
            for (int t = 0; t < count && t < things.length; t++) {
                Thing one = things[t];
                int other = chiefColour(one.layer, one.colour);
                int much = dyeIn(one.layer, other);
                if (much > one.fast(lye) && much > dyeIn(one.layer, one.colour)) {
                    one.turnInto(other);
                }
            }
        }

        private void rise() {
            for (int t = 0; t < count && t < things.length; t++) {
                things[t].rise(year);
            }
        }

        int draw() {
            z = z * 1103515245 + 12345;
            return z >>> 8;
        }

        void setSpot(int spot, int thing) {
            if (spot >= 0 && spot < spots.length) {
                spots[spot] = thing;
            }
        }

        int heldBy(int spot) {
            return spot >= 0 && spot < spots.length ? spots[spot] : NOTHING;
        }

        int spotsTaken() {
            int taken = 0;
            for (int i = 0; i < spots.length; i++) {
                if (spots[i] != NOTHING) {
                    taken++;
                }
            }
            return taken;
        }
    }

    private static final class Tape {
        private final int[] bytes = new int[TAPE_BYTES];
        int length = 0;

        void append(int b) {
            if (length >= 0 && length < bytes.length) {
                bytes[length] = b;
                length++;
            }
        }

        /** The byte there, or -1 behind the end. */
        int at(int i) {
            return i >= 0 && i < length && i < bytes.length ? bytes[i] : -1;
        }
    }

    /** Reads a text, token by token; what stands at start is the token not yet taken. */
    private static final class TextReader {
        private static final int WORD = 0;
        private static final int NUMBER = 1;
        private static final int SEMICOLON = 2;
        private static final int END = 3;
        private static final int OTHER = 4;

        final Tape tape = new Tape();
        private int token;
        private int start;
        private int end;
        private int number;

        /** How many items, all of them done to a tub; or -1 less the fault. */
        int readInto(Tub tub) {
            end = 0;
            next();
            for (int items = 1; items <= TAPE_BYTES; items++) {
                if (!readItem(tub)) {
                    break;
                }
                if (token == END) {
                    return items;
                }
                if (token != SEMICOLON) {
                    break;
                }
                next();
            }
            return -1 - start;
        }

        private boolean readItem(Tub tub) {
            int kind = kindOfWord();
            if (kind != NOTHING) {
                return readThing(tub, kind);
            }
            if (takeWord("dye")) {
                return readDye(tub);
            }
            if (takeWord("lye")) {
                return readLye(tub);
            }
            return takeWord("stir") && readStir(tub);
        }

        private boolean readThing(Tub tub, int kind) {
            if (tub.isFull()) {
                return false;
            }
            next();
            int thing = tub.count;
            tub.add(kind, 0);
            return readPart(tub, thing, "in", LAYER)
                && readPart(tub, thing, "of", COLOUR)
                && readPart(tub, thing, "holds", HOLDS);
        }

        private boolean readPart(Tub tub, int thing, String word, int what) {
            if (!takeWord(word)) {
                return true;
            }
            int v = takeNumber(mostOf(what));
            tub.become(thing, what, Math.max(v, 0));
            return v >= 0;
        }

        private boolean readDye(Tub tub) {
            int layer = takeNumber(LAYERS - 1);
            int colour = layer < 0 ? -1 : takeNumber(COLOURS - 1);
            int v = colour < 0 ? -1 : takeNumber(MOST);
            if (v < 0) {
                return false;
            }
            tub.setDye(layer, colour, v);
            return true;
        }

        private boolean readLye(Tub tub) {
            int v = takeNumber(MOST_LYE);
            if (v < 0) {
                return false;
            }
            tub.lye = v;
            return true;
        }

        private boolean readStir(Tub tub) {
            int a = takeNumber(LAYERS - 1);
            int b = a < 0 ? -1 : takeNumber(LAYERS - 1);
            if (b < 0) {
                return false;
            }
            tub.exchange(a, b);
            return true;
        }

        private boolean takeWord(String word) {
            if (!isWord(word)) {
                return false;
            }
            next();
            return true;
        }

        /** The number that stands there, from 0 to most; -1 if none does, and the token stays. */
        private int takeNumber(int most) {
            if (token != NUMBER || number > most) {
                return -1;
            }
            int v = number;
            next();
            return v;
        }

        private int kindOfWord() {
            if (isWord("thing")) {
                return THING;
            }
            if (isWord("glove")) {
                return GLOVE;
            }
            if (isWord("veil")) {
                return VEIL;
            }
            if (isWord("dress")) {
                return DRESS;
            }
            if (isWord("dance")) {
                return DANCE;
            }
            if (isWord("stone")) {
                return STONE;
            }
            return isWord("medal") ? MEDAL : NOTHING;
        }

        private boolean isWord(String word) {
            if (token != WORD || end - start != word.length()) {
                return false;
            }
            for (int i = 0; i < word.length(); i++) {
                if (tape.at(start + i) != word.charAt(i)) {
                    return false;
                }
            }
            return true;
        }

        private void next() {
            start = end;
            while (start < tape.length && tape.at(start) == ' ') {
                start++;
            }
            end = start;
            if (start >= tape.length) {
                token = END;
            } else if (isLetter(tape.at(start))) {
                token = WORD;
                while (end < tape.length && isLetter(tape.at(end))) {
                    end++;
                }
            } else if (isDigit(tape.at(start))) {
                token = NUMBER;
                number = 0;
                while (end < tape.length && isDigit(tape.at(end))) {
                    // Beyond MOST every number is as wrong: so it needs no more room than that.
                    number = Math.min(number * 10 + tape.at(end) - '0', MOST + 1);
                    end++;
                }
            } else {
                token = tape.at(start) == ';' ? SEMICOLON : OTHER;
                end++;
            }
        }

        private static boolean isLetter(int b) {
            return 'a' <= b && b <= 'z';
        }

        private static boolean isDigit(int b) {
            return '0' <= b && b <= '9';
        }
    }

    private static final class Sheet {
        final int[] numbers = new int[SHEET_NUMBERS];
        int bits = 0;
        int size = 0;

        boolean isMissing() {
            return bits == 0;
        }

        void renew(int newBits, int n) {
            bits = newBits;
            size = newBits == 0 ? 0 : n;
            for (int i = 0; i < numbers.length; i++) {
                numbers[i] = 0;
            }
        }

        boolean has(int i) {
            return i >= 0 && i < size && i < numbers.length;
        }

        boolean hasRow(int from, int n) {
            return from >= 0 && n >= 0 && from <= size && n <= size - from;
        }

        int at(int i) {
            return has(i) ? numbers[i] : 0;
        }

        void set(int i, int v) {
            if (!has(i)) {
                return;
            }
            if (bits == 8) {
                numbers[i] = (byte) v;
            } else if (bits == 16) {
                numbers[i] = (short) v;
            } else {
                numbers[i] = v;
            }
        }

        boolean allows(int i, int v) {
            return at(i) == ANY || at(i) == v;
        }
    }
}
