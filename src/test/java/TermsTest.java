import java.util.Locale;

/** The document's "Terms": each sentence that names a boundary, by answers worked out by hand. */
public final class TermsTest {
    private static final int BEYOND = -1000001;
    private static final int FULL = -1000002;
    private static final int KIND = -1000003;
    private static final int NONE = -1000004;
    private static final int MISSING = -1000006;
    private static final int SIZE = -1000007;

    /** What `of` tells, and `change` changes. */
    private static final int LAYER = 1;
    private static final int COLOUR = 2;
    private static final int HOLDS = 3;
    private static final int SOAKED = 4;
    private static final int SEEN = 5;
    private static final int BLEEDS = 6;
    private static final int RISES = 7;
    private static final int FAST = 8;
    private static final String[] KINDS = {"thing", "glove", "veil", "dress", "dance", "stone", "medal"};

    private static int wrong = 0;

    private static void due(String what, long want, long got) {
        if (want != got) {
            wrong++;
            System.out.println(what + ": answered " + got + ", due is " + want);
        }
    }

    /** A new tub to which a text is done: a list of items. */
    private static SoakTub tub(String text) {
        SoakTub x = new SoakTub();
        for (int i = 0; i < text.length(); i++) {
            x.feed(text.charAt(i), 1);
        }
        if (!text.isEmpty()) {
            due("the text '" + text + "'", text.split(";").length, x.text());
        }
        return x;
    }

    private static SoakTub tub(String text, Object... parts) {
        return tub(String.format(Locale.ROOT, text, parts));
    }

    public static void main(String[] args) {
        findings();
        anyZIsNoFinding();
        quotientsAreCut();
        ofSeveralTheLeast();
        setsAreBits();
        dyeAtFirst();
        dyeBledAbove999IsLost();
        dyeSunkAbove999IsLost();
        lyeFrom0To9();
        eightThings();
        thingsAtFirst();
        bleedsByLye();
        danceBleedsBySeen();
        bleedsNoMoreThanItHolds();
        gloveRisesBySoaked();
        dressRisesByHolds();
        danceRisesByYear();
        risesOfTheOthers();
        fastByLye();
        bleedingComesBeforeSinking();
        sinkingIsAllAtOnce();
        turnsAboveFast();
        turnsAboveItsOwn();
        turnsToTheMost();
        turnsByWhatIsThereThen();
        turnsInTheLayerWhereItBled();
        turningHolds10More();
        risesNoHigherThan0NoLowerThan7();
        seenWhenItComesUp();
        seenAndSoakedAtMost999();
        risesByWhatItIsThen();
        stirring();
        clearUpTo9();
        drawsWrapAround();
        drawsAreUnsigned();
        spotsAndSheets();
        numbersWithTheirSign();
        System.out.println(wrong == 0 ? "all answers are as due" : wrong + " answers are not as due");
        if (wrong != 0) {
            System.exit(1);
        }
    }

    private static void findings() {
        SoakTub x = tub("thing");
        due("LOW BEYOND", BEYOND, x.lye(10));
        for (int i = 0; i < 30; i++) {
            x.feed(0, 4);
        }
        due("LOW - 1 FULL", FULL, x.feed(0, 1));
        x.hold(0, 0);
        due("LOW - 2 KIND", KIND, x.as(0, 1));
        due("LOW - 3 NONE", NONE, x.undo());
        due("LOW - 5 MISSING", MISSING, x.judge(0));
        due("LOW - 6 SIZE", SIZE, x.sheet(0, 8, -1));
        due("in longs, too", -1000001L, x.odds(21, 0));
        int[] told = {2, 1, 1, 1, 0, 1, 1};
        for (int which = 0; which < told.length; which++) {
            due("how many of the finding LOW - " + which, told[which], x.status(which));
        }
    }

    private static void anyZIsNoFinding() {
        SoakTub x = new SoakTub();
        int[] any = {BEYOND, FULL, KIND, NONE, -1000005, MISSING, SIZE, Integer.MIN_VALUE, Integer.MAX_VALUE, -1, 0};
        int before = 1;
        for (int z : any) {
            due("seed tells z", before, x.seed(z));
            due("count tells z", z, x.count(6));
            before = z;
        }
        due("z is no finding", 0, x.status(-1));
    }

    private static void quotientsAreCut() {
        int[] dyes = {0, 1, 3, 4, 7, 8, 11, 12, 995, 996, 999};
        int[] quarters = {0, 0, 0, 1, 1, 2, 2, 3, 248, 249, 249};
        for (int i = 0; i < dyes.length; i++) {
            SoakTub x = tub("dye 3 1 %d", dyes[i]);
            due("a quarter of " + dyes[i], quarters[i], x.dyed(4, 1, 1));
            due("what is left of " + dyes[i], dyes[i] - quarters[i], x.dyed(3, 1, 1));
        }
        int[] halves = {2, 2, 3, 3, 4, 4, 5, 5, 6, 6};
        for (int lye = 0; lye <= 9; lye++) {
            due("half of 4 and " + lye, halves[lye], tub("veil;lye %d", lye).of(0, BLEEDS));
        }
        due("half of 20", 10, tub("glove").of(0, FAST));
    }

    private static void ofSeveralTheLeast() {
        int[][] dyesAndChief = {
            {0, 0, 0, 0}, {5, 5, 5, 0}, {5, 5, 4, 0}, {5, 4, 5, 0}, {4, 5, 5, 1}, {4, 5, 4, 1}, {4, 4, 5, 2},
            {0, 0, 1, 2}, {0, 1, 0, 1}, {1, 0, 0, 0}, {999, 999, 999, 0}, {998, 999, 999, 1}, {998, 998, 999, 2}};
        for (int[] row : dyesAndChief) {
            SoakTub x = tub("dye 5 0 %d;dye 5 1 %d;dye 5 2 %d", row[0], row[1], row[2]);
            due("the colour of which there is most", row[3], x.layer(5, 5));
        }
        SoakTub x = tub("stone in 7");
        due("of all pairs 0 and 1", 1, x.stirFor(0, 5));
        due("of all layers 0", 0, x.put(0, 5));
        due("of all kinds 0", 0, x.kindFor(0, 0));
        SoakTub y = tub("medal in 7;medal in 7;dye 7 0 8");
        due("of two things the first", 1, y.out(7, 1));
    }

    private static void setsAreBits() {
        SoakTub x = tub("stone;stone in 1;stone in 1;stone in 1;stone in 1;stone in 1;stone in 1 of 2;stone");
        due("things 0 and 7", 1 + 128, x.layer(0, 4));
        due("things 1 to 6", 126, x.layer(1, 4));
        due("things in layer 0", 129, x.now(4));
        due("colours 0 and 2", 5, x.now(6));
        x.dye(0, 0, 10);
        x.dye(6, 0, 10);
        due("layers 1 to 5 and 7", 255 - 1 - 64, x.now(3));
    }

    private static void dyeAtFirst() {
        SoakTub x = new SoakTub();
        for (int layer = 0; layer < 8; layer++) {
            for (int colour = 0; colour < 3; colour++) {
                due("dye at first", 0, x.layer(layer, colour));
            }
        }
        due("lye at first", 1, x.lye(1));
    }

    private static void dyeBledAbove999IsLost() {
        SoakTub x = tub("lye 1;thing in 7;dye 7 0 994;dye 7 1 3");
        x.go(1);
        due("994 and 5", 999, x.layer(7, 0));
        x.go(1);
        due("999 and 5", 999, x.layer(7, 0));
        due("the thing lost it", 50, x.of(0, HOLDS));
        due("another colour is as it was", 3, x.layer(7, 1));
        SoakTub y = tub("lye 1;thing in 7;dye 7 0 995");
        due("995 and 5", 999, y.dyed(7, 0, 1));
        SoakTub z = tub("lye 1;thing in 0;dye 0 0 998");
        due("it is lost before a quarter goes", 249, z.dyed(1, 0, 1));
        due("three quarters of 999", 750, z.dyed(0, 0, 1));
    }

    private static void dyeSunkAbove999IsLost() {
        SoakTub x = tub("dye 6 0 999;dye 7 0 750");
        due("750 and 249", 999, x.dyed(7, 0, 1));
        due("none of it is lost", 1749, x.go(1));
        SoakTub y = tub("dye 6 0 999;dye 7 0 751");
        due("751 and 249", 999, y.dyed(7, 0, 1));
        due("what goes is gone", 750, y.dyed(6, 0, 1));
        due("one is lost", 1749, y.go(1));
        SoakTub z = tub("dye 5 2 999;dye 6 2 999");
        due("a layer between gives as much as it gets", 999, z.dyed(6, 2, 1));
    }

    private static void lyeFrom0To9() {
        SoakTub x = new SoakTub();
        int before = 1;
        for (int lye = 0; lye <= 9; lye++) {
            due("lye " + lye, before, x.lye(lye));
            before = lye;
        }
        due("lye 10", BEYOND, x.lye(10));
        due("lye -1", BEYOND, x.lye(-1));
        due("it is as it was", 9, x.lye(9));
    }

    private static void eightThings() {
        SoakTub x = new SoakTub();
        for (int t = 0; t < 8; t++) {
            due("a thing", t, x.thing(0, 0));
        }
        due("a 9th", FULL, x.thing(0, 0));
        due("8 it stays", 8, x.count(1));
    }

    private static void thingsAtFirst() {
        for (int kind = 0; kind < 7; kind++) {
            SoakTub x = new SoakTub();
            x.thing(kind, 7 - kind);
            int[] first = {kind, 7 - kind, 0, 60, 0, 0};
            for (int what = 0; what < first.length; what++) {
                due(KINDS[kind] + " at first, " + what, first[what], x.of(0, what));
            }
        }
    }

    private static void bleedsByLye() {
        int[] lyes = {0, 1, 8, 9};
        int[][] bleeds = {{4, 7, 2, 7, 7, 0, 1}, {5, 8, 2, 7, 7, 0, 1}, {12, 15, 6, 11, 11, 0, 1},
            {13, 16, 6, 11, 11, 0, 1}};
        for (int i = 0; i < lyes.length; i++) {
            for (int kind = 0; kind < 7; kind++) {
                SoakTub x = tub("%s in 7;lye %d", KINDS[kind], lyes[i]);
                String what = KINDS[kind] + " bleeds with lye " + lyes[i];
                due(what, bleeds[i][kind], x.of(0, BLEEDS));
                due(what + ", it loses so much", 60 - bleeds[i][kind], x.ahead(0, HOLDS, 1));
                due(what + ", its layer gets so much", bleeds[i][kind], x.dyed(7, 0, 1));
            }
        }
    }

    private static void danceBleedsBySeen() {
        int[] seen = {0, 1, 8, 9, 10, 11, 998, 999};
        int[] more = {0, 1, 8, 9, 9, 9, 9, 9};
        for (int i = 0; i < seen.length; i++) {
            SoakTub x = tub("dance in 7;lye 9;dress");
            x.change(0, SEEN, seen[i]);
            x.change(1, SEEN, seen[i]);
            due("a dance seen " + seen[i], 11 + more[i], x.of(0, BLEEDS));
            due("it loses so much", 60 - 11 - more[i], x.ahead(0, HOLDS, 1));
            due("a dress seen " + seen[i], 11, x.of(1, BLEEDS));
        }
    }

    private static void bleedsNoMoreThanItHolds() {
        int[] holds = {0, 1, 4, 5, 6, 999};
        int[] left = {0, 0, 0, 0, 1, 994};
        for (int i = 0; i < holds.length; i++) {
            SoakTub x = tub("thing in 7 of 2 holds %d;lye 1", holds[i]);
            due("bleeds at most, holding " + holds[i], 5, x.of(0, BLEEDS));
            due("left of " + holds[i], left[i], x.ahead(0, HOLDS, 1));
            due("bled of " + holds[i], holds[i] - left[i], x.dyed(7, 2, 1));
        }
        SoakTub medal = tub("medal in 7 holds 1");
        due("a medal's one", 1, medal.dyed(7, 0, 1));
        due("and no more", 1, medal.dyed(7, 0, 2));
    }

    private static void gloveRisesBySoaked() {
        int[] soaked = {0, 1, 2, 3, 4, 5, 6, 996, 997, 998, 999};
        int[] rises = {1, 0, 0, 1, 0, 0, 1, 1, 0, 0, 1};
        for (int i = 0; i < soaked.length; i++) {
            SoakTub x = tub("glove in 4");
            x.change(0, SOAKED, soaked[i]);
            due("a glove soaked " + soaked[i], rises[i], x.of(0, RISES));
            due("it does", 4 - rises[i], x.ahead(0, LAYER, 1));
        }
        due("year by year: up in the 1st and the 4th", 2, tub("glove in 4").ahead(0, LAYER, 4));
        due("not in the 2nd and the 3rd", 3, tub("glove in 4").ahead(0, LAYER, 3));
    }

    private static void dressRisesByHolds() {
        int[] holds = {0, 39, 40, 41, 999};
        int[] rises = {1, 1, -1, -1, -1};
        for (int i = 0; i < holds.length; i++) {
            due("a dress holding " + holds[i], rises[i], tub("dress in 4 holds %d", holds[i]).of(0, RISES));
            due("a dance of year 0", rises[i] + 1, tub("dance in 4 holds %d", holds[i]).of(0, RISES));
            due("a veil, whatever it holds", 1, tub("veil in 4 holds %d", holds[i]).of(0, RISES));
        }
    }

    private static void danceRisesByYear() {
        int[] light = {2, 1, 2, 1, 2};
        SoakTub x = tub("dance in 7 holds 39;dance in 7 holds 40");
        for (int year = 0; year < light.length; year++) {
            x.change(0, HOLDS, 39);
            x.change(1, HOLDS, 40);
            due("a light dance in year " + year, light[year], x.of(0, RISES));
            due("a heavy dance in year " + year, light[year] - 2, x.of(1, RISES));
            x.go(1);
        }
        due("it rose by years 0 to 2: 2, 1, 2", 2, tub("dance in 7 holds 0").ahead(0, LAYER, 3));
    }

    /** What a thing, a veil, a stone and a medal rise is told without what they hold, YEAR and SOAKED. */
    private static void risesOfTheOthers() {
        int[] rises = {0, 1, -1, -2};
        for (int holds : new int[] {0, 39, 40, 999}) {
            SoakTub x = tub("thing in 3;veil in 3;stone in 3;medal in 3");
            for (int year = 0; year < 3; year++) {
                for (int t = 0; t < rises.length; t++) {
                    x.change(t, HOLDS, holds);
                    x.change(t, LAYER, 3);
                    due("rises " + t, rises[t], x.of(t, RISES));
                    due("it does " + t, 3 - rises[t], x.ahead(t, LAYER, 1));
                }
                x.go(1);
            }
        }
    }

    private static void fastByLye() {
        int[][] fast = {{20, 10, 5, 5, 9, 999, 999}, {20, 10, 5, 14, 18, 999, 999}};
        for (int i = 0; i < fast.length; i++) {
            for (int kind = 0; kind < 7; kind++) {
                due(KINDS[kind] + " is fast", fast[i][kind], tub("%s;lye %d", KINDS[kind], 9 * i).of(0, FAST));
            }
        }
    }

    private static void bleedingComesBeforeSinking() {
        SoakTub x = tub("thing in 6;lye 0");
        due("of 4 that it bleeds, one goes below", 1, x.dyed(7, 0, 1));
        due("three don't", 3, x.dyed(6, 0, 1));
    }

    private static void sinkingIsAllAtOnce() {
        SoakTub x = tub("dye 0 0 400;dye 1 0 40;dye 6 0 4;dye 7 0 100");
        int[] then = {300, 40 - 10 + 100, 10, 0, 0, 0, 3, 101};
        x.go(1);
        for (int layer = 0; layer < then.length; layer++) {
            due("a year on, layer " + layer, then[layer], x.layer(layer, 0));
        }
        due("layer 7 gives none", 200, tub("dye 7 1 200").dyed(7, 1, 100));
        due("3 stay for good", 3, tub("dye 0 1 3").dyed(0, 1, 100));
    }

    private static void turnsAboveFast() {
        int[] fast = {20, 10, 5, 14, 18, 999, 999};
        for (int kind = 0; kind < 7; kind++) {
            SoakTub x = tub("%s in 7 holds 0;lye 9;dye 7 1 %d", KINDS[kind], fast[kind]);
            due(KINDS[kind] + " bears as much as it is fast for", 0, x.ahead(0, COLOUR, 1));
            due("it holds as much", 0, x.ahead(0, HOLDS, 1));
            x.dye(7, 1, Math.min(fast[kind] + 1, 999));
            int turned = kind < 5 ? 1 : 0;
            due(KINDS[kind] + " bears no more", turned, x.ahead(0, COLOUR, 1));
            due("it holds 10 more then", 10 * turned, x.ahead(0, HOLDS, 1));
        }
    }

    private static void turnsAboveItsOwn() {
        SoakTub x = tub("thing in 7 holds 0;dye 7 0 500;dye 7 2 500");
        due("as much as of its own", 0, x.ahead(0, COLOUR, 1));
        x.dye(7, 2, 501);
        due("one more than of its own", 2, x.ahead(0, COLOUR, 1));
        x.dye(7, 0, 999);
        x.dye(7, 2, 999);
        due("999 of both", 0, x.ahead(0, COLOUR, 1));
        SoakTub y = tub("thing in 7;lye 1;dye 7 0 495;dye 7 2 500");
        due("what it bleeds is of its own", 0, y.ahead(0, COLOUR, 1));
        y.dye(7, 0, 494);
        due("one less isn't enough", 2, y.ahead(0, COLOUR, 1));
    }

    private static void turnsToTheMost() {
        int[][] ownAndDyes = {
            {0, 0, 50, 50, 1}, {0, 0, 50, 51, 2}, {0, 0, 51, 50, 1}, {1, 50, 0, 50, 0}, {1, 50, 0, 51, 2},
            {1, 51, 0, 50, 0}, {2, 50, 50, 0, 0}, {2, 50, 51, 0, 1}, {2, 51, 50, 0, 0}, {0, 0, 0, 21, 2},
            {0, 0, 21, 0, 1}, {1, 21, 0, 0, 0}, {1, 0, 0, 21, 2}, {2, 21, 0, 0, 0}, {2, 0, 21, 0, 1},
            {0, 0, 0, 0, 0}, {1, 0, 0, 0, 1}, {2, 0, 0, 0, 2}, {2, 20, 20, 0, 2}};
        for (int[] row : ownAndDyes) {
            SoakTub x = tub("thing in 7 of %d holds 0;dye 7 0 %d;dye 7 1 %d;dye 7 2 %d", row[0], row[1], row[2], row[3]);
            due("of colour " + row[0] + " it turns", row[4], x.ahead(0, COLOUR, 1));
        }
    }

    private static void turnsByWhatIsThereThen() {
        due("of 27, 6 go below, 21 stay", 1, tub("thing holds 0;dye 0 1 27").ahead(0, COLOUR, 1));
        due("of 26, 20 stay", 0, tub("thing holds 0;dye 0 1 26").ahead(0, COLOUR, 1));
        due("of 84, 21 come", 1, tub("thing in 1 holds 0;dye 0 1 84").ahead(0, COLOUR, 1));
        due("of 83, 20 come", 0, tub("thing in 1 holds 0;dye 0 1 83").ahead(0, COLOUR, 1));
        String both = "thing in 7 holds 0;thing in 7 of 1;lye 1;dye 7 1 %d";
        due("a later thing bleeds before the first turns", 1, tub(both, 16).ahead(0, COLOUR, 1));
        due("5 and 15 are borne", 0, tub(both, 15).ahead(0, COLOUR, 1));
        SoakTub x = tub("thing in 7 holds 0;dye 7 1 21");
        x.go(1);
        x.dye(7, 1, 0);
        due("of that colour from then on", 1, x.ahead(0, COLOUR, 100));
    }

    private static void turnsInTheLayerWhereItBled() {
        SoakTub x = tub("veil in 5 holds 0;dye 4 1 20");
        due("5 that come to layer 5 are borne", 0, x.ahead(0, COLOUR, 1));
        due("it rose behind that", 4, x.ahead(0, LAYER, 1));
        due("there it turns in the next year", 1, x.ahead(0, COLOUR, 2));
    }

    private static void turningHolds10More() {
        int[] holds = {0, 5, 6, 993, 994, 995, 999};
        int[] then = {10, 10, 11, 998, 999, 999, 999};
        for (int i = 0; i < holds.length; i++) {
            SoakTub x = tub("thing in 7 holds %d;lye 1;dye 7 1 99", holds[i]);
            due("10 more, less what it bled, of " + holds[i], then[i], x.ahead(0, HOLDS, 1));
        }
    }

    private static void risesNoHigherThan0NoLowerThan7() {
        int[][] kindFromTo = {
            {2, 0, 0}, {2, 1, 0}, {2, 7, 6}, {5, 7, 7}, {5, 6, 7}, {5, 0, 1}, {6, 7, 7}, {6, 6, 7}, {6, 5, 7}, {6, 4, 6},
            {0, 0, 0}, {0, 7, 7}, {1, 0, 0}, {3, 7, 7}, {3, 6, 7}};
        for (int[] row : kindFromTo) {
            SoakTub x = new SoakTub();
            x.thing(row[0], row[1]);
            due(KINDS[row[0]] + " from layer " + row[1], row[2], x.ahead(0, LAYER, 1));
        }
        for (int layer = 0; layer < 4; layer++) {
            int then = Math.max(layer - 2, 0);
            due("a dance up by 2 from " + layer, then, tub("dance in %d holds 0", layer).ahead(0, LAYER, 1));
        }
    }

    private static void seenWhenItComesUp() {
        due("from layer 1", 1, tub("veil in 1").ahead(0, SEEN, 1));
        due("from layer 2 not yet", 0, tub("veil in 2").ahead(0, SEEN, 1));
        due("it was in layer 0 before", 0, tub("veil").ahead(0, SEEN, 1));
        due("once is all", 1, tub("veil in 1").ahead(0, SEEN, 100));
        due("by 2 layers from layer 1: once", 1, tub("dance in 1 holds 0").ahead(0, SEEN, 1));
        due("by 2 layers from layer 2: once", 1, tub("dance in 2 holds 0").ahead(0, SEEN, 1));
        due("it stays in layer 0", 0, tub("thing").ahead(0, SEEN, 100));
        due("it leaves layer 0", 0, tub("stone").ahead(0, SEEN, 100));
    }

    private static void seenAndSoakedAtMost999() {
        int[] before = {0, 997, 998, 999};
        int[] then = {1, 998, 999, 999};
        for (int i = 0; i < before.length; i++) {
            SoakTub x = tub("veil in 1;veil in 3");
            x.change(0, SEEN, before[i]);
            x.change(1, SOAKED, before[i]);
            due("seen once more", then[i], x.ahead(0, SEEN, 1));
            due("soaked 1 more", then[i], x.ahead(1, SOAKED, 1));
            due("soaked behind 100 years", Math.min(before[i] + 100, 999), x.ahead(1, SOAKED, 100));
        }
    }

    private static void risesByWhatItIsThen() {
        due("47 less 7 sinks", 5, tub("dress in 4 holds 47").ahead(0, LAYER, 1));
        due("46 less 7 rises", 3, tub("dress in 4 holds 46").ahead(0, LAYER, 1));
        due("37 less 7 and 10 sinks", 7, tub("dress in 7 holds 37;dye 7 1 50").ahead(0, LAYER, 1));
        due("36 less 7 and 10 rises", 6, tub("dress in 7 holds 36;dye 7 1 50").ahead(0, LAYER, 1));
        due("it turned", 1, tub("dress in 7 holds 36;dye 7 1 50").ahead(0, COLOUR, 1));
    }

    private static void stirring() {
        SoakTub x = tub("veil in 1;stone;thing in 4;dye 0 0 1;dye 0 1 2;dye 0 2 3;dye 1 0 999;dye 4 2 5");
        due("things in these two", 2, x.stir(0, 1));
        int[] top = {999, 0, 0};
        int[] below = {1, 2, 3};
        for (int colour = 0; colour < 3; colour++) {
            due("all dyes of layer 0 are exchanged", top[colour], x.layer(0, colour));
            due("all dyes of layer 1 are exchanged", below[colour], x.layer(1, colour));
        }
        due("one came to layer 0", 1, x.layer(0, 4));
        due("one left it", 2, x.layer(1, 4));
        due("none is seen by that", 0, x.now(5));
        due("a layer between is as it was", 5 + 8 * 4, x.layer(4, 2) + 8 * x.layer(4, 4));
        due("nor soaked", 0, x.of(0, SOAKED));
    }

    private static void clearUpTo9() {
        SoakTub x = tub("dye 2 0 3;dye 2 1 3;dye 2 2 3");
        due("3, 3 and 3", 255, x.now(3));
        x.dye(2, 2, 4);
        due("3, 3 and 4", 255 - 4, x.now(3));
        SoakTub y = tub("dye 7 1 9;dye 6 1 10;dye 0 0 999;dye 0 1 999;dye 0 2 999");
        due("9 is clear, 10 isn't", 255 - 64 - 1, y.now(3));
    }

    private static void drawsWrapAround() {
        int[] seeds = {1, 0, -1, Integer.MAX_VALUE, Integer.MIN_VALUE, 12345};
        int[] behindTwo = {-1770082073, -740551042, 288979989, -1858503659, 1406932606, -1492899873};
        for (int i = 0; i < seeds.length; i++) {
            SoakTub x = new SoakTub();
            x.seed(seeds[i]);
            x.sticks(1);
            due("z behind two draws from " + seeds[i], behindTwo[i], x.count(6));
        }
    }

    /** From z 1 the rests are 6, 0, 4 and 3; the 2nd and the 4th z are below 0. */
    private static void drawsAreUnsigned() {
        SoakTub x = tub("thing;thing in 1;thing in 2;thing in 3;thing in 4;thing in 5;thing in 6;thing in 7");
        x.sticks(1);
        int[] once = {6, 1, 2, 3, 4, 5, 0, 7};
        for (int t = 0; t < once.length; t++) {
            due("layers 6 and 0 are stirred: " + t, once[t], x.of(t, LAYER));
        }
        due("z behind 2 draws", -1770082073, x.count(6));
        x.sticks(1);
        int[] twice = {6, 1, 2, 4, 3, 5, 0, 7};
        for (int t = 0; t < twice.length; t++) {
            due("then layers 4 and 3: " + t, twice[t], x.of(t, LAYER));
        }
        due("z behind 4 draws", -999580867, x.count(6));
    }

    private static void spotsAndSheets() {
        SoakTub x = tub("thing");
        for (int spot = 0; spot <= 9; spot++) {
            due("nothing at first", MISSING, x.as(spot, 0));
            due("a spot holds it", 1, x.hold(spot, 0));
            due("spots that hold something", spot + 1, x.count(7));
            due("it is there", 0, x.as(spot, 0));
        }
        due("spot 10", BEYOND, x.hold(10, 0));
        for (int s = 0; s <= 3; s++) {
            due("missing at first", MISSING, x.write(s, 0, 0));
            due("40 numbers", 40, x.sheet(s, 8, 40));
            due("the last of them", 1, x.write(s, 39, 0));
            due("no 41st", BEYOND, x.write(s, 40, 0));
        }
        due("sheet 4", BEYOND, x.sheet(4, 8, 40));
        due("41 numbers", BEYOND, x.sheet(0, 8, 41));
    }

    /** What a number of so many bits becomes: told by `judge` where it can be, by `load` as less than 0 else. */
    private static void numbersWithTheirSign() {
        int[][] bitsWrittenTold = {
            {8, 127, 127}, {8, 128, -1}, {8, 255, -1}, {8, 256, 0}, {8, 383, 127}, {8, 384, -1}, {8, -1, -1},
            {8, -128, -1}, {8, -129, 127}, {8, -256, 0}, {8, Integer.MAX_VALUE, -1}, {8, Integer.MIN_VALUE, 0},
            {16, 999, 999}, {16, 32768, -1}, {16, 65535, -1}, {16, 65536, 0}, {16, 66535, 999}, {16, -64537, 999},
            {16, -32768, -1}, {16, -65536, 0}, {16, Integer.MAX_VALUE, -1}, {16, Integer.MIN_VALUE, 0},
            {32, 999, 999}, {32, -1, -1}, {32, Integer.MIN_VALUE, -1}};
        for (int[] row : bitsWrittenTold) {
            SoakTub x = tub("thing");
            x.sheet(0, row[0], 1);
            x.write(0, 0, row[1]);
            String what = row[1] + " of " + row[0] + " bits";
            due(what, row[2] < 0 ? 0 : 1, x.load(0));
            due(what + " is told", row[2] < 0 ? 60 : row[2], x.of(0, HOLDS));
        }
        int[][] bitsWrittenAny = {{8, 255, 1}, {8, 65535, 1}, {8, 254, 0}, {8, -2, 0}, {16, 255, 0}, {16, 65535, 1},
            {16, -1, 1}, {32, 65535, 0}, {32, -1, 1}, {32, Integer.MAX_VALUE, 0}};
        for (int[] row : bitsWrittenAny) {
            SoakTub x = tub("thing");
            x.sheet(0, row[0], 1);
            x.write(0, 0, row[1]);
            due(row[1] + " of " + row[0] + " bits is -1", row[2] * 201, x.fits(0, 0, 0));
        }
        SoakTub big = tub("dye 0 0 999;dye 0 1 999;dye 0 2 999");
        big.sheet(0, 16, 1);
        big.write(0, 0, 2997);
        due("2997 of 16 bits", 0, big.judge(0));
        big.write(0, 0, 2997 + 65536);
        due("2997 and 65536 of 16 bits", 0, big.judge(0));
        big.sheet(0, 32, 1);
        big.write(0, 0, 2997 + 65536);
        due("2997 and 65536 of 32 bits", 1, big.judge(0));
    }
}
