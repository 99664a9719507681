import java.util.ArrayList;
import java.util.List;

/** THE TAPE and its TEXTS: each TOKEN at each place where it can stand or can't, and the edges of the tape. */
public final class TextsTest {
    private static final int FULL = -1000002;
    private static final int BEYOND = -1000001;
    private static final int MOST_BYTES = 120;

    private static final String[] KINDS = {"thing", "glove", "veil", "dress", "dance", "stone", "medal"};
    private static final String[] PARTS = {"in", "of", "holds"};
    private static final String[] ACTS = {"dye", "lye", "stir"};
    private static final String[] NO_WORDS = {
        "x", "things", "thin", "veils", "inn", "i", "off", "hold", "holdss", "dyes", "dy", "lyes", "stirs", "sti", "and",
        "athing", "aaaaaaaaaaaaaaaaaaaaaaaaaaaaaaaaaaaaaaa", "zzzzz", "inin", "thingin"};
    private static final String[] NO_TOKENS = {
        "/", ":", "`", "{", "A", "Z", "Thing", "\n", "\t", "\r", "\0", "\u007f", "\u0080", "\u00e9", "\u00ff", "\u00a0",
        "-", "-1", "+1", ".", ",", "?", "@", "[", "_", "~"};
    private static final String[] NUMBERS = {
        "0", "00", "1", "2", "02", "3", "7", "007", "8", "9", "0009", "10", "99", "100", "999", "000000000999", "1000",
        "1001", "9999", "65536", "4294967296", "4294967297", "18446744073709551616", "2147483648"};

    private static int wrong = 0;

    private static void due(String what, long want, long got) {
        if (want != got) {
            wrong++;
            System.out.println(what + ": answered " + got + ", due is " + want);
        }
    }

    private static void feed(SoakTub x, String text) {
        for (int i = 0; i < text.length(); i++) {
            x.feed(text.charAt(i), 1);
        }
    }

    private static int read(SoakTub x, String text) {
        x.wipe();
        feed(x, text);
        return x.text();
    }

    private static void isRead(String text, int items) {
        SoakTub x = new SoakTub();
        due("'" + text + "'", items, read(x, text));
        due("the tape is empty behind it", 0, x.count(5));
        due("no finding by it", 0, x.status(-1));
    }

    private static void hasFault(String text, int place) {
        SoakTub x = new SoakTub();
        due("'" + text + "'", -1 - place, read(x, text));
        due("the tape is empty behind it", 0, x.count(5));
        due("no finding by it", 0, x.status(-1));
        due("no thing by it", 0, x.count(1));
        due("no dye by it", 0, x.count(4));
        due("no lye by it", 1, x.lye(1));
    }

    public static void main(String[] args) {
        eachTokenAtEachPlace();
        blanks();
        tokensAreAsLongAsCanBe();
        endsTooEarly();
        theFirstOfTwoFaults();
        ninthThing();
        tapeFrom0To120();
        fullTapes();
        bytesOfANumber();
        itemByItem();
        nothingChangesByAFault();
        stirPerhapsOneAndTheSame();
        System.out.println(wrong == 0 ? "all answers are as due" : wrong + " answers are not as due");
        if (wrong != 0) {
            System.exit(1);
        }
    }

    /** What may stand behind a text that is right so far: some words, a number up to one, a sign, the end. */
    private record Place(String before, List<String> words, int mostNumber, boolean end) {
        boolean takes(String token) {
            if (token.isEmpty() || token.equals(";")) {
                return end;
            }
            boolean digits = token.matches("[0-9]+");
            return digits ? new java.math.BigInteger(token).intValueExact() <= mostNumber : words.contains(token);
        }
    }

    private static List<Place> places() {
        List<String> items = new ArrayList<>(List.of(KINDS));
        items.addAll(List.of(ACTS));
        List<Place> places = new ArrayList<>();
        for (String begin : new String[] {"", "lye 3;", "veil in 7 of 2 holds 999;dye 0 0 0 ; stir 1 1;"}) {
            places.add(new Place(begin, items, -1, false));
            for (String kind : KINDS) {
                places.add(new Place(begin + kind, List.of(PARTS), -1, true));
            }
            places.add(new Place(begin + "veil in", List.of(), 7, false));
            places.add(new Place(begin + "veil in 7", List.of("of", "holds"), -1, true));
            places.add(new Place(begin + "veil of", List.of(), 2, false));
            places.add(new Place(begin + "veil of 2", List.of("holds"), -1, true));
            places.add(new Place(begin + "veil in 0 of", List.of(), 2, false));
            places.add(new Place(begin + "veil in 0 of 0", List.of("holds"), -1, true));
            places.add(new Place(begin + "veil holds", List.of(), 999, false));
            places.add(new Place(begin + "veil in 2 holds", List.of(), 999, false));
            places.add(new Place(begin + "veil of 1 holds", List.of(), 999, false));
            places.add(new Place(begin + "veil in 2 of 1 holds", List.of(), 999, false));
            places.add(new Place(begin + "veil holds 0", List.of(), -1, true));
            places.add(new Place(begin + "veil in 2 of 1 holds 999", List.of(), -1, true));
            places.add(new Place(begin + "dye", List.of(), 7, false));
            places.add(new Place(begin + "dye 7", List.of(), 2, false));
            places.add(new Place(begin + "dye 7 2", List.of(), 999, false));
            places.add(new Place(begin + "dye 7 2 999", List.of(), -1, true));
            places.add(new Place(begin + "lye", List.of(), 9, false));
            places.add(new Place(begin + "lye 9", List.of(), -1, true));
            places.add(new Place(begin + "stir", List.of(), 7, false));
            places.add(new Place(begin + "stir 7", List.of(), 7, false));
            places.add(new Place(begin + "stir 7 0", List.of(), -1, true));
        }
        return places;
    }

    private static void eachTokenAtEachPlace() {
        List<String> tokens = new ArrayList<>(List.of("", ";"));
        for (String[] some : new String[][] {KINDS, PARTS, ACTS, NO_WORDS, NUMBERS, NO_TOKENS}) {
            tokens.addAll(List.of(some));
        }
        for (Place place : places()) {
            String begin = place.before.isEmpty() ? "" : place.before + " ";
            for (String token : tokens) {
                String text = begin + token;
                if (isTaken(place, token)) {
                    due("'" + text + "'", answerTo(text), read(new SoakTub(), text));
                } else {
                    due("'" + text + "'", -1 - begin.length(), read(new SoakTub(), text));
                    due("'" + text + " 5'", -1 - begin.length(), read(new SoakTub(), token.isEmpty() ? text : text + " 5"));
                }
            }
        }
    }

    private static boolean isTaken(Place place, String token) {
        if (token.matches("[0-9]{10,}") && !token.startsWith("0")) {
            return false;
        }
        return place.takes(token);
    }

    /** Of a text in which each token can stand: its items, or how many bytes it has if it ends too early. */
    private static int answerTo(String text) {
        String[] items = text.split(";", -1);
        String last = items[items.length - 1].trim();
        String whole = "(thing|glove|veil|dress|dance|stone|medal)( in \\d+)?( of \\d+)?( holds \\d+)?"
            + "|dye \\d+ \\d+ \\d+|lye \\d+|stir \\d+ \\d+";
        return last.matches(whole) ? items.length : -1 - text.length();
    }

    private static void blanks() {
        isRead("veil in 3 of 2 holds 5;lye 3", 2);
        isRead("  veil   in  3   of  2   holds   5  ;  lye   3  ", 2);
        isRead("veil in3of2holds5;lye3", 2);
        isRead("veil in3 of2 holds5 ;lye3 ", 2);
        isRead("dye7 2 999;stir0 7", 2);
        hasFault("dye 72 999", 4);
        hasFault("dye 7 2999", 6);
        hasFault("veilin 3", 0);
        hasFault("ve il", 0);
        hasFault("veil i n 3", 5);
        hasFault("veil holds 9 9", 13);
        hasFault("veil of3", 7);
        hasFault("veil in 3of3", 11);
        hasFault("veil in 3of2of2", 12);
        hasFault("lye3lye4", 4);
        hasFault("lye\t3", 3);
        hasFault("lye 3\n", 5);
    }

    private static void tokensAreAsLongAsCanBe() {
        hasFault("lye 99", 4);
        hasFault("veil holds 1000", 11);
        hasFault("veil holds 0001000", 11);
        isRead("veil holds 0000999", 1);
        isRead("lye 0000000000000000000000000000000000009", 1);
        hasFault("lye 0000000000000000000000000000000000010", 4);
        hasFault("thingveil", 0);
        hasFault("lye 99999999999999999999999999999999999999999999999999999999999999", 4);
        hasFault("lye 3;;lye 3", 6);
        hasFault("dye 0 0 1;dye 0 0 1a", 19);
    }

    private static void endsTooEarly() {
        String[] early = {
            "", " ", "    ", "veil in", "veil of", "veil holds", "veil in 1 of", "veil in 1 of 1 holds ", "dye", "dye 1",
            "dye 1 1", "dye 1 1  ", "lye", "stir", "stir 1", "veil;", "veil; ", "lye 1;lye 2 ;", "veil;dye", "veil in "};
        for (String text : early) {
            hasFault(text, text.length());
        }
    }

    private static void theFirstOfTwoFaults() {
        hasFault("veil in 8 of 3", 8);
        hasFault("veil x ?", 5);
        hasFault("dye 8 3 1000", 4);
        hasFault("dye 7 3 1000", 6);
        hasFault("dye 7 2 1000 sock", 8);
        hasFault("stir 8 8", 5);
        hasFault("stir 7 8;", 7);
        hasFault("sock sock", 0);
        hasFault("veil ; sock ; sock", 7);
        hasFault("lye 10 ?", 4);
        hasFault("? lye 10", 0);
    }

    private static void ninthThing() {
        String eight = "thing;glove;veil;dress;dance;stone;medal;veil";
        isRead(eight, 8);
        hasFault(eight + ";medal", eight.length() + 1);
        hasFault(eight + " ;  medal in 9", eight.length() + 4);
        hasFault(eight + ";veils", eight.length() + 1);
        isRead(eight + ";lye 3", 9);
        hasFault("lye 3;" + eight + ";stir 1 2;veil", eight.length() + 16);
        for (int things = 0; things <= 8; things++) {
            SoakTub x = new SoakTub();
            for (int t = 0; t < things; t++) {
                x.thing(5, 7);
            }
            String text = "veil;lye 5;dress";
            int want = things <= 6 ? 3 : things == 7 ? -1 - 11 : -1;
            due("two more with " + things + " there", want, read(x, text));
            due("so many then", things <= 6 ? things + 2 : things, x.count(1));
            due("lye", things <= 6 ? 5 : 1, x.lye(1));
        }
    }

    private static void tapeFrom0To120() {
        for (int n = 1; n <= 4; n++) {
            for (int room = 0; room <= 5; room++) {
                SoakTub x = new SoakTub();
                for (int i = 0; i < MOST_BYTES - room; i++) {
                    due("a byte", i + 1, x.feed(0, 1));
                }
                boolean fits = n <= room;
                due(n + " bytes with room for " + room, fits ? MOST_BYTES - room + n : FULL, x.feed(0, n));
                due("bytes then", fits ? MOST_BYTES - room + n : MOST_BYTES - room, x.count(5));
            }
        }
        SoakTub x = new SoakTub();
        for (int n : new int[] {0, 5, -1, Integer.MIN_VALUE, Integer.MAX_VALUE}) {
            due("feed of " + n, BEYOND, x.feed(0, n));
        }
        due("nothing came", 0, x.wipe());
        for (int i = 0; i < 30; i++) {
            x.feed(-1, 4);
        }
        for (int n : new int[] {0, 5, -1}) {
            due("feed of " + n + ", though it is full", BEYOND, x.feed(0, n));
        }
        due("it had", 120, x.wipe());
        due("it is empty", 0, x.count(5));
        due("it had none", 0, x.wipe());
        due("there is room again", 4, x.feed(0, 4));
    }

    private static void fullTapes() {
        String lye = "lye 1;".repeat(19);
        isRead(lye + "lye 01", 20);
        isRead(lye + "lye 1 ", 20);
        hasFault(lye + "lye 1;", MOST_BYTES);
        hasFault(lye + "lye   ", MOST_BYTES);
        hasFault(lye + "lye 1?", MOST_BYTES - 1);
        hasFault(lye + "lye 10", MOST_BYTES - 2);
        isRead("lye1;".repeat(23) + "lye01", 24);
        isRead("lye" + "0".repeat(116) + "9", 1);
        hasFault("lye" + "9".repeat(117), 3);
        hasFault("l".repeat(120), 0);
        hasFault(" ".repeat(120), 120);
        hasFault(" ".repeat(119) + ";", 119);
        isRead(" ".repeat(116) + "veil", 1);
        hasFault(";".repeat(120), 0);
        hasFault("1".repeat(120), 0);
    }

    private static void bytesOfANumber() {
        SoakTub x = new SoakTub();
        due("the highest first", 4, x.feed(0x6C796539, 4));
        due("lye9", 1, x.text());
        due("lye 9", 9, x.lye(1));
        due("the 3 lowest", 3, x.feed(0xFF6C7965, 3));
        due("the lowest", 4, x.feed(0x39393938, 1));
        due("lye8", 1, x.text());
        due("lye 8", 8, x.lye(1));
        due("the 2 lowest", 2, x.feed(0x3B3B6C79, 2));
        due("2 more", 4, x.feed(0x3B3B6537, 2));
        due("lye7", 1, x.text());
        due("lye 7", 7, x.lye(1));
        x.feed(0x6C796536, 4);
        x.feed(Integer.MIN_VALUE, 1);
        due("the lowest of the least number is 0: it begins no token", -1 - 4, x.text());
        x.feed(0x6C796536, 4);
        x.feed(0x80000020, 4);
        due("its highest is 128", -1 - 4, x.text());
        x.feed(0x6C796536, 4);
        x.feed(0x20202020, 4);
        due("four blanks", 1, x.text());
        for (int b = 0; b < 256; b++) {
            SoakTub y = new SoakTub();
            y.feed(0x6C79652E, 4);
            y.wipe();
            y.feed(0x6C7965, 3);
            y.feed(b, 1);
            boolean lye = b >= '0' && b <= '9';
            boolean word = b >= 'a' && b <= 'z';
            due("lye and byte " + b, lye ? 1 : word ? -1 : b == ' ' ? -5 : -4, y.text());
        }
    }

    private static void itemByItem() {
        SoakTub x = new SoakTub();
        due("the second stir undoes none of the dye behind the first", 6,
            read(x, "dye 0 0 5;stone in 1;stir 0 1;dye 0 0 6;veil;stir 0 2"));
        due("the first dye", 5, x.layer(1, 0));
        due("the second", 6, x.layer(2, 0));
        due("layer 0", 0, x.layer(0, 3));
        due("the stone", 2, x.of(0, 1));
        due("the veil", 2, x.of(1, 1));
        due("none is seen by that", 0, x.now(5));
        due("the last lye", 3, read(x, "lye 0;lye 9;lye 4"));
        due("is so", 4, x.lye(4));
        due("a dye becomes so much, not more by it", 2, read(x, "dye 1 0 7;dye 1 0 3"));
        due("it is 3", 3, x.layer(1, 0));
        due("a year doesn't go by", 0, x.now(0));
        due("z", 1, x.count(6));
    }

    private static void nothingChangesByAFault() {
        SoakTub x = new SoakTub();
        due("a tub", 3, read(x, "veil in 3 of 1 holds 70;dye 2 2 22;lye 6"));
        due("fault", -1 - 55, read(x, "stone;dye 2 2 0;lye 0;stir 2 3;dye 3 1 9;veil;veil;lye ?"));
        due("things", 1, x.count(1));
        due("its layer", 3, x.of(0, 1));
        due("its colour", 1, x.of(0, 2));
        due("it holds", 70, x.of(0, 3));
        due("dye", 22, x.layer(2, 2));
        due("all dyes", 22, x.now(1));
        due("lye", 6, x.lye(6));
        due("the tape", 0, x.count(5));
        due("what it read is no thing's part later on", 1, x.thing(4, 5));
        int[] first = {4, 5, 0, 60, 0, 0};
        for (int what = 0; what < first.length; what++) {
            due("the new one's " + what, first[what], x.of(1, what));
        }
    }

    private static void stirPerhapsOneAndTheSame() {
        for (int layer = 0; layer < 8; layer++) {
            SoakTub x = new SoakTub();
            String text = "veil in " + layer + ";dye " + layer + " 1 30;stir " + layer + " " + layer;
            due(text, 3, read(x, text));
            due("it is there", layer, x.of(0, 1));
            due("so is the dye", 30, x.layer(layer, 1));
            due("and no more of it", 30, x.now(1));
        }
    }
}
