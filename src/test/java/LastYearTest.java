/**
 * The last YEAR, 99999: no 512 calls come so far, and of later calls the document promises nothing. So this is a test
 * of this class alone, which counts no calls: its STATE and its last YEAR are to be as the document says.
 */
public final class LastYearTest {
    private static final int BEYOND = -1000001;
    private static final int STATE = -1000005;
    private static final int LAST_YEAR = 99999;

    private static int wrong = 0;

    private static void due(String what, long want, long got) {
        if (want != got) {
            wrong++;
            System.out.println(what + ": answered " + got + ", due is " + want);
        }
    }

    public static void main(String[] args) {
        goToTheLastYear();
        sticksToTheLastYear();
        noYearBehindTheLast();
        System.out.println(wrong == 0 ? "all answers are as due" : wrong + " answers are not as due");
        if (wrong != 0) {
            System.exit(1);
        }
    }

    private static SoakTub inYear(int year) {
        SoakTub x = new SoakTub();
        for (int left = year; left > 0; left -= 60) {
            x.go(Math.min(left, 60));
        }
        due("year", year, x.now(0));
        return x;
    }

    private static void goToTheLastYear() {
        SoakTub x = inYear(LAST_YEAR - 60);
        x.dye(0, 0, 100);
        due("go 60 to the last", 100, x.go(60));
        due("the last", LAST_YEAR, x.now(0));
        SoakTub y = inYear(LAST_YEAR - 59);
        y.thing(5, 3);
        due("go 60 behind the last", STATE, y.go(60));
        due("nothing changed", LAST_YEAR - 59, y.count(0));
        due("nor the stone", 3, y.of(0, 1));
        due("it is counted", 1, y.status(4));
        due("among all", 1, y.status(-1));
        due("go 59", 0, y.go(59));
        due("go 1 from the last", STATE, y.go(1));
        due("go 0 from the last", BEYOND, y.go(0));
        due("go 61 from the last", BEYOND, y.go(61));
        due("two of STATE", 2, y.status(4));
    }

    private static void sticksToTheLastYear() {
        SoakTub x = inYear(LAST_YEAR - 20);
        due("sticks to the last", 0, x.sticks(20));
        due("the last", LAST_YEAR, x.now(0));
        SoakTub y = inYear(LAST_YEAR - 19);
        y.thing(5, 3);
        due("sticks behind the last", STATE, y.sticks(20));
        due("no draw", 1, y.count(6));
        due("no year", LAST_YEAR - 19, y.now(0));
        due("the stone", 3, y.of(0, 1));
        due("19 sticks", 0, y.sticks(19));
        due("1 stick from the last", STATE, y.sticks(1));
        due("0 sticks from the last", BEYOND, y.sticks(0));
        due("21 sticks from the last", BEYOND, y.sticks(21));
        due("two of STATE", 2, y.status(4));
    }

    /** Ahead, YEAR stays the last one, an odd one: a light dance rises by 1 in each such year. */
    private static void noYearBehindTheLast() {
        SoakTub x = inYear(LAST_YEAR - 1);
        x.thing(4, 7);
        x.change(0, 3, 0);
        int[] layers = {7, 5, 4, 3, 2, 1, 0, 0};
        for (int n = 0; n < layers.length; n++) {
            due("a dance behind " + n + " years", layers[n], x.ahead(0, 1, n));
        }
        due("seen behind 6", 6, x.seen(0));
        due("soaked behind 100", 100, x.ahead(0, 4, 100));
    }
}
