/** Promises 23 to 25: forecasts, which change nothing. */
final class ForecastTest {
    private ForecastTest() {
    }

    public static void main(String[] args) {
        forecastsComeTrue();
        ofFailedDiscs();
        ofDiscsBeingMended();
        loads();
        worstDisc();
        wrongNumbers();
        Check.end("ForecastTest");
    }

    private static void forecastsComeTrue() {
        for (int first = 0; first < 7; first++) {
            for (int second = 0; second < 7; second++) {
                for (int third = 0; third < 7; third++) {
                    forecastComesTrue(first, second, third);
                }
            }
        }
    }

    private static void forecastComesTrue(int first, int second, int third) {
        SpreadParity x = new SpreadParity();
        int[] discs = {first, second, third};
        for (int disc : discs) {
            long digest = x.digest();
            int saved = x.savedStates();
            int forecast = x.lostIfFailed(disc);
            Check.same("digest() after a forecast", x.digest(), digest);
            Check.same("savedStates() after a forecast", x.savedStates(), saved);
            if (x.state(disc) == SpreadParity.NONE) {
                Check.same("forecast of a failed disc", forecast, x.lost());
            } else {
                Check.same("forecast of disc " + disc, forecast, x.fail(disc));
            }
        }
    }

    private static void ofFailedDiscs() {
        SpreadParity x = new SpreadParity();
        x.fail(0);
        x.fail(1);
        Check.same("lost()", x.lost(), 4);
        Check.same("lostIfFailed(0)", x.lostIfFailed(0), 4);
        Check.same("lostIfFailed(1)", x.lostIfFailed(1), 4);
        Check.same("lostIfFailed(2)", x.lostIfFailed(2), 12);
    }

    private static void ofDiscsBeingMended() {
        SpreadParity x = new SpreadParity();
        x.fail(0);
        x.fail(1);
        x.beginMending(0);
        x.mend(8);
        Check.same("lost()", x.lost(), 0);
        Check.same("lostIfFailed(0)", x.lostIfFailed(0), 4);
        Check.same("fail(0)", x.fail(0), 4);
    }

    private static void loads() {
        SpreadParity x = new SpreadParity();
        x.fail(2);
        x.write(0, 1);
        for (int disc = 0; disc < 7; disc++) {
            SpreadParity y = new SpreadParity();
            y.fail(disc);
            y.beginMending(disc);
            y.mend(9);
            for (int other = 0; other < 7; other++) {
                Check.same("loadOf(" + disc + ", " + other + ")", x.loadOf(disc, other), disc == other ? 0 : 3);
                Check.same("load that comes true", y.reads(other), x.loadOf(disc, other));
            }
        }
    }

    private static void worstDisc() {
        SpreadParity x = new SpreadParity();
        Check.same("worst() of a new array", x.worst(), 0);
        x.fail(0);
        Check.same("worst() without disc 0", x.worst(), 1);
        x.beginMending(0);
        x.mend(8);
        Check.same("worst() where stripe 20, with data on disc 6, has a gap", x.worst(), 6);
        x.mend(1);
        Check.same("worst()", x.worst(), 0);
        SpreadParity y = new SpreadParity();
        y.fail(2);
        y.fail(4);
        y.fail(5);
        Check.same("lostIfFailed(0)", y.lostIfFailed(0), 18);
        Check.same("lostIfFailed(6)", y.lostIfFailed(6), 24);
        Check.same("worst()", y.worst(), 6);
        int most = 0;
        int due = SpreadParity.NONE;
        for (int disc = 0; disc < 7; disc++) {
            if (y.state(disc) == 9 && y.lostIfFailed(disc) > most) {
                due = disc;
                most = y.lostIfFailed(disc);
            }
        }
        Check.same("worst()", y.worst(), due);
        SpreadParity z = new SpreadParity();
        for (int disc = 0; disc < 7; disc++) {
            Check.holds("a sound disc is found", z.worst() != SpreadParity.NONE);
            z.fail(disc);
        }
        Check.same("worst() of failed discs", z.worst(), SpreadParity.NONE);
        z.beginMending(3);
        Check.same("worst() where one is being mended", z.worst(), SpreadParity.NONE);
        z.mend(9);
        Check.same("worst() where one is sound", z.worst(), 3);
    }

    private static void wrongNumbers() {
        int[] wrong = {-1, 7, -7, 14, Integer.MIN_VALUE, Integer.MAX_VALUE};
        for (int disc : wrong) {
            SpreadParity x = new SpreadParity();
            Check.noIndex(x, "lostIfFailed(" + disc + ")", () -> x.lostIfFailed(disc));
            Check.noIndex(x, "loadOf(" + disc + ", 0)", () -> x.loadOf(disc, 0));
            Check.noIndex(x, "loadOf(0, " + disc + ")", () -> x.loadOf(0, disc));
            Check.noIndex(x, "loadOf(" + disc + ", " + disc + ")", () -> x.loadOf(disc, disc));
        }
    }
}
