import java.util.ArrayList;
import java.util.List;

/** Promises 1 and 11 to 13: a new object, and where its units are. */
final class LayoutTest {
    private LayoutTest() {
    }

    public static void main(String[] args) {
        newObject();
        somePlaces();
        allPlaces();
        wrongNumbers();
        Check.end("LayoutTest");
    }

    private static void newObject() {
        SpreadParity x = new SpreadParity();
        for (int disc = 0; disc < 7; disc++) {
            Check.same("state of a new disc", x.state(disc), 9);
            Check.same("reads of a new disc", x.reads(disc), 0);
            Check.same("writes of a new disc", x.writes(disc), 0);
            for (int place = 0; place < 9; place++) {
                Check.same("a new unit", x.unit(disc, place), 0);
            }
        }
        for (int address = 0; address < 42; address++) {
            Check.same("a new address", x.peek(address), 0);
        }
        Check.same("new lost()", x.lost(), 0);
        Check.same("new wrong()", x.wrong(), 0);
        Check.same("new spares()", x.spares(), 2);
        Check.same("new losses()", x.losses(), 0);
        Check.same("new balance()", x.balance(), 1.0);
        Check.same("new worst()", x.worst(), 0);
        Check.same("new savedStates()", x.savedStates(), 0);
        Check.same("new clearText()", x.clearText(), 0);
    }

    private static void somePlaces() {
        SpreadParity x = new SpreadParity();
        int[] onDisc0 = {0, 4, 6, 7, 11, 13, 14, 18, 20};
        int[] onDisc3 = {0, 2, 3, 7, 9, 10, 14, 16, 17};
        for (int place = 0; place < 9; place++) {
            Check.same("stripeAt(0, " + place + ")", x.stripeAt(0, place), onDisc0[place]);
            Check.same("stripeAt(3, " + place + ")", x.stripeAt(3, place), onDisc3[place]);
        }
        Check.same("member(20, 0)", x.member(20, 0), 6);
        Check.same("member(20, 1)", x.member(20, 1), 0);
        Check.same("member(20, 2)", x.member(20, 2), 2);
        Check.same("place(20, 0)", x.place(20, 0), 68);
        Check.same("place(20, 1)", x.place(20, 1), 8);
        Check.same("place(20, 2)", x.place(20, 2), 28);
        Check.same("place(7, 0)", x.place(7, 0), 3);
        Check.same("place(7, 1)", x.place(7, 1), 33);
        Check.same("place(7, 2)", x.place(7, 2), 13);
    }

    private static void allPlaces() {
        SpreadParity x = new SpreadParity();
        List<List<Integer>> discs = new ArrayList<>();
        for (int disc = 0; disc < 7; disc++) {
            discs.add(new ArrayList<>());
        }
        for (int stripe = 0; stripe < 21; stripe++) {
            int i = stripe % 7;
            int t = stripe / 7;
            int[] members = {i, (i + 1) % 7, (i + 3) % 7};
            List<Integer> units = new ArrayList<>();
            for (int member = 0; member < 3; member++) {
                Check.same("member(" + stripe + ", " + member + ")", x.member(stripe, member), members[member]);
                List<Integer> disc = discs.get(members[member]);
                units.add(10 * members[member] + disc.size());
                disc.add(stripe);
            }
            units.add(units.remove(t));
            for (int unit = 0; unit < 3; unit++) {
                Check.same("place(" + stripe + ", " + unit + ")", x.place(stripe, unit), units.get(unit));
            }
        }
        for (int disc = 0; disc < 7; disc++) {
            for (int place = 0; place < 9; place++) {
                Check.same("stripeAt(" + disc + ", " + place + ")", x.stripeAt(disc, place), discs.get(disc).get(place));
            }
        }
    }

    private static void wrongNumbers() {
        int[][] wrong = {{-1, 0}, {21, 0}, {0, -1}, {0, 3}, {-1, -1}, {21, 3},
            {Integer.MIN_VALUE, 0}, {Integer.MAX_VALUE, 0}, {0, Integer.MIN_VALUE}, {0, Integer.MAX_VALUE}};
        for (int[] w : wrong) {
            SpreadParity x = new SpreadParity();
            Check.noIndex(x, "member(" + w[0] + ", " + w[1] + ")", () -> x.member(w[0], w[1]));
            Check.noIndex(x, "place(" + w[0] + ", " + w[1] + ")", () -> x.place(w[0], w[1]));
        }
        int[][] off = {{-1, 0}, {7, 0}, {0, -1}, {0, 9}, {-1, 9}, {7, -1}, {1, -9},
            {Integer.MIN_VALUE, 0}, {Integer.MAX_VALUE, 0}, {0, Integer.MIN_VALUE}, {0, Integer.MAX_VALUE}};
        for (int[] w : off) {
            SpreadParity x = new SpreadParity();
            Check.noIndex(x, "stripeAt(" + w[0] + ", " + w[1] + ")", () -> x.stripeAt(w[0], w[1]));
            Check.noIndex(x, "unit(" + w[0] + ", " + w[1] + ")", () -> x.unit(w[0], w[1]));
        }
    }
}
