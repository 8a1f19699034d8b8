import java.util.function.Supplier;
import java.util.function.ToLongBiFunction;

/** The bounds that the document names in the promises 30 to 34. */
public final class EndsBoundsTest {
    private static final Due due = new Due();
    private static final Afterwards afterwards = new Afterwards(due);

    public static void main(String[] args) {
        cardsOf();
        meanPressures();
        meanAreaOfNone();
        meanPower();
        meanPowerOfNone();
        imbalance();
        imbalanceOfNone();
        outliersBeyondThePercentage();
        outliersOfAMedianBelowZero();
        outliersOfAMedianOfZero();
        percent();
        placeOfTheMedian();
        numbersBehindOutliers();
        removedOutliers();
        outliersOfNone();
        due.end();
    }

    /** Adds a card of such an area: its difference is the same at all stations, but for the rest at the first one. */
    private static void addArea(IndicatorDiagram x, int end, int speed, int area) {
        int difference = Math.floorDiv(area, 40);
        int base = Math.max(0, -difference);
        int[] outward = Drawing.level(base + difference);
        outward[0] += Math.floorMod(area, 40);
        Drawing.add(x, end, speed, outward, Drawing.level(base));
        due.is("area of a card made for it", x.area(x.cardCount() - 1), area);
    }

    private static void wrongEnds(String name, ToLongBiFunction<IndicatorDiagram, Integer> call) {
        for (int end : new int[] {-1, 2, Integer.MIN_VALUE, Integer.MAX_VALUE}) {
            afterwards.refused(name + " of the end " + end, x -> call.applyAsLong(x, end), Due.INVALID);
        }
    }

    private static void cardsOf() {
        due.sentence("Returns the number of cards of the end; INVALID_ARGUMENT if end is out of range.");
        wrongEnds("cardsOf", (x, end) -> x.cardsOf(end));
        afterwards.unchanged("cardsOf(0)", x -> x.cardsOf(0));
        afterwards.unchanged("cardsOf(1)", x -> x.cardsOf(1));
        for (int end = 0; end <= 1; end++) {
            IndicatorDiagram x = new IndicatorDiagram();
            for (int card = 0; card <= 10; card++) {
                due.is("cardsOf(" + end + ")", x.cardsOf(end), card);
                due.is("cardsOf(" + (1 - end) + ")", x.cardsOf(1 - end), 0);
                x.addIdealCard(end, 60, 0, 0);
            }
            due.is("cardsOf(" + end + ") behind a refused card", x.cardsOf(end), 10);
            x.removeCard(0);
            due.is("cardsOf(" + end + ") behind a removal", x.cardsOf(end), 9);
        }
    }

    private static void meanPressures() {
        due.sentence("whose pressure at each station of each stroke is the sum of those of all cards of the end, "
                + "divided by their number.");
        for (int end = 0; end <= 1; end++) {
            IndicatorDiagram x = new IndicatorDiagram();
            Drawing.add(x, end, 60, Drawing.level(3), Drawing.level(0));
            due.is("of one card", x.meanArea(end), 120);
            Drawing.add(x, 1 - end, 60, Drawing.level(5000), Drawing.level(0));
            Drawing.add(x, end, 60, Drawing.level(4), Drawing.level(0));
            due.is("of 3 and 4: 7 / 2", x.meanArea(end), 120);
            Drawing.add(x, end, 60, Drawing.level(5), Drawing.level(2));
            due.is("of 3, 4 and 5 less 0, 0 and 2", x.meanArea(end), 160);
            Drawing.add(x, end, 60, Drawing.level(0), Drawing.level(1));
            due.is("of 12 / 4 less 3 / 4", x.meanArea(end), 120);
            Drawing.add(x, end, 60, Drawing.level(0), Drawing.level(17));
            due.is("of 12 / 5 less 20 / 5", x.meanArea(end), -80);
        }
        for (int sign = -1; sign <= 1; sign += 2) {
            IndicatorDiagram x = new IndicatorDiagram();
            for (int card = 0; card < 10; card++) {
                Drawing.add(x, 0, 600, Drawing.level(sign > 0 ? 5000 : 0), Drawing.level(sign > 0 ? 0 : 5000));
            }
            due.is("of the ten cards farthest from 0", x.meanArea(0), sign * 200000);
        }
    }

    private static void meanAreaOfNone() {
        due.sentence("Returns the area; INVALID_ARGUMENT if end is out of range; NONE if the end has no cards.");
        wrongEnds("meanArea", (x, end) -> x.meanArea(end));
        afterwards.refused(Stand.NEW, "meanArea(0)", x -> x.meanArea(0), Due.NONE);
        afterwards.refused(Stand.HALF_DRAWN, "meanArea(1), with a draft of the end", x -> x.meanArea(1), Due.NONE);
        for (int end = 0; end <= 1; end++) {
            int e = end;
            Supplier<IndicatorDiagram> other = () -> oneCardOf(1 - e);
            afterwards.refused(other, "meanArea(" + end + ") of the other end's card", x -> x.meanArea(e), Due.NONE);
            due.is("meanArea(" + end + ") of one card", oneCardOf(end).meanArea(end), 22214);
            afterwards.unchanged("meanArea(" + end + ")", x -> x.meanArea(e));
        }
    }

    private static IndicatorDiagram oneCardOf(int end) {
        IndicatorDiagram x = new IndicatorDiagram();
        x.addIdealCard(end, 60, 0, 0);
        return x;
    }

    /** Both ends have a piston area of 1000, so that a card of an area of 40 or -40 has the power of its speed. */
    private static IndicatorDiagram withPowers(int[] head, int[] crank) {
        IndicatorDiagram x = new IndicatorDiagram();
        x.setPistonArea(1, 1000);
        for (int power : head) {
            addPower(x, 0, power);
        }
        for (int power : crank) {
            addPower(x, 1, power);
        }
        return x;
    }

    private static void addPower(IndicatorDiagram x, int end, int power) {
        addArea(x, end, Math.max(1, Math.abs(power)), 40 * Integer.signum(power));
        due.is("power of a card made for it", x.power(x.cardCount() - 1), power);
    }

    private static int[] of(int... powers) {
        return powers;
    }

    private static void meanPower() {
        due.sentence("Returns the sum of the powers of all cards of an end, divided by their number.");
        due.is("of 7", withPowers(of(7), of()).meanPower(0), 7);
        due.is("of 3 and 4: 7 / 2", withPowers(of(3, 4), of(99)).meanPower(0), 3);
        due.is("of -3 and -4: -7 / 2 is -4", withPowers(of(-3, -4), of(99)).meanPower(0), -4);
        due.is("of -3 and -4 of the end 1", withPowers(of(99), of(-3, -4)).meanPower(1), -4);
        due.is("of 0 and -1", withPowers(of(0, -1), of()).meanPower(0), -1);
        due.is("of 1 and -1", withPowers(of(1, -1), of()).meanPower(0), 0);
        due.is("of nine of 0 and one of -1", withPowers(of(0, 0, 0, 0, 0, 0, 0, 0, 0, -1), of()).meanPower(0), -1);
        due.is("of nine of 0 and one of 9", withPowers(of(0, 0, 0, 0, 0, 0, 0, 0, 0, 9), of()).meanPower(0), 0);
        IndicatorDiagram x = new IndicatorDiagram();
        x.setPistonArea(0, 5000);
        x.setStroke(300);
        for (int card = 0; card < 10; card++) {
            addArea(x, 0, 600, 200000);
        }
        due.is("of the ten greatest", x.meanPower(0), 75000000);
    }

    private static void meanPowerOfNone() {
        due.sentence("Returns the mean power; INVALID_ARGUMENT if end is out of range; NONE if the end has no cards.");
        wrongEnds("meanPower", (x, end) -> x.meanPower(end));
        afterwards.refused(Stand.NEW, "meanPower(0)", x -> x.meanPower(0), Due.NONE);
        afterwards.refused(Stand.HALF_DRAWN, "meanPower(1), with a draft of the end", x -> x.meanPower(1), Due.NONE);
        for (int end = 0; end <= 1; end++) {
            int e = end;
            Supplier<IndicatorDiagram> other = () -> oneCardOf(1 - e);
            afterwards.refused(other, "meanPower(" + end + ") of the other end's card", x -> x.meanPower(e), Due.NONE);
            afterwards.unchanged("meanPower(" + end + ")", x -> x.meanPower(e));
        }
    }

    private static void imbalance() {
        due.sentence("Returns the size of p - q times 1000, divided by p + q");
        due.is("of 1 and 1", withPowers(of(1), of(1)).imbalance(), 0);
        due.is("of 1 and 2: 1000 / 3", withPowers(of(1), of(2)).imbalance(), 333);
        due.is("of 2 and 1: 1000 / 3", withPowers(of(2), of(1)).imbalance(), 333);
        due.is("of 300 and 301: 1000 / 601", withPowers(of(300), of(301)).imbalance(), 1);
        due.is("of 600 and 599: 1000 / 1199", withPowers(of(600), of(599)).imbalance(), 0);
        due.is("of 0 and 1", withPowers(of(0), of(1)).imbalance(), 1000);
        due.is("of 1 and 0", withPowers(of(1), of(0)).imbalance(), 1000);
        due.is("of the means 0 (1 / 2) and 1", withPowers(of(1, 0), of(1)).imbalance(), 1000);
        for (int end = 0; end <= 1; end++) {
            IndicatorDiagram x = new IndicatorDiagram();
            x.setPistonArea(end, 5000);
            x.setStroke(300);
            addArea(x, end, 600, 200000);
            addArea(x, 1 - end, 1, 0);
            due.is("of the greatest power and 0", x.imbalance(), 1000);
            // 40 * 300 * 200 / 2400000 is 1.
            x.setPistonArea(1 - end, 200);
            addArea(x, 1 - end, 2, 40);
            due.is("of the greatest power and 1: 74999999000 / 75000001", x.imbalance(), 999);
        }
    }

    private static void noImbalance(int[] head, int[] crank) {
        String name = "imbalance of " + java.util.Arrays.toString(head) + " and " + java.util.Arrays.toString(crank);
        afterwards.refused(() -> withPowers(head, crank), name, x -> x.imbalance(), Due.NONE);
    }

    private static void imbalanceOfNone() {
        due.sentence("NONE if an end has no cards, p or q is below 0, or both are 0.");
        noImbalance(of(), of());
        noImbalance(of(5), of());
        noImbalance(of(), of(5));
        noImbalance(of(-1), of(5));
        noImbalance(of(5), of(-1));
        noImbalance(of(-1), of(-1));
        noImbalance(of(-1), of(0));
        noImbalance(of(0), of(-1));
        noImbalance(of(0), of(0));
        noImbalance(of(0, -1), of(5));
        due.is("of the means 0 (-1 and 2) and 5", withPowers(of(-1, 2), of(5)).imbalance(), 1000);
        afterwards.refused(Stand.NEW, "imbalance()", x -> x.imbalance(), Due.NONE);
        afterwards.refused(Stand.HALF_DRAWN, "imbalance()", x -> x.imbalance(), Due.NONE);
        afterwards.unchanged("imbalance()", x -> x.imbalance());
    }

    /** Cards of the end 0 with these areas; their speeds are 1, 2, .. */
    private static IndicatorDiagram withAreas(int... areas) {
        IndicatorDiagram x = new IndicatorDiagram();
        for (int i = 0; i < areas.length; i++) {
            addArea(x, 0, 1 + i, areas[i]);
        }
        return x;
    }

    private static void outliers(IndicatorDiagram x, int percent, int removed, String left) {
        String name = "removeOutliers(0, " + percent + ")";
        due.is(name, x.removeOutliers(0, percent), removed);
        due.are("speeds behind " + name, Drawing.speeds(x), left);
    }

    private static void outliersBeyondThePercentage() {
        due.sentence("(the difference times 100 is greater than percent times that size)");
        outliers(withAreas(4400, 4000, 3600), 10, 0, "1 2 3");
        outliers(withAreas(4400, 4000, 3600), 9, 2, "2");
        outliers(withAreas(4401, 4000, 3600), 10, 1, "2 3");
        outliers(withAreas(4400, 4000, 3599), 10, 1, "1 2");
        outliers(withAreas(4401, 4000, 3599), 10, 2, "2");
        outliers(withAreas(8000, 4000, 0), 100, 0, "1 2 3");
        outliers(withAreas(8001, 4000, -1), 100, 2, "2");
        outliers(withAreas(4001, 4000, 3999), 0, 2, "2");
        outliers(withAreas(4000, 4000, 4000), 0, 0, "1 2 3");
        outliers(withAreas(200000, -200000), 100, 1, "2");
        outliers(withAreas(200000, -200000, 200000), 100, 1, "1 3");
    }

    private static void outliersOfAMedianBelowZero() {
        due.sentence("by more than a percentage of the size of the median");
        outliers(withAreas(-4400, -4000, -3600), 10, 0, "1 2 3");
        outliers(withAreas(-4400, -4000, -3600), 9, 2, "2");
        outliers(withAreas(-4401, -4000, -3600), 10, 1, "2 3");
        outliers(withAreas(-4400, -4000, -3599), 10, 1, "1 2");
        outliers(withAreas(-8000, -4000, 0), 100, 0, "1 2 3");
        outliers(withAreas(-8001, -4000, 1), 100, 2, "2");
    }

    private static void outliersOfAMedianOfZero() {
        due.sentence("by more than a percentage of the size of the median");
        outliers(withAreas(0, 0, 0), 0, 0, "1 2 3");
        outliers(withAreas(1, 0, 0), 100, 1, "2 3");
        outliers(withAreas(-1, 0, 0), 100, 1, "2 3");
        outliers(withAreas(0), 0, 0, "1");
    }

    private static void percent() {
        due.sentence("percent: 0 to 100");
        due.is("removeOutliers(0, 0)", withAreas(40).removeOutliers(0, 0), 0);
        due.is("removeOutliers(0, 100)", withAreas(40).removeOutliers(0, 100), 0);
        for (int percent : new int[] {-1, 101, Integer.MIN_VALUE, Integer.MAX_VALUE}) {
            afterwards.refused("removeOutliers(0, " + percent + ")", x -> x.removeOutliers(0, percent), Due.INVALID);
            afterwards.refused("removeOutliers(1, " + percent + ")", x -> x.removeOutliers(1, percent), Due.INVALID);
            afterwards.refused(() -> withAreas(40, 4000, 80), "removeOutliers(0, " + percent + ") of three",
                    x -> x.removeOutliers(0, percent), Due.INVALID);
        }
        wrongEnds("removeOutliers", (x, end) -> x.removeOutliers(end, 50));
    }

    private static void placeOfTheMedian() {
        due.sentence("The median of n areas is the one at the place (n - 1) / 2, counted from 0, when they are sorted, "
                + "the smallest one first.");
        // With a percentage of 0 nothing but the median is left.
        int[] order = {5, 2, 9, 1, 7, 10, 3, 8, 4, 6};
        for (int n = 1; n <= 10; n++) {
            IndicatorDiagram x = new IndicatorDiagram();
            java.util.TreeMap<Integer, Integer> speeds = new java.util.TreeMap<>();
            for (int i = 0; i < n; i++) {
                addArea(x, 0, 1 + i, 100 * order[i] - 550);
                speeds.put(order[i], 1 + i);
            }
            Integer[] sorted = speeds.values().toArray(new Integer[0]);
            outliers(x, 0, n - 1, "" + sorted[(n - 1) / 2]);
        }
        outliers(withAreas(50, 40), 0, 1, "2");
        outliers(withAreas(40, 50), 0, 1, "1");
        outliers(withAreas(50, 40, 50, 40), 0, 2, "2 4");
        outliers(withAreas(50, 40, 50), 0, 1, "1 3");
    }

    private static void numbersBehindOutliers() {
        due.sentence("when one is removed, the numbers of those behind it become smaller by 1");
        outliers(withAreas(9, 9, 40, 40, 40), 0, 2, "3 4 5");
        outliers(withAreas(40, 40, 40, 9, 9), 0, 2, "1 2 3");
        outliers(withAreas(9, 40, 99, 40, 9), 0, 3, "2 4");
        outliers(withAreas(9, 9, 9, 9, 40, 40, 40, 99, 99, 99), 0, 7, "5 6 7");
        IndicatorDiagram x = withAreas(9, 40, 99);
        addArea(x, 1, 4, 9);
        addArea(x, 1, 5, 99);
        addArea(x, 0, 6, 99);
        addArea(x, 0, 7, 9);
        outliers(x, 0, 4, "2 4 5");
        due.is("the next card", x.addIdealCard(0, 60, 0, 0), 3);
    }

    private static void removedOutliers() {
        due.sentence("Returns the number of cards that were removed");
        IndicatorDiagram x = withAreas(40, 40, 80);
        int cards = x.cardCount();
        due.is("removeOutliers(0, 100), which removes none", x.removeOutliers(0, 100), 0);
        due.is("cardCount()", x.cardCount(), cards);
        due.is("removeOutliers(0, 99)", x.removeOutliers(0, 99), 1);
        due.is("removeOutliers(0, 99) again", x.removeOutliers(0, 99), 0);
        due.is("undo() of one that removed none", x.undo(), 3);
        due.is("cardCount()", x.cardCount(), 2);
        due.is("undo() of one that removed one", x.undo(), 2);
        due.are("speeds", Drawing.speeds(x), "1 2 3");
        due.is("undo() of one that removed none", x.undo(), 1);
        due.are("speeds", Drawing.speeds(x), "1 2 3");
    }

    private static void outliersOfNone() {
        due.sentence("INVALID_ARGUMENT if an argument is out of range; ILLEGAL_STATE if the end has no cards.");
        for (int end = 0; end <= 1; end++) {
            int e = end;
            afterwards.refused(Stand.NEW, "removeOutliers of " + e, x -> x.removeOutliers(e, 0), Due.ILLEGAL);
            afterwards.refused(Stand.HALF_DRAWN, "removeOutliers of " + e, x -> x.removeOutliers(e, 100), Due.ILLEGAL);
            afterwards.refused(Stand.NEW, "a wrong percentage without cards", x -> x.removeOutliers(e, 101),
                    Due.INVALID);
            afterwards.refused(() -> oneCardOf(1 - e), "removeOutliers of the other end", x -> x.removeOutliers(e, 0),
                    Due.ILLEGAL);
            due.is("removeOutliers of one card", oneCardOf(e).removeOutliers(e, 0), 0);
        }
    }
}
