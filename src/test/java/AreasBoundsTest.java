import java.util.function.ToLongBiFunction;

/** The bounds that the document names under 'Areas and power' and in the promises 19 to 24. */
public final class AreasBoundsTest {
    private static final Due due = new Due();
    private static final Afterwards afterwards = new Afterwards(due);

    public static void main(String[] args) {
        difference();
        noneBelowZero();
        noneAboveZero();
        bothSigns();
        quotientsOfBothSigns();
        sumsOverTheIntervals();
        greatestAreas();
        loopStations();
        meanPressure();
        power();
        greatestPower();
        noSuchCard();
        due.end();
    }

    /** A card with these differences at its first stations, all others 0; its number is 0. */
    private static IndicatorDiagram first(int... differences) {
        int[] outward = Drawing.level(2500);
        int[] inward = Drawing.level(2500);
        for (int i = 0; i < differences.length; i++) {
            // Half on each stroke, so that differences up to 5000 find room.
            outward[i] += differences[i] / 2;
            inward[i] -= differences[i] - differences[i] / 2;
        }
        IndicatorDiagram x = new IndicatorDiagram();
        Drawing.add(x, 0, 60, outward, inward);
        return x;
    }

    private static void areas(String what, IndicatorDiagram x, int area, int forward, int loop) {
        due.is("area of " + what, x.area(0), area);
        due.is("forwardArea of " + what, x.forwardArea(0), forward);
        due.is("loopArea of " + what, x.loopArea(0), loop);
    }

    private static void difference() {
        due.sentence("The difference at a station is the pressure of the outward stroke less that of the return stroke.");
        IndicatorDiagram x = new IndicatorDiagram();
        Drawing.add(x, 0, 60, Drawing.with(Drawing.level(0), 0, 5000), Drawing.with(Drawing.level(0), 20, 5000));
        areas("5000, zeros and -5000", x, 0, 5000, 5000);
        due.is("loopStations(0)", x.loopStations(0), 1 << 20);
    }

    // Behind the first interval there is always one from the second difference to 0.

    private static void noneBelowZero() {
        due.sentence("If none of them is below 0, its forward area is x + y and its loop area 0.");
        areas("0 and 0", first(0, 0), 0, 0, 0);
        areas("0 and 1", first(0, 1), 2, 2, 0);
        areas("1 and 0", first(1, 0), 1, 1, 0);
        areas("1 and 1", first(1, 1), 3, 3, 0);
        areas("5000 and 5000", first(5000, 5000), 15000, 15000, 0);
        areas("1 and, just beyond, -1", first(1, -1), -1, 0, 1);
    }

    private static void noneAboveZero() {
        due.sentence("Otherwise, if none of them is above 0, its forward area is 0 and its loop area -x - y.");
        areas("0 and -1", first(0, -1), -2, 0, 2);
        areas("-1 and 0", first(-1, 0), -1, 0, 1);
        areas("-1 and -1", first(-1, -1), -3, 0, 3);
        areas("-5000 and -5000", first(-5000, -5000), -15000, 0, 15000);
        areas("-1 and, just beyond, 1", first(-1, 1), 1, 1, 0);
    }

    private static void bothSigns() {
        due.sentence("with u as the positive one and w as the negative one without its sign, "
                + "its forward area is u * u / (u + w) and its loop area w * w / (u + w).");
        areas("5000 and -5000", first(5000, -5000), -5000, 2500, 7500);
        areas("-5000 and 5000", first(-5000, 5000), 5000, 7500, 2500);
        areas("2 and -2", first(2, -2), -2, 1, 3);
        areas("-2 and 2", first(-2, 2), 2, 3, 1);
    }

    private static void quotientsOfBothSigns() {
        due.sentence("A quotient is rounded down, also below 0 (-7 / 2 is -4).");
        areas("1 and -1: 1 / 2", first(1, -1), -1, 0, 1);
        areas("2 and -1: 4 / 3 and 1 / 3", first(2, -1), 0, 1, 1);
        areas("-1 and 2: 4 / 3 and 1 / 3", first(-1, 2), 3, 3, 0);
        areas("5000 and -1: 25000000 / 5001", first(5000, -1), 4998, 4999, 1);
        areas("-5000 and 1: 25000000 / 5001", first(-5000, 1), -4998, 1, 4999);
        areas("1, -1, 1 and -1: each interval is rounded for itself", first(1, -1, 1, -1), -1, 0, 1);
    }

    private static void sumsOverTheIntervals() {
        due.sentence("The forward area and the loop area of a card are the sums over its 20 intervals.");
        // The first and the last station belong to one interval, all others to two.
        for (int station : new int[] {0, 1, 19, 20}) {
            int due1 = station % 20 == 0 ? 1 : 2;
            IndicatorDiagram x = new IndicatorDiagram();
            Drawing.add(x, 0, 60, Drawing.with(Drawing.level(7), station, 8), Drawing.level(7));
            areas("a difference of 1 at the station " + station, x, due1, due1, 0);
            IndicatorDiagram y = new IndicatorDiagram();
            Drawing.add(y, 0, 60, Drawing.with(Drawing.level(7), station, 6), Drawing.level(7));
            areas("a difference of -1 at the station " + station, y, -due1, 0, due1);
        }
        int[] turning = Drawing.level(10);
        int[] turned = Drawing.level(10);
        for (int s = 0; s <= 20; s++) {
            turning[s] += s % 2 == 0 ? 4 : 0;
            turned[s] += s % 2 == 0 ? 0 : 4;
        }
        IndicatorDiagram z = new IndicatorDiagram();
        Drawing.add(z, 0, 60, turning, turned);
        areas("4 and -4 in turn: 16 / 8 in each interval", z, 0, 40, 40);
    }

    private static void greatestAreas() {
        due.sentence("The area of a card is the sum of x + y over its intervals.");
        IndicatorDiagram x = new IndicatorDiagram();
        Drawing.add(x, 0, 60, Drawing.level(5000), Drawing.level(0));
        areas("5000 at all stations", x, 200000, 200000, 0);
        due.is("its mean pressure", x.meanPressure(0), 5000000);
        IndicatorDiagram y = new IndicatorDiagram();
        Drawing.add(y, 0, 60, Drawing.level(0), Drawing.level(5000));
        areas("-5000 at all stations", y, -200000, 0, 200000);
        due.is("its mean pressure", y.meanPressure(0), -5000000);
    }

    private static void loopStations() {
        due.sentence("Returns a number whose bit s is 1 if the difference at the station s is below 0");
        due.is("of -1 and 0", first(-1, 0).loopStations(0), 1);
        due.is("of 0 and 1", first(0, 1).loopStations(0), 0);
        due.is("of 1, -1 and -5000", first(1, -1, -5000).loopStations(0), 6);
        for (int station = 0; station <= 20; station++) {
            IndicatorDiagram x = new IndicatorDiagram();
            Drawing.add(x, 0, 60, Drawing.level(7), Drawing.with(Drawing.level(7), station, 8));
            due.is("of -1 at the station " + station, x.loopStations(0), 1 << station);
        }
        IndicatorDiagram x = new IndicatorDiagram();
        Drawing.add(x, 0, 60, Drawing.level(0), Drawing.level(1));
        due.is("of all stations", x.loopStations(0), 2097151);
    }

    private static void meanPressure() {
        due.sentence("The mean pressure of a card is its area times 1000 divided by 40 (thousandths).");
        due.is("of an area of 0", first(0).meanPressure(0), 0);
        due.is("of an area of 1", first(1).meanPressure(0), 25);
        due.is("of an area of -1", first(-1).meanPressure(0), -25);
        due.is("of an area of 39", first(39).meanPressure(0), 975);
        due.is("of an area of 40", first(40).meanPressure(0), 1000);
    }

    /** A card of an area of 40 or -40 at a speed of 1: with the stroke 60 its power is a thousandth of the piston area. */
    private static long smallPower(int difference, int pistonArea) {
        IndicatorDiagram x = new IndicatorDiagram();
        Drawing.add(x, 1, 1, Drawing.level(100 + difference), Drawing.level(100));
        x.setPistonArea(1, pistonArea);
        return x.power(0);
    }

    private static void power() {
        due.sentence("The power of a card is its area times the piston area of its end, times the length of the stroke, "
                + "times its speed, divided by 2400000.");
        due.is("999 thousandths", smallPower(1, 999), 0);
        due.is("1000 thousandths", smallPower(1, 1000), 1);
        due.is("1999 thousandths", smallPower(1, 1999), 1);
        due.is("-1 thousandth", smallPower(-1, 1), -1);
        due.is("-1000 thousandths", smallPower(-1, 1000), -1);
        due.is("-1001 thousandths", smallPower(-1, 1001), -2);
        due.is("0", smallPower(0, 5000), 0);
    }

    private static void greatestPower() {
        due.sentence("long power(int card)");
        for (int sign = -1; sign <= 1; sign += 2) {
            IndicatorDiagram x = new IndicatorDiagram();
            x.setPistonArea(1, 5000);
            x.setStroke(300);
            Drawing.add(x, 1, 600, Drawing.level(sign > 0 ? 5000 : 0), Drawing.level(sign > 0 ? 0 : 5000));
            due.is("the power farthest from 0", x.power(0), sign * 75000000L);
            due.is("the mean power farthest from 0", x.meanPower(1), sign * 75000000L);
            // 4999 at the first station: the area is 199999.
            int[] less = Drawing.with(Drawing.level(5000), 0, 4999);
            Drawing.add(x, 1, 600, sign > 0 ? less : Drawing.level(0), sign > 0 ? Drawing.level(0) : less);
            due.is("the power next to it", x.power(1), sign * 74999625L);
        }
    }

    private static void noSuchCard(String name, ToLongBiFunction<IndicatorDiagram, Integer> call) {
        for (int card : new int[] {-1, 10, Integer.MIN_VALUE, Integer.MAX_VALUE}) {
            afterwards.refused(name + "(" + card + ")", x -> call.applyAsLong(x, card), Due.INVALID);
        }
        afterwards.refused(name + " of the number of cards", x -> call.applyAsLong(x, x.cardCount()), Due.INVALID);
        afterwards.unchanged(name + "(0)", x -> call.applyAsLong(x, 0));
        IndicatorDiagram x = Stand.FULL.make();
        due.is(name + "(9) is there", call.applyAsLong(x, 9) == Due.INVALID ? 0 : 1, 1);
        x.removeCard(9);
        due.is(name + "(9) has gone", call.applyAsLong(x, 9), Due.INVALID);
    }

    private static void noSuchCard() {
        due.sentence("Returns its area; INVALID_ARGUMENT if there is no such card.");
        noSuchCard("area", (x, card) -> x.area(card));
        due.sentence("Returns its forward area; INVALID_ARGUMENT if there is no such card.");
        noSuchCard("forwardArea", (x, card) -> x.forwardArea(card));
        due.sentence("Returns its loop area; INVALID_ARGUMENT if there is no such card.");
        noSuchCard("loopArea", (x, card) -> x.loopArea(card));
        due.sentence("is below 0; INVALID_ARGUMENT if there is no such card.");
        noSuchCard("loopStations", (x, card) -> x.loopStations(card));
        due.sentence("Returns its mean pressure; INVALID_ARGUMENT if there is no such card.");
        noSuchCard("meanPressure", (x, card) -> x.meanPressure(card));
        due.sentence("Returns its power; INVALID_ARGUMENT if there is no such card.");
        noSuchCard("power", (x, card) -> x.power(card));
    }
}
