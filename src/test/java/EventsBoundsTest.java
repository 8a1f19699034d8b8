import java.util.Arrays;
import java.util.function.ToLongBiFunction;

/** The bounds that the document names under 'Events' and in the promises 25 to 29. */
public final class EventsBoundsTest {
    private static final Due due = new Due();
    private static final Afterwards afterwards = new Afterwards(due);

    public static void main(String[] args) {
        admission();
        admissionOfLowPressures();
        cutOff();
        release();
        noRelease();
        compression();
        compressionAtTheLastStation();
        lateness();
        latenessOfTheCompression();
        slipFromMinusFiveToFive();
        slipOfTheSmallerSize();
        slipOfEqualSizes();
        constant();
        leakage();
        noLeakageWithoutStations();
        noLeakageOfNothing();
        eventNumbers();
        noSuchCard();
        due.end();
    }

    /** A row that begins with these pressures; all behind them are 0. */
    private static int[] row(int... first) {
        return Arrays.copyOf(first, 21);
    }

    private static IndicatorDiagram outward(int[] pressures) {
        IndicatorDiagram x = new IndicatorDiagram();
        Drawing.add(x, 0, 60, pressures, Drawing.level(0));
        return x;
    }

    private static IndicatorDiagram inward(int[] pressures) {
        IndicatorDiagram x = new IndicatorDiagram();
        Drawing.add(x, 0, 60, Drawing.level(0), pressures);
        return x;
    }

    private static void admission() {
        due.sentence("The admission is the first station with a pressure of at least m less the band.");
        due.is("10 less than m at the station 0", outward(row(990, 1000)).event(0, 0), 0);
        due.is("11 less than m at the station 0", outward(row(989, 1000)).event(0, 0), 1);
        due.is("10 less than m at the station 1", outward(row(989, 990, 1000)).event(0, 0), 1);
        due.is("the greatest first", outward(row(1000, 990)).event(0, 0), 0);
        due.is("the greatest last", outward(Drawing.with(Drawing.level(0), 20, 11)).event(0, 0), 20);
        due.is("10 less than m at the station 19",
                outward(Drawing.with(Drawing.with(Drawing.level(0), 20, 5000), 19, 4990)).event(0, 0), 19);
        IndicatorDiagram x = outward(row(899, 900, 998, 999, 1000));
        x.setFinding(100, 5);
        due.is("with a band of 100", x.event(0, 0), 1);
        x.setFinding(1, 5);
        due.is("with a band of 1", x.event(0, 0), 3);
    }

    private static void admissionOfLowPressures() {
        due.sentence("Let m be the greatest pressure of the outward stroke of a card.");
        due.is("an m of 0", outward(Drawing.level(0)).event(0, 0), 0);
        due.is("an m of the band", outward(row(0, 10)).event(0, 0), 0);
        due.is("the cut-off with an m of the band", outward(row(0, 10)).event(0, 1), 20);
        due.is("an m greater than the band", outward(row(0, 11)).event(0, 0), 1);
        due.is("the cut-off with an m greater than the band", outward(row(0, 11)).event(0, 1), 1);
        due.is("an m of 5000", outward(row(4989, 4990, 5000)).event(0, 0), 1);
    }

    private static void cutOff() {
        due.sentence("The cut-off is the last station such that all stations from the admission to it "
                + "have such a pressure.");
        due.is("10 less than m", outward(row(1000, 1000, 990)).event(0, 1), 2);
        due.is("11 less than m", outward(row(1000, 1000, 989)).event(0, 1), 1);
        due.is("the admission alone", outward(row(1000, 989)).event(0, 1), 0);
        due.is("behind a gap", outward(row(1000, 989, 1000, 1000)).event(0, 1), 0);
        due.is("all stations", outward(Drawing.level(1000)).event(0, 1), 20);
        due.is("all stations but the last", outward(Drawing.with(Drawing.level(1000), 20, 989)).event(0, 1), 19);
        due.is("10 less than m at the last", outward(Drawing.with(Drawing.level(1000), 20, 990)).event(0, 1), 20);
        due.is("the admission at the last", outward(Drawing.with(Drawing.level(0), 20, 11)).event(0, 1), 20);
    }

    /** 100 to the station 8, whose constant is 1000; behind it the least pressures of a constant of at least 950. */
    private static int[] expanding() {
        int[] row = Drawing.level(100);
        for (int s = 9; s <= 20; s++) {
            row[s] = (950 + s + 1) / (s + 2);
        }
        return row;
    }

    private static void release() {
        due.sentence("The release is the first station behind the cut-off whose constant, times 100, is less than "
                + "the constant at the cut-off times (100 less the tolerance)");
        for (int s = 9; s <= 20; s++) {
            int least = expanding()[s];
            due.is("at least 95 percent at the station " + s, outward(expanding()).event(0, 2), 20);
            due.is("less than 95 percent at the station " + s,
                    outward(Drawing.with(expanding(), s, least - 1)).event(0, 2), s);
        }
        // 50 * 19 is just 95 percent of 1000.
        IndicatorDiagram x = outward(Drawing.with(Drawing.with(expanding(), 17, 50), 18, 0));
        due.is("just 95 percent at the station 17", x.event(0, 2), 18);
        x.setFinding(10, 4);
        due.is("957 at the station 9 with a tolerance of 4", x.event(0, 2), 9);
        IndicatorDiagram y = outward(Drawing.with(Drawing.with(expanding(), 12, 0), 10, 0));
        due.is("the first of two", y.event(0, 2), 10);
        due.is("not ahead of the cut-off", outward(row(0, 0, 1000, 1000)).event(0, 2), 4);
    }

    private static void noRelease() {
        due.sentence("it is 20 if there is none.");
        due.is("with rising constants", outward(Drawing.with(Drawing.level(900), 0, 1000)).event(0, 2), 20);
        due.is("with the cut-off 20", outward(Drawing.level(1000)).event(0, 2), 20);
        due.is("with the cut-off 19", outward(Drawing.with(Drawing.level(1000), 20, 0)).event(0, 2), 20);
        due.is("with the cut-off 18", outward(Drawing.with(Drawing.with(Drawing.level(1000), 20, 0), 19, 0))
                .event(0, 2), 19);
        due.is("with constants of 0", outward(Drawing.level(0)).event(0, 2), 20);
    }

    private static void compression() {
        due.sentence("the last station, in the direction of the return stroke (so the smallest one), such that all "
                + "stations from it to 20 have a pressure of at most n plus the band");
        int[] level = Drawing.with(Drawing.level(60), 20, 50);
        due.is("all stations", inward(level).event(0, 3), 0);
        for (int s = 0; s <= 19; s++) {
            due.is("11 more than n at the station " + s, inward(Drawing.with(level, s, 61)).event(0, 3), s + 1);
        }
        due.is("n at the first station", inward(Drawing.with(Drawing.with(Drawing.level(60), 1, 61), 0, 50))
                .event(0, 3), 2);
        IndicatorDiagram x = inward(Drawing.with(Drawing.with(level, 3, 150), 2, 151));
        x.setFinding(100, 5);
        due.is("with a band of 100", x.event(0, 3), 3);
        IndicatorDiagram y = inward(Drawing.with(Drawing.with(Drawing.level(50), 3, 51), 2, 52));
        y.setFinding(1, 5);
        due.is("with a band of 1", y.event(0, 3), 3);
        due.is("pressures of 0", inward(Drawing.level(0)).event(0, 3), 0);
        due.is("pressures of 5000", inward(Drawing.level(5000)).event(0, 3), 0);
    }

    private static void compressionAtTheLastStation() {
        due.sentence("if the station 20 has a greater one, it is 20.");
        due.is("10 more than n at the station 20", inward(Drawing.with(Drawing.level(50), 20, 60)).event(0, 3), 0);
        due.is("11 more than n at the station 20", inward(Drawing.with(Drawing.level(50), 20, 61)).event(0, 3), 20);
        due.is("n at the station 20 alone", inward(Drawing.with(Drawing.level(61), 20, 50)).event(0, 3), 20);
    }

    /** A card with these events of an object with a clearance of 2, a band of 10 and a tolerance of 5. */
    private static void addWithEvents(IndicatorDiagram x, int admission, int cutOff, int release, int compression) {
        int[] outward = new int[21];
        for (int s = admission; s < release || s == cutOff; s++) {
            // Behind the cut-off just enough that the constant does not become less.
            outward[s] = s <= cutOff ? 1000 : (1000 * (2 + cutOff) + s + 1) / (2 + s);
        }
        int[] inward = Drawing.level(50);
        Arrays.fill(inward, 0, compression, 500);
        Drawing.add(x, 0, 60, outward, inward);
        int card = x.cardCount() - 1;
        due.are("events of a card made for them", x.event(card, 0) + " " + x.event(card, 1) + " " + x.event(card, 2)
                + " " + x.event(card, 3), admission + " " + cutOff + " " + release + " " + compression);
    }

    private static void latenesses(IndicatorDiagram x, int card, String want) {
        due.are("latenesses", x.lateness(card, 0) + " " + x.lateness(card, 1) + " " + x.lateness(card, 2) + " "
                + x.lateness(card, 3), want);
    }

    private static void lateness() {
        due.sentence("The lateness of an event of a card is its station less that of the valve settings of its end");
        IndicatorDiagram x = new IndicatorDiagram();
        addWithEvents(x, 0, 0, 1, 0);
        x.setValves(0, 5, 18, 20, 0);
        latenesses(x, 0, "-5 -18 -19 0");
        x.setValves(1, 0, 1, 2, 19);
        latenesses(x, 0, "-5 -18 -19 0");
        addWithEvents(x, 20, 20, 20, 20);
        x.setValves(0, 0, 1, 2, 0);
        latenesses(x, 1, "20 19 18 -20");
        addWithEvents(x, 1, 2, 3, 0);
        latenesses(x, 2, "1 1 1 0");
    }

    private static void latenessOfTheCompression() {
        due.sentence("for the compression it is that of the valve settings less its station.");
        IndicatorDiagram x = new IndicatorDiagram();
        addWithEvents(x, 0, 8, 18, 0);
        addWithEvents(x, 0, 8, 18, 20);
        addWithEvents(x, 0, 8, 18, 4);
        due.is("a compression of 0 against 4", x.lateness(0, 3), 4);
        due.is("a compression of 20 against 4", x.lateness(1, 3), -16);
        due.is("a compression of 4 against 4", x.lateness(2, 3), 0);
        x.setValves(0, 0, 8, 18, 19);
        due.is("a compression of 0 against 19", x.lateness(0, 3), 19);
        x.setValves(0, 0, 8, 18, 0);
        due.is("a compression of 20 against 0", x.lateness(1, 3), -20);
    }

    /** Looks at the slip of a card with these latenesses, for the first valve settings that allow them. */
    private static void slip(int admission, int cutOff, int release, int compression, int want) {
        for (int i = 0; i < 6 * 18 * 19 * 20; i++) {
            int a = i % 6;
            int c = 1 + i / 6 % 18;
            int r = 2 + i / 108 % 19;
            int m = i / 2052;
            boolean isReleaseBehind = c + cutOff < r + release || c + cutOff == 20 && r + release == 20;
            boolean isOrdered = a + admission >= 0 && a + admission <= c + cutOff && isReleaseBehind;
            boolean isInside = r + release <= 20 && m - compression >= 0 && m - compression <= 20;
            IndicatorDiagram x = new IndicatorDiagram();
            if (isOrdered && isInside && x.setValves(0, a, c, r, m) == 0) {
                addWithEvents(x, a + admission, c + cutOff, r + release, m - compression);
                String late = admission + " " + cutOff + " " + release + " " + compression;
                latenesses(x, 0, late);
                due.is("slip of " + late, x.slip(0), want);
                return;
            }
        }
        due.is("valve settings for the slip " + want, 0, 1);
    }

    private static void slipFromMinusFiveToFive() {
        due.sentence("The slip of a card is the number d from -5 to 5 for which the sum of the sizes of lateness - d "
                + "over the four events is least");
        for (int d = -5; d <= 5; d++) {
            slip(d, d, d, d, d);
            slip(d, d + 1, d - 1, d, d);
        }
        slip(-5, -6, -6, -6, -5);
        slip(-5, -9, -9, -9, -5);
        slip(6, 6, 6, 6, 5);
        slip(9, 9, 9, 9, 5);
        slip(20, 19, 18, 14, 5);
        slip(-3, 1, 1, 19, 1);
        slip(-3, -1, -1, -19, -1);
    }

    private static void slipOfTheSmallerSize() {
        due.sentence("of several the one with the smaller size");
        slip(0, 0, 1, 1, 0);
        slip(1, 1, 2, 2, 1);
        slip(1, 5, 1, 5, 1);
        slip(4, 4, 6, 6, 4);
        slip(5, 5, 7, 7, 5);
        slip(0, 0, -1, -1, 0);
        slip(-1, -1, -2, -2, -1);
        slip(-1, -5, -1, -5, -1);
        slip(-4, -4, -6, -6, -4);
        slip(-5, -5, -7, -7, -5);
        slip(-5, -9, -1, 3, -1);
        slip(9, -5, 1, 3, 1);
    }

    private static void slipOfEqualSizes() {
        // Where d and -d are equally good, all between them are, and 0 has the smaller size.
        due.sentence("of two with equal sizes the one below 0.");
        slip(-1, -1, 1, 1, 0);
        slip(1, 1, -1, -1, 0);
        slip(-5, -5, 5, 5, 0);
        slip(-5, -6, 6, 6, 0);
        slip(-2, 2, 0, 0, 0);
    }

    private static void constant() {
        due.sentence("Returns the constant at the station; INVALID_ARGUMENT if there is no such card or station "
                + "is out of range.");
        IndicatorDiagram x = outward(Drawing.with(Drawing.level(7), 20, 5000));
        due.is("constant(0, 0)", x.constant(0, 0), 14);
        due.is("constant(0, 20)", x.constant(0, 20), 110000);
        due.is("constant(0, 21)", x.constant(0, 21), Due.INVALID);
        due.is("constant(0, -1)", x.constant(0, -1), Due.INVALID);
        due.is("constant of a pressure of 0", outward(Drawing.level(0)).constant(0, 20), 0);
        x.setClearance(20);
        due.is("constant(0, 20), the greatest one", x.constant(0, 20), 200000);
        for (int station : new int[] {-1, 21, Integer.MIN_VALUE, Integer.MAX_VALUE}) {
            afterwards.refused("constant at the station " + station, y -> y.constant(0, station), Due.INVALID);
        }
    }

    private static IndicatorDiagram withClearance(int clearance, int... pressures) {
        IndicatorDiagram x = outward(row(pressures));
        x.setClearance(clearance);
        return x;
    }

    private static void leakage() {
        due.sentence("The leakage of a card is k * 1000 divided by the constant at the cut-off, where k is the "
                + "constant at the station ahead of the release less that at the cut-off.");
        // The cut-off is the station 0 with 3000, the station 1 is ahead of the release and has a volume of 4.
        due.is("of a k of 0", withClearance(3, 1000, 750).leakage(0), 0);
        due.is("of a k of 4: 4000 / 3000", withClearance(3, 1000, 751).leakage(0), 1);
        due.is("of a k of -4: -4000 / 3000", withClearance(3, 1000, 749).leakage(0), -2);
        due.is("of a k of -12: just -4", withClearance(3, 1000, 747).leakage(0), -4);
        due.is("of the greatest loss within a tolerance of 5", withClearance(1, 1000, 475).leakage(0), -50);
        due.is("of a greater loss", withClearance(1, 1000, 474).leakage(0), Due.NONE);
        int[] rising = Drawing.with(Drawing.with(Drawing.level(5000), 1, 4989), 20, 0);
        IndicatorDiagram x = outward(rising);
        x.setClearance(1);
        due.is("of the greatest gain: 95000 at 5000", x.leakage(0), 19000);
        x.setClearance(20);
        due.is("with a clearance of 20: 95000 at 100000", x.leakage(0), 950);
        afterwards.unchanged("leakage(0)", y -> y.leakage(0));
    }

    private static void noLeakageWithoutStations() {
        due.sentence("There is none if the station ahead of the release is not greater than the cut-off");
        IndicatorDiagram x = withClearance(3, 1000, 0);
        due.is("the release next to the cut-off", x.leakage(0), Due.NONE);
        due.is("historySize() behind it", x.historySize(), 4);
        due.is("one station between them", withClearance(3, 1000, 900).leakage(0), 200);
        IndicatorDiagram y = outward(Drawing.with(Drawing.with(Drawing.level(1000), 19, 980), 20, 0));
        due.is("the cut-off 18 and the release 20", y.leakage(0), 29);
        due.is("the cut-off 19 and the release 20",
                outward(Drawing.with(Drawing.level(1000), 20, 0)).leakage(0), Due.NONE);
        due.is("the cut-off 20 and the release 20", outward(Drawing.level(1000)).leakage(0), Due.NONE);
    }

    private static void noLeakageOfNothing() {
        due.sentence("or if the constant at the cut-off is 0.");
        due.is("all pressures 0", outward(Drawing.level(0)).leakage(0), Due.NONE);
        due.is("0 at the cut-off, with an m of the band", outward(row(10)).leakage(0), Due.NONE);
        IndicatorDiagram x = new IndicatorDiagram();
        x.setFinding(1, 5);
        x.setClearance(1);
        Drawing.add(x, 0, 60, row(2, 0, 2), Drawing.level(0));
        due.is("2 at the cut-off and 0 behind it", x.leakage(0), Due.NONE);
        Drawing.add(x, 0, 60, row(4, 2, 4), Drawing.level(0));
        due.is("4 at the cut-off, 4 and 12 behind it", x.leakage(1), 2000);
    }

    private static void eventNumbers() {
        due.sentence("Returns the station of the event; INVALID_ARGUMENT if there is no such card or event is "
                + "out of range.");
        for (int event : new int[] {-1, 4, Integer.MIN_VALUE, Integer.MAX_VALUE}) {
            afterwards.refused("event(0, " + event + ")", x -> x.event(0, event), Due.INVALID);
            afterwards.refused("lateness(0, " + event + ")", x -> x.lateness(0, event), Due.INVALID);
        }
        IndicatorDiagram x = new IndicatorDiagram();
        addWithEvents(x, 2, 5, 9, 13);
        due.is("event(0, 0)", x.event(0, 0), 2);
        due.is("event(0, 3)", x.event(0, 3), 13);
        due.is("event(0, 4)", x.event(0, 4), Due.INVALID);
        due.is("lateness(0, 3)", x.lateness(0, 3), -9);
        due.is("lateness(0, 4)", x.lateness(0, 4), Due.INVALID);
    }

    private static void noSuchCard(String name, ToLongBiFunction<IndicatorDiagram, Integer> call) {
        for (int card : new int[] {-1, 10, Integer.MIN_VALUE, Integer.MAX_VALUE}) {
            afterwards.refused(name + "(" + card + ")", x -> call.applyAsLong(x, card), Due.INVALID);
        }
        afterwards.refused(name + " of the number of cards", x -> call.applyAsLong(x, x.cardCount()), Due.INVALID);
        afterwards.unchanged(name + "(0)", x -> call.applyAsLong(x, 0));
        IndicatorDiagram x = Stand.FULL.make();
        due.is(name + "(9) is there", call.applyAsLong(x, 9) == Due.INVALID ? 0 : 1, 1);
        x.removeCard(9);
        due.is(name + "(9) has gone", call.applyAsLong(x, 9), Due.INVALID);
    }

    private static void noSuchCard() {
        due.sentence("INVALID_ARGUMENT if there is no such card or event is out of range.");
        noSuchCard("event", (x, card) -> x.event(card, 3));
        noSuchCard("lateness", (x, card) -> x.lateness(card, 3));
        due.sentence("Returns its slip; INVALID_ARGUMENT if there is no such card.");
        noSuchCard("slip", (x, card) -> x.slip(card));
        due.sentence("Returns the constant at the station; INVALID_ARGUMENT if there is no such card");
        noSuchCard("constant", (x, card) -> x.constant(card, 20));
        due.sentence("Returns its leakage; INVALID_ARGUMENT if there is no such card; NONE if there is none.");
        noSuchCard("leakage", (x, card) -> x.leakage(card));
    }
}
