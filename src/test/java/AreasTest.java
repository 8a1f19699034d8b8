/** Promises 19 to 24: areas, mean pressure and power. */
public final class AreasTest {
    private static final Due due = new Due();

    public static void main(String[] args) {
        cardsWithoutALoop();
        cardsWithALoop();
        intervals();
        greatestAreas();
        loopStations();
        meanPressure();
        power();
        wrongCards();
        due.end();
    }

    private static void areas(String what, IndicatorDiagram x, int card, int area, int forward, int loop) {
        due.promise(19);
        due.is("area of " + what, x.area(card), area);
        due.promise(20);
        due.is("forwardArea of " + what, x.forwardArea(card), forward);
        due.promise(21);
        due.is("loopArea of " + what, x.loopArea(card), loop);
    }

    private static void cardsWithoutALoop() {
        IndicatorDiagram x = new IndicatorDiagram();
        x.addIdealCard(0, 120, 0, 0);
        areas("the first ideal card", x, 0, 22214, 22214, 0);
        Drawing.add(x, 0, 1, Drawing.level(100), Drawing.level(100));
        areas("a card of differences 0", x, 1, 0, 0, 0);
        Drawing.add(x, 0, 1, Drawing.level(103), Drawing.level(100));
        areas("a card of differences 3", x, 2, 120, 120, 0);
    }

    private static void cardsWithALoop() {
        IndicatorDiagram x = new IndicatorDiagram();
        Drawing.add(x, 1, 1, Drawing.level(100), Drawing.level(103));
        areas("a card of differences -3", x, 0, -120, 0, 120);
        // The differences are 2 - s: 2 1 0 -1 .. -18.
        int[] falling = new int[21];
        for (int s = 0; s <= 20; s++) {
            falling[s] = 100 + 2 - s;
        }
        Drawing.add(x, 1, 1, falling, Drawing.level(100));
        areas("a card that falls through 0", x, 1, 2 * (3 - 171) - 2 + 18, 4, 1 + 3 + 5 + 7 + 9 + 11 + 13 + 15
                + 17 + 19 + 21 + 23 + 25 + 27 + 29 + 31 + 33 + 35);
    }

    /** A card whose first differences are x and y, all others 0. */
    private static int interval(IndicatorDiagram d, int x, int y) {
        int[] outward = Drawing.with(Drawing.with(Drawing.level(1000), 0, 1000 + x), 1, 1000 + y);
        return Drawing.add(d, 0, 60, outward, Drawing.level(1000));
    }

    private static void intervals() {
        IndicatorDiagram d = new IndicatorDiagram();
        // Behind the interval with both there is one more with y and 0.
        areas("7 and -3", d, interval(d, 7, -3), 1, 49 / 10, 9 / 10 + 3);
        areas("-3 and 7", d, interval(d, -3, 7), 11, 49 / 10 + 7, 9 / 10);
        areas("-7 and 3", d, interval(d, -7, 3), -1, 9 / 10 + 3, 49 / 10);
        areas("100 and -1", d, interval(d, 100, -1), 98, 10000 / 101, 1);
        areas("0 and -5", d, interval(d, 0, -5), -10, 0, 10);
        areas("0 and 5", d, interval(d, 0, 5), 10, 10, 0);
        areas("-5 and 0", d, interval(d, -5, 0), -5, 0, 5);
        areas("5 and 0", d, interval(d, 5, 0), 5, 5, 0);
        areas("1 and -1", d, interval(d, 1, -1), -1, 0, 1);
        areas("1000 and -1000", d, interval(d, 1000, -1000), -1000, 500, 1500);
    }

    private static void greatestAreas() {
        IndicatorDiagram x = new IndicatorDiagram();
        Drawing.add(x, 0, 600, Drawing.level(5000), Drawing.level(0));
        areas("the greatest card", x, 0, 200000, 200000, 0);
        Drawing.add(x, 0, 600, Drawing.level(0), Drawing.level(5000));
        areas("the least card", x, 1, -200000, 0, 200000);
        int[] turning = new int[21];
        for (int s = 0; s <= 20; s++) {
            turning[s] = s % 2 == 0 ? 5000 : 0;
        }
        int[] turned = new int[21];
        for (int s = 0; s <= 20; s++) {
            turned[s] = 5000 - turning[s];
        }
        Drawing.add(x, 0, 600, turning, turned);
        areas("the card that turns most", x, 2, 0, 20 * 2500, 20 * 2500);
        due.promise(23);
        due.is("greatest mean pressure", x.meanPressure(0), 5000000);
        due.is("least mean pressure", x.meanPressure(1), -5000000);
        due.promise(24);
        x.setPistonArea(0, 5000);
        x.setStroke(300);
        due.is("greatest power", x.power(0), 75000000);
        due.is("least power", x.power(1), -75000000);
    }

    private static void loopStations() {
        due.promise(22);
        IndicatorDiagram x = new IndicatorDiagram();
        Drawing.add(x, 0, 60, Drawing.level(10), Drawing.level(10));
        due.is("no station", x.loopStations(0), 0);
        Drawing.add(x, 0, 60, Drawing.level(10), Drawing.level(11));
        due.is("all stations", x.loopStations(1), (1 << 21) - 1);
        int[] inward = Drawing.with(Drawing.with(Drawing.with(Drawing.level(10), 0, 11), 7, 12), 20, 5000);
        Drawing.add(x, 1, 60, Drawing.level(10), Drawing.with(inward, 8, 9));
        due.is("the stations 0, 7 and 20", x.loopStations(2), 1 | 1 << 7 | 1 << 20);
        x.addIdealCard(0, 60, 2, 0);
        due.is("the stations 0 and 1", x.loopStations(3), 3);
    }

    private static void meanPressure() {
        due.promise(23);
        IndicatorDiagram x = new IndicatorDiagram();
        x.addIdealCard(0, 60, 0, 0);
        due.is("of an area of 22214", x.meanPressure(0), 555350);
        due.is("of an area of -1", x.meanPressure(interval(x, -1, 0)), -25);
        due.is("of an area of 1", x.meanPressure(interval(x, 1, 0)), 25);
        due.is("of an area of 0", x.meanPressure(interval(x, 0, 0)), 0);
    }

    private static void power() {
        due.promise(24);
        IndicatorDiagram x = new IndicatorDiagram();
        x.addIdealCard(0, 120, 0, 0);
        due.is("of the head", x.power(0), 66642);
        x.addIdealCard(1, 120, 0, 0);
        due.is("of the crank", x.power(1), 59977);
        // 22214 * 900 * 60 * 7 / 2400000 is 3498.7
        x.addIdealCard(1, 7, 0, 0);
        due.is("with a speed of 7", x.power(2), 3498);
        x.setPistonArea(1, 1);
        x.setStroke(1);
        due.is("less than 1", x.power(1), 1);
        due.is("rounded down to 0", x.power(2), 0);
        int[] below = Drawing.with(Drawing.level(10), 0, 9);
        due.is("of an area of -1, rounded down", x.power(Drawing.add(x, 1, 1, below, Drawing.level(10))), -1);
        due.is("of an area of 0", x.power(Drawing.add(x, 1, 1, below, below)), 0);
        due.is("power is no action", x.historySize(), 4);
        x.undo();
        due.is("power(4), which is gone", x.power(4), Due.INVALID);
    }

    private static void wrongCards() {
        IndicatorDiagram x = new IndicatorDiagram();
        x.addIdealCard(0, 60, 0, 0);
        x.addIdealCard(0, 60, 0, 0);
        x.removeCard(1);
        for (int wrong : new int[] {-1, 1, 10, Integer.MIN_VALUE, Integer.MAX_VALUE}) {
            due.promise(19);
            due.is("area(" + wrong + ")", x.area(wrong), Due.INVALID);
            due.promise(20);
            due.is("forwardArea(" + wrong + ")", x.forwardArea(wrong), Due.INVALID);
            due.promise(21);
            due.is("loopArea(" + wrong + ")", x.loopArea(wrong), Due.INVALID);
            due.promise(22);
            due.is("loopStations(" + wrong + ")", x.loopStations(wrong), Due.INVALID);
            due.promise(23);
            due.is("meanPressure(" + wrong + ")", x.meanPressure(wrong), Due.INVALID);
            due.promise(24);
            due.is("power(" + wrong + ")", x.power(wrong), Due.INVALID);
        }
        due.is("none is an action", x.historySize(), 3);
    }
}
