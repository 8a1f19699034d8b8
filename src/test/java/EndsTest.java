/** Promises 30 to 34: the cards of an end, their means, the imbalance and the outliers. */
public final class EndsTest {
    private static final Due due = new Due();

    public static void main(String[] args) {
        cardsOf();
        meanArea();
        meanPower();
        imbalance();
        outliersOfFive();
        outlierEdges();
        outliersBelowZero();
        outliersRefused();
        wrongEnds();
        due.end();
    }

    /** Adds a card whose difference is the same at all stations: its area is 40 times that. */
    private static int level(IndicatorDiagram x, int end, int speed, int difference) {
        return Drawing.add(x, end, speed, Drawing.level(1000 + difference), Drawing.level(1000));
    }

    private static void cardsOf() {
        due.promise(30);
        IndicatorDiagram x = new IndicatorDiagram();
        int[] ends = {0, 1, 1, 0, 1, 1, 1, 1, 1, 1};
        int[] counts = {0, 0};
        for (int end : ends) {
            due.is("cardsOf(0)", x.cardsOf(0), counts[0]);
            due.is("cardsOf(1)", x.cardsOf(1), counts[1]);
            x.addIdealCard(end, 60, 0, 0);
            counts[end]++;
        }
        due.is("cardsOf(1)", x.cardsOf(1), 8);
        x.removeCard(0);
        due.is("cardsOf(0)", x.cardsOf(0), 1);
        x.beginCard(0, 1);
        due.is("cardsOf(0): a draft is no card", x.cardsOf(0), 1);
        due.is("cardsOf is no action", x.historySize(), 4);
    }

    private static void meanArea() {
        due.promise(31);
        IndicatorDiagram x = new IndicatorDiagram();
        due.is("meanArea(0) without cards", x.meanArea(0), Due.NONE);
        x.addIdealCard(1, 60, 0, 0);
        due.is("meanArea(0) without cards of the end", x.meanArea(0), Due.NONE);
        due.is("meanArea(1) of one card", x.meanArea(1), 22214);
        Drawing.add(x, 0, 60, Drawing.level(1), Drawing.level(0));
        Drawing.add(x, 0, 60, Drawing.level(2), Drawing.level(0));
        due.is("meanArea(0): 3 / 2 at each station, rounded down", x.meanArea(0), 40);
        Drawing.add(x, 0, 60, Drawing.level(2), Drawing.level(8));
        due.is("meanArea(0): 5 / 3 and 8 / 3 at each station", x.meanArea(0), -40);
        int[] ends = Drawing.with(Drawing.with(Drawing.level(2), 0, 301), 20, 602);
        Drawing.add(x, 0, 600, ends, Drawing.level(8));
        due.is("meanArea(0): 76, 1 .. 1 and 151 less 4", x.meanArea(0), 72 + 147 - 19 * 2 * 3);
        due.is("meanArea(1) stays", x.meanArea(1), 22214);
        x.removeCard(4);
        due.is("meanArea(0) behind a removal at the end", x.meanArea(0), -40);
        x.removeCard(1);
        due.is("meanArea(0) of 2, 0 and 2, 8: 2 less 4", x.meanArea(0), -80);
    }

    private static void meanPower() {
        due.promise(32);
        IndicatorDiagram x = new IndicatorDiagram();
        due.is("meanPower(0) without cards", x.meanPower(0), Due.NONE);
        x.addIdealCard(1, 120, 0, 0);
        due.is("meanPower(0) without cards of the end", x.meanPower(0), Due.NONE);
        due.is("meanPower(1) of one card", x.meanPower(1), 59977);
        // Each card of an area of 40 has a power of 40 * 1000 * 60 * speed / 2400000, that is its speed.
        level(x, 0, 1, 1);
        level(x, 0, 10, 1);
        due.is("meanPower(0) of 1 and 10", x.meanPower(0), 5);
        level(x, 0, 2, -10);
        due.is("meanPower(0) of 1, 10 and -20", x.meanPower(0), -3);
        level(x, 0, 2, -1);
        due.is("meanPower(0) of 1, 10, -20 and -2, rounded down", x.meanPower(0), -3);
        level(x, 0, 12, 1);
        due.is("meanPower(0) of 1, 10, -20, -2 and 12", x.meanPower(0), 0);
        x.removeCard(5);
        due.is("meanPower(0) behind a removal at the end", x.meanPower(0), -3);
        x.undo();
        // Half of each power: 0, 5, -10, -1 and 6, each rounded down ahead of the sum.
        x.setPistonArea(0, 500);
        due.is("meanPower(0) with half the piston area", x.meanPower(0), 0);
        x.setPistonArea(0, 1);
        due.is("meanPower(0) of 0, 0, -1, -1 and 0", x.meanPower(0), -1);
        due.is("meanPower(1) stays", x.meanPower(1), 59977);
    }

    private static void imbalance() {
        due.promise(33);
        IndicatorDiagram x = new IndicatorDiagram();
        x.setPistonArea(1, 1000);
        due.is("without cards", x.imbalance(), Due.NONE);
        level(x, 0, 30, 1);
        due.is("without cards of the end 1", x.imbalance(), Due.NONE);
        level(x, 1, 10, 1);
        due.is("of 30 and 10", x.imbalance(), 500);
        x.removeCard(0);
        due.is("without cards of the end 0", x.imbalance(), Due.NONE);
        level(x, 0, 10, 1);
        due.is("of 10 and 10", x.imbalance(), 0);
        level(x, 0, 1, 0);
        due.is("of 5 and 10", x.imbalance(), 333);
        level(x, 0, 15, -1);
        due.is("of -2 and 10", x.imbalance(), Due.NONE);
        level(x, 0, 5, 1);
        due.is("of 0 and 10", x.imbalance(), 1000);
        level(x, 1, 10, -1);
        due.is("of 0 and 0", x.imbalance(), Due.NONE);
        level(x, 0, 40, 1);
        due.is("of 10 and 0", x.imbalance(), 1000);
        x.removeCard(x.cardCount() - 1);
        level(x, 1, 1, -1);
        due.is("of 0 and -1", x.imbalance(), Due.NONE);
        due.is("imbalance is no action", x.historySize(), 4);
    }

    private static void outliersOfFive() {
        due.promise(34);
        IndicatorDiagram x = new IndicatorDiagram();
        // The areas of the end 0 are 40 times 130, 100, 90, 111 and 70: the median is that of 100.
        int[] differences = {130, 100, 500, 90, 111, 70};
        for (int i = 0; i < differences.length; i++) {
            level(x, i == 2 ? 1 : 0, 1 + i, differences[i]);
        }
        due.is("removeOutliers(0, 30)", x.removeOutliers(0, 30), 0);
        due.is("an action, also without outliers", x.undo(), 3);
        due.is("removeOutliers(0, 29)", x.removeOutliers(0, 29), 2);
        due.are("speeds", Drawing.speeds(x), "2 3 4 5");
        due.is("undo()", x.undo(), 3);
        due.are("speeds after the undo", Drawing.speeds(x), "1 2 3 4 5 6");
        due.is("removeOutliers(0, 10)", x.removeOutliers(0, 10), 3);
        due.are("speeds", Drawing.speeds(x), "2 3 4");
        due.is("removeOutliers(0, 0): of 90 and 100 the median is 90", x.removeOutliers(0, 0), 1);
        due.are("speeds", Drawing.speeds(x), "3 4");
        due.is("removeOutliers(1, 0)", x.removeOutliers(1, 0), 0);
    }

    private static void outlierEdges() {
        IndicatorDiagram x = new IndicatorDiagram();
        level(x, 1, 1, 300);
        level(x, 1, 2, 100);
        level(x, 1, 3, 201);
        level(x, 1, 4, 0);
        due.is("removeOutliers(1, 100): of four the second is the median", x.removeOutliers(1, 100), 2);
        due.are("speeds", Drawing.speeds(x), "2 4");
        due.is("removeOutliers(1, 100): the median is 0", x.removeOutliers(1, 100), 1);
        due.are("speeds", Drawing.speeds(x), "4");
        for (int card = 1; card < 10; card++) {
            x.addIdealCard(1, 100 + card, 0, 0);
        }
        due.is("removeOutliers(1, 0) of ten", x.removeOutliers(1, 0), 1);
        due.is("cardCount()", x.cardCount(), 9);
    }

    private static void outliersBelowZero() {
        IndicatorDiagram x = new IndicatorDiagram();
        int[] differences = {-100, -111, -90, -110, -80, 100};
        for (int i = 0; i < differences.length; i++) {
            level(x, 0, 1 + i, differences[i]);
        }
        // Sorted: -111, -110, -100, -90, -80, 100; the median is -100.
        due.is("removeOutliers(0, 10)", x.removeOutliers(0, 10), 3);
        due.are("speeds", Drawing.speeds(x), "1 3 4");
    }

    private static void outliersRefused() {
        IndicatorDiagram x = new IndicatorDiagram();
        due.is("without cards", x.removeOutliers(0, 50), Due.ILLEGAL);
        due.is("wrong percent ahead of no cards", x.removeOutliers(0, 101), Due.INVALID);
        level(x, 0, 1, 100);
        due.is("without cards of the end", x.removeOutliers(1, 50), Due.ILLEGAL);
        int history = x.historySize();
        for (int wrong : new int[] {-1, 101, Integer.MIN_VALUE, Integer.MAX_VALUE}) {
            due.is("removeOutliers(0, " + wrong + ")", x.removeOutliers(0, wrong), Due.INVALID);
        }
        due.is("history after wrong calls", x.historySize(), history);
        x.undo();
        due.is("history after an undo", x.historySize(), 3);
        due.is("no cards after the undo", x.removeOutliers(0, 0), Due.ILLEGAL);
        due.is("history after a refused call", x.historySize(), 3);
    }

    private static void wrongEnds() {
        IndicatorDiagram x = new IndicatorDiagram();
        x.addIdealCard(0, 60, 0, 0);
        x.addIdealCard(1, 60, 0, 0);
        for (int wrong : new int[] {-1, 2, Integer.MIN_VALUE, Integer.MAX_VALUE}) {
            due.promise(30);
            due.is("cardsOf(" + wrong + ")", x.cardsOf(wrong), Due.INVALID);
            due.promise(31);
            due.is("meanArea(" + wrong + ")", x.meanArea(wrong), Due.INVALID);
            due.promise(32);
            due.is("meanPower(" + wrong + ")", x.meanPower(wrong), Due.INVALID);
            due.promise(34);
            due.is("removeOutliers(" + wrong + ", 0)", x.removeOutliers(wrong, 0), Due.INVALID);
        }
        due.is("none is recorded", x.historySize(), 2);
    }
}
