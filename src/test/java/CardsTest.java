/** Promises 10 to 18: drafts, points, ideal cards, and what a card holds. */
public final class CardsTest {
    private static final Due due = new Due();

    public static void main(String[] args) {
        beginCard();
        setPoint();
        finishCard();
        finishCardRefused();
        addIdealCard();
        idealPressures();
        idealCardsThatDoNotExist();
        addIdealCardRefused();
        removeCard();
        cardCount();
        endAndSpeed();
        pressure();
        due.end();
    }

    private static void beginCard() {
        due.promise(10);
        IndicatorDiagram x = new IndicatorDiagram();
        for (int wrong : new int[] {-1, 2, Integer.MIN_VALUE, Integer.MAX_VALUE}) {
            due.is("beginCard(" + wrong + ", 60)", x.beginCard(wrong, 60), Due.INVALID);
        }
        for (int wrong : new int[] {0, 601, -1, Integer.MIN_VALUE, Integer.MAX_VALUE}) {
            due.is("beginCard(0, " + wrong + ")", x.beginCard(0, wrong), Due.INVALID);
        }
        due.is("history after wrong calls", x.historySize(), 0);
        due.is("setPoint: no draft after wrong calls", x.setPoint(0, 0, 0), Due.ILLEGAL);
        due.is("beginCard(0, 1)", x.beginCard(0, 1), 0);
        x.setPoint(0, 3, 100);
        x.setPoint(1, 3, 100);
        due.is("beginCard(2, 1): the draft stays", x.beginCard(2, 1), Due.INVALID);
        due.is("setPoint(0, 4, 100)", x.setPoint(0, 4, 100), 2);
        due.is("beginCard(1, 600) in place of a draft", x.beginCard(1, 600), 1);
        due.is("finishCard: the points are gone", x.finishCard(), Due.ILLEGAL);
        due.is("setPoint(0, 9, 5)", x.setPoint(0, 9, 5), 1);
        due.is("setPoint(1, 9, 5)", x.setPoint(1, 9, 5), 1);
        due.is("finishCard()", x.finishCard(), 0);
        due.is("end(0)", x.end(0), 1);
        due.is("speed(0)", x.speed(0), 600);
        due.is("beginCard(0, 1): no draft is there", x.beginCard(0, 1), 0);
        due.is("history", x.historySize(), 4);
        x.undo();
        x.undo();
        x.undo();
        x.undo();
        due.is("setPoint: the first draft has gone, the second stands", x.setPoint(0, 9, 5), 1);
    }

    private static void setPoint() {
        due.promise(11);
        IndicatorDiagram x = new IndicatorDiagram();
        due.is("a wrong point without a draft", x.setPoint(2, 0, 0), Due.INVALID);
        due.is("a right point without a draft", x.setPoint(1, 20, 5000), Due.ILLEGAL);
        x.beginCard(0, 60);
        int[][] wrong = {
            {-1, 0, 0}, {2, 0, 0}, {0, -1, 0}, {0, 21, 0}, {0, 0, -1}, {0, 0, 5001},
            {Integer.MIN_VALUE, 0, 0}, {Integer.MAX_VALUE, 0, 0}, {1, Integer.MIN_VALUE, 0},
            {1, Integer.MAX_VALUE, 0}, {1, 0, Integer.MIN_VALUE}, {1, 0, Integer.MAX_VALUE},
        };
        for (int[] w : wrong) {
            due.is("setPoint(" + java.util.Arrays.toString(w) + ")", x.setPoint(w[0], w[1], w[2]), Due.INVALID);
        }
        due.is("history after wrong calls", x.historySize(), 1);
        due.is("setPoint(0, 0, 0)", x.setPoint(0, 0, 0), 1);
        due.is("setPoint(0, 20, 5000)", x.setPoint(0, 20, 5000), 2);
        due.is("setPoint(1, 20, 7): the other stroke", x.setPoint(1, 20, 7), 1);
        due.is("setPoint(0, 20, 4000): in place of one", x.setPoint(0, 20, 4000), 2);
        due.is("setPoint(0, 20, 4000) again", x.setPoint(0, 20, 4000), 2);
        due.is("undo()", x.undo(), 3);
        due.is("undo()", x.undo(), 2);
        due.is("finishCard()", x.finishCard(), 0);
        due.is("pressure(0, 0, 20)", x.pressure(0, 0, 20), 5000);
        due.is("a point behind the finished draft", x.setPoint(0, 20, 4000), Due.ILLEGAL);
    }

    private static void finishCard() {
        due.promise(12);
        IndicatorDiagram x = new IndicatorDiagram();
        x.beginCard(1, 77);
        x.setPoint(0, 6, 3);
        x.setPoint(0, 2, 10);
        x.setPoint(0, 9, 5000);
        x.setPoint(1, 18, 0);
        x.setPoint(1, 15, 100);
        due.is("finishCard()", x.finishCard(), 0);
        // From 10 to 3 over 4 intervals: -7/4, -14/4 and -21/4 are -2, -4 and -6.
        due.are("stroke 0", Drawing.stroke(x, 0, 0),
                "10 10 10 8 6 4 3 1668 3334 5000 5000 5000 5000 5000 5000 5000 5000 5000 5000 5000 5000");
        due.are("stroke 1", Drawing.stroke(x, 0, 1),
                "100 100 100 100 100 100 100 100 100 100 100 100 100 100 100 100 66 33 0 0 0");
        due.is("end(0)", x.end(0), 1);
        due.is("speed(0)", x.speed(0), 77);
        due.is("no draft is there then", x.finishCard(), Due.ILLEGAL);
        due.is("history", x.historySize(), 4);
        due.is("undo()", x.undo(), 3);
        due.is("cardCount() after the undo", x.cardCount(), 0);
        due.is("finishCard() after the undo", x.finishCard(), 0);
        due.is("pressure(0, 0, 4)", x.pressure(0, 0, 4), 6);
        due.is("pressure(0, 1, 16)", x.pressure(0, 1, 16), 66);
    }

    private static void finishCardRefused() {
        IndicatorDiagram x = new IndicatorDiagram();
        due.is("without a draft", x.finishCard(), Due.ILLEGAL);
        x.beginCard(0, 5);
        due.is("without points", x.finishCard(), Due.ILLEGAL);
        x.setPoint(1, 20, 1);
        due.is("without a point of the stroke 0", x.finishCard(), Due.ILLEGAL);
        x.beginCard(0, 5);
        x.setPoint(0, 20, 1);
        due.is("without a point of the stroke 1", x.finishCard(), Due.ILLEGAL);
        for (int card = 0; card < 10; card++) {
            due.is("addIdealCard", x.addIdealCard(1, 60, 0, 0), card);
        }
        due.is("no points ahead of no room", x.finishCard(), Due.ILLEGAL);
        x.setPoint(1, 0, 2);
        int history = x.historySize();
        due.is("no room", x.finishCard(), Due.FULL);
        due.is("history after no room", x.historySize(), history);
        due.is("cards after no room", x.cardCount(), 10);
        due.is("the draft stays after no room", x.setPoint(0, 20, 3), 1);
        due.is("removeCard(3)", x.removeCard(3), 9);
        due.is("room again", x.finishCard(), 9);
        due.is("pressure(9, 0, 0)", x.pressure(9, 0, 0), 3);
        due.is("no draft ahead of no room", x.finishCard(), Due.ILLEGAL);
    }

    private static void addIdealCard() {
        due.promise(13);
        IndicatorDiagram x = new IndicatorDiagram();
        due.is("addIdealCard(0, 60, 0, 0)", x.addIdealCard(0, 60, 0, 0), 0);
        due.are("outward", Drawing.stroke(x, 0, 0),
                "800 800 800 800 800 800 800 800 800 727 666 615 571 533 500 470 444 421 297 173 50");
        due.are("return", Drawing.stroke(x, 0, 1),
                "150 100 75 60 50 50 50 50 50 50 50 50 50 50 50 50 50 50 50 50 50");
        due.is("addIdealCard(1, 600, 2, 0)", x.addIdealCard(1, 600, 2, 0), 1);
        due.are("outward, later by 2", Drawing.stroke(x, 1, 0),
                "50 50 800 800 800 800 800 800 800 800 800 738 685 640 600 564 533 505 480 457 50");
        due.are("return, later by 2", Drawing.stroke(x, 1, 1),
                "100 66 50 50 50 50 50 50 50 50 50 50 50 50 50 50 50 50 50 50 50");
        due.is("end(1)", x.end(1), 1);
        due.is("speed(1)", x.speed(1), 600);
        due.is("history", x.historySize(), 2);
        x.beginCard(1, 3);
        x.addIdealCard(0, 1, 0, 0);
        due.is("the draft stays", x.setPoint(0, 0, 0), 1);
        x.undo();
        x.undo();
        due.is("cardCount() after the undo", x.cardCount(), 2);
    }

    private static void idealPressures() {
        IndicatorDiagram x = new IndicatorDiagram();
        x.setValves(0, 1, 5, 8, 3);
        // 5600, less 112 is 5488, less 110 (109.76) is 5378; then from 597 to 50 in 13 intervals.
        x.addIdealCard(0, 60, 0, -20);
        due.are("a leak of -20", Drawing.stroke(x, 0, 0),
                "50 800 800 800 800 800 686 597 554 512 470 428 386 344 302 260 218 176 134 92 50");
        // 5600, more by 39 (39.2) is 5639, more by 39 (39.473) is 5678.
        x.addIdealCard(0, 60, 0, 7);
        due.is("pressure(1, 0, 6) with a leak of 7", x.pressure(1, 0, 6), 704);
        due.is("pressure(1, 0, 7) with a leak of 7", x.pressure(1, 0, 7), 630);
        // Earlier by 1: 0, 4, 7 and 4.
        x.addIdealCard(0, 60, -1, 0);
        due.are("return, earlier by 1", Drawing.stroke(x, 2, 1),
                "150 100 75 60 50 50 50 50 50 50 50 50 50 50 50 50 50 50 50 50 50");
        due.is("pressure(2, 0, 0), earlier by 1", x.pressure(2, 0, 0), 800);
        due.is("pressure(2, 0, 5), earlier by 1", x.pressure(2, 0, 5), 800 * 6 / 7);
        x.setValves(0, 0, 8, 9, 0);
        x.addIdealCard(0, 60, 0, 20);
        due.are("a release next to the cut-off", Drawing.stroke(x, 3, 0),
                "800 800 800 800 800 800 800 800 800 737 675 612 550 487 425 362 300 237 175 112 50");
        due.are("without a compression", Drawing.stroke(x, 3, 1),
                "50 50 50 50 50 50 50 50 50 50 50 50 50 50 50 50 50 50 50 50 50");
        pressureThatRisesToTheBack();
        leakThatMakesAWholeQuotient();
    }

    private static void leakThatMakesAWholeQuotient() {
        IndicatorDiagram x = new IndicatorDiagram();
        x.setBoilerPressure(100);
        x.setClearance(8);
        // 1600, more by 32, is just 96 times the volume of 17.
        x.addIdealCard(0, 60, 0, 20);
        due.is("pressure(0, 0, 9) with a leak of 20", x.pressure(0, 0, 9), 96);
    }

    private static void pressureThatRisesToTheBack() {
        IndicatorDiagram x = new IndicatorDiagram();
        x.setBoilerPressure(100);
        x.setBackPressure(99);
        x.setClearance(1);
        x.setValves(1, 0, 1, 18, 19);
        x.addIdealCard(1, 60, 0, 0);
        due.are("outward", Drawing.stroke(x, 0, 0),
                "100 100 66 50 40 33 28 25 22 20 18 16 15 14 13 12 11 11 40 69 99");
        due.are("return", Drawing.stroke(x, 0, 1),
                "1980 990 660 495 396 330 282 247 220 198 180 165 152 141 132 123 116 110 104 99 99");
    }

    private static void idealCardsThatDoNotExist() {
        IndicatorDiagram x = new IndicatorDiagram();
        due.is("an admission of -1", x.addIdealCard(0, 60, -1, 0), Due.ILLEGAL);
        due.is("a release of 21", x.addIdealCard(1, 60, 3, 0), Due.ILLEGAL);
        due.is("a release of 20", x.addIdealCard(1, 60, 2, 0), 0);
        x.setValves(0, 0, 8, 9, 2);
        due.is("a compression of -1", x.addIdealCard(0, 60, 3, 0), Due.ILLEGAL);
        due.is("a compression of 0", x.addIdealCard(0, 60, 2, 0), 1);
        x.setValves(0, 3, 8, 18, 19);
        due.is("a compression of 20", x.addIdealCard(0, 60, -1, 0), Due.ILLEGAL);
        due.is("a compression of 19", x.addIdealCard(0, 60, 0, 0), 2);
        x.setValves(0, 3, 8, 18, 16);
        due.is("an admission of 0 and a compression of 19", x.addIdealCard(0, 60, -3, 0), 3);
        x.setValves(0, 5, 6, 17, 3);
        due.is("an admission of 8", x.addIdealCard(0, 60, 3, 0), 4);
        due.is("the admission of 8 seen", x.pressure(4, 0, 7), 50);
        x.setValves(0, 0, 18, 19, 19);
        due.is("a cut-off of 19", x.addIdealCard(0, 60, 1, 0), 5);
        due.is("the cut-off of 19 seen", x.pressure(5, 0, 19), 800);
        due.is("a cut-off of 20", x.addIdealCard(0, 60, 2, 0), Due.ILLEGAL);
        x.setValves(0, 1, 2, 3, 0);
        due.is("a cut-off of 1 and a release of 2", x.addIdealCard(0, 60, -1, 0), 6);
        due.is("the valves stay", x.valve(0, 1), 2);
    }

    private static void addIdealCardRefused() {
        IndicatorDiagram x = new IndicatorDiagram();
        x.setValves(0, 3, 8, 17, 4);
        int[][] wrong = {
            {-1, 60, 0, 0}, {2, 60, 0, 0}, {0, 0, 0, 0}, {0, 601, 0, 0}, {0, 60, -4, 0}, {0, 60, 4, 0},
            {0, 60, 0, -21}, {0, 60, 0, 21}, {1, 60, -4, 0}, {Integer.MAX_VALUE, 60, 0, 0},
            {0, Integer.MIN_VALUE, 0, 0}, {0, 60, Integer.MIN_VALUE, 0}, {0, 60, 0, Integer.MAX_VALUE},
        };
        for (int[] w : wrong) {
            due.is("addIdealCard(" + java.util.Arrays.toString(w) + ")", x.addIdealCard(w[0], w[1], w[2], w[3]),
                    Due.INVALID);
        }
        due.is("history after wrong calls", x.historySize(), 1);
        due.is("cards after wrong calls", x.cardCount(), 0);
        int[][] edges = {
            {0, 1, -3, -20}, {0, 600, 3, 20}, {1, 1, 0, 20}, {1, 600, 0, -20}, {0, 60, 0, 0},
            {0, 60, 0, 0}, {0, 60, 0, 0}, {0, 60, 0, 0}, {0, 60, 0, 0}, {0, 60, 0, 0},
        };
        for (int card = 0; card < 10; card++) {
            int[] e = edges[card];
            due.is("addIdealCard(" + java.util.Arrays.toString(e) + ")", x.addIdealCard(e[0], e[1], e[2], e[3]), card);
        }
        due.is("no room", x.addIdealCard(0, 60, 0, 0), Due.FULL);
        due.is("a wrong argument ahead of no room", x.addIdealCard(0, 60, 4, 0), Due.INVALID);
        due.is("no such ideal card ahead of no room", x.addIdealCard(1, 60, -1, 0), Due.ILLEGAL);
        due.is("cards after no room", x.cardCount(), 10);
        due.is("history after no room", x.historySize(), 4);
    }

    /** An object with five cards; the speed of each is 10 more than its number. */
    private static IndicatorDiagram fiveCards() {
        IndicatorDiagram x = new IndicatorDiagram();
        for (int card = 0; card < 5; card++) {
            x.addIdealCard(card % 2, 10 + card, card % 3, 0);
        }
        return x;
    }

    private static void removeCard() {
        due.promise(14);
        IndicatorDiagram x = new IndicatorDiagram();
        due.is("removeCard(0) without cards", x.removeCard(0), Due.INVALID);
        x = fiveCards();
        int[] wrongs = {-1, 5, 10, Integer.MIN_VALUE, Integer.MAX_VALUE};
        for (int wrong : wrongs) {
            due.is("removeCard(" + wrong + ")", x.removeCard(wrong), Due.INVALID);
        }
        due.are("speeds after wrong calls", Drawing.speeds(x), "10 11 12 13 14");
        due.is("removeCard(1)", x.removeCard(1), 4);
        due.are("speeds", Drawing.speeds(x), "10 12 13 14");
        due.is("removeCard(3), the last one", x.removeCard(3), 3);
        due.are("speeds", Drawing.speeds(x), "10 12 13");
        due.is("removeCard(3), which was there", x.removeCard(3), Due.INVALID);
        due.is("removeCard(0)", x.removeCard(0), 2);
        due.are("speeds", Drawing.speeds(x), "12 13");
        due.is("end(1)", x.end(1), 1);
        due.is("addIdealCard behind", x.addIdealCard(0, 99, 0, 0), 2);
        x.undo();
        x.undo();
        due.are("speeds after undo", Drawing.speeds(x), "10 12 13");
        x.undo();
        x.undo();
        due.are("speeds after undo", Drawing.speeds(x), "10 11 12 13 14");
    }

    private static void cardCount() {
        due.promise(15);
        IndicatorDiagram x = new IndicatorDiagram();
        for (int card = 0; card < 12; card++) {
            due.is("cardCount()", x.cardCount(), Math.min(card, 10));
            x.addIdealCard(0, 60, 0, 0);
        }
        int history = x.historySize();
        due.is("cardCount()", x.cardCount(), 10);
        due.is("cardCount is no action", x.historySize(), history);
        x.removeCard(9);
        due.is("cardCount()", x.cardCount(), 9);
    }

    private static void endAndSpeed() {
        IndicatorDiagram x = fiveCards();
        int[] wrongs = {-1, 5, 10, Integer.MIN_VALUE, Integer.MAX_VALUE};
        for (int card = 0; card < 5; card++) {
            due.promise(16);
            due.is("end(" + card + ")", x.end(card), card % 2);
            due.is("end(" + wrongs[card] + ")", x.end(wrongs[card]), Due.INVALID);
            due.promise(17);
            due.is("speed(" + card + ")", x.speed(card), 10 + card);
            due.is("speed(" + wrongs[card] + ")", x.speed(wrongs[card]), Due.INVALID);
        }
        due.is("end and speed are no actions", x.historySize(), 4);
    }

    private static void pressure() {
        due.promise(18);
        IndicatorDiagram x = new IndicatorDiagram();
        due.is("pressure(0, 0, 0) without cards", x.pressure(0, 0, 0), Due.INVALID);
        int[] outward = new int[21];
        int[] inward = new int[21];
        for (int s = 0; s <= 20; s++) {
            outward[s] = 37 * s * s % 5001;
            inward[s] = 5000 - 11 * s * s;
        }
        Drawing.add(x, 0, 60, outward, inward);
        x.addIdealCard(0, 60, 0, 0);
        for (int s = 0; s <= 20; s++) {
            due.is("pressure(0, 0, " + s + ")", x.pressure(0, 0, s), outward[s]);
            due.is("pressure(0, 1, " + s + ")", x.pressure(0, 1, s), inward[s]);
        }
        int[][] wrong = {
            {-1, 0, 0}, {2, 0, 0}, {0, -1, 0}, {0, 2, 0}, {0, 0, -1}, {0, 0, 21}, {1, 1, 21},
            {Integer.MAX_VALUE, 0, 0}, {0, Integer.MIN_VALUE, 0}, {0, 0, Integer.MAX_VALUE},
            {0, 1, Integer.MIN_VALUE},
        };
        for (int[] w : wrong) {
            due.is("pressure(" + java.util.Arrays.toString(w) + ")", x.pressure(w[0], w[1], w[2]), Due.INVALID);
        }
        due.is("pressure is no action", x.historySize(), 4);
    }
}
