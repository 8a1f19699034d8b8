/** The bounds that the document names under 'Cards' and in the promises 10 to 18. */
public final class CardsBoundsTest {
    private static final Due due = new Due();
    private static final Afterwards afterwards = new Afterwards(due);

    public static void main(String[] args) {
        tenCards();
        noRoom();
        roomAgain();
        numbersInOrder();
        numbersBehindARemoval();
        endOfADraft();
        speedOfADraft();
        draftInPlaceOfOne();
        strokeOfAPoint();
        stationOfAPoint();
        pressureOfAPoint();
        pointInPlaceOfOne();
        noDraftForAPoint();
        pressureAtAPoint();
        pressureBetweenPoints();
        pressureAheadAndBehind();
        noDraftBehindFinishing();
        strokeWithoutPoints();
        removeCard();
        endAndSpeed();
        pressure();
        due.end();
    }

    /** An object with so many cards, whose speeds are 1, 2, .. */
    private static IndicatorDiagram withCards(int count) {
        IndicatorDiagram x = new IndicatorDiagram();
        for (int card = 0; card < count; card++) {
            x.addIdealCard(card % 2, 1 + card, 0, 0);
        }
        return x;
    }

    private static void drawComplete(IndicatorDiagram x, int end, int speed) {
        x.beginCard(end, speed);
        x.setPoint(0, 0, 500);
        x.setPoint(1, 0, 400);
    }

    private static void tenCards() {
        due.sentence("There are at most 10 cards");
        IndicatorDiagram x = withCards(9);
        due.is("the tenth ideal card", x.addIdealCard(0, 10, 0, 0), 9);
        due.is("the eleventh ideal card", x.addIdealCard(0, 11, 0, 0), Due.FULL);
        due.are("speeds", Drawing.speeds(x), "1 2 3 4 5 6 7 8 9 10");
        IndicatorDiagram y = withCards(9);
        drawComplete(y, 0, 10);
        due.is("the tenth card by a draft", y.finishCard(), 9);
        drawComplete(y, 0, 11);
        due.is("the eleventh card by a draft", y.finishCard(), Due.FULL);
        due.are("speeds", Drawing.speeds(y), "1 2 3 4 5 6 7 8 9 10");
        IndicatorDiagram z = new IndicatorDiagram();
        for (int card = 0; card < 10; card++) {
            drawComplete(z, 1, 51 + card);
            due.is("a card by a draft", z.finishCard(), card);
        }
        drawComplete(z, 1, 61);
        due.is("the eleventh of ten drawn ones", z.finishCard(), Due.FULL);
        due.is("cardCount()", z.cardCount(), 10);
    }

    private static void noRoom() {
        due.sentence("ILLEGAL_STATE if there is no draft or one of its strokes has no points; "
                + "CAPACITY_EXCEEDED if there are 10 cards.");
        afterwards.refused(Stand.FULL, "finishCard()", x -> x.finishCard(), Due.FULL);
        afterwards.refused(Stand.FULL, "addIdealCard(0, 1, 0, 0)", x -> x.addIdealCard(0, 1, 0, 0), Due.FULL);
        IndicatorDiagram x = withCards(10);
        due.is("without a draft and room", x.finishCard(), Due.ILLEGAL);
        x.beginCard(0, 99);
        due.is("without points and room", x.finishCard(), Due.ILLEGAL);
        x.setPoint(1, 20, 5);
        due.is("without points of the stroke 0 and room", x.finishCard(), Due.ILLEGAL);
        x.setPoint(0, 20, 6);
        due.is("without room", x.finishCard(), Due.FULL);
        due.is("historySize() behind refused calls", x.historySize(), 4);
        due.is("undo()", x.undo(), 3);
        due.is("without points of the stroke 0 behind an undo", x.finishCard(), Due.ILLEGAL);
    }

    private static void roomAgain() {
        due.sentence("CAPACITY_EXCEEDED = -2000000003: There is no room.");
        IndicatorDiagram x = withCards(10);
        drawComplete(x, 1, 77);
        due.is("finishCard() without room", x.finishCard(), Due.FULL);
        due.is("removeCard(0)", x.removeCard(0), 9);
        due.is("finishCard() with room", x.finishCard(), 9);
        due.is("the speed of the draft that had to wait", x.speed(9), 77);
        due.is("addIdealCard without room", x.addIdealCard(0, 88, 0, 0), Due.FULL);
        due.is("undo()", x.undo(), 3);
        due.is("addIdealCard with room", x.addIdealCard(0, 88, 0, 0), 9);
        due.is("the speed of the ideal card", x.speed(9), 88);
    }

    private static void numbersInOrder() {
        due.sentence("numbered from 0 in the order in which they were added");
        IndicatorDiagram x = new IndicatorDiagram();
        due.is("the first card", x.addIdealCard(1, 300, 0, 0), 0);
        drawComplete(x, 0, 200);
        due.is("an ideal card while a draft is there", x.addIdealCard(0, 100, 0, 0), 1);
        due.is("the draft finished behind it", x.finishCard(), 2);
        due.are("speeds", Drawing.speeds(x), "300 100 200");
        due.is("the next card behind a refused one", x.finishCard(), Due.ILLEGAL);
        due.is("the next card", x.addIdealCard(0, 50, 0, 0), 3);
    }

    private static void numbersBehindARemoval() {
        due.sentence("when one is removed, the numbers of those behind it become smaller by 1");
        IndicatorDiagram x = withCards(10);
        due.is("removeCard(9), the last one", x.removeCard(9), 9);
        due.are("speeds", Drawing.speeds(x), "1 2 3 4 5 6 7 8 9");
        due.is("speed(9), which is gone", x.speed(9), Due.INVALID);
        due.is("removeCard(0), the first one", x.removeCard(0), 8);
        due.are("speeds", Drawing.speeds(x), "2 3 4 5 6 7 8 9");
        due.is("removeCard(6), the last but one", x.removeCard(6), 7);
        due.are("speeds", Drawing.speeds(x), "2 3 4 5 6 7 9");
        due.is("removeCard(1), the second one", x.removeCard(1), 6);
        due.are("speeds", Drawing.speeds(x), "2 4 5 6 7 9");
        due.is("a card behind them", x.addIdealCard(0, 99, 0, 0), 6);
        IndicatorDiagram y = withCards(1);
        due.is("removeCard(0), the only one", y.removeCard(0), 0);
        due.is("removeCard(0) without cards", y.removeCard(0), Due.INVALID);
        due.is("the first card again", y.addIdealCard(0, 7, 0, 0), 0);
    }

    private static void endOfADraft() {
        due.sentence("A draft has an end, a speed, and points");
        for (int end = 0; end <= 1; end++) {
            IndicatorDiagram x = new IndicatorDiagram();
            drawComplete(x, end, 60);
            x.finishCard();
            due.is("end(0)", x.end(0), end);
            due.is("cardsOf(" + end + ")", x.cardsOf(end), 1);
            due.is("cardsOf the other end", x.cardsOf(1 - end), 0);
        }
        for (int end : new int[] {-1, 2, Integer.MIN_VALUE, Integer.MAX_VALUE}) {
            afterwards.refused("beginCard(" + end + ", 60)", x -> x.beginCard(end, 60), Due.INVALID);
            afterwards.refused("addIdealCard of the end " + end, x -> x.addIdealCard(end, 60, 0, 0), Due.INVALID);
        }
    }

    private static void speedOfADraft() {
        due.sentence("has a speed of 1 to 600 revolutions per minute");
        for (int speed : new int[] {1, 600}) {
            IndicatorDiagram x = new IndicatorDiagram();
            due.is("beginCard(0, " + speed + ")", x.beginCard(0, speed), 0);
            x.setPoint(0, 0, 1);
            x.setPoint(1, 0, 0);
            x.finishCard();
            due.is("speed(0)", x.speed(0), speed);
            due.is("addIdealCard(0, " + speed + ", 0, 0)", x.addIdealCard(0, speed, 0, 0), 1);
            due.is("speed(1)", x.speed(1), speed);
        }
        for (int speed : new int[] {0, 601, -1, Integer.MIN_VALUE, Integer.MAX_VALUE}) {
            afterwards.refused("beginCard(1, " + speed + ")", x -> x.beginCard(1, speed), Due.INVALID);
            afterwards.refused("addIdealCard with the speed " + speed, x -> x.addIdealCard(1, speed, 0, 0),
                    Due.INVALID);
        }
    }

    private static void draftInPlaceOfOne() {
        due.sentence("Begins a draft, in place of one that there is.");
        IndicatorDiagram x = new IndicatorDiagram();
        due.is("the first draft", x.beginCard(0, 1), 0);
        due.is("the second draft", x.beginCard(0, 1), 1);
        for (int station = 0; station <= 20; station++) {
            x.setPoint(0, station, 5000);
            x.setPoint(1, station, 5000);
        }
        due.is("the third draft", x.beginCard(1, 600), 1);
        due.is("finishCard() of a draft without points", x.finishCard(), Due.ILLEGAL);
        due.is("its first point of the stroke 0", x.setPoint(0, 20, 0), 1);
        due.is("its first point of the stroke 1", x.setPoint(1, 0, 0), 1);
        due.is("finishCard()", x.finishCard(), 0);
        due.is("end(0)", x.end(0), 1);
        due.is("speed(0)", x.speed(0), 600);
        due.is("pressure(0, 0, 0)", x.pressure(0, 0, 0), 0);
        due.is("pressure(0, 1, 20)", x.pressure(0, 1, 20), 0);
        due.is("the draft behind a finished one", x.beginCard(0, 1), 0);
    }

    private static void strokeOfAPoint() {
        due.sentence("for each of two strokes: 0, the outward stroke");
        IndicatorDiagram x = new IndicatorDiagram();
        x.beginCard(0, 60);
        due.is("setPoint(0, 5, 6)", x.setPoint(0, 5, 6), 1);
        due.is("setPoint(1, 5, 7)", x.setPoint(1, 5, 7), 1);
        x.finishCard();
        due.is("pressure(0, 0, 5)", x.pressure(0, 0, 5), 6);
        due.is("pressure(0, 1, 5)", x.pressure(0, 1, 5), 7);
        for (int stroke : new int[] {-1, 2, Integer.MIN_VALUE, Integer.MAX_VALUE}) {
            afterwards.refused("setPoint of the stroke " + stroke, y -> y.setPoint(stroke, 5, 6), Due.INVALID);
        }
    }

    private static void stationOfAPoint() {
        due.sentence("station: 0 to 20");
        for (int stroke = 0; stroke <= 1; stroke++) {
            int k = stroke;
            IndicatorDiagram x = new IndicatorDiagram();
            x.beginCard(0, 60);
            due.is("setPoint(" + k + ", 0, 9)", x.setPoint(k, 0, 9), 1);
            due.is("setPoint(" + k + ", 20, 49)", x.setPoint(k, 20, 49), 2);
            due.is("setPoint(" + k + ", 21, 5)", x.setPoint(k, 21, 5), Due.INVALID);
            due.is("setPoint(" + k + ", -1, 5)", x.setPoint(k, -1, 5), Due.INVALID);
            due.is("setPoint(" + k + ", 10, 29)", x.setPoint(k, 10, 29), 3);
            x.setPoint(1 - k, 0, 0);
            x.finishCard();
            due.is("pressure(0, " + k + ", 0)", x.pressure(0, k, 0), 9);
            due.is("pressure(0, " + k + ", 20)", x.pressure(0, k, 20), 49);
            due.is("pressure(0, " + k + ", 19)", x.pressure(0, k, 19), 47);
            for (int station : new int[] {-1, 21, Integer.MIN_VALUE, Integer.MAX_VALUE}) {
                afterwards.refused("setPoint at the station " + station, y -> y.setPoint(k, station, 5), Due.INVALID);
            }
        }
    }

    private static void pressureOfAPoint() {
        due.sentence("a point belongs to a stroke and a station and has a pressure of 0 to 5000");
        for (int stroke = 0; stroke <= 1; stroke++) {
            int k = stroke;
            IndicatorDiagram x = new IndicatorDiagram();
            x.beginCard(0, 60);
            x.setPoint(1 - k, 0, 1);
            due.is("setPoint(" + k + ", 0, 0)", x.setPoint(k, 0, 0), 1);
            due.is("setPoint(" + k + ", 20, 5000)", x.setPoint(k, 20, 5000), 2);
            due.is("setPoint(" + k + ", 20, 5001)", x.setPoint(k, 20, 5001), Due.INVALID);
            due.is("setPoint(" + k + ", 0, -1)", x.setPoint(k, 0, -1), Due.INVALID);
            x.finishCard();
            due.is("pressure(0, " + k + ", 0)", x.pressure(0, k, 0), 0);
            due.is("pressure(0, " + k + ", 1)", x.pressure(0, k, 1), 250);
            due.is("pressure(0, " + k + ", 20)", x.pressure(0, k, 20), 5000);
            for (int pressure : new int[] {-1, 5001, Integer.MIN_VALUE, Integer.MAX_VALUE}) {
                afterwards.refused("setPoint of a pressure of " + pressure, y -> y.setPoint(k, 5, pressure),
                        Due.INVALID);
            }
        }
    }

    private static void pointInPlaceOfOne() {
        due.sentence("Sets a point of the draft, in place of one that is there.");
        for (int k = 0; k <= 1; k++) {
            IndicatorDiagram x = new IndicatorDiagram();
            x.beginCard(0, 60);
            for (int station = 0; station <= 20; station++) {
                due.is("a new point", x.setPoint(k, station, 100 + station), 1 + station);
            }
            due.is("a point in place of one, with all 21", x.setPoint(k, 20, 0), 21);
            due.is("a point in place of one that is 0", x.setPoint(k, 20, 77), 21);
            due.is("the other stroke's first point", x.setPoint(1 - k, 20, 0), 1);
            due.is("the other stroke's point in place of one", x.setPoint(1 - k, 20, 0), 1);
            x.finishCard();
            due.is("pressure(0, " + k + ", 20)", x.pressure(0, k, 20), 77);
            due.is("pressure(0, " + k + ", 19)", x.pressure(0, k, 19), 119);
        }
    }

    private static void noDraftForAPoint() {
        due.sentence("INVALID_ARGUMENT if an argument is out of range; ILLEGAL_STATE if there is no draft.");
        for (Stand stand : new Stand[] {Stand.NEW, Stand.SETTLED}) {
            afterwards.refused(stand, "setPoint(0, 0, 0)", x -> x.setPoint(0, 0, 0), Due.ILLEGAL);
            afterwards.refused(stand, "setPoint(1, 20, 5000)", x -> x.setPoint(1, 20, 5000), Due.ILLEGAL);
            afterwards.refused(stand, "setPoint(2, 20, 5000)", x -> x.setPoint(2, 20, 5000), Due.INVALID);
            afterwards.refused(stand, "setPoint(1, 21, 5000)", x -> x.setPoint(1, 21, 5000), Due.INVALID);
            afterwards.refused(stand, "setPoint(1, 20, 5001)", x -> x.setPoint(1, 20, 5001), Due.INVALID);
        }
        due.is("setPoint(1, 20, 5000) with a draft", Stand.DRAWING.make().setPoint(1, 20, 5000), 2);
    }

    private static void pressureAtAPoint() {
        due.sentence("the pressure at a station with a point is that of the point");
        IndicatorDiagram x = new IndicatorDiagram();
        x.beginCard(0, 60);
        for (int station = 20; station >= 0; station--) {
            x.setPoint(0, station, 5000 - 250 * station * (station % 2));
            x.setPoint(1, station, 7 * station);
        }
        x.finishCard();
        for (int station = 0; station <= 20; station++) {
            due.is("pressure(0, 0, " + station + ")", x.pressure(0, 0, station), 5000 - 250 * station * (station % 2));
            due.is("pressure(0, 1, " + station + ")", x.pressure(0, 1, station), 7 * station);
        }
    }

    /** A card with the pressures p at a and q at b; both strokes have the same ones. */
    private static IndicatorDiagram line(int a, int p, int b, int q) {
        IndicatorDiagram x = new IndicatorDiagram();
        x.beginCard(0, 60);
        for (int stroke = 0; stroke <= 1; stroke++) {
            // The points are set in the order of the stroke; the order is free.
            x.setPoint(stroke, stroke == 0 ? a : b, stroke == 0 ? p : q);
            x.setPoint(stroke, stroke == 0 ? b : a, stroke == 0 ? q : p);
        }
        x.finishCard();
        return x;
    }

    private static void pressureBetweenPoints() {
        due.sentence("it is p + (q - p) * (s - a) / (b - a) at the station s");
        for (int k = 0; k <= 1; k++) {
            // Neighbors without a station between them, with one, and as far apart as can be.
            IndicatorDiagram x = line(4, 10, 5, 3);
            due.is("ahead of neighbors", x.pressure(0, k, 3), 10);
            due.is("the first neighbor", x.pressure(0, k, 4), 10);
            due.is("the second neighbor", x.pressure(0, k, 5), 3);
            due.is("behind neighbors", x.pressure(0, k, 6), 3);
            due.is("10 + -7 / 2, which is -4", line(4, 10, 6, 3).pressure(0, k, 5), 6);
            due.is("3 + 7 / 2, which is 3", line(4, 3, 6, 10).pressure(0, k, 5), 6);
            due.is("10 + -8 / 2", line(4, 10, 6, 2).pressure(0, k, 5), 6);
            due.is("0 + 1 * 19 / 20", line(0, 0, 20, 1).pressure(0, k, 19), 0);
            due.is("1 + -1 * 1 / 20, which is -1", line(0, 1, 20, 0).pressure(0, k, 1), 0);
            due.is("5000 + -5000 * 19 / 20", line(0, 5000, 20, 0).pressure(0, k, 19), 250);
            due.is("0 + 5000 * 19 / 20", line(0, 0, 20, 5000).pressure(0, k, 19), 4750);
            due.is("0 + 4999 * 19 / 20", line(0, 0, 20, 4999).pressure(0, k, 19), 4749);
            due.is("of equal ones", line(0, 77, 20, 77).pressure(0, k, 10), 77);
        }
    }

    private static void pressureAheadAndBehind() {
        due.sentence("ahead of the first point it is that of the first one, behind the last point that of the last one.");
        for (int at : new int[] {0, 1, 10, 19, 20}) {
            IndicatorDiagram x = new IndicatorDiagram();
            x.beginCard(0, 60);
            x.setPoint(0, at, 5000);
            x.setPoint(1, at, 33);
            due.is("finishCard() with one point of each stroke", x.finishCard(), 0);
            due.are("the outward stroke of a point at " + at, Drawing.stroke(x, 0, 0),
                    "5000 5000 5000 5000 5000 5000 5000 5000 5000 5000 5000 5000 5000 5000 5000 5000 5000 5000 5000 5000"
                    + " 5000");
            due.are("the return stroke of a point at " + at, Drawing.stroke(x, 0, 1),
                    "33 33 33 33 33 33 33 33 33 33 33 33 33 33 33 33 33 33 33 33 33");
        }
        for (int k = 0; k <= 1; k++) {
            IndicatorDiagram x = line(1, 40, 19, 76);
            due.is("pressure(0, " + k + ", 0)", x.pressure(0, k, 0), 40);
            due.is("pressure(0, " + k + ", 1)", x.pressure(0, k, 1), 40);
            due.is("pressure(0, " + k + ", 2)", x.pressure(0, k, 2), 42);
            due.is("pressure(0, " + k + ", 18)", x.pressure(0, k, 18), 74);
            due.is("pressure(0, " + k + ", 19)", x.pressure(0, k, 19), 76);
            due.is("pressure(0, " + k + ", 20)", x.pressure(0, k, 20), 76);
        }
    }

    private static void noDraftBehindFinishing() {
        due.sentence("Finishes the draft: the card is added, and there is no draft then.");
        IndicatorDiagram x = new IndicatorDiagram();
        drawComplete(x, 0, 60);
        due.is("finishCard()", x.finishCard(), 0);
        due.is("finishCard() again", x.finishCard(), Due.ILLEGAL);
        due.is("setPoint(0, 0, 1)", x.setPoint(0, 0, 1), Due.ILLEGAL);
        due.is("cardCount()", x.cardCount(), 1);
        due.is("historySize()", x.historySize(), 4);
        due.is("beginCard(0, 60)", x.beginCard(0, 60), 0);
        due.is("finishCard() of the new draft, which has no points", x.finishCard(), Due.ILLEGAL);
    }

    private static void strokeWithoutPoints() {
        due.sentence("ILLEGAL_STATE if there is no draft or one of its strokes has no points");
        afterwards.refused(Stand.NEW, "finishCard() without a draft", x -> x.finishCard(), Due.ILLEGAL);
        afterwards.refused(Stand.SETTLED, "finishCard() without a draft", x -> x.finishCard(), Due.ILLEGAL);
        afterwards.refused(Stand.HALF_DRAWN, "finishCard()", x -> x.finishCard(), Due.ILLEGAL);
        for (int k = 0; k <= 1; k++) {
            IndicatorDiagram x = new IndicatorDiagram();
            x.beginCard(1, 8);
            due.is("finishCard() without points", x.finishCard(), Due.ILLEGAL);
            for (int station = 0; station <= 20; station++) {
                x.setPoint(k, station, 0);
            }
            due.is("finishCard() with all points of one stroke", x.finishCard(), Due.ILLEGAL);
            due.is("cardCount()", x.cardCount(), 0);
            due.is("the points of this stroke", x.setPoint(k, 0, 0), 21);
            due.is("the first point of the other one", x.setPoint(1 - k, k * 20, 0), 1);
            due.is("finishCard()", x.finishCard(), 0);
            due.is("speed(0)", x.speed(0), 8);
        }
    }

    private static void removeCard() {
        due.sentence("Returns the number of cards that are left; INVALID_ARGUMENT if there is no such card.");
        afterwards.refused("removeCard(-1)", x -> x.removeCard(-1), Due.INVALID);
        afterwards.refused("removeCard of the number of cards", x -> x.removeCard(x.cardCount()), Due.INVALID);
        afterwards.refused("removeCard(10)", x -> x.removeCard(10), Due.INVALID);
        afterwards.refused("removeCard(least)", x -> x.removeCard(Integer.MIN_VALUE), Due.INVALID);
        afterwards.refused("removeCard(most)", x -> x.removeCard(Integer.MAX_VALUE), Due.INVALID);
        IndicatorDiagram x = Stand.FULL.make();
        for (int left = 9; left >= 0; left--) {
            due.is("removeCard(" + left + ")", x.removeCard(left), left);
            due.is("cardCount()", x.cardCount(), left);
        }
        due.is("removeCard(0) without cards", x.removeCard(0), Due.INVALID);
        due.is("undo()", x.undo(), 3);
        due.is("cardCount() behind the undo", x.cardCount(), 1);
        due.is("the draft stays", x.setPoint(0, 0, 4000), 2);
    }

    private static void endAndSpeed() {
        due.sentence("Returns its speed; INVALID_ARGUMENT if there is no such card.");
        afterwards.refused("end(-1)", x -> x.end(-1), Due.INVALID);
        afterwards.refused("end of the number of cards", x -> x.end(x.cardCount()), Due.INVALID);
        afterwards.refused("end(most)", x -> x.end(Integer.MAX_VALUE), Due.INVALID);
        afterwards.refused("end(least)", x -> x.end(Integer.MIN_VALUE), Due.INVALID);
        afterwards.refused("speed(-1)", x -> x.speed(-1), Due.INVALID);
        afterwards.refused("speed of the number of cards", x -> x.speed(x.cardCount()), Due.INVALID);
        afterwards.refused("speed(most)", x -> x.speed(Integer.MAX_VALUE), Due.INVALID);
        afterwards.refused("speed(least)", x -> x.speed(Integer.MIN_VALUE), Due.INVALID);
        IndicatorDiagram x = withCards(10);
        due.is("end(0)", x.end(0), 0);
        due.is("end(9)", x.end(9), 1);
        due.is("end(10)", x.end(10), Due.INVALID);
        due.is("speed(0)", x.speed(0), 1);
        due.is("speed(9)", x.speed(9), 10);
        due.is("speed(10)", x.speed(10), Due.INVALID);
        afterwards.unchanged("end(0)", y -> y.end(0));
        afterwards.unchanged("speed(0)", y -> y.speed(0));
        afterwards.unchanged("cardCount()", y -> y.cardCount());
    }

    private static void pressure() {
        due.sentence("Returns the pressure; INVALID_ARGUMENT if there is no such card or another argument "
                + "is out of range.");
        int last = Integer.MAX_VALUE;
        int[][] wrong = {
            {-1, 0, 0}, {10, 0, 0}, {last, 0, 0}, {-last - 1, 0, 0}, {0, -1, 0}, {0, 2, 0}, {0, last, 0},
            {0, -last - 1, 0}, {0, 0, -1}, {0, 0, 21}, {0, 1, -1}, {0, 1, 21}, {0, 1, last}, {0, 1, -last - 1},
        };
        for (int[] w : wrong) {
            afterwards.refused("pressure(" + w[0] + ", " + w[1] + ", " + w[2] + ")",
                    x -> x.pressure(w[0], w[1], w[2]), Due.INVALID);
        }
        afterwards.refused("pressure of the number of cards", x -> x.pressure(x.cardCount(), 1, 20), Due.INVALID);
        afterwards.unchanged("pressure(0, 1, 20)", x -> x.pressure(0, 1, 20));
        IndicatorDiagram x = Stand.FULL.make();
        due.is("pressure(8, 0, 0)", x.pressure(8, 0, 0), 300);
        due.is("pressure(8, 0, 7)", x.pressure(8, 0, 7), 299);
        due.is("pressure(8, 1, 20)", x.pressure(8, 1, 20), 301);
        due.is("pressure(9, 1, 20)", x.pressure(9, 1, 20), 43);
    }
}
