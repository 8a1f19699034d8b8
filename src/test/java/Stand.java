/** States of an object from which the tests of the bounds start; none takes more than 120 calls. */
enum Stand {
    /** No cards, no draft, no history. */
    NEW,
    /** All settings changed, three cards, a draft with points of both strokes; the history is of the draft. */
    DRAWING,
    /** Cards of both ends, no draft; the history is of settings and cards. */
    SETTLED,
    /** A draft without a point of the stroke 0; two states in the history. */
    HALF_DRAWN,
    /** Ten cards and a draft that could be finished. */
    FULL;

    IndicatorDiagram make() {
        IndicatorDiagram x = new IndicatorDiagram();
        switch (this) {
            case DRAWING: draw(x); break;
            case SETTLED: settle(x); break;
            case HALF_DRAWN: halfDraw(x); break;
            case FULL: fill(x); break;
            default: break;
        }
        return x;
    }

    private static void change(IndicatorDiagram x) {
        x.setClearance(3);
        x.setPistonArea(0, 1234);
        x.setPistonArea(1, 777);
        x.setStroke(77);
        x.setBoilerPressure(901);
        x.setBackPressure(43);
        x.setFinding(12, 7);
        x.setValves(0, 1, 7, 17, 5);
        x.setValves(1, 2, 6, 16, 3);
    }

    private static void draw(IndicatorDiagram x) {
        change(x);
        x.addIdealCard(0, 100, 0, 3);
        x.addIdealCard(1, 110, 1, -2);
        x.addIdealCard(0, 120, -1, 0);
        x.beginCard(1, 130);
        x.setPoint(0, 4, 900);
        x.setPoint(1, 3, 88);
        x.setPoint(0, 15, 70);
    }

    private static void settle(IndicatorDiagram x) {
        draw(x);
        x.finishCard();
        x.addIdealCard(1, 140, 0, 20);
        x.setClearance(5);
        x.removeCard(1);
        x.setValves(1, 3, 9, 18, 2);
    }

    private static void halfDraw(IndicatorDiagram x) {
        x.beginCard(1, 33);
        x.setPoint(1, 9, 444);
    }

    private static void fill(IndicatorDiagram x) {
        change(x);
        for (int card = 0; card < 8; card++) {
            x.addIdealCard(card % 3 == 0 ? 1 : 0, 200 + card, card % 3, 2 * card - 8);
        }
        Drawing.add(x, 1, 210, Drawing.with(Drawing.level(300), 7, 299), Drawing.level(301));
        x.beginCard(0, 220);
        x.setPoint(0, 0, 4000);
        x.setPoint(0, 20, 11);
        x.setPoint(1, 10, 12);
        x.addIdealCard(1, 230, 0, 0);
    }
}
