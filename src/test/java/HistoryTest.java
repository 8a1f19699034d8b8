/** Promises 38 and 39: the size of the history, and undo. */
public final class HistoryTest {
    private static final Due due = new Due();

    public static void main(String[] args) {
        historySize();
        undoOfEachAction();
        undoRestoresTheDraft();
        fiveActions();
        manyRounds();
        due.end();
    }

    /** Does one of the actions, by its number; the object has an ideal card of each end and a draft. */
    private static void act(IndicatorDiagram x, int action) {
        switch (action) {
            case 0: x.setClearance(3); break;
            case 1: x.setPistonArea(0, 5); break;
            case 2: x.setPistonArea(1, 5); break;
            case 3: x.setStroke(299); break;
            case 4: x.setBoilerPressure(1999); break;
            case 5: x.setBackPressure(98); break;
            case 6: x.setFinding(99, 49); break;
            case 7: x.setValves(0, 1, 2, 3, 5); break;
            case 8: x.setValves(1, 1, 2, 3, 5); break;
            case 9: x.beginCard(1, 9); break;
            case 10: x.setPoint(0, 5, 5); break;
            case 11: x.setPoint(1, 5, 5); break;
            case 12: x.finishCard(); break;
            case 13: x.addIdealCard(0, 1, 1, 1); break;
            case 14: x.removeCard(0); break;
            default: x.removeOutliers(0, 0); break;
        }
    }

    private static final int ACTIONS = 16;

    private static IndicatorDiagram prepared() {
        IndicatorDiagram x = new IndicatorDiagram();
        x.addIdealCard(0, 60, 0, 0);
        x.addIdealCard(0, 70, 1, 0);
        x.addIdealCard(1, 80, 2, 0);
        x.beginCard(0, 90);
        x.setPoint(0, 0, 700);
        x.setPoint(1, 20, 60);
        return x;
    }

    /** The settings and the draft, as the calls that change them tell. */
    private static String told(IndicatorDiagram x) {
        String seen = Drawing.seen(x);
        String settings = x.setClearance(2) + " " + x.setPistonArea(0, 1000) + " " + x.setPistonArea(1, 900) + " "
                + x.setStroke(60) + " " + x.setBoilerPressure(800) + " " + x.setBackPressure(50) + " "
                + x.setFinding(10, 5) + " " + x.finishCard() + " " + x.end(3) + " " + x.speed(3) + " ";
        return seen + settings + Drawing.stroke(x, 3, 0) + " " + Drawing.stroke(x, 3, 1);
    }

    private static void historySize() {
        due.promise(38);
        for (int action = 0; action < ACTIONS; action++) {
            IndicatorDiagram x = prepared();
            x.undo();
            x.undo();
            x.beginCard(0, 90);
            due.is("historySize()", x.historySize(), 3);
            x.setPoint(0, 0, 700);
            x.setPoint(1, 20, 60);
            due.is("historySize()", x.historySize(), 4);
            x.undo();
            due.is("historySize() after an undo", x.historySize(), 3);
            x.setPoint(1, 20, 60);
            act(x, action);
            due.is("historySize() is at most 4, behind the action " + action, x.historySize(), 4);
        }
        for (int action = 0; action < ACTIONS; action++) {
            IndicatorDiagram x = new IndicatorDiagram();
            act(x, action);
            boolean isRefused = action == 10 || action == 11 || action == 12 || action == 14 || action == 15;
            due.is("historySize() of a new object behind the action " + action, x.historySize(), isRefused ? 0 : 1);
        }
    }

    private static void undoOfEachAction() {
        due.promise(39);
        String first = told(prepared());
        for (int action = 0; action < ACTIONS; action++) {
            IndicatorDiagram x = prepared();
            act(x, action);
            due.is("undo() of the action " + action, x.undo(), 3);
            // One more action, so that the size of the history is the same again.
            x.setClearance(2);
            due.are("what is there after the undo of the action " + action, told(x), first);
        }
    }

    private static void undoRestoresTheDraft() {
        IndicatorDiagram x = new IndicatorDiagram();
        x.beginCard(1, 33);
        x.setPoint(0, 10, 44);
        x.setPoint(1, 10, 55);
        x.finishCard();
        due.is("undo()", x.undo(), 3);
        due.is("undo()", x.undo(), 2);
        due.is("finishCard() without the point of the stroke 1", x.finishCard(), Due.ILLEGAL);
        due.is("setPoint(1, 0, 66)", x.setPoint(1, 0, 66), 1);
        due.is("finishCard()", x.finishCard(), 0);
        due.is("pressure(0, 1, 10)", x.pressure(0, 1, 10), 66);
        due.is("pressure(0, 0, 20)", x.pressure(0, 0, 20), 44);
        due.is("speed(0)", x.speed(0), 33);
        x.beginCard(0, 7);
        x.undo();
        due.is("no draft after the undo", x.setPoint(0, 0, 0), Due.ILLEGAL);
        due.is("beginCard after the undo", x.beginCard(0, 8), 0);
    }

    private static void fiveActions() {
        IndicatorDiagram x = new IndicatorDiagram();
        due.is("undo() of a new object", x.undo(), Due.ILLEGAL);
        for (int clearance = 11; clearance <= 15; clearance++) {
            x.setClearance(clearance);
        }
        due.is("undo()", x.undo(), 3);
        due.is("undo()", x.undo(), 2);
        due.is("undo()", x.undo(), 1);
        due.is("undo()", x.undo(), 0);
        due.is("undo() without a history", x.undo(), Due.ILLEGAL);
        due.is("historySize()", x.historySize(), 0);
        due.is("the clearance behind the dropped state", x.setClearance(3), 11);
        due.is("undo()", x.undo(), 0);
        due.is("the clearance", x.setClearance(3), 11);
    }

    private static void manyRounds() {
        IndicatorDiagram x = new IndicatorDiagram();
        for (int length = 1; length <= 120; length++) {
            x.setStroke(length);
        }
        x.undo();
        x.undo();
        due.is("the length after two undone", x.setStroke(200), 118);
        due.is("historySize()", x.historySize(), 3);
        x.setStroke(201);
        x.setStroke(202);
        for (int want : new int[] {3, 2, 1, 0, Due.ILLEGAL}) {
            due.is("undo()", x.undo(), want);
        }
        due.is("the oldest length kept", x.setStroke(60), 117);
    }
}
