import java.util.function.Supplier;
import java.util.function.ToLongFunction;

/** The bounds that the document names under 'Undo' and 'Errors', in the promises 38 and 39, and for all calls. */
public final class HistoryBoundsTest {
    private static final Due due = new Due();
    private static final Afterwards afterwards = new Afterwards(due);

    public static void main(String[] args) {
        fourStates();
        fifthState();
        actionsThatChangeNothing();
        everythingButTheHistory();
        historySize();
        undoOfNothing();
        undoOfAFullObject();
        refusedCallAheadOfAnUndo();
        firstErrors();
        lastOf512Calls();
        lastOf512Points();
        lastOf512Cards();
        lastOf512RefusedCalls();
        due.end();
    }

    private static void fourStates() {
        due.sentence("A history of at most 4 states is kept");
        IndicatorDiagram x = new IndicatorDiagram();
        int[] sizes = {0, 1, 2, 3, 4, 4, 4, 4, 4, 4};
        for (int i = 0; i < sizes.length; i++) {
            due.is("historySize() behind " + i + " actions", x.historySize(), sizes[i]);
            x.setStroke(100 + i);
        }
        for (int left = 3; left >= 0; left--) {
            due.is("undo()", x.undo(), left);
            due.is("historySize()", x.historySize(), left);
        }
        due.is("undo() of the fifth", x.undo(), Due.ILLEGAL);
        due.is("the stroke behind four of ten undone", x.setStroke(60), 105);
    }

    /** An object with so many actions behind it, each with its own clearance from 5 on, and some of them undone. */
    private static int clearanceBehind(int actions, int undone) {
        IndicatorDiagram x = new IndicatorDiagram();
        for (int i = 0; i < actions; i++) {
            x.setClearance(5 + i);
        }
        for (int i = 0; i < undone; i++) {
            x.undo();
        }
        return x.setClearance(1);
    }

    private static void fifthState() {
        due.sentence("when a fifth one is recorded, the oldest one is dropped.");
        due.is("four actions, three undone", clearanceBehind(4, 3), 5);
        due.is("four actions, all undone", clearanceBehind(4, 4), 2);
        due.is("four actions, five times undone", clearanceBehind(4, 5), 2);
        due.is("five actions, three undone", clearanceBehind(5, 3), 6);
        due.is("five actions, four undone", clearanceBehind(5, 4), 5);
        due.is("five actions, five times undone", clearanceBehind(5, 5), 5);
        due.is("six actions, four undone", clearanceBehind(6, 4), 6);
        due.is("nine actions, four undone", clearanceBehind(9, 4), 9);
        due.is("nine actions, ten times undone", clearanceBehind(9, 10), 9);
        // An action in place of an undone one, with three states ahead of it.
        IndicatorDiagram x = new IndicatorDiagram();
        for (int clearance = 5; clearance <= 8; clearance++) {
            x.setClearance(clearance);
        }
        due.is("undo()", x.undo(), 3);
        due.is("setClearance(18)", x.setClearance(18), 7);
        due.is("historySize()", x.historySize(), 4);
        for (int left = 3; left >= 0; left--) {
            due.is("undo()", x.undo(), left);
        }
        due.is("the first clearance", x.setClearance(1), 2);
    }

    private static void records(String name, Supplier<IndicatorDiagram> make, ToLongFunction<IndicatorDiagram> action,
            long answer) {
        IndicatorDiagram x = make.get();
        int before = x.historySize();
        for (int times = 1; times <= 5; times++) {
            due.is(name, action.applyAsLong(x), answer);
            due.is("historySize() behind " + name, x.historySize(), Math.min(4, before + times));
        }
    }

    private static void actionsThatChangeNothing() {
        due.sentence("records the state before it (also if nothing changes by it)");
        records("setClearance(2)", Stand.NEW::make, x -> x.setClearance(2), 2);
        records("setPistonArea(0, 1000)", Stand.NEW::make, x -> x.setPistonArea(0, 1000), 1000);
        records("setPistonArea(1, 900)", Stand.NEW::make, x -> x.setPistonArea(1, 900), 900);
        records("setStroke(60)", Stand.NEW::make, x -> x.setStroke(60), 60);
        records("setBoilerPressure(800)", Stand.NEW::make, x -> x.setBoilerPressure(800), 800);
        records("setBackPressure(50)", Stand.NEW::make, x -> x.setBackPressure(50), 50);
        records("setFinding(10, 5)", Stand.NEW::make, x -> x.setFinding(10, 5), 1005);
        records("setValves(0, 0, 8, 18, 4)", Stand.NEW::make, x -> x.setValves(0, 0, 8, 18, 4), 0);
        records("setValves(1, 0, 8, 18, 4)", Stand.NEW::make, x -> x.setValves(1, 0, 8, 18, 4), 0);
        Supplier<IndicatorDiagram> drafted = () -> {
            IndicatorDiagram x = new IndicatorDiagram();
            x.beginCard(0, 60);
            return x;
        };
        records("beginCard(0, 60)", drafted, x -> x.beginCard(0, 60), 1);
        records("setPoint(1, 9, 444)", Stand.HALF_DRAWN::make, x -> x.setPoint(1, 9, 444), 1);
        Supplier<IndicatorDiagram> oneCard = () -> {
            IndicatorDiagram x = new IndicatorDiagram();
            x.addIdealCard(1, 60, 0, 0);
            return x;
        };
        records("removeOutliers(1, 0)", oneCard, x -> x.removeOutliers(1, 0), 0);
    }

    /** What the document calls an action, with arguments at their bounds. */
    private static long act(IndicatorDiagram x, int action) {
        switch (action) {
            case 0: return x.setClearance(20);
            case 1: return x.setPistonArea(0, 5000);
            case 2: return x.setPistonArea(1, 1);
            case 3: return x.setStroke(300);
            case 4: return x.setBoilerPressure(2000);
            case 5: return x.setBackPressure(10);
            case 6: return x.setFinding(100, 50);
            case 7: return x.setValves(0, 5, 18, 20, 19);
            case 8: return x.setValves(1, 0, 1, 2, 0);
            case 9: return x.beginCard(0, 600);
            case 10: return x.setPoint(0, 20, 5000);
            case 11: return x.setPoint(1, 3, 0);
            case 12: return x.finishCard();
            case 13: return x.addIdealCard(1, 1, 0, -20);
            case 14: return x.removeCard(0);
            default: return x.removeOutliers(0, 0);
        }
    }

    /** Three actions and no undo, so that a fourth one drops no state. */
    private static IndicatorDiagram withCards() {
        IndicatorDiagram x = new IndicatorDiagram();
        x.addIdealCard(0, 100, 2, 3);
        x.setValves(0, 1, 7, 17, 5);
        x.setValves(1, 2, 6, 16, 3);
        return x;
    }

    /** The same with a draft that could be finished. */
    private static IndicatorDiagram withADraft() {
        IndicatorDiagram x = new IndicatorDiagram();
        x.beginCard(1, 130);
        x.setPoint(0, 4, 900);
        x.setPoint(1, 3, 88);
        return x;
    }

    private static void everythingButTheHistory() {
        due.sentence("a state is everything but the history.");
        for (int action = 0; action <= 15; action++) {
            boolean needsADraft = action == 10 || action == 11 || action == 12;
            boolean needsACard = action == 14 || action == 15;
            if (!needsADraft) {
                undone(HistoryBoundsTest::withCards, action);
            }
            if (!needsACard) {
                undone(HistoryBoundsTest::withADraft, action);
            }
        }
    }

    private static void undone(Supplier<IndicatorDiagram> make, int action) {
        IndicatorDiagram x = make.get();
        due.is("the action " + action + " is not refused", act(x, action) >= 0 ? 1 : 0, 1);
        due.is("undo() of the action " + action, x.undo(), 3);
        afterwards.unchanged(make, "the action " + action + " and its undo", y -> {
            act(y, action);
            return y.undo();
        });
    }

    private static void historySize() {
        due.sentence("Returns the number of states in the history.");
        due.is("historySize() of a new object", Stand.NEW.make().historySize(), 0);
        due.is("historySize() behind two actions", Stand.HALF_DRAWN.make().historySize(), 2);
        due.is("historySize() behind many", Stand.FULL.make().historySize(), 4);
        afterwards.unchanged("historySize()", x -> x.historySize());
    }

    private static void undoOfNothing() {
        due.sentence("Returns the number of states that are left in the history; ILLEGAL_STATE if it is empty.");
        afterwards.refused(Stand.NEW, "undo()", x -> x.undo(), Due.ILLEGAL);
        for (Stand stand : Stand.values()) {
            Supplier<IndicatorDiagram> undone = () -> {
                IndicatorDiagram x = stand.make();
                for (int i = 0; i < 4; i++) {
                    x.undo();
                }
                return x;
            };
            afterwards.refused(undone, "undo() of " + stand + " without a history", x -> x.undo(), Due.ILLEGAL);
        }
        IndicatorDiagram x = Stand.HALF_DRAWN.make();
        due.is("undo() of the second state", x.undo(), 1);
        due.is("undo() of the first state", x.undo(), 0);
        due.is("undo() of none", x.undo(), Due.ILLEGAL);
        due.is("the draft has gone", x.setPoint(1, 9, 444), Due.ILLEGAL);
        due.is("beginCard(0, 1)", x.beginCard(0, 1), 0);
        due.is("undo() of it", x.undo(), 0);
    }

    private static void undoOfAFullObject() {
        due.sentence("Removes the latest state from the history and restores it.");
        IndicatorDiagram x = Stand.FULL.make();
        due.is("undo() of the tenth card", x.undo(), 3);
        due.is("cardCount()", x.cardCount(), 9);
        due.is("finishCard()", x.finishCard(), 9);
        due.is("undo() of the draft's card", x.undo(), 3);
        due.is("finishCard() again", x.finishCard(), 9);
        due.is("pressure(9, 0, 0)", x.pressure(9, 0, 0), 4000);
        due.is("removeCard(0)", x.removeCard(0), 9);
        due.is("undo() of the removal", x.undo(), 3);
        due.is("cardCount()", x.cardCount(), 10);
        due.is("end(0)", x.end(0), 1);
        due.is("speed(0)", x.speed(0), 200);
        due.is("speed(9)", x.speed(9), 220);
    }

    private static void refusedCallAheadOfAnUndo() {
        due.sentence("A call that returns an error code changes nothing.");
        IndicatorDiagram x = Stand.FULL.make();
        x.setStroke(200);
        due.is("a refused call of each kind", x.setStroke(301), Due.INVALID);
        due.is("finishCard() without room", x.finishCard(), Due.FULL);
        due.is("an ideal card that does not exist", x.addIdealCard(0, 60, -2, 0), Due.ILLEGAL);
        due.is("undo()", x.undo(), 3);
        due.is("the stroke", x.setStroke(60), 77);
        due.is("the draft", x.setPoint(1, 10, 12), 1);
    }

    private static void firstErrors() {
        due.sentence("If several error conditions apply, the method returns the one that its description lists first.");
        due.is("setPoint out of range without a draft", new IndicatorDiagram().setPoint(0, 0, -1), Due.INVALID);
        due.is("removeOutliers out of range without cards", new IndicatorDiagram().removeOutliers(0, -1), Due.INVALID);
        due.is("removeOutliers of no end without cards", new IndicatorDiagram().removeOutliers(2, 0), Due.INVALID);
        IndicatorDiagram x = Stand.FULL.make();
        due.is("an ideal card out of range that does not exist without room", x.addIdealCard(0, 60, -4, 0), Due.INVALID);
        due.is("an ideal card that does not exist without room", x.addIdealCard(0, 60, -2, 0), Due.ILLEGAL);
        x.beginCard(0, 60);
        due.is("a draft without points and room", x.finishCard(), Due.ILLEGAL);
        due.is("the value of INVALID_ARGUMENT", IndicatorDiagram.INVALID_ARGUMENT, -2000000001);
        due.is("the value of ILLEGAL_STATE", IndicatorDiagram.ILLEGAL_STATE, -2000000002);
        due.is("the value of CAPACITY_EXCEEDED", IndicatorDiagram.CAPACITY_EXCEEDED, -2000000003);
        due.is("the value of NONE", IndicatorDiagram.NONE, -2000000004);
    }

    private static final String CALLS = "An object is used for at most 512 calls after it has been made";

    private static void lastOf512Calls() {
        due.sentence(CALLS);
        IndicatorDiagram x = new IndicatorDiagram();
        for (int call = 1; call <= 508; call++) {
            due.is("setPistonArea, the call " + call, x.setPistonArea(0, call), call == 1 ? 1000 : call - 1);
        }
        due.is("undo(), the call 509", x.undo(), 3);
        due.is("undo(), the call 510", x.undo(), 2);
        due.is("historySize(), the call 511", x.historySize(), 2);
        due.is("setPistonArea, the call 512", x.setPistonArea(0, 1), 506);
    }

    private static void lastOf512Points() {
        due.sentence(CALLS);
        IndicatorDiagram x = new IndicatorDiagram();
        due.is("beginCard(1, 600), the call 1", x.beginCard(1, 600), 0);
        for (int call = 2; call <= 510; call++) {
            int station = call / 2 % 21;
            due.is("setPoint, the call " + call, x.setPoint(call % 2, station, call), Math.min(21, call / 2));
        }
        due.is("finishCard(), the call 511", x.finishCard(), 0);
        // The calls 508 and 509 have the station 254 % 21, that is 2.
        due.is("pressure(0, 0, 2), the call 512", x.pressure(0, 0, 2), 508);
    }

    private static void lastOf512Cards() {
        due.sentence(CALLS);
        IndicatorDiagram x = new IndicatorDiagram();
        for (int call = 1; call <= 510; call += 2) {
            due.is("addIdealCard, the call " + call, x.addIdealCard(0, call, 0, 0), 0);
            if (call < 509) {
                due.is("removeCard(0), the call " + (call + 1), x.removeCard(0), 0);
            }
        }
        due.is("speed(0), the call 510", x.speed(0), 509);
        due.is("undo(), the call 511", x.undo(), 3);
        due.is("cardCount(), the call 512", x.cardCount(), 0);
    }

    private static void lastOf512RefusedCalls() {
        due.sentence(CALLS);
        IndicatorDiagram x = new IndicatorDiagram();
        x.setClearance(1);
        for (int call = 2; call <= 509; call++) {
            due.is("a refused call, the call " + call, call % 2 == 0 ? x.undo() + call : x.finishCard(),
                    call == 2 ? 2 : call % 2 == 0 ? Due.ILLEGAL + call : Due.ILLEGAL);
        }
        due.is("historySize(), the call 510", x.historySize(), 0);
        due.is("setClearance(20), the call 511", x.setClearance(20), 2);
        due.is("undo(), the call 512", x.undo(), 0);
    }
}
