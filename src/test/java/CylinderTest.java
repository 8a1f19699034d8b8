import java.util.function.IntUnaryOperator;

/** Promises 1 to 9: a new object, the settings of the cylinder and the valves. */
public final class CylinderTest {
    private static final Due due = new Due();

    public static void main(String[] args) {
        newObject();
        clearance();
        pistonArea();
        strokeLength();
        boilerPressure();
        backPressure();
        finding();
        setValves();
        valve();
        due.end();
    }

    private static void newObject() {
        due.promise(1);
        IndicatorDiagram x = new IndicatorDiagram();
        due.is("cardCount()", x.cardCount(), 0);
        due.is("cardsOf(0)", x.cardsOf(0), 0);
        due.is("cardsOf(1)", x.cardsOf(1), 0);
        due.is("historySize()", x.historySize(), 0);
        due.is("setPoint without a draft", x.setPoint(0, 0, 0), Due.ILLEGAL);
        due.is("finishCard without a draft", x.finishCard(), Due.ILLEGAL);
        due.is("undo without a history", x.undo(), Due.ILLEGAL);
        due.is("beginCard, the first one", x.beginCard(0, 1), 0);
        due.is("clearance at first", new IndicatorDiagram().setClearance(5), 2);
        due.is("piston area of the head at first", new IndicatorDiagram().setPistonArea(0, 5), 1000);
        due.is("piston area of the crank at first", new IndicatorDiagram().setPistonArea(1, 5), 900);
        due.is("stroke at first", new IndicatorDiagram().setStroke(5), 60);
        due.is("boiler pressure at first", new IndicatorDiagram().setBoilerPressure(500), 800);
        due.is("back pressure at first", new IndicatorDiagram().setBackPressure(15), 50);
        due.is("band and tolerance at first", new IndicatorDiagram().setFinding(7, 7), 1005);
        twoObjectsAreApart();
    }

    private static void twoObjectsAreApart() {
        IndicatorDiagram x = new IndicatorDiagram();
        IndicatorDiagram y = new IndicatorDiagram();
        x.setClearance(9);
        x.setValves(0, 1, 2, 3, 4);
        x.addIdealCard(0, 1, 0, 0);
        due.is("cards of the other object", y.cardCount(), 0);
        due.is("valve of the other object", y.valve(0, 1), 8);
        due.is("clearance of the other object", y.setClearance(3), 2);
    }

    /** Looks at the edges of a setter with one argument, and at what it records. */
    private static void range(String name, IndicatorDiagram x, IntUnaryOperator set, int least, int most, int first) {
        for (int wrong : new int[] {least - 1, most + 1, Integer.MIN_VALUE, Integer.MAX_VALUE, -least}) {
            due.is(name + " with " + wrong, set.applyAsInt(wrong), Due.INVALID);
        }
        due.is(name + ": history after wrong calls", x.historySize(), 0);
        due.is(name + " least", set.applyAsInt(least), first);
        due.is(name + " most", set.applyAsInt(most), least);
        due.is(name + " most again", set.applyAsInt(most), most);
        due.is(name + " wrong after right", set.applyAsInt(most + 1), Due.INVALID);
        due.is(name + ": history, also if nothing changes", x.historySize(), 3);
        x.undo();
        x.undo();
        due.is(name + " after two undone", set.applyAsInt(most), least);
    }

    private static void clearance() {
        due.promise(2);
        IndicatorDiagram x = new IndicatorDiagram();
        range("setClearance", x, x::setClearance, 1, 20, 2);
        x = new IndicatorDiagram();
        x.setClearance(1);
        x.addIdealCard(0, 60, 0, 0);
        due.is("constant(0, 0)", x.constant(0, 0), 800);
        due.is("pressure(0, 0, 9)", x.pressure(0, 0, 9), 800 * 9 / 10);
        x.setClearance(20);
        due.is("constant(0, 0) after setClearance(20)", x.constant(0, 0), 16000);
        due.is("pressure(0, 0, 9) of the card that stands", x.pressure(0, 0, 9), 800 * 9 / 10);
    }

    private static void pistonArea() {
        due.promise(3);
        IndicatorDiagram x = new IndicatorDiagram();
        range("setPistonArea(0, ..)", x, area -> x.setPistonArea(0, area), 1, 5000, 1000);
        IndicatorDiagram y = new IndicatorDiagram();
        range("setPistonArea(1, ..)", y, area -> y.setPistonArea(1, area), 1, 5000, 900);
        due.is("the other end's area stays", y.setPistonArea(0, 7), 1000);
        due.is("end 2", y.setPistonArea(2, 1000), Due.INVALID);
        due.is("end -1", y.setPistonArea(-1, 1000), Due.INVALID);
        due.is("end 0 after wrong ends", y.setPistonArea(0, 8), 7);
        IndicatorDiagram z = new IndicatorDiagram();
        z.addIdealCard(0, 120, 0, 0);
        z.addIdealCard(1, 120, 0, 0);
        z.setPistonArea(0, 2000);
        due.is("power at the head", z.power(0), 22214L * 2000 * 60 * 120 / 2400000);
        due.is("power at the crank", z.power(1), 22214L * 900 * 60 * 120 / 2400000);
    }

    private static void strokeLength() {
        due.promise(4);
        IndicatorDiagram x = new IndicatorDiagram();
        range("setStroke", x, x::setStroke, 1, 300, 60);
        IndicatorDiagram y = new IndicatorDiagram();
        y.addIdealCard(0, 120, 0, 0);
        y.setStroke(100);
        due.is("power(0)", y.power(0), 22214L * 1000 * 100 * 120 / 2400000);
    }

    private static void boilerPressure() {
        due.promise(5);
        IndicatorDiagram x = new IndicatorDiagram();
        range("setBoilerPressure", x, x::setBoilerPressure, 100, 2000, 800);
        IndicatorDiagram y = new IndicatorDiagram();
        y.setBoilerPressure(1234);
        y.addIdealCard(1, 60, 0, 0);
        due.is("pressure(0, 0, 8)", y.pressure(0, 0, 8), 1234);
        due.is("pressure(0, 0, 9)", y.pressure(0, 0, 9), 12340 / 11);
    }

    private static void backPressure() {
        due.promise(6);
        IndicatorDiagram x = new IndicatorDiagram();
        range("setBackPressure", x, x::setBackPressure, 10, 99, 50);
        IndicatorDiagram y = new IndicatorDiagram();
        y.setBackPressure(77);
        y.addIdealCard(1, 60, 0, 0);
        due.is("pressure(0, 1, 20)", y.pressure(0, 1, 20), 77);
        due.is("pressure(0, 1, 3)", y.pressure(0, 1, 3), 77 * 6 / 5);
        due.is("pressure(0, 0, 20)", y.pressure(0, 0, 20), 77);
    }

    private static void finding() {
        due.promise(7);
        IndicatorDiagram x = new IndicatorDiagram();
        for (int wrong : new int[] {0, 101, -1, Integer.MIN_VALUE, Integer.MAX_VALUE}) {
            due.is("band " + wrong, x.setFinding(wrong, 5), Due.INVALID);
        }
        for (int wrong : new int[] {0, 51, -1, Integer.MIN_VALUE, Integer.MAX_VALUE}) {
            due.is("tolerance " + wrong, x.setFinding(10, wrong), Due.INVALID);
        }
        due.is("history after wrong calls", x.historySize(), 0);
        due.is("setFinding(1, 50)", x.setFinding(1, 50), 1005);
        due.is("setFinding(100, 1)", x.setFinding(100, 1), 150);
        due.is("setFinding(100, 1) again", x.setFinding(100, 1), 10001);
        due.is("history", x.historySize(), 3);
        x.undo();
        x.undo();
        due.is("setFinding after two undone", x.setFinding(3, 4), 150);
        bandAndToleranceFind();
    }

    private static void bandAndToleranceFind() {
        IndicatorDiagram x = new IndicatorDiagram();
        x.addIdealCard(0, 60, 0, 20);
        x.setFinding(73, 5);
        due.is("cut-off with a band of 73", x.event(0, 1), 9);
        // The constants are 8000 at the cut-off, then 352 * 20, 201 * 21 and 50 * 22 from the station 18.
        x.setFinding(10, 5);
        due.is("release with a tolerance of 5", x.event(0, 2), 18);
        x.setFinding(10, 40);
        due.is("release with a tolerance of 40", x.event(0, 2), 19);
        x.setFinding(10, 50);
        due.is("release with a tolerance of 50", x.event(0, 2), 20);
    }

    private static void setValves() {
        due.promise(8);
        IndicatorDiagram x = new IndicatorDiagram();
        int[][] wrong = {
            {-1, 0, 8, 18, 4}, {2, 0, 8, 18, 4}, {0, -1, 8, 18, 4}, {0, 6, 8, 18, 4}, {0, 0, 0, 18, 4},
            {0, 0, 19, 20, 4}, {0, 0, 8, 21, 4}, {0, 0, 1, 1, 4}, {0, 0, 8, 18, -1}, {0, 0, 8, 18, 20},
            {0, 5, 5, 18, 4}, {0, 5, 4, 18, 4}, {0, 0, 8, 8, 4}, {0, 0, 8, 7, 4},
            {0, Integer.MIN_VALUE, 8, 18, 4}, {0, 0, Integer.MAX_VALUE, 18, 4}, {0, 0, 8, Integer.MAX_VALUE, 4},
            {0, 0, 8, 18, Integer.MAX_VALUE},
        };
        for (int[] w : wrong) {
            due.is("setValves(" + java.util.Arrays.toString(w) + ")", x.setValves(w[0], w[1], w[2], w[3], w[4]),
                    Due.INVALID);
        }
        due.is("history after wrong calls", x.historySize(), 0);
        due.are("valves after wrong calls", valves(x), "0 8 18 4 0 8 18 4");
        due.is("setValves(0, 5, 18, 20, 19)", x.setValves(0, 5, 18, 20, 19), 0);
        due.is("setValves(1, 0, 1, 2, 0)", x.setValves(1, 0, 1, 2, 0), 0);
        due.are("valves", valves(x), "5 18 20 19 0 1 2 0");
        due.is("setValves(1, 0, 1, 2, 0) again", x.setValves(1, 0, 1, 2, 0), 0);
        due.is("history", x.historySize(), 3);
        due.is("setValves(0, 4, 5, 6, 19)", x.setValves(0, 4, 5, 6, 19), 0);
        due.are("valves one behind the other", valves(x), "4 5 6 19 0 1 2 0");
    }

    private static String valves(IndicatorDiagram x) {
        StringBuilder seen = new StringBuilder();
        for (int i = 0; i < 8; i++) {
            seen.append(i == 0 ? "" : " ").append(x.valve(i / 4, i % 4));
        }
        return seen.toString();
    }

    private static void valve() {
        due.promise(9);
        IndicatorDiagram x = new IndicatorDiagram();
        due.are("valves at first", valves(x), "0 8 18 4 0 8 18 4");
        x.setValves(1, 3, 7, 11, 13);
        due.are("valves", valves(x), "0 8 18 4 3 7 11 13");
        for (int wrong : new int[] {-1, 2, Integer.MIN_VALUE, Integer.MAX_VALUE}) {
            due.is("valve of the end " + wrong, x.valve(wrong, 0), Due.INVALID);
        }
        for (int wrong : new int[] {-1, 4, Integer.MIN_VALUE, Integer.MAX_VALUE}) {
            due.is("valve with the event " + wrong, x.valve(0, wrong), Due.INVALID);
        }
        due.is("valve is no action", x.historySize(), 1);
    }
}
