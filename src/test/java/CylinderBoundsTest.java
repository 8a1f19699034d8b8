import java.util.function.IntFunction;
import java.util.function.ToLongFunction;

/** The bounds that the document names under 'Cylinder' and in the promises 1 to 9. */
public final class CylinderBoundsTest {
    private static final Due due = new Due();
    private static final Afterwards afterwards = new Afterwards(due);

    public static void main(String[] args) {
        newObject();
        ends();
        clearance();
        volume();
        pistonAreaOfTheHead();
        pistonAreaOfTheCrank();
        strokeLength();
        boilerPressure();
        backPressure();
        band();
        tolerance();
        answerOfSetFinding();
        admission();
        cutOff();
        release();
        compression();
        cutOffBehindAdmission();
        releaseBehindCutOff();
        valve();
        due.end();
    }

    private static void newObject() {
        due.sentence("Creates an analyzer without cards and without a draft.");
        due.is("cardCount()", new IndicatorDiagram().cardCount(), 0);
        afterwards.refused(Stand.NEW, "removeCard(0)", x -> x.removeCard(0), Due.INVALID);
        afterwards.refused(Stand.NEW, "end(0)", x -> x.end(0), Due.INVALID);
        afterwards.refused(Stand.NEW, "setPoint(0, 0, 0)", x -> x.setPoint(0, 0, 0), Due.ILLEGAL);
        afterwards.refused(Stand.NEW, "finishCard()", x -> x.finishCard(), Due.ILLEGAL);
        afterwards.refused(Stand.NEW, "undo()", x -> x.undo(), Due.ILLEGAL);
        due.is("beginCard(0, 1)", new IndicatorDiagram().beginCard(0, 1), 0);
    }

    private static void ends() {
        due.sentence("The cylinder has two ends, 0 (head) and 1 (crank).");
        IndicatorDiagram x = new IndicatorDiagram();
        due.is("setPistonArea(0, 1)", x.setPistonArea(0, 1), 1000);
        due.is("setPistonArea(1, 1)", x.setPistonArea(1, 1), 900);
        due.is("setValves(0, 0, 3, 5, 7)", x.setValves(0, 0, 3, 5, 7), 0);
        due.is("setValves(1, 1, 4, 6, 8)", x.setValves(1, 1, 4, 6, 8), 0);
        due.is("valve(0, 3)", x.valve(0, 3), 7);
        due.is("valve(1, 3)", x.valve(1, 3), 8);
        for (int end : new int[] {-1, 2, Integer.MIN_VALUE, Integer.MAX_VALUE}) {
            afterwards.refused("setPistonArea of the end " + end, y -> y.setPistonArea(end, 1), Due.INVALID);
            afterwards.refused("setValves of the end " + end, y -> y.setValves(end, 0, 3, 5, 7), Due.INVALID);
            afterwards.refused("valve of the end " + end, y -> y.valve(end, 0), Due.INVALID);
        }
    }

    /** A setting: the call that sets it to a value, its bounds, and what the call answers at first. */
    private static void bounds(String name, IntFunction<ToLongFunction<IndicatorDiagram>> set, int least, int most,
            int first) {
        for (int beyond : new int[] {least - 1, most + 1, Integer.MIN_VALUE, Integer.MAX_VALUE}) {
            afterwards.refused(name + " of " + beyond, set.apply(beyond), Due.INVALID);
        }
        IndicatorDiagram x = new IndicatorDiagram();
        due.is(name + " of " + (least - 1), set.apply(least - 1).applyAsLong(x), Due.INVALID);
        due.is(name + " of " + least, set.apply(least).applyAsLong(x), first);
        due.is(name + " of " + most, set.apply(most).applyAsLong(x), least);
        due.is(name + " of " + (most + 1), set.apply(most + 1).applyAsLong(x), Due.INVALID);
        due.is(name + " of " + (least + 1), set.apply(least + 1).applyAsLong(x), most);
        due.is("states behind " + name + ": one for each that was not refused", x.historySize(), 3);
        x.undo();
        due.is(name + " behind an undo", set.apply(least).applyAsLong(x), most);
    }

    private static void clearance() {
        due.sentence("The clearance is 1 to 20 intervals (2 at first).");
        bounds("setClearance", clearance -> x -> x.setClearance(clearance), 1, 20, 2);
    }

    private static void volume() {
        due.sentence("The volume at a station is the clearance plus the number of the station.");
        IndicatorDiagram x = new IndicatorDiagram();
        Drawing.add(x, 0, 60, Drawing.level(5000), Drawing.level(0));
        x.setClearance(1);
        due.is("the least volume, times 5000", x.constant(0, 0), 5000);
        due.is("the next one, times 5000", x.constant(0, 1), 10000);
        x.setClearance(20);
        due.is("the greatest volume, times 5000", x.constant(0, 20), 200000);
        due.is("the one ahead of it, times 5000", x.constant(0, 19), 195000);
    }

    private static final String PISTON_AREA =
            "Each end has a piston area of 1 to 5000 square centimeters (1000 and 900 at first)";

    private static void pistonAreaOfTheHead() {
        due.sentence(PISTON_AREA);
        bounds("setPistonArea of the head", area -> x -> x.setPistonArea(0, area), 1, 5000, 1000);
        IndicatorDiagram x = new IndicatorDiagram();
        // An area of 40 at each stroke and speed of 60: a power of 3 for every 50 square centimeters.
        Drawing.add(x, 0, 60, Drawing.level(1), Drawing.level(0));
        x.setPistonArea(0, 5000);
        due.is("power(0) of the greatest piston", x.power(0), 300);
        x.setPistonArea(0, 1);
        due.is("power(0) of the least piston", x.power(0), 0);
        due.is("the other end's area", x.setPistonArea(1, 900), 900);
    }

    private static void pistonAreaOfTheCrank() {
        due.sentence(PISTON_AREA);
        bounds("setPistonArea of the crank", area -> x -> x.setPistonArea(1, area), 1, 5000, 900);
        IndicatorDiagram x = new IndicatorDiagram();
        Drawing.add(x, 1, 60, Drawing.level(1), Drawing.level(0));
        x.setPistonArea(1, 5000);
        due.is("power(0) of the greatest piston", x.power(0), 300);
        x.setPistonArea(1, 1);
        due.is("power(0) of the least piston", x.power(0), 0);
        due.is("the other end's area", x.setPistonArea(0, 1000), 1000);
    }

    private static void strokeLength() {
        due.sentence("the length of the stroke is 1 to 300 centimeters (60 at first)");
        bounds("setStroke", length -> x -> x.setStroke(length), 1, 300, 60);
        IndicatorDiagram x = new IndicatorDiagram();
        Drawing.add(x, 0, 60, Drawing.level(1), Drawing.level(0));
        x.setStroke(300);
        due.is("power(0) of the longest stroke", x.power(0), 300);
        x.setStroke(1);
        due.is("power(0) of the shortest stroke", x.power(0), 1);
    }

    private static void boilerPressure() {
        due.sentence("The boiler pressure is 100 to 2000 (800 at first)");
        bounds("setBoilerPressure", pressure -> x -> x.setBoilerPressure(pressure), 100, 2000, 800);
        IndicatorDiagram x = new IndicatorDiagram();
        x.setBoilerPressure(100);
        x.addIdealCard(0, 60, 0, 0);
        x.setBoilerPressure(2000);
        x.addIdealCard(0, 60, 0, 0);
        due.is("pressure(0, 0, 8) of the least one", x.pressure(0, 0, 8), 100);
        due.is("pressure(1, 0, 8) of the greatest one", x.pressure(1, 0, 8), 2000);
        due.is("pressure(1, 0, 9): 2000 * 10 / 11", x.pressure(1, 0, 9), 1818);
    }

    private static void backPressure() {
        due.sentence("the back pressure 10 to 99 (50 at first)");
        bounds("setBackPressure", pressure -> x -> x.setBackPressure(pressure), 10, 99, 50);
        IndicatorDiagram x = new IndicatorDiagram();
        x.setBackPressure(10);
        x.addIdealCard(0, 60, 0, 0);
        x.setBackPressure(99);
        x.addIdealCard(0, 60, 0, 0);
        due.is("pressure(0, 1, 4) of the least one", x.pressure(0, 1, 4), 10);
        due.is("pressure(0, 1, 3): 10 * 6 / 5", x.pressure(0, 1, 3), 12);
        due.is("pressure(1, 1, 4) of the greatest one", x.pressure(1, 1, 4), 99);
        due.is("pressure(1, 1, 3): 99 * 6 / 5", x.pressure(1, 1, 3), 118);
    }

    private static void band() {
        due.sentence("The band is 1 to 100 (10 at first)");
        // The tolerance stays 5, so that the answer tells the band.
        bounds("the band in setFinding", band -> x -> {
            int previous = x.setFinding(band, 5);
            return previous < 0 ? previous : previous / 100;
        }, 1, 100, 10);
        IndicatorDiagram x = new IndicatorDiagram();
        int[] falling = Drawing.level(0);
        System.arraycopy(new int[] {900, 899, 898, 800, 799}, 0, falling, 0, 5);
        Drawing.add(x, 0, 60, falling, Drawing.level(0));
        x.setFinding(1, 5);
        due.is("the cut-off with the least band", x.event(0, 1), 1);
        x.setFinding(100, 5);
        due.is("the cut-off with the greatest band", x.event(0, 1), 3);
    }

    private static void tolerance() {
        due.sentence("the tolerance 1 to 50 percent (5 at first)");
        bounds("the tolerance in setFinding", tolerance -> x -> {
            int previous = x.setFinding(10, tolerance);
            return previous < 0 ? previous : previous % 100;
        }, 1, 50, 5);
        IndicatorDiagram x = new IndicatorDiagram();
        // With the clearance 2 the constants are 2000 at the cut-off, then 1980, 1976, 1000 and 996.
        int[] falling = Drawing.level(0);
        System.arraycopy(new int[] {1000, 660, 494, 200, 166}, 0, falling, 0, 5);
        Drawing.add(x, 0, 60, falling, Drawing.level(0));
        x.setFinding(10, 1);
        due.is("the release with the least tolerance", x.event(0, 2), 2);
        x.setFinding(10, 50);
        due.is("the release with the greatest tolerance", x.event(0, 2), 4);
    }

    private static void answerOfSetFinding() {
        due.sentence("Returns 100 times the previous band plus the previous tolerance; "
                + "INVALID_ARGUMENT if an argument is out of range.");
        IndicatorDiagram x = new IndicatorDiagram();
        due.is("setFinding(1, 1)", x.setFinding(1, 1), 1005);
        due.is("setFinding(100, 50)", x.setFinding(100, 50), 101);
        due.is("setFinding(100, 51)", x.setFinding(100, 51), Due.INVALID);
        due.is("setFinding(101, 50)", x.setFinding(101, 50), Due.INVALID);
        due.is("setFinding(101, 51)", x.setFinding(101, 51), Due.INVALID);
        due.is("setFinding(1, 50)", x.setFinding(1, 50), 10050);
        due.is("setFinding(100, 1)", x.setFinding(100, 1), 150);
        due.is("setFinding(10, 5)", x.setFinding(10, 5), 10001);
        // One of both is right: neither may be set then.
        afterwards.refused("setFinding(50, 0)", y -> y.setFinding(50, 0), Due.INVALID);
        afterwards.refused("setFinding(0, 25)", y -> y.setFinding(0, 25), Due.INVALID);
    }

    private static void set(int end, int admission, int cutOff, int release, int compression) {
        IndicatorDiagram x = new IndicatorDiagram();
        String name = "setValves(" + end + ", " + admission + ", " + cutOff + ", " + release + ", " + compression + ")";
        due.is(name, x.setValves(end, admission, cutOff, release, compression), 0);
        due.is("the admission behind " + name, x.valve(end, 0), admission);
        due.is("the cut-off behind " + name, x.valve(end, 1), cutOff);
        due.is("the release behind " + name, x.valve(end, 2), release);
        due.is("the compression behind " + name, x.valve(end, 3), compression);
        due.are("the other end behind " + name, x.valve(1 - end, 0) + " " + x.valve(1 - end, 1) + " "
                + x.valve(1 - end, 2) + " " + x.valve(1 - end, 3), "0 8 18 4");
        due.is("historySize() behind " + name, x.historySize(), 1);
    }

    private static void refuse(int end, int admission, int cutOff, int release, int compression) {
        String name = "setValves(" + end + ", " + admission + ", " + cutOff + ", " + release + ", " + compression + ")";
        afterwards.refused(name, x -> x.setValves(end, admission, cutOff, release, compression), Due.INVALID);
    }

    private static void admission() {
        due.sentence("admission (0 to 5; 0 at first)");
        for (int end = 0; end <= 1; end++) {
            due.is("valve(" + end + ", 0) at first", new IndicatorDiagram().valve(end, 0), 0);
            set(end, 0, 8, 18, 4);
            set(end, 5, 8, 18, 4);
            refuse(end, -1, 8, 18, 4);
            refuse(end, 6, 8, 18, 4);
            refuse(end, Integer.MIN_VALUE, 8, 18, 4);
            refuse(end, Integer.MAX_VALUE, 8, 18, 4);
        }
    }

    private static void cutOff() {
        due.sentence("cut-off (1 to 18; 8 at first)");
        for (int end = 0; end <= 1; end++) {
            due.is("valve(" + end + ", 1) at first", new IndicatorDiagram().valve(end, 1), 8);
            set(end, 0, 1, 18, 4);
            set(end, 0, 18, 20, 4);
            refuse(end, 0, 0, 18, 4);
            refuse(end, 0, 19, 20, 4);
            refuse(end, 0, Integer.MIN_VALUE, 20, 4);
            refuse(end, 0, Integer.MAX_VALUE, 20, 4);
        }
    }

    private static void release() {
        due.sentence("release (2 to 20; 18 at first)");
        for (int end = 0; end <= 1; end++) {
            due.is("valve(" + end + ", 2) at first", new IndicatorDiagram().valve(end, 2), 18);
            set(end, 0, 1, 2, 4);
            set(end, 0, 8, 20, 4);
            refuse(end, 0, 1, 1, 4);
            refuse(end, 0, 8, 21, 4);
            refuse(end, 0, 8, Integer.MIN_VALUE, 4);
            refuse(end, 0, 8, Integer.MAX_VALUE, 4);
        }
    }

    private static void compression() {
        due.sentence("compression (0 to 19; 4 at first)");
        for (int end = 0; end <= 1; end++) {
            due.is("valve(" + end + ", 3) at first", new IndicatorDiagram().valve(end, 3), 4);
            set(end, 0, 8, 18, 0);
            set(end, 0, 8, 18, 19);
            refuse(end, 0, 8, 18, -1);
            refuse(end, 0, 8, 18, 20);
            refuse(end, 0, 8, 18, Integer.MIN_VALUE);
            refuse(end, 0, 8, 18, Integer.MAX_VALUE);
        }
    }

    private static void cutOffBehindAdmission() {
        due.sentence("The cut-off is always greater than the admission");
        for (int end = 0; end <= 1; end++) {
            for (int admission = 0; admission <= 5; admission++) {
                set(end, admission, admission + 1, 18, 4);
            }
            for (int admission = 1; admission <= 5; admission++) {
                refuse(end, admission, admission, 18, 4);
            }
            refuse(end, 5, 4, 18, 4);
        }
    }

    private static void releaseBehindCutOff() {
        due.sentence("and the release greater than the cut-off.");
        for (int end = 0; end <= 1; end++) {
            for (int cutOff = 1; cutOff <= 18; cutOff++) {
                set(end, 0, cutOff, cutOff + 1, 4);
            }
            for (int cutOff = 2; cutOff <= 18; cutOff += 8) {
                refuse(end, 0, cutOff, cutOff, 4);
            }
            refuse(end, 0, 18, 17, 4);
        }
    }

    private static void valve() {
        due.sentence("event: 0 admission, 1 cut-off, 2 release, 3 compression");
        for (int end = 0; end <= 1; end++) {
            int e = end;
            afterwards.unchanged("valve(" + e + ", 0)", x -> x.valve(e, 0));
            afterwards.unchanged("valve(" + e + ", 3)", x -> x.valve(e, 3));
            afterwards.refused("valve(" + e + ", -1)", x -> x.valve(e, -1), Due.INVALID);
            afterwards.refused("valve(" + e + ", 4)", x -> x.valve(e, 4), Due.INVALID);
            afterwards.refused("valve(" + e + ", least)", x -> x.valve(e, Integer.MIN_VALUE), Due.INVALID);
            afterwards.refused("valve(" + e + ", most)", x -> x.valve(e, Integer.MAX_VALUE), Due.INVALID);
        }
    }
}
