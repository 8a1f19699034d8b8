import java.util.function.Supplier;

/** The bounds that the document names under 'Ideal cards' and in the promises 13 and 35 to 37. */
public final class IdealBoundsTest {
    private static final Due due = new Due();
    private static final Afterwards afterwards = new Afterwards(due);

    public static void main(String[] args) {
        leak();
        leakRoundedDown();
        shift();
        belowTheAdmission();
        toTheCutOff();
        expansion();
        fromTheRelease();
        belowTheCompression();
        admissionOfAnIdealCard();
        cutOffOfAnIdealCard();
        releaseOfAnIdealCard();
        compressionOfAnIdealCard();
        firstErrorOfAddIdealCard();
        idealArea();
        wantedArea();
        bestOfSeveral();
        bestBehindTheAdmission();
        bestAheadOfTheRelease();
        onlyOneCutOff();
        balancingOfSeveral();
        balancingBehindTheAdmission();
        balancingAheadOfTheRelease();
        due.end();
    }

    private static IndicatorDiagram withValves(int end, int admission, int cutOff, int release, int compression) {
        IndicatorDiagram x = new IndicatorDiagram();
        due.is("setValves", x.setValves(end, admission, cutOff, release, compression), 0);
        return x;
    }

    private static void leak() {
        due.sentence("a leak of -20 to 20 thousandths");
        IndicatorDiagram x = new IndicatorDiagram();
        // The constant at the cut-off is 8000; the next station has a volume of 11.
        due.is("a leak of -20", x.addIdealCard(0, 60, 0, -20), 0);
        due.is("8000 less 160, by 11", x.pressure(0, 0, 9), 712);
        due.is("7840 less 157 (156.8), by 12", x.pressure(0, 0, 10), 640);
        due.is("a leak of 20", x.addIdealCard(0, 60, 0, 20), 1);
        due.is("8000 and 160, by 11", x.pressure(1, 0, 9), 741);
        due.is("8160 and 163 (163.2), by 12", x.pressure(1, 0, 10), 693);
        due.is("a leak of 0", x.addIdealCard(0, 60, 0, 0), 2);
        due.is("8000 by 11", x.pressure(2, 0, 9), 727);
        due.is("the cut-off with a leak", x.pressure(1, 0, 8), 800);
        for (int leak : new int[] {-21, 21, Integer.MIN_VALUE, Integer.MAX_VALUE}) {
            afterwards.refused("addIdealCard with a leak of " + leak, y -> y.addIdealCard(0, 60, 0, leak), Due.INVALID);
            afterwards.refused("addIdealCard of the end 1 with a leak of " + leak,
                    y -> y.addIdealCard(1, 60, 0, leak), Due.INVALID);
        }
    }

    private static void leakRoundedDown() {
        due.sentence("k becomes k + k * leak / 1000, and the pressure is then k divided by the volume at the station.");
        IndicatorDiagram x = new IndicatorDiagram();
        x.setBoilerPressure(109);
        x.addIdealCard(0, 60, 0, -1);
        // -1.09 is -2, so that 1088 by 11 is 98; with -1 it were 1089 by 11, which is 99.
        due.is("1090 less 2, by 11", x.pressure(0, 0, 9), 98);
        x.addIdealCard(0, 60, 0, 1);
        due.is("1090 and 1, by 11", x.pressure(1, 0, 9), 99);
        x.setBoilerPressure(2000);
        x.setClearance(20);
        x.setValves(0, 0, 18, 20, 0);
        x.addIdealCard(0, 60, 0, 20);
        due.is("76000 and 1520, by 39", x.pressure(2, 0, 19), 1987);
    }

    private static void shift() {
        due.sentence("shift: -3 to 3");
        IndicatorDiagram x = withValves(1, 3, 8, 17, 5);
        due.is("a shift of -3", x.addIdealCard(1, 60, -3, 0), 0);
        due.is("the admission of 0", x.pressure(0, 0, 0), 800);
        due.is("the cut-off of 5", x.pressure(0, 0, 5), 800);
        due.is("behind the cut-off of 5", x.pressure(0, 0, 6), 700);
        due.is("the compression of 8", x.pressure(0, 1, 8), 50);
        due.is("below the compression of 8: 500 by 9", x.pressure(0, 1, 7), 55);
        due.is("a shift of 3", x.addIdealCard(1, 60, 3, 0), 1);
        due.is("below the admission of 6", x.pressure(1, 0, 5), 50);
        due.is("the admission of 6", x.pressure(1, 0, 6), 800);
        due.is("the cut-off of 11", x.pressure(1, 0, 11), 800);
        due.is("behind the cut-off of 11: 10400 by 14", x.pressure(1, 0, 12), 742);
        due.is("the compression of 2", x.pressure(1, 1, 2), 50);
        due.is("below the compression of 2: 200 by 3", x.pressure(1, 1, 1), 66);
        for (int shift : new int[] {-4, 4, Integer.MIN_VALUE, Integer.MAX_VALUE}) {
            afterwards.refused("addIdealCard with a shift of " + shift, y -> y.addIdealCard(1, 60, shift, 0),
                    Due.INVALID);
            afterwards.refused(() -> withValves(1, 5, 8, 15, 8), "addIdealCard with a shift of " + shift,
                    y -> y.addIdealCard(1, 60, shift, 0), Due.INVALID);
        }
    }

    private static void belowTheAdmission() {
        due.sentence("at stations below A the back pressure");
        IndicatorDiagram x = withValves(0, 0, 6, 10, 4);
        x.addIdealCard(0, 60, 0, 0);
        due.is("the station 0 at an admission of 0", x.pressure(0, 0, 0), 800);
        x.setValves(0, 1, 6, 10, 4);
        x.addIdealCard(0, 60, 0, 0);
        due.is("the station 0 at an admission of 1", x.pressure(1, 0, 0), 50);
        due.is("the station 1 at an admission of 1", x.pressure(1, 0, 1), 800);
        x.setValves(0, 5, 6, 10, 4);
        x.addIdealCard(0, 60, 3, 0);
        due.is("the station 7 at an admission of 8", x.pressure(2, 0, 7), 50);
        due.is("the station 8 at an admission of 8", x.pressure(2, 0, 8), 800);
    }

    private static void toTheCutOff() {
        due.sentence("from A to C the boiler pressure.");
        IndicatorDiagram x = withValves(0, 0, 1, 18, 4);
        x.addIdealCard(0, 60, 0, 0);
        due.is("the cut-off of 1", x.pressure(0, 0, 1), 800);
        due.is("behind the cut-off of 1: 2400 by 4", x.pressure(0, 0, 2), 600);
        x.setValves(0, 0, 18, 19, 4);
        x.addIdealCard(0, 60, 1, 0);
        due.is("the cut-off of 19", x.pressure(1, 0, 19), 800);
        due.is("behind the cut-off of 19", x.pressure(1, 0, 20), 50);
    }

    private static void expansion() {
        due.sentence("at each station from C + 1 to R - 1");
        IndicatorDiagram x = withValves(0, 0, 8, 9, 4);
        x.addIdealCard(0, 60, 0, 20);
        // Without such a station the pressure at R - 1 is the boiler's: 800 less 62.5.
        due.is("the release of 9 behind a cut-off of 8", x.pressure(0, 0, 9), 737);
        x.setValves(0, 0, 8, 10, 4);
        x.addIdealCard(0, 60, 0, 20);
        due.is("the one station ahead of a release of 10", x.pressure(1, 0, 9), 741);
        due.is("the release of 10: 741 less 62.82", x.pressure(1, 0, 10), 678);
        x.setValves(0, 0, 1, 20, 4);
        x.addIdealCard(0, 60, 0, 0);
        due.is("the last station ahead of a release of 20: 2400 by 21", x.pressure(2, 0, 19), 114);
    }

    private static void fromTheRelease() {
        due.sentence("at the stations s from R to 20 the pressure is e + (b - e) * (s - R + 1) / (21 - R)");
        IndicatorDiagram x = withValves(0, 0, 1, 20, 4);
        x.addIdealCard(0, 60, 0, 0);
        due.is("the release of 20", x.pressure(0, 0, 20), 50);
        x.setValves(0, 0, 1, 19, 4);
        x.addIdealCard(0, 60, 0, 0);
        due.is("the release of 19: 120 less 35", x.pressure(1, 0, 19), 85);
        due.is("behind the release of 19", x.pressure(1, 0, 20), 50);
        x.setValves(0, 0, 1, 2, 4);
        x.addIdealCard(0, 60, 0, 0);
        due.is("ahead of the release of 2", x.pressure(2, 0, 1), 800);
        due.is("the release of 2: 800 less 39.5", x.pressure(2, 0, 2), 760);
        due.is("the station 19 behind the release of 2: 800 less 710.5", x.pressure(2, 0, 19), 89);
        due.is("the station 20 behind the release of 2", x.pressure(2, 0, 20), 50);
        x.setBoilerPressure(100);
        x.setBackPressure(99);
        x.setValves(0, 0, 1, 18, 4);
        x.addIdealCard(0, 60, 0, 0);
        due.is("ahead of the release of 18: 300 by 19", x.pressure(3, 0, 17), 15);
        due.is("a rise to the back pressure: 15 and 28", x.pressure(3, 0, 18), 43);
        due.is("the last station of the rise", x.pressure(3, 0, 20), 99);
    }

    private static void belowTheCompression() {
        due.sentence("at stations s below M the back pressure times the volume at M, divided by the volume at s.");
        IndicatorDiagram x = withValves(0, 0, 8, 18, 0);
        x.addIdealCard(0, 60, 0, 0);
        due.is("the station 0 at a compression of 0", x.pressure(0, 1, 0), 50);
        x.setValves(0, 0, 8, 18, 1);
        x.addIdealCard(0, 60, 0, 0);
        due.is("the station 0 at a compression of 1: 150 by 2", x.pressure(1, 1, 0), 75);
        due.is("the station 1 at a compression of 1", x.pressure(1, 1, 1), 50);
        x.setValves(0, 0, 8, 18, 19);
        x.addIdealCard(0, 60, 0, 0);
        due.is("the station 18 at a compression of 19: 1050 by 20", x.pressure(2, 1, 18), 52);
        due.is("the station 19 at a compression of 19", x.pressure(2, 1, 19), 50);
        due.is("the station 20 at a compression of 19", x.pressure(2, 1, 20), 50);
        x.setClearance(1);
        x.setBackPressure(99);
        x.addIdealCard(0, 60, 0, 0);
        due.is("the greatest pressure of a return stroke", x.pressure(3, 1, 0), 1980);
    }

    private static void exists(int shift, int admission, int cutOff, int release, int compression) {
        for (int end = 0; end <= 1; end++) {
            IndicatorDiagram x = withValves(end, admission, cutOff, release, compression);
            due.is("addIdealCard(" + end + ", 60, " + shift + ", 0) with " + admission + " " + cutOff + " " + release
                    + " " + compression, x.addIdealCard(end, 60, shift, 0), 0);
        }
    }

    private static void existsNot(int shift, int admission, int cutOff, int release, int compression) {
        for (int end = 0; end <= 1; end++) {
            int e = end;
            Supplier<IndicatorDiagram> make = () -> withValves(e, admission, cutOff, release, compression);
            afterwards.refused(make, "addIdealCard(" + end + ", 60, " + shift + ", 0) with " + admission + " " + cutOff
                    + " " + release + " " + compression, x -> x.addIdealCard(e, 60, shift, 0), Due.ILLEGAL);
        }
    }

    private static void admissionOfAnIdealCard() {
        due.sentence("It exists if A is 0 to 8");
        exists(0, 0, 8, 15, 8);
        existsNot(-1, 0, 8, 15, 8);
        exists(-2, 2, 8, 15, 8);
        existsNot(-3, 2, 8, 15, 8);
        exists(-3, 3, 8, 15, 8);
        // No valve setting and no shift lead to an admission of 9.
        exists(3, 5, 8, 15, 8);
    }

    private static void cutOffOfAnIdealCard() {
        due.sentence("C 1 to 19");
        exists(-3, 3, 4, 15, 8);
        existsNot(-3, 2, 3, 15, 8);
        exists(1, 0, 18, 19, 8);
        existsNot(2, 0, 18, 19, 8);
        existsNot(1, 0, 18, 20, 8);
    }

    private static void releaseOfAnIdealCard() {
        due.sentence("R 2 to 20");
        exists(0, 0, 1, 2, 8);
        existsNot(-1, 0, 1, 2, 8);
        exists(-3, 3, 4, 5, 8);
        exists(3, 0, 8, 17, 8);
        existsNot(3, 0, 8, 18, 8);
        exists(0, 0, 8, 20, 8);
        existsNot(1, 0, 8, 20, 8);
    }

    private static void compressionOfAnIdealCard() {
        due.sentence("and M 0 to 19 then.");
        exists(3, 0, 8, 15, 3);
        existsNot(3, 0, 8, 15, 2);
        existsNot(1, 0, 8, 15, 0);
        exists(-3, 3, 8, 15, 16);
        existsNot(-3, 3, 8, 15, 17);
        existsNot(-1, 3, 8, 15, 19);
    }

    private static void firstErrorOfAddIdealCard() {
        due.sentence("INVALID_ARGUMENT if an argument is out of range; ILLEGAL_STATE if the ideal card with this shift "
                + "does not exist; CAPACITY_EXCEEDED if there are 10 cards.");
        // With ten cards, and valve settings of 1 7 17 5 at the end 0: a shift of -2 does not exist.
        afterwards.refused(Stand.FULL, "all three", x -> x.addIdealCard(0, 601, -2, 0), Due.INVALID);
        afterwards.refused(Stand.FULL, "a wrong leak and no room", x -> x.addIdealCard(0, 60, -1, 21), Due.INVALID);
        afterwards.refused(Stand.FULL, "no such card and no room", x -> x.addIdealCard(0, 60, -2, 0), Due.ILLEGAL);
        afterwards.refused(Stand.FULL, "no room", x -> x.addIdealCard(0, 60, -1, 0), Due.FULL);
        afterwards.refused(Stand.DRAWING, "no such card", x -> x.addIdealCard(0, 60, -2, 0), Due.ILLEGAL);
        afterwards.refused(Stand.DRAWING, "a wrong speed and no such card", x -> x.addIdealCard(0, 0, -2, 0),
                Due.INVALID);
        due.is("with room", Stand.DRAWING.make().addIdealCard(0, 60, -1, 0), 3);
    }

    private static void idealArea() {
        due.sentence("Returns the area of the ideal card of an end without a shift and without a leak.");
        for (int end : new int[] {-1, 2, Integer.MIN_VALUE, Integer.MAX_VALUE}) {
            afterwards.refused("idealArea(" + end + ")", x -> x.idealArea(end), Due.INVALID);
        }
        afterwards.unchanged("idealArea(0)", x -> x.idealArea(0));
        afterwards.unchanged("idealArea(1)", x -> x.idealArea(1));
        for (int end = 0; end <= 1; end++) {
            IndicatorDiagram x = smallest(end);
            due.is("idealArea(" + end + ") of a small card", x.idealArea(end), -89);
            due.is("idealArea of the other end", x.idealArea(1 - end) == -89 ? 1 : 0, 0);
        }
    }

    /**
     * An end with two cut-offs to choose from, 1 and 2, whose areas are -89 and 5. The return stroke is 99.
     * With a cut-off of 1 the outward stroke is 100 100 95, four of 95, four of 96, five of 97, four of 98
     * and 99; with a cut-off of 2 it is 100 100 100 and 99 behind them.
     */
    private static IndicatorDiagram smallest(int end) {
        IndicatorDiagram x = withValves(end, 0, 1, 3, 0);
        x.setBoilerPressure(100);
        x.setBackPressure(99);
        x.setClearance(20);
        return x;
    }

    private static void wantedArea() {
        due.sentence("wanted: the area that is wanted, -200000 to 200000");
        IndicatorDiagram x = new IndicatorDiagram();
        due.is("bestCutOff(0, -200000)", x.bestCutOff(0, -200000), 1);
        due.is("bestCutOff(0, 200000)", x.bestCutOff(0, 200000), 17);
        due.is("bestCutOff(1, -200000)", x.bestCutOff(1, -200000), 1);
        due.is("bestCutOff(1, 200000)", x.bestCutOff(1, 200000), 17);
        for (int wanted : new int[] {-200001, 200001, Integer.MIN_VALUE, Integer.MAX_VALUE}) {
            afterwards.refused("bestCutOff(0, " + wanted + ")", y -> y.bestCutOff(0, wanted), Due.INVALID);
            afterwards.refused("bestCutOff(1, " + wanted + ")", y -> y.bestCutOff(1, wanted), Due.INVALID);
        }
        for (int end : new int[] {-1, 2, Integer.MIN_VALUE, Integer.MAX_VALUE}) {
            afterwards.refused("bestCutOff(" + end + ", 0)", y -> y.bestCutOff(end, 0), Due.INVALID);
        }
        afterwards.unchanged("bestCutOff(0, 14000)", y -> y.bestCutOff(0, 14000));
        afterwards.unchanged("bestCutOff(1, -200000)", y -> y.bestCutOff(1, -200000));
        afterwards.unchanged("balancingCutOff()", y -> y.balancingCutOff());
    }

    private static void bestOfSeveral() {
        due.sentence("is nearest to a wanted one; of several the smaller one.");
        for (int end = 0; end <= 1; end++) {
            IndicatorDiagram x = smallest(end);
            due.is("47 from both", x.bestCutOff(end, -42), 1);
            due.is("48 from -89, 46 from 5", x.bestCutOff(end, -41), 2);
            due.is("46 from -89, 48 from 5", x.bestCutOff(end, -43), 1);
            due.is("just the first one's", x.bestCutOff(end, -89), 1);
            due.is("just the second one's", x.bestCutOff(end, 5), 2);
            x.setValves(end, 0, 2, 3, 0);
            due.is("idealArea with the cut-off 2", x.idealArea(end), 5);
            due.is("47 from both, where the setting is the greater one", x.bestCutOff(end, -42), 1);
        }
    }

    private static final String RANGE = "It is greater than the admission and less than the release, and 1 to 18.";

    private static void bestBehindTheAdmission() {
        due.sentence(RANGE);
        for (int admission = 0; admission <= 5; admission++) {
            due.is("the least cut-off behind the admission " + admission,
                    withValves(0, admission, 9, 18, 4).bestCutOff(0, -200000), admission + 1);
            due.is("the least cut-off of the end 1 behind the admission " + admission,
                    withValves(1, admission, 9, 18, 4).bestCutOff(1, -200000), admission + 1);
        }
    }

    private static void bestAheadOfTheRelease() {
        due.sentence(RANGE);
        for (int release = 10; release <= 20; release++) {
            int greatest = Math.min(18, release - 1);
            due.is("the greatest cut-off ahead of the release " + release,
                    withValves(0, 5, 6, release, 4).bestCutOff(0, 200000), greatest);
            due.is("the greatest cut-off of the end 1 ahead of the release " + release,
                    withValves(1, 5, 6, release, 4).bestCutOff(1, 200000), greatest);
        }
    }

    private static void onlyOneCutOff() {
        due.sentence(RANGE);
        for (int admission = 0; admission <= 5; admission++) {
            IndicatorDiagram x = withValves(1, admission, admission + 1, admission + 2, 4);
            due.is("for the least area", x.bestCutOff(1, -200000), admission + 1);
            due.is("for the greatest area", x.bestCutOff(1, 200000), admission + 1);
            due.is("balancing", x.balancingCutOff(), admission + 1);
            due.is("for the other end", x.bestCutOff(0, -200000), 1);
        }
    }

    private static void balancingOfSeveral() {
        due.sentence("both without a shift, without a leak and with a speed of 60; of several the smaller one.");
        IndicatorDiagram x = smallest(1);
        x.setValves(0, 0, 1, 3, 0);
        // With the stroke 10 and a piston of 4000 the powers at the end 1 are its areas: -89 and 5.
        x.setStroke(10);
        x.setPistonArea(1, 4000);
        x.setPistonArea(0, 1880);
        due.is("for a power of -42 (-41.83): 47 from both", x.balancingCutOff(), 1);
        x.setPistonArea(0, 1842);
        due.is("for a power of -41 (-40.98): 48 and 46", x.balancingCutOff(), 2);
        x.setPistonArea(0, 1900);
        due.is("for a power of -43 (-42.28): 46 and 48", x.balancingCutOff(), 1);
        x.setPistonArea(0, 1880);
        x.setValves(1, 0, 2, 3, 0);
        due.is("47 from both, where the setting is the greater one", x.balancingCutOff(), 1);
    }

    private static void balancingBehindTheAdmission() {
        due.sentence("both without a shift, without a leak and with a speed of 60; of several the smaller one. " + RANGE);
        for (int admission = 0; admission <= 5; admission++) {
            IndicatorDiagram x = withValves(1, admission, 9, 18, 4);
            x.setPistonArea(0, 1);
            x.setPistonArea(1, 5000);
            due.is("the least cut-off behind the admission " + admission, x.balancingCutOff(), admission + 1);
            x.setPistonArea(1, 1);
            x.setStroke(1);
            due.is("where all powers are 0, behind the admission " + admission, x.balancingCutOff(), admission + 1);
        }
    }

    private static void balancingAheadOfTheRelease() {
        due.sentence(RANGE);
        for (int release = 10; release <= 20; release++) {
            IndicatorDiagram x = withValves(1, 5, 6, release, 4);
            x.setPistonArea(0, 5000);
            x.setPistonArea(1, 1000);
            due.is("the greatest cut-off ahead of the release " + release, x.balancingCutOff(),
                    Math.min(18, release - 1));
            due.is("valve(1, 1)", x.valve(1, 1), 6);
        }
    }
}
