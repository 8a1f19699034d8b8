/** Promises 25 to 29: the events of a card, lateness, slip, constant and leakage. */
public final class EventsTest {
    private static final Due due = new Due();

    public static void main(String[] args) {
        admissionAndCutOff();
        release();
        compression();
        eventArguments();
        lateness();
        slip();
        constant();
        leakage();
        due.end();
    }

    /** Stations 0 to 20: 500 790 800 795 790 789 800, 700 to the station 9, and then what is given. */
    private static int[] bumpy(int tenth, int eleventh) {
        int[] row = Drawing.level(40);
        int[] head = {500, 790, 800, 795, 790, 789, 800, 700, 700, 700, tenth, eleventh};
        System.arraycopy(head, 0, row, 0, head.length);
        return row;
    }

    private static String events(IndicatorDiagram x, int card) {
        return x.event(card, 0) + " " + x.event(card, 1) + " " + x.event(card, 2) + " " + x.event(card, 3);
    }

    private static void admissionAndCutOff() {
        due.promise(25);
        IndicatorDiagram x = new IndicatorDiagram();
        Drawing.add(x, 0, 60, bumpy(376, 346), Drawing.level(50));
        due.are("events with a band of 10", events(x, 0), "1 4 11 0");
        x.setFinding(9, 5);
        due.are("events with a band of 9", events(x, 0), "2 3 12 0");
        x.setFinding(11, 5);
        due.are("events with a band of 11", events(x, 0), "1 6 10 0");
        x.setFinding(1, 5);
        due.are("events with a band of 1", events(x, 0), "2 2 12 0");
        Drawing.add(x, 0, 60, Drawing.level(0), Drawing.level(0));
        due.are("events of a card of zeros", events(x, 1), "0 20 20 0");
        Drawing.add(x, 0, 60, Drawing.with(Drawing.level(100), 20, 200), Drawing.level(0));
        due.are("events with the greatest pressure last", events(x, 2), "20 20 20 0");
        Drawing.add(x, 0, 60, Drawing.with(Drawing.level(200), 20, 100), Drawing.level(0));
        due.are("events with a cut-off at the station 19", events(x, 3), "0 19 20 0");
        extremesAtTheFirstStations();
    }

    private static void extremesAtTheFirstStations() {
        IndicatorDiagram x = new IndicatorDiagram();
        for (int s = 0; s <= 2; s++) {
            Drawing.add(x, 0, 60, Drawing.with(Drawing.level(100), s, 200), Drawing.with(Drawing.level(100), s, 50));
            due.is("admission with the greatest pressure at " + s, x.event(s, 0), s);
            due.is("cut-off with the greatest pressure at " + s, x.event(s, 1), s);
            due.is("compression with the least pressure at " + s, x.event(s, 3), 20);
        }
    }

    private static void release() {
        IndicatorDiagram x = new IndicatorDiagram();
        // 790 * 6 * 95 is 450300; 376 * 12 * 100 is 451200; 346 * 13 * 100 is 449800.
        Drawing.add(x, 0, 60, bumpy(376, 346), Drawing.level(50));
        due.is("release ahead of the last one", x.event(0, 2), 11);
        Drawing.add(x, 0, 60, bumpy(375, 346), Drawing.level(50));
        due.is("release one earlier", x.event(1, 2), 10);
        // The constant at the cut-off is 100 * 10, and 50 * 19 is just 95 percent of it.
        int[] row = Drawing.level(89);
        java.util.Arrays.fill(row, 0, 9, 100);
        row[17] = 50;
        Drawing.add(x, 0, 60, Drawing.with(row, 18, 47), Drawing.level(50));
        due.are("just the tolerance", events(x, 2), "0 8 18 0");
        x.setFinding(10, 4);
        due.is("a tolerance less by 1", x.event(2, 2), 17);
        x.setFinding(10, 6);
        due.is("just the greater tolerance", x.event(2, 2), 20);
        x.setFinding(10, 5);
        // A greater clearance makes the constants fall sooner.
        x.setClearance(20);
        due.is("with a clearance of 20", x.event(2, 2), 9);
    }

    private static void compression() {
        IndicatorDiagram x = new IndicatorDiagram();
        int[] inward = Drawing.with(Drawing.with(Drawing.level(60), 4, 61), 3, 50);
        Drawing.add(x, 1, 60, Drawing.level(100), inward);
        due.is("compression behind the station 4", x.event(0, 3), 5);
        x.setFinding(11, 5);
        due.is("compression with a band of 11", x.event(0, 3), 0);
        x.setFinding(9, 5);
        due.is("compression with a greater pressure at the station 20", x.event(0, 3), 20);
        Drawing.add(x, 1, 60, Drawing.level(100), Drawing.with(Drawing.level(60), 20, 50));
        due.is("compression at the station 20 alone", x.event(1, 3), 20);
        x.setFinding(10, 5);
        due.is("compression of the whole stroke", x.event(1, 3), 0);
        Drawing.add(x, 1, 60, Drawing.level(100), Drawing.with(Drawing.level(50), 0, 61));
        due.is("compression at the station 1", x.event(2, 3), 1);
    }

    private static void eventArguments() {
        IndicatorDiagram x = new IndicatorDiagram();
        due.is("event(0, 0) without cards", x.event(0, 0), Due.INVALID);
        x.addIdealCard(0, 60, 0, 0);
        int[][] wrong = {
            {-1, 0}, {1, 0}, {0, -1}, {0, 4}, {Integer.MIN_VALUE, 0}, {Integer.MAX_VALUE, 0},
            {0, Integer.MIN_VALUE}, {0, Integer.MAX_VALUE},
        };
        for (int[] w : wrong) {
            due.promise(25);
            due.is("event(" + w[0] + ", " + w[1] + ")", x.event(w[0], w[1]), Due.INVALID);
            due.promise(26);
            due.is("lateness(" + w[0] + ", " + w[1] + ")", x.lateness(w[0], w[1]), Due.INVALID);
        }
        due.is("event and lateness are no actions", x.historySize(), 1);
    }

    private static String lateness(IndicatorDiagram x, int card) {
        return x.lateness(card, 0) + " " + x.lateness(card, 1) + " " + x.lateness(card, 2) + " " + x.lateness(card, 3);
    }

    private static void lateness() {
        due.promise(26);
        IndicatorDiagram x = new IndicatorDiagram();
        int[] inward = Drawing.with(Drawing.level(60), 4, 71);
        Drawing.add(x, 0, 60, bumpy(376, 346), inward);
        Drawing.add(x, 1, 60, bumpy(376, 346), inward);
        due.are("lateness of 1 4 11 5 against 0 8 18 4", lateness(x, 0), "1 -4 -7 -1");
        x.setValves(1, 3, 4, 10, 19);
        due.are("lateness of 1 4 11 5 against 3 4 10 19", lateness(x, 1), "-2 0 1 14");
        due.are("lateness at the other end", lateness(x, 0), "1 -4 -7 -1");
    }

    private static void slip() {
        due.promise(27);
        IndicatorDiagram x = new IndicatorDiagram();
        int[] inward = Drawing.with(Drawing.level(60), 4, 71);
        Drawing.add(x, 0, 60, bumpy(376, 346), inward);
        due.is("of 1 -4 -7 -1: the smallest size from -4 to -1", x.slip(0), -1);
        x.setValves(0, 0, 2, 9, 12);
        due.is("of 1 2 2 7", x.slip(0), 2);
        x.setValves(0, 0, 1, 2, 19);
        due.is("of 1 3 9 14: the smallest size from 3 to 9", x.slip(0), 3);
        x.setValves(0, 5, 11, 19, 0);
        due.is("of -4 -7 -8 -5: the smallest size from -7 to -5", x.slip(0), -5);
        x.setValves(0, 5, 13, 20, 0);
        due.is("of -4 -9 -9 -5", x.slip(0), -5);
        x.setValves(0, 5, 6, 10, 6);
        due.is("of -4 -2 1 1: the smallest size from -2 to 1", x.slip(0), 0);
        Drawing.add(x, 1, 60, Drawing.with(Drawing.level(0), 20, 900), inward);
        x.setValves(1, 0, 1, 2, 19);
        due.is("of 20 19 18 14", x.slip(1), 5);
        for (int wrong : new int[] {-1, 2, Integer.MIN_VALUE, Integer.MAX_VALUE}) {
            due.is("slip(" + wrong + ")", x.slip(wrong), Due.INVALID);
        }
        shiftsOfIdealCards();
    }

    private static void shiftsOfIdealCards() {
        IndicatorDiagram x = new IndicatorDiagram();
        x.setFinding(1, 5);
        x.setBackPressure(99);
        x.setClearance(1);
        x.setValves(0, 3, 8, 17, 5);
        for (int shift = -3; shift <= 3; shift++) {
            int card = x.addIdealCard(0, 60, shift, 0);
            due.is("slip of an ideal card with the shift " + shift, x.slip(card), shift);
        }
        due.is("slip is no action", x.historySize(), 4);
    }

    private static void constant() {
        due.promise(28);
        IndicatorDiagram x = new IndicatorDiagram();
        Drawing.add(x, 0, 60, Drawing.with(Drawing.with(Drawing.level(7), 3, 5000), 20, 123), Drawing.level(9));
        due.is("constant(0, 0)", x.constant(0, 0), 14);
        due.is("constant(0, 3)", x.constant(0, 3), 25000);
        due.is("constant(0, 20)", x.constant(0, 20), 2706);
        x.setClearance(20);
        due.is("constant(0, 0) with a clearance of 20", x.constant(0, 0), 140);
        due.is("constant(0, 20) with a clearance of 20", x.constant(0, 20), 4920);
        int[][] wrong = {
            {-1, 0}, {1, 0}, {0, -1}, {0, 21}, {Integer.MIN_VALUE, 0}, {Integer.MAX_VALUE, 0},
            {0, Integer.MIN_VALUE}, {0, Integer.MAX_VALUE},
        };
        for (int[] w : wrong) {
            due.is("constant(" + w[0] + ", " + w[1] + ")", x.constant(w[0], w[1]), Due.INVALID);
        }
        due.is("constant is no action", x.historySize(), 4);
    }

    private static void leakage() {
        due.promise(29);
        IndicatorDiagram x = new IndicatorDiagram();
        // The cut-off is 4 with 790 * 6, the release 11: 376 * 12 is less by 228 of 4740, -48.1 thousandths.
        Drawing.add(x, 0, 60, bumpy(376, 346), Drawing.level(50));
        due.is("of a loss", x.leakage(0), -49);
        // The release is 10, and 700 * 11 is more by 2960, 624.47 thousandths.
        Drawing.add(x, 0, 60, bumpy(375, 346), Drawing.level(50));
        due.is("of a gain", x.leakage(1), 624);
        Drawing.add(x, 0, 60, Drawing.level(0), Drawing.level(0));
        due.is("of a card of zeros", x.leakage(2), Due.NONE);
        int[] sudden = Drawing.level(0);
        java.util.Arrays.fill(sudden, 0, 9, 800);
        Drawing.add(x, 0, 60, sudden, Drawing.level(0));
        due.is("with the release next to the cut-off", x.leakage(3), Due.NONE);
        Drawing.add(x, 0, 60, Drawing.with(sudden, 9, 700), Drawing.level(0));
        due.is("with the release two behind the cut-off", x.leakage(4), -38);
        for (int wrong : new int[] {-1, 5, 10, Integer.MIN_VALUE, Integer.MAX_VALUE}) {
            due.is("leakage(" + wrong + ")", x.leakage(wrong), Due.INVALID);
        }
        due.is("leakage is no action", x.historySize(), 4);
        leakageAtTheLastStation();
    }

    private static void leakageAtTheLastStation() {
        IndicatorDiagram x = new IndicatorDiagram();
        Drawing.add(x, 0, 60, Drawing.with(Drawing.level(200), 20, 100), Drawing.level(0));
        due.is("of a cut-off at 19 and a release at 20", x.leakage(0), Due.NONE);
        int[] row = Drawing.with(Drawing.with(Drawing.level(200), 20, 181), 19, 181);
        Drawing.add(x, 0, 60, row, Drawing.level(0));
        // 181 * 21 is less by 199 than 200 * 20: -49.75 thousandths.
        due.is("of a cut-off at 18 and no release", x.leakage(1), -50);
    }
}
