/** Promises 35 to 37: the areas of ideal cards and the cut-offs that are looked for. */
public final class IdealCardsTest {
    private static final Due due = new Due();

    /** Valve settings with few and with many cut-offs to choose from. */
    private static final int[][] SETTINGS = {
        {0, 8, 18, 4}, {5, 6, 7, 19}, {0, 1, 2, 0}, {3, 18, 20, 10}, {0, 10, 20, 0}, {1, 3, 9, 7},
    };

    public static void main(String[] args) {
        idealArea();
        bestCutOff();
        bestCutOffBetweenTwo();
        bestCutOffRefused();
        balancingCutOff();
        balancingCutOffOfEqualPowers();
        due.end();
    }

    private static void idealArea() {
        due.promise(35);
        IndicatorDiagram x = new IndicatorDiagram();
        due.is("idealArea(0)", x.idealArea(0), 22214);
        due.is("idealArea(1)", x.idealArea(1), 22214);
        for (int wrong : new int[] {-1, 2, Integer.MIN_VALUE, Integer.MAX_VALUE}) {
            due.is("idealArea(" + wrong + ")", x.idealArea(wrong), Due.INVALID);
        }
        due.is("idealArea is no action and adds no card", x.historySize() + x.cardCount(), 0);
        for (int[] s : SETTINGS) {
            IndicatorDiagram y = new IndicatorDiagram();
            y.setValves(1, s[0], s[1], s[2], s[3]);
            y.setClearance(1 + s[1]);
            y.setBoilerPressure(100 * s[2]);
            y.setBackPressure(10 + s[3]);
            y.addIdealCard(1, 60, 0, 0);
            due.is("idealArea(1) with " + java.util.Arrays.toString(s), y.idealArea(1), y.area(0));
        }
        x.setValves(0, 0, 18, 19, 0);
        due.is("idealArea(1) with other valves at the end 0", x.idealArea(1), 22214);
    }

    /** The areas for the cut-offs 0 to 19, of those that may be; the others have Integer.MIN_VALUE. */
    private static int[] areas(int[] s) {
        IndicatorDiagram x = new IndicatorDiagram();
        int[] areas = new int[20];
        java.util.Arrays.fill(areas, Integer.MIN_VALUE);
        for (int cutOff = Math.max(1, s[0] + 1); cutOff <= Math.min(18, s[2] - 1); cutOff++) {
            due.is("setValves", x.setValves(0, s[0], cutOff, s[2], s[3]), 0);
            areas[cutOff] = x.idealArea(0);
        }
        return areas;
    }

    private static int nearest(int[] areas, int wanted) {
        int best = -1;
        for (int cutOff = 1; cutOff <= 18; cutOff++) {
            if (areas[cutOff] != Integer.MIN_VALUE
                    && (best < 0 || Math.abs(areas[cutOff] - wanted) < Math.abs(areas[best] - wanted))) {
                best = cutOff;
            }
        }
        return best;
    }

    private static void bestCutOff() {
        for (int[] s : SETTINGS) {
            due.promise(35);
            int[] areas = areas(s);
            due.promise(36);
            IndicatorDiagram x = new IndicatorDiagram();
            x.setValves(1, s[0], s[1], s[2], s[3]);
            for (int wanted = -200000; wanted <= 200000; wanted += wanted < 0 || wanted >= 40000 ? 40000 : 499) {
                due.is("bestCutOff(1, " + wanted + ") with " + java.util.Arrays.toString(s),
                        x.bestCutOff(1, wanted), nearest(areas, wanted));
            }
            due.is("the valve stays", x.valve(1, 1), s[1]);
            due.is("bestCutOff is no action", x.historySize(), 1);
        }
    }

    private static void bestCutOffBetweenTwo() {
        IndicatorDiagram x = new IndicatorDiagram();
        int[] areas = areas(SETTINGS[0]);
        int halves = 0;
        for (int cutOff = 1; cutOff < 17; cutOff++) {
            int sum = areas[cutOff] + areas[cutOff + 1];
            due.is("just below the middle", x.bestCutOff(0, (sum - 1) / 2), cutOff);
            due.is("just above the middle", x.bestCutOff(0, sum / 2 + 1), cutOff + 1);
            if (sum % 2 == 0) {
                halves++;
                due.is("in the middle the smaller one", x.bestCutOff(0, sum / 2), cutOff);
            }
        }
        due.is("middles seen", halves > 0 ? 1 : 0, 1);
    }

    private static void bestCutOffRefused() {
        IndicatorDiagram x = new IndicatorDiagram();
        for (int wrong : new int[] {-200001, 200001, Integer.MIN_VALUE, Integer.MAX_VALUE}) {
            due.is("bestCutOff(0, " + wrong + ")", x.bestCutOff(0, wrong), Due.INVALID);
        }
        for (int wrong : new int[] {-1, 2, Integer.MIN_VALUE, Integer.MAX_VALUE}) {
            due.is("bestCutOff(" + wrong + ", 0)", x.bestCutOff(wrong, 0), Due.INVALID);
        }
        due.is("bestCutOff(0, -200000)", x.bestCutOff(0, -200000), 1);
        due.is("bestCutOff(0, 200000)", x.bestCutOff(0, 200000), 17);
    }

    /** The power of the ideal card of an end, as a card shows it. */
    private static long power(IndicatorDiagram x, int end) {
        long power = x.power(x.addIdealCard(end, 60, 0, 0));
        x.removeCard(x.cardCount() - 1);
        return power;
    }

    private static int balancing(IndicatorDiagram x, int[] s) {
        long wanted = power(x, 0);
        int best = -1;
        long least = Long.MAX_VALUE;
        for (int cutOff = Math.max(1, s[0] + 1); cutOff <= Math.min(18, s[2] - 1); cutOff++) {
            x.setValves(1, s[0], cutOff, s[2], s[3]);
            long distance = Math.abs(power(x, 1) - wanted);
            if (distance < least) {
                least = distance;
                best = cutOff;
            }
        }
        x.setValves(1, s[0], s[1], s[2], s[3]);
        return best;
    }

    private static void balancingCutOff() {
        due.promise(37);
        due.is("balancingCutOff() of a new object", new IndicatorDiagram().balancingCutOff(), 11);
        for (int[] head : SETTINGS) {
            for (int[] crank : SETTINGS) {
                IndicatorDiagram x = new IndicatorDiagram();
                x.setValves(0, head[0], head[1], head[2], head[3]);
                x.setPistonArea(0, 800 + 10 * head[1]);
                x.setStroke(1 + head[2]);
                int want = balancing(x, crank);
                int history = x.historySize();
                due.is("balancingCutOff() with " + java.util.Arrays.toString(head) + " and "
                        + java.util.Arrays.toString(crank), x.balancingCutOff(), want);
                due.is("the valve stays", x.valve(1, 1), crank[1]);
                due.is("balancingCutOff is no action", x.historySize(), history);
                due.is("balancingCutOff adds no card", x.cardCount(), 0);
            }
        }
    }

    private static void balancingCutOffOfEqualPowers() {
        for (int length = 1; length <= 40; length++) {
            IndicatorDiagram x = new IndicatorDiagram();
            x.setPistonArea(0, 2);
            x.setPistonArea(1, 3);
            x.setStroke(length);
            int want = balancing(x, SETTINGS[0]);
            due.is("balancingCutOff() with small powers and the length " + length, x.balancingCutOff(), want);
        }
        balancingCutOffAtItsEdges();
    }

    private static void balancingCutOffAtItsEdges() {
        IndicatorDiagram x = new IndicatorDiagram();
        x.setPistonArea(0, 1);
        x.setPistonArea(1, 1);
        x.setStroke(1);
        due.is("balancingCutOff() where all powers are 0", x.balancingCutOff(), 1);
        x.setValves(1, 4, 8, 18, 4);
        due.is("balancingCutOff() behind an admission of 4", x.balancingCutOff(), 5);
        x.setPistonArea(0, 5000);
        x.setPistonArea(1, 900);
        x.setStroke(300);
        due.is("balancingCutOff() for more than can be", x.balancingCutOff(), 17);
        x.setValves(1, 4, 8, 20, 4);
        due.is("balancingCutOff() is 18 at most", x.balancingCutOff(), 18);
    }
}
