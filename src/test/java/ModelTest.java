import java.util.Random;

/** Long runs of calls, the same on the program and on the model; a run can be told by its number. */
public final class ModelTest {
    private static final int RUNS = 400;
    private static final int CALLS = 512;
    private static final int METHODS = 38;

    private static int wrong = 0;

    public static void main(String[] args) {
        int[] successes = new int[METHODS];
        for (int run = 0; run < RUNS && wrong == 0; run++) {
            run(run, successes);
        }
        for (int method = 0; method < METHODS; method++) {
            if (wrong == 0 && successes[method] == 0) {
                wrong++;
                System.out.println("the method " + method + " never succeeded: the runs are too narrow");
            }
        }
        System.out.println(wrong == 0 ? "all runs are as the model's" : "at least one run is not as the model's");
        if (wrong != 0) {
            System.exit(1);
        }
    }

    private static void run(int run, int[] successes) {
        Random random = new Random(run);
        // Some runs draw many cards, some mostly read, and some have hardly a wrong argument.
        Caller caller = new Caller(random, run % 3 == 0 ? 40 : 8, run % 4 == 0);
        StringBuilder calls = new StringBuilder();
        for (int i = 0; i < CALLS; i++) {
            int method = random.nextInt(METHODS);
            if (run % 2 == 0 && random.nextInt(3) == 0) {
                method = 8 + random.nextInt(4);
            }
            long[] answers = caller.call(method);
            calls.append(caller.said).append(" = ").append(answers[0]).append('\n');
            if (answers[0] != answers[1]) {
                wrong++;
                System.out.println("run " + run + ":\n" + calls + "due is " + answers[1]);
                return;
            }
            if (answers[0] > IndicatorDiagram.INVALID_ARGUMENT) {
                successes[method]++;
            }
        }
    }

    private static final class Caller {
        private final Random random;
        private final int wrongPercent;
        private final boolean isLow;
        private final IndicatorDiagram x = new IndicatorDiagram();
        private final Model m = new Model();
        private String said = "";

        Caller(Random random, int wrongPercent, boolean isLow) {
            this.random = random;
            this.wrongPercent = wrongPercent;
            this.isLow = isLow;
        }

        /** An argument from least to most, at times just outside or far outside. */
        private int some(int least, int most) {
            int dice = random.nextInt(1000);
            if (dice < wrongPercent) {
                int[] wrongs = {least - 1, most + 1, Integer.MIN_VALUE, Integer.MAX_VALUE};
                return wrongs[random.nextInt(4)];
            }
            if (dice < 100) {
                return random.nextBoolean() ? least : most;
            }
            return least + random.nextInt(most - least + 1);
        }

        private int pressure() {
            if (isLow) {
                return some(0, 12);
            }
            int[] steps = {0, 5, 50, 100, 795, 800, 805, 5000};
            return random.nextInt(3) == 0 ? some(0, 5000) : steps[random.nextInt(steps.length)];
        }

        private int card() {
            return some(0, Math.max(0, m.cardCount() - 1));
        }

        private long[] answers(String name, long got, long want, int... arguments) {
            said = name + java.util.Arrays.toString(arguments);
            return new long[] {got, want};
        }

        long[] call(int method) {
            if (method < 12) {
                return callChanging(method);
            }
            return method < 30 ? callCards(method) : callRest(method);
        }

        private long[] callChanging(int method) {
            int a;
            int b = some(0, 1);
            switch (method) {
                case 0: a = some(1, 20); return answers("setClearance", x.setClearance(a), m.set(0, a, 1, 20), a);
                case 1: a = some(1, 5000); return answers("setPistonArea", x.setPistonArea(b, a), m.setPistonArea(b, a), b, a);
                case 2: a = some(1, 300); return answers("setStroke", x.setStroke(a), m.set(3, a, 1, 300), a);
                case 3: a = some(100, 2000); return answers("setBoilerPressure", x.setBoilerPressure(a), m.set(4, a, 100, 2000), a);
                case 4: a = some(10, 99); return answers("setBackPressure", x.setBackPressure(a), m.set(5, a, 10, 99), a);
                case 5: return setFinding(some(1, 100), some(1, 50));
                case 6: return setValves(b, new int[] {some(0, 5), some(1, 18), some(2, 20), some(0, 19)});
                case 7: a = some(0, 3); return answers("valve", x.valve(b, a), m.valve(b, a), b, a);
                case 8: return beginCard(b, some(1, 600));
                case 9: return setPoints(b);
                case 10: return answers("finishCard", x.finishCard(), m.finishCard());
                default: return addIdealCard(b, some(1, 600), some(-3, 3), some(-20, 20));
            }
        }

        private long[] setFinding(int band, int tolerance) {
            return answers("setFinding", x.setFinding(band, tolerance), m.setFinding(band, tolerance), band, tolerance);
        }

        private long[] setValves(int end, int[] v) {
            return answers("setValves", x.setValves(end, v[0], v[1], v[2], v[3]),
                    m.setValves(end, v[0], v[1], v[2], v[3]), end, v[0], v[1], v[2], v[3]);
        }

        private long[] beginCard(int end, int speed) {
            // A draft that is there is mostly left alone, so that some grow.
            if (random.nextInt(4) != 0) {
                return setPoints(end);
            }
            return answers("beginCard", x.beginCard(end, speed), m.beginCard(end, speed), end, speed);
        }

        private long[] setPoints(int stroke) {
            int station = some(0, 20);
            int pressure = pressure();
            return answers("setPoint", x.setPoint(stroke, station, pressure), m.setPoint(stroke, station, pressure),
                    stroke, station, pressure);
        }

        private long[] addIdealCard(int end, int speed, int shift, int leak) {
            return answers("addIdealCard", x.addIdealCard(end, speed, shift, leak),
                    m.addIdealCard(end, speed, shift, leak), end, speed, shift, leak);
        }

        private long[] callCards(int method) {
            int c = card();
            int e = some(0, 3);
            int s = some(0, 20);
            int k = some(0, 1);
            switch (method) {
                case 12: return random.nextInt(3) == 0 ? answers("removeCard", x.removeCard(c), m.removeCard(c), c) : callCards(17);
                case 13: return answers("cardCount", x.cardCount(), m.cardCount());
                case 14: return answers("end", x.end(c), m.end(c), c);
                case 15: return answers("speed", x.speed(c), m.speed(c), c);
                case 16: return answers("pressure", x.pressure(c, k, s), m.pressure(c, k, s), c, k, s);
                case 17: return answers("area", x.area(c), m.area(c, 0), c);
                case 18: return answers("forwardArea", x.forwardArea(c), m.area(c, 1), c);
                case 19: return answers("loopArea", x.loopArea(c), m.area(c, 2), c);
                case 20: return answers("loopStations", x.loopStations(c), m.loopStations(c), c);
                case 21: return answers("meanPressure", x.meanPressure(c), m.meanPressure(c), c);
                case 22: return answers("power", x.power(c), m.power(c), c);
                case 23: return answers("event", x.event(c, e), m.event(c, e), c, e);
                case 24: return answers("lateness", x.lateness(c, e), m.lateness(c, e), c, e);
                case 25: return answers("slip", x.slip(c), m.slip(c), c);
                case 26: return answers("constant", x.constant(c, s), m.constant(c, s), c, s);
                case 27: return answers("leakage", x.leakage(c), m.leakage(c), c);
                case 28: return answers("cardsOf", x.cardsOf(k), m.cardsOf(k), k);
                default: return answers("meanArea", x.meanArea(k), m.meanArea(k), k);
            }
        }

        private long[] callRest(int method) {
            int k = some(0, 1);
            int p = some(0, 100);
            int w = random.nextBoolean() ? some(-200000, 200000) : some(0, 40000);
            switch (method) {
                case 30: return answers("meanPower", x.meanPower(k), m.meanPower(k), k);
                case 31: return answers("imbalance", x.imbalance(), m.imbalance());
                case 32: return answers("removeOutliers", x.removeOutliers(k, p), m.removeOutliers(k, p), k, p);
                case 33: return answers("idealArea", x.idealArea(k), m.idealArea(k), k);
                case 34: return answers("bestCutOff", x.bestCutOff(k, w), m.bestCutOff(k, w), k, w);
                case 35: return answers("balancingCutOff", x.balancingCutOff(), m.balancingCutOff());
                case 36: return answers("historySize", x.historySize(), m.historySize());
                default: return answers("undo", x.undo(), m.undo());
            }
        }
    }
}
