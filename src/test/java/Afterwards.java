import java.util.EnumMap;
import java.util.function.Supplier;
import java.util.function.ToLongFunction;

/**
 * What an object answers behind a call that must change nothing: the same as an object without that
 * call, in the present state and in each state of the history, by every call that tells something.
 */
final class Afterwards {
    /** More often than the history has states, so that one state too many would be seen. */
    private static final int TIMES = 5;

    private final Due due;
    private final EnumMap<Stand, String> untouched = new EnumMap<>(Stand.class);

    Afterwards(Due due) {
        this.due = due;
        for (Stand stand : Stand.values()) {
            untouched.put(stand, everything(stand::make, x -> 0, 0));
        }
    }

    /** A call that every object refuses, whatever its state. */
    void refused(String name, ToLongFunction<IndicatorDiagram> call, int code) {
        for (Stand stand : Stand.values()) {
            refused(stand, name, call, code);
        }
    }

    /** A call that an object in this state refuses. */
    void refused(Stand stand, String name, ToLongFunction<IndicatorDiagram> call, int code) {
        due.is(name + " (" + stand + ")", call.applyAsLong(stand.make()), code);
        unchanged(stand, name, call);
    }

    /** A call that an object refuses that is made so. */
    void refused(Supplier<IndicatorDiagram> make, String name, ToLongFunction<IndicatorDiagram> call, int code) {
        due.is(name, call.applyAsLong(make.get()), code);
        unchanged(make, name, call);
    }

    /** A call, or some, behind which an object that is made so is as it was. */
    void unchanged(Supplier<IndicatorDiagram> make, String name, ToLongFunction<IndicatorDiagram> call) {
        String seen = everything(make, call, TIMES);
        String want = everything(make, x -> 0, 0);
        due.are("what is there behind " + name, differenceOf(seen, want), "as it was");
    }

    /** A call that only tells something. */
    void unchanged(String name, ToLongFunction<IndicatorDiagram> call) {
        for (Stand stand : Stand.values()) {
            unchanged(stand, name, call);
        }
    }

    private void unchanged(Stand stand, String name, ToLongFunction<IndicatorDiagram> call) {
        String seen = everything(stand::make, call, TIMES);
        String want = untouched.get(stand);
        due.are("what is there behind " + name + " (" + stand + ")", differenceOf(seen, want), "as it was");
    }

    private static String differenceOf(String seen, String want) {
        String[] seenLines = seen.split("\n");
        String[] wantLines = want.split("\n");
        for (int i = 0; i < Math.min(seenLines.length, wantLines.length); i++) {
            if (!seenLines[i].equals(wantLines[i])) {
                return seenLines[i] + " instead of " + wantLines[i];
            }
        }
        return seen.length() == want.length() ? "as it was" : "more or less than there was";
    }

    private static String everything(Supplier<IndicatorDiagram> make, ToLongFunction<IndicatorDiagram> call, int times) {
        StringBuilder told = new StringBuilder();
        // Each part looks at an object of its own: no object then has more than 512 calls.
        for (int back = 0; back <= 5; back++) {
            IndicatorDiagram x = reach(make, call, times, back, told);
            tellWhole(x, told);
            int cards = x.cardCount();
            tellSettings(x, told);
            tellDraft(reach(make, call, times, back, told), told);
            tellPoints(reach(make, call, times, back, told), told);
            for (int card = 0; card < cards; card++) {
                tellCard(reach(make, call, times, back, told), card, told);
            }
        }
        return told.toString();
    }

    private static IndicatorDiagram reach(Supplier<IndicatorDiagram> make, ToLongFunction<IndicatorDiagram> call, int times,
            int back, StringBuilder told) {
        IndicatorDiagram x = make.get();
        for (int i = 0; i < times; i++) {
            call.applyAsLong(x);
        }
        told.append("undo");
        for (int i = 0; i < back; i++) {
            told.append(' ').append(x.undo());
        }
        told.append('\n');
        return x;
    }

    private static void tellWhole(IndicatorDiagram x, StringBuilder told) {
        told.append("whole ").append(x.historySize()).append(' ').append(x.cardCount());
        for (int end = 0; end <= 1; end++) {
            for (int event = 0; event <= 3; event++) {
                told.append(' ').append(x.valve(end, event));
            }
            told.append(' ').append(x.cardsOf(end)).append(' ').append(x.meanArea(end));
            told.append(' ').append(x.meanPower(end)).append(' ').append(x.idealArea(end));
            told.append(' ').append(x.bestCutOff(end, 15000));
        }
        told.append(' ').append(x.imbalance()).append(' ').append(x.balancingCutOff()).append('\n');
    }

    private static void tellSettings(IndicatorDiagram x, StringBuilder told) {
        told.append("settings ").append(x.setClearance(2)).append(' ').append(x.setPistonArea(0, 9));
        told.append(' ').append(x.setPistonArea(1, 9)).append(' ').append(x.setStroke(9));
        told.append(' ').append(x.setBoilerPressure(900)).append(' ').append(x.setBackPressure(90));
        told.append(' ').append(x.setFinding(9, 9)).append(' ').append(x.historySize());
        told.append(' ').append(x.beginCard(0, 1)).append('\n');
    }

    /** The card that the draft becomes, if need be with a further point of each stroke. */
    private static void tellDraft(IndicatorDiagram x, StringBuilder told) {
        told.append("draft ").append(x.removeCard(9)).append(' ').append(x.finishCard());
        told.append(' ').append(x.setPoint(0, 13, 1234)).append(' ').append(x.setPoint(1, 13, 4321));
        told.append(' ').append(x.finishCard()).append('\n');
        if (x.cardCount() > 0) {
            tellCard(x, x.cardCount() - 1, told);
        }
    }

    /** Which stations of the draft have a point: setting one there does not make the points more. */
    private static void tellPoints(IndicatorDiagram x, StringBuilder told) {
        told.append("points");
        for (int stroke = 0; stroke <= 1; stroke++) {
            for (int station = 0; station <= 20; station++) {
                told.append(' ').append(x.setPoint(stroke, station, 1));
            }
        }
        told.append('\n');
    }

    private static void tellCard(IndicatorDiagram x, int card, StringBuilder told) {
        told.append("card ").append(card).append(' ').append(x.end(card)).append(' ').append(x.speed(card));
        told.append(' ').append(x.area(card)).append(' ').append(x.forwardArea(card));
        told.append(' ').append(x.loopArea(card)).append(' ').append(x.loopStations(card));
        told.append(' ').append(x.meanPressure(card)).append(' ').append(x.power(card));
        for (int event = 0; event <= 3; event++) {
            told.append(' ').append(x.event(card, event)).append(' ').append(x.lateness(card, event));
        }
        told.append(' ').append(x.slip(card)).append(' ').append(x.leakage(card));
        told.append(' ').append(x.constant(card, 0)).append(' ').append(x.constant(card, 20)).append('\n');
        told.append(Drawing.stroke(x, card, 0)).append('\n').append(Drawing.stroke(x, card, 1)).append('\n');
    }
}
