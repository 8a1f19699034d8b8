import java.math.BigDecimal;
import java.math.BigInteger;
import java.math.RoundingMode;
import java.util.ArrayList;
import java.util.List;
import java.util.TreeMap;

/**
 * The document once more, slowly and by other means than the program: every state is a copy, every
 * quotient one of whole numbers of any size, and nothing is kept that can be worked out.
 */
final class Model {
    static final int INVALID = -2000000001;
    static final int ILLEGAL = -2000000002;
    static final int FULL = -2000000003;
    static final int NONE = -2000000004;

    /** An end, a speed, and for each stroke the pressures at the stations that have one. */
    record Sheet(int end, int speed, List<TreeMap<Integer, Integer>> strokes) {
        Sheet(int end, int speed) {
            this(end, speed, List.of(new TreeMap<>(), new TreeMap<>()));
        }

        Sheet copy() {
            return new Sheet(end, speed, List.of(new TreeMap<>(strokes.get(0)), new TreeMap<>(strokes.get(1))));
        }

        int at(int stroke, int station) {
            return strokes.get(stroke).get(station);
        }

        int difference(int station) {
            return at(0, station) - at(1, station);
        }
    }

    private static final class State {
        int[] cylinder = {2, 1000, 900, 60, 800, 50, 10, 5};
        int[][] valves = {{0, 8, 18, 4}, {0, 8, 18, 4}};
        Sheet draft = null;
        List<Sheet> cards = new ArrayList<>();

        State copy() {
            State copy = new State();
            copy.cylinder = cylinder.clone();
            copy.valves = new int[][] {valves[0].clone(), valves[1].clone()};
            copy.draft = draft == null ? null : draft.copy();
            copy.cards = new ArrayList<>();
            for (Sheet card : cards) {
                copy.cards.add(card.copy());
            }
            return copy;
        }
    }

    private State state = new State();
    private final List<State> history = new ArrayList<>();

    private static long down(long dividend, long divisor) {
        BigDecimal exact = new BigDecimal(BigInteger.valueOf(dividend));
        return exact.divide(BigDecimal.valueOf(divisor), 0, RoundingMode.FLOOR).longValueExact();
    }

    private static boolean out(int value, int least, int most) {
        return value < least || value > most;
    }

    private boolean noCard(int card) {
        return out(card, 0, state.cards.size() - 1);
    }

    private void action() {
        history.add(state.copy());
        if (history.size() == 5) {
            history.remove(0);
        }
    }

    /** Sets one of the numbers: 0 clearance, 1 and 2 piston areas, 3 stroke, 4 boiler, 5 back, 6 band, 7 tolerance. */
    int set(int which, int value, int least, int most) {
        if (out(value, least, most)) {
            return INVALID;
        }
        action();
        int previous = state.cylinder[which];
        state.cylinder[which] = value;
        return previous;
    }

    int setPistonArea(int end, int area) {
        return out(end, 0, 1) ? INVALID : set(1 + end, area, 1, 5000);
    }

    int setFinding(int band, int tolerance) {
        if (out(band, 1, 100) || out(tolerance, 1, 50)) {
            return INVALID;
        }
        action();
        int previous = state.cylinder[6] * 100 + state.cylinder[7];
        state.cylinder[6] = band;
        state.cylinder[7] = tolerance;
        return previous;
    }

    int setValves(int end, int a, int c, int r, int m) {
        if (out(end, 0, 1) || out(a, 0, 5) || out(c, 1, 18) || out(r, 2, 20) || out(m, 0, 19) || c <= a || r <= c) {
            return INVALID;
        }
        action();
        state.valves[end] = new int[] {a, c, r, m};
        return 0;
    }

    int valve(int end, int event) {
        return out(end, 0, 1) || out(event, 0, 3) ? INVALID : state.valves[end][event];
    }

    int beginCard(int end, int speed) {
        if (out(end, 0, 1) || out(speed, 1, 600)) {
            return INVALID;
        }
        action();
        int previous = state.draft == null ? 0 : 1;
        state.draft = new Sheet(end, speed);
        return previous;
    }

    int setPoint(int stroke, int station, int pressure) {
        if (out(stroke, 0, 1) || out(station, 0, 20) || out(pressure, 0, 5000)) {
            return INVALID;
        }
        if (state.draft == null) {
            return ILLEGAL;
        }
        action();
        state.draft.strokes().get(stroke).put(station, pressure);
        return state.draft.strokes().get(stroke).size();
    }

    int finishCard() {
        Sheet draft = state.draft;
        if (draft == null || draft.strokes().get(0).isEmpty() || draft.strokes().get(1).isEmpty()) {
            return ILLEGAL;
        }
        if (state.cards.size() == 10) {
            return FULL;
        }
        action();
        Sheet card = new Sheet(draft.end(), draft.speed());
        for (int stroke = 0; stroke < 2; stroke++) {
            TreeMap<Integer, Integer> points = draft.strokes().get(stroke);
            for (int s = 0; s <= 20; s++) {
                card.strokes().get(stroke).put(s, between(points, s));
            }
        }
        state.draft = null;
        state.cards.add(card);
        return state.cards.size() - 1;
    }

    private static int between(TreeMap<Integer, Integer> points, int s) {
        if (points.containsKey(s)) {
            return points.get(s);
        }
        if (s < points.firstKey()) {
            return points.firstEntry().getValue();
        }
        if (s > points.lastKey()) {
            return points.lastEntry().getValue();
        }
        int a = points.lowerKey(s);
        int b = points.higherKey(s);
        int p = points.get(a);
        int q = points.get(b);
        return (int) (p + down((long) (q - p) * (s - a), b - a));
    }

    private Sheet ideal(int end, int speed, int[] events, int leak) {
        int a = events[0];
        int c = events[1];
        int r = events[2];
        int m = events[3];
        if (out(a, 0, 8) || out(c, 1, 19) || out(r, 2, 20) || out(m, 0, 19)) {
            return null;
        }
        long clearance = state.cylinder[0];
        int boiler = state.cylinder[4];
        int back = state.cylinder[5];
        Sheet card = new Sheet(end, speed);
        TreeMap<Integer, Integer> outward = card.strokes().get(0);
        for (int s = 0; s < a; s++) {
            outward.put(s, back);
        }
        for (int s = a; s <= c; s++) {
            outward.put(s, boiler);
        }
        long k = boiler * (clearance + c);
        for (int s = c + 1; s <= r - 1; s++) {
            k = k + down(k * leak, 1000);
            outward.put(s, (int) down(k, clearance + s));
        }
        int e = outward.get(r - 1);
        for (int s = r; s <= 20; s++) {
            outward.put(s, (int) (e + down((long) (back - e) * (s - r + 1), 21 - r)));
        }
        for (int s = 20; s >= m; s--) {
            card.strokes().get(1).put(s, back);
        }
        for (int s = 0; s < m; s++) {
            card.strokes().get(1).put(s, (int) down(back * (clearance + m), clearance + s));
        }
        return card;
    }

    int addIdealCard(int end, int speed, int shift, int leak) {
        if (out(end, 0, 1) || out(speed, 1, 600) || out(shift, -3, 3) || out(leak, -20, 20)) {
            return INVALID;
        }
        int[] v = state.valves[end];
        Sheet card = ideal(end, speed, new int[] {v[0] + shift, v[1] + shift, v[2] + shift, v[3] - shift}, leak);
        if (card == null) {
            return ILLEGAL;
        }
        if (state.cards.size() == 10) {
            return FULL;
        }
        action();
        state.cards.add(card);
        return state.cards.size() - 1;
    }

    int removeCard(int card) {
        if (noCard(card)) {
            return INVALID;
        }
        action();
        state.cards.remove(card);
        return state.cards.size();
    }

    int cardCount() {
        return state.cards.size();
    }

    int end(int card) {
        return noCard(card) ? INVALID : state.cards.get(card).end();
    }

    int speed(int card) {
        return noCard(card) ? INVALID : state.cards.get(card).speed();
    }

    int pressure(int card, int stroke, int station) {
        boolean isWrong = noCard(card) || out(stroke, 0, 1) || out(station, 0, 20);
        return isWrong ? INVALID : state.cards.get(card).at(stroke, station);
    }

    /** The area, forward area and loop area of a card. */
    private static long[] areas(Sheet card) {
        long[] areas = new long[3];
        for (int s = 0; s < 20; s++) {
            long x = card.difference(s);
            long y = card.difference(s + 1);
            areas[0] += x + y;
            if (!(x < 0 || y < 0)) {
                areas[1] += x + y;
            } else if (!(x > 0 || y > 0)) {
                areas[2] += -x - y;
            } else {
                long u = x > 0 ? x : y;
                long w = x > 0 ? -y : -x;
                areas[1] += down(u * u, u + w);
                areas[2] += down(w * w, u + w);
            }
        }
        return areas;
    }

    /** 0 the area, 1 the forward area, 2 the loop area. */
    int area(int card, int which) {
        return noCard(card) ? INVALID : (int) areas(state.cards.get(card))[which];
    }

    int loopStations(int card) {
        if (noCard(card)) {
            return INVALID;
        }
        int sum = 0;
        for (int s = 20; s >= 0; s--) {
            sum = 2 * sum + (state.cards.get(card).difference(s) < 0 ? 1 : 0);
        }
        return sum;
    }

    int meanPressure(int card) {
        return noCard(card) ? INVALID : (int) down(areas(state.cards.get(card))[0] * 1000, 40);
    }

    private long powerOf(Sheet card) {
        long piston = state.cylinder[1 + card.end()];
        return down(areas(card)[0] * piston * state.cylinder[3] * card.speed(), 2400000);
    }

    long power(int card) {
        return noCard(card) ? INVALID : powerOf(state.cards.get(card));
    }

    private long constantOf(Sheet card, int station) {
        return (long) card.at(0, station) * (state.cylinder[0] + station);
    }

    private static boolean allFrom(boolean[] good, int from, int to) {
        for (int s = from; s <= to; s++) {
            if (!good[s]) {
                return false;
            }
        }
        return true;
    }

    private int[] events(Sheet card) {
        int m = Integer.MIN_VALUE;
        int n = Integer.MAX_VALUE;
        for (int s = 0; s <= 20; s++) {
            m = Math.max(m, card.at(0, s));
            n = Math.min(n, card.at(1, s));
        }
        boolean[] full = new boolean[21];
        boolean[] empty = new boolean[21];
        for (int s = 0; s <= 20; s++) {
            full[s] = card.at(0, s) >= m - state.cylinder[6];
            empty[s] = card.at(1, s) <= n + state.cylinder[6];
        }
        int admission = 0;
        while (!full[admission]) {
            admission++;
        }
        int cutOff = 20;
        while (!allFrom(full, admission, cutOff)) {
            cutOff--;
        }
        int release = 20;
        for (int s = 20; s > cutOff; s--) {
            if (constantOf(card, s) * 100 < constantOf(card, cutOff) * (100 - state.cylinder[7])) {
                release = s;
            }
        }
        int compression = 0;
        while (compression < 20 && !allFrom(empty, compression, 20)) {
            compression++;
        }
        return new int[] {admission, cutOff, release, compression};
    }

    int event(int card, int event) {
        return noCard(card) || out(event, 0, 3) ? INVALID : events(state.cards.get(card))[event];
    }

    int lateness(int card, int event) {
        if (noCard(card) || out(event, 0, 3)) {
            return INVALID;
        }
        int late = event(card, event) - state.valves[end(card)][event];
        return event == 3 ? -late : late;
    }

    int slip(int card) {
        if (noCard(card)) {
            return INVALID;
        }
        int best = -5;
        for (int d = -5; d <= 5; d++) {
            int gain = sizes(card, best) - sizes(card, d);
            if (gain > 0 || gain == 0 && Math.abs(d) < Math.abs(best)) {
                best = d;
            }
        }
        return best;
    }

    private int sizes(int card, int d) {
        int sum = 0;
        for (int event = 0; event < 4; event++) {
            sum += Math.abs(lateness(card, event) - d);
        }
        return sum;
    }

    int constant(int card, int station) {
        return noCard(card) || out(station, 0, 20) ? INVALID : (int) constantOf(state.cards.get(card), station);
    }

    int leakage(int card) {
        if (noCard(card)) {
            return INVALID;
        }
        Sheet sheet = state.cards.get(card);
        int[] events = events(sheet);
        long last = constantOf(sheet, events[1]);
        if (events[2] - 1 <= events[1] || last == 0) {
            return NONE;
        }
        return (int) down((constantOf(sheet, events[2] - 1) - last) * 1000, last);
    }

    private List<Sheet> of(int end) {
        List<Sheet> of = new ArrayList<>();
        for (Sheet card : state.cards) {
            if (card.end() == end) {
                of.add(card);
            }
        }
        return of;
    }

    int cardsOf(int end) {
        return out(end, 0, 1) ? INVALID : of(end).size();
    }

    int meanArea(int end) {
        if (out(end, 0, 1)) {
            return INVALID;
        }
        List<Sheet> cards = of(end);
        if (cards.isEmpty()) {
            return NONE;
        }
        Sheet mean = new Sheet(end, 1);
        for (int i = 0; i < 42; i++) {
            long sum = 0;
            for (Sheet card : cards) {
                sum += card.at(i % 2, i / 2);
            }
            mean.strokes().get(i % 2).put(i / 2, (int) down(sum, cards.size()));
        }
        return (int) areas(mean)[0];
    }

    long meanPower(int end) {
        if (out(end, 0, 1)) {
            return INVALID;
        }
        List<Sheet> cards = of(end);
        if (cards.isEmpty()) {
            return NONE;
        }
        long sum = 0;
        for (Sheet card : cards) {
            sum += powerOf(card);
        }
        return down(sum, cards.size());
    }

    int imbalance() {
        long p = meanPower(0);
        long q = meanPower(1);
        // A mean power that is none is below 0 too.
        if (p < 0 || q < 0 || p == 0 && q == 0) {
            return NONE;
        }
        return (int) down(Math.abs(p - q) * 1000, p + q);
    }

    int removeOutliers(int end, int percent) {
        if (out(end, 0, 1) || out(percent, 0, 100)) {
            return INVALID;
        }
        List<Long> areas = new ArrayList<>();
        for (Sheet card : of(end)) {
            areas.add(areas(card)[0]);
        }
        if (areas.isEmpty()) {
            return ILLEGAL;
        }
        action();
        areas.sort(null);
        long median = areas.get((areas.size() - 1) / 2);
        int before = state.cards.size();
        state.cards.removeIf(card -> card.end() == end
                && Math.abs(areas(card)[0] - median) * 100 > percent * Math.abs(median));
        return before - state.cards.size();
    }

    private Sheet idealWith(int end, int cutOff) {
        int[] v = state.valves[end];
        return ideal(end, 60, new int[] {v[0], cutOff, v[2], v[3]}, 0);
    }

    int idealArea(int end) {
        return out(end, 0, 1) ? INVALID : (int) areas(idealWith(end, state.valves[end][1]))[0];
    }

    int bestCutOff(int end, int wanted) {
        if (out(end, 0, 1) || out(wanted, -200000, 200000)) {
            return INVALID;
        }
        TreeMap<Long, Integer> found = new TreeMap<>();
        for (int cutOff = state.valves[end][0] + 1; cutOff < state.valves[end][2] && cutOff <= 18; cutOff++) {
            found.putIfAbsent(Math.abs(areas(idealWith(end, cutOff))[0] - wanted), cutOff);
        }
        return found.firstEntry().getValue();
    }

    int balancingCutOff() {
        long wanted = powerOf(idealWith(0, state.valves[0][1]));
        TreeMap<Long, Integer> found = new TreeMap<>();
        for (int cutOff = state.valves[1][0] + 1; cutOff < state.valves[1][2] && cutOff <= 18; cutOff++) {
            found.putIfAbsent(Math.abs(powerOf(idealWith(1, cutOff)) - wanted), cutOff);
        }
        return found.firstEntry().getValue();
    }

    int historySize() {
        return history.size();
    }

    int undo() {
        if (history.isEmpty()) {
            return ILLEGAL;
        }
        state = history.remove(history.size() - 1);
        return history.size();
    }
}
