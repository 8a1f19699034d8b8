/** An analyzer for indicator diagrams of a double-acting steam engine. */
public final class IndicatorDiagram {
    /** An argument is out of range, or names something that does not exist. */
    public static final int INVALID_ARGUMENT = -2000000001;
    /** The call is not possible in the present state. */
    public static final int ILLEGAL_STATE = -2000000002;
    /** There is no room. */
    public static final int CAPACITY_EXCEEDED = -2000000003;
    /** There is no such value. */
    public static final int NONE = -2000000004;

    private static final int HEAD = 0;
    private static final int CRANK = 1;
    private static final int OUTWARD = 0;
    private static final int RETURN = 1;

    private static final int ADMISSION = 0;
    private static final int CUT_OFF = 1;
    private static final int RELEASE = 2;
    private static final int COMPRESSION = 3;

    private static final int STATIONS = 21;
    private static final int LAST_STATION = 20;
    private static final int NO_STATION = -1;
    private static final int NO_POINT = -1;

    private static final int MOST_CARDS = 10;
    private static final int MOST_STATES = 4;
    private static final int MOST_PRESSURE = 5000;
    private static final int MOST_SPEED = 600;
    private static final int MOST_SHIFT = 3;
    private static final int MOST_LEAK = 20;
    private static final int MOST_WANTED_AREA = 200000;
    private static final int MOST_SLIP = 5;
    private static final int LEAST_CUT_OFF = 1;
    private static final int MOST_CUT_OFF = 18;
    private static final int BALANCING_SPEED = 60;

    private final State now;
    private final State[] history;
    private int states;

    // Rows made once and used again: an answer that needs a card, events or
    // sorted areas for itself alone then makes no new objects.
    private final Card trial;
    private final Events trialEvents;
    private final Events found;
    private final int[] sortedAreas;

    public IndicatorDiagram() {
        trial = new Card();
        trialEvents = new Events();
        found = new Events();
        sortedAreas = new int[MOST_CARDS];
        now = new State(trial);
        history = new State[MOST_STATES];
        for (int i = 0; i < MOST_STATES; i++) {
            history[i] = new State(trial);
        }
        states = 0;
    }

    // ---- cylinder

    public int setClearance(int intervals) {
        if (!isWithin(intervals, 1, 20)) {
            return INVALID_ARGUMENT;
        }
        recordState();
        int previous = now.clearance;
        now.clearance = intervals;
        return previous;
    }

    public int setPistonArea(int end, int area) {
        if (!isEnd(end) || !isWithin(area, 1, 5000)) {
            return INVALID_ARGUMENT;
        }
        recordState();
        int previous = now.pistonAreaOf(end);
        if (end == HEAD) {
            now.headPistonArea = area;
        } else {
            now.crankPistonArea = area;
        }
        return previous;
    }

    public int setStroke(int length) {
        if (!isWithin(length, 1, 300)) {
            return INVALID_ARGUMENT;
        }
        recordState();
        int previous = now.strokeLength;
        now.strokeLength = length;
        return previous;
    }

    public int setBoilerPressure(int pressure) {
        if (!isWithin(pressure, 100, 2000)) {
            return INVALID_ARGUMENT;
        }
        recordState();
        int previous = now.boilerPressure;
        now.boilerPressure = pressure;
        return previous;
    }

    public int setBackPressure(int pressure) {
        if (!isWithin(pressure, 10, 99)) {
            return INVALID_ARGUMENT;
        }
        recordState();
        int previous = now.backPressure;
        now.backPressure = pressure;
        return previous;
    }

    public int setFinding(int band, int tolerance) {
        if (!isWithin(band, 1, 100) || !isWithin(tolerance, 1, 50)) {
            return INVALID_ARGUMENT;
        }
        recordState();
        int previous = 100 * now.band + now.tolerance;
        now.band = band;
        now.tolerance = tolerance;
        return previous;
    }

    public int setValves(int end, int admission, int cutOff, int release, int compression) {
        if (!isEnd(end) || !areValves(admission, cutOff, release, compression)) {
            return INVALID_ARGUMENT;
        }
        recordState();
        Events valves = now.valvesOf(end);
        valves.admission = admission;
        valves.cutOff = cutOff;
        valves.release = release;
        valves.compression = compression;
        return 0;
    }

    public int valve(int end, int event) {
        if (!isEnd(end) || !isEvent(event)) {
            return INVALID_ARGUMENT;
        }
        return now.valvesOf(end).stationOf(event);
    }

    // ---- cards

    public int beginCard(int end, int speed) {
        if (!isEnd(end) || !isSpeed(speed)) {
            return INVALID_ARGUMENT;
        }
        recordState();
        int previous = now.draft.present ? 1 : 0;
        now.draft.begin(end, speed);
        return previous;
    }

    public int setPoint(int stroke, int station, int pressure) {
        if (!isStroke(stroke) || !isStation(station) || !isWithin(pressure, 0, MOST_PRESSURE)) {
            return INVALID_ARGUMENT;
        }
        if (!now.draft.present) {
            return ILLEGAL_STATE;
        }
        recordState();
        int[] points = now.draft.pointsOf(stroke);
        points[station] = pressure;
        return countPoints(points);
    }

    public int finishCard() {
        Draft draft = now.draft;
        if (!draft.present || countPoints(draft.outward) == 0 || countPoints(draft.inward) == 0) {
            return ILLEGAL_STATE;
        }
        if (now.count >= MOST_CARDS) {
            return CAPACITY_EXCEEDED;
        }
        recordState();
        Card card = new Card();
        card.end = draft.end;
        card.speed = draft.speed;
        drawThroughPoints(draft.outward, card.outward);
        drawThroughPoints(draft.inward, card.inward);
        draft.present = false;
        return addCard(card);
    }

    public int addIdealCard(int end, int speed, int shift, int leak) {
        if (!isEnd(end) || !isSpeed(speed) || !isWithin(shift, -MOST_SHIFT, MOST_SHIFT)
                || !isWithin(leak, -MOST_LEAK, MOST_LEAK)) {
            return INVALID_ARGUMENT;
        }
        trialEvents.copyShifted(now.valvesOf(end), shift);
        if (!trialEvents.existAsIdealCard()) {
            return ILLEGAL_STATE;
        }
        if (now.count >= MOST_CARDS) {
            return CAPACITY_EXCEEDED;
        }
        recordState();
        Card card = new Card();
        card.end = end;
        card.speed = speed;
        drawIdealCard(card, trialEvents, leak);
        return addCard(card);
    }

    public int removeCard(int card) {
        if (!isCard(card)) {
            return INVALID_ARGUMENT;
        }
        recordState();
        now.dropCard(card);
        return now.count;
    }

    public int cardCount() {
        return now.count;
    }

    public int end(int card) {
        return isCard(card) ? now.cards[card].end : INVALID_ARGUMENT;
    }

    public int speed(int card) {
        return isCard(card) ? now.cards[card].speed : INVALID_ARGUMENT;
    }

    public int pressure(int card, int stroke, int station) {
        if (!isCard(card) || !isStroke(stroke) || !isStation(station)) {
            return INVALID_ARGUMENT;
        }
        return now.cards[card].pressuresOf(stroke)[station];
    }

    // ---- areas and power

    public int area(int card) {
        return isCard(card) ? now.cards[card].wholeArea() : INVALID_ARGUMENT;
    }

    public int forwardArea(int card) {
        return isCard(card) ? now.cards[card].sumOfForwardAreas() : INVALID_ARGUMENT;
    }

    public int loopArea(int card) {
        return isCard(card) ? now.cards[card].sumOfLoopAreas() : INVALID_ARGUMENT;
    }

    public int loopStations(int card) {
        return isCard(card) ? now.cards[card].stationsBelowZero() : INVALID_ARGUMENT;
    }

    public int meanPressure(int card) {
        if (!isCard(card)) {
            return INVALID_ARGUMENT;
        }
        return quotient(now.cards[card].wholeArea() * 1000, 40);
    }

    public long power(int card) {
        return isCard(card) ? powerOfCard(now.cards[card]) : INVALID_ARGUMENT;
    }

    // ---- events

    public int event(int card, int event) {
        if (!isCard(card) || !isEvent(event)) {
            return INVALID_ARGUMENT;
        }
        findEvents(now.cards[card]);
        return found.stationOf(event);
    }

    public int lateness(int card, int event) {
        if (!isCard(card) || !isEvent(event)) {
            return INVALID_ARGUMENT;
        }
        findEvents(now.cards[card]);
        return foundLateness(now.valvesOf(now.cards[card].end), event);
    }

    public int slip(int card) {
        if (!isCard(card)) {
            return INVALID_ARGUMENT;
        }
        findEvents(now.cards[card]);
        Events valves = now.valvesOf(now.cards[card].end);
        int best = 0;
        int least = deviationFrom(valves, 0);
        // The smaller sizes first, and of each the one below 0 first: a later
        // one that is only as good then never takes the place.
        for (int size = 1; size <= MOST_SLIP; size++) {
            int below = deviationFrom(valves, -size);
            if (below < least) {
                least = below;
                best = -size;
            }
            int above = deviationFrom(valves, size);
            if (above < least) {
                least = above;
                best = size;
            }
        }
        return best;
    }

    public int constant(int card, int station) {
        if (!isCard(card) || !isStation(station)) {
            return INVALID_ARGUMENT;
        }
        return constantAt(now.cards[card], station);
    }

    public int leakage(int card) {
        if (!isCard(card)) {
            return INVALID_ARGUMENT;
        }
        findEvents(now.cards[card]);
        int ahead = found.release - 1;
        int atCutOff = constantAt(now.cards[card], found.cutOff);
        if (ahead <= found.cutOff || atCutOff == 0) {
            return NONE;
        }
        return quotient((constantAt(now.cards[card], ahead) - atCutOff) * 1000, atCutOff);
    }

    // ---- ends

    public int cardsOf(int end) {
        return isEnd(end) ? countCards(end) : INVALID_ARGUMENT;
    }

    public int meanArea(int end) {
        if (!isEnd(end)) {
            return INVALID_ARGUMENT;
        }
        if (countCards(end) == 0) {
            return NONE;
        }
        drawMeanPressures(end, OUTWARD);
        drawMeanPressures(end, RETURN);
        return trial.wholeArea();
    }

    public long meanPower(int end) {
        if (!isEnd(end)) {
            return INVALID_ARGUMENT;
        }
        if (countCards(end) == 0) {
            return NONE;
        }
        return meanOfPowers(end);
    }

    public int imbalance() {
        if (countCards(HEAD) == 0 || countCards(CRANK) == 0) {
            return NONE;
        }
        long head = meanOfPowers(HEAD);
        long crank = meanOfPowers(CRANK);
        if (head < 0 || crank < 0 || head + crank == 0) {
            return NONE;
        }
        return (int) longQuotient(Math.abs(head - crank) * 1000, head + crank);
    }

    public int removeOutliers(int end, int percent) {
        if (!isEnd(end) || !isWithin(percent, 0, 100)) {
            return INVALID_ARGUMENT;
        }
        if (countCards(end) == 0) {
            return ILLEGAL_STATE;
        }
        recordState();
        int median = medianArea(end);
        int removed = 0;
        for (int i = now.count - 1; i >= 0; i--) {
            if (now.cards[i].end == end && isOutlier(now.cards[i], median, percent)) {
                now.dropCard(i);
                removed++;
            }
        }
        return removed;
    }

    // ---- ideal cards

    public int idealArea(int end) {
        if (!isEnd(end)) {
            return INVALID_ARGUMENT;
        }
        return areaWithCutOff(end, now.valvesOf(end).cutOff);
    }

    public int bestCutOff(int end, int wanted) {
        if (!isEnd(end) || !isWithin(wanted, -MOST_WANTED_AREA, MOST_WANTED_AREA)) {
            return INVALID_ARGUMENT;
        }
        return nearestCutOff(end, wanted, false);
    }

    public int balancingCutOff() {
        long wanted = powerFrom(areaWithCutOff(HEAD, now.headValves.cutOff), HEAD, BALANCING_SPEED);
        return nearestCutOff(CRANK, wanted, true);
    }

    // ---- history

    public int historySize() {
        return states;
    }

    public int undo() {
        if (states <= 0) {
            return ILLEGAL_STATE;
        }
        states--;
        now.copyFrom(history[states]);
        return states;
    }

    // ---- what the calls above share

    private void recordState() {
        if (states >= MOST_STATES) {
            dropOldestState();
        }
        history[states].copyFrom(now);
        states++;
    }

    private void dropOldestState() {
        State oldest = history[0];
        for (int i = 1; i < MOST_STATES; i++) {
            history[i - 1] = history[i];
        }
        history[MOST_STATES - 1] = oldest;
        states = MOST_STATES - 1;
    }

    private int addCard(Card card) {
        int number = now.count;
        now.cards[number] = card;
        now.count = number + 1;
        return number;
    }

    private boolean isCard(int card) {
        return card >= 0 && card < now.count;
    }

    private static boolean isEnd(int end) {
        return end == HEAD || end == CRANK;
    }

    private static boolean isStroke(int stroke) {
        return stroke == OUTWARD || stroke == RETURN;
    }

    private static boolean isEvent(int event) {
        return isWithin(event, ADMISSION, COMPRESSION);
    }

    private static boolean isStation(int station) {
        return isWithin(station, 0, LAST_STATION);
    }

    private static boolean isSpeed(int speed) {
        return isWithin(speed, 1, MOST_SPEED);
    }

    private static boolean areValves(int admission, int cutOff, int release, int compression) {
        return isWithin(admission, 0, 5) && isWithin(cutOff, LEAST_CUT_OFF, MOST_CUT_OFF)
                && isWithin(release, 2, 20) && isWithin(compression, 0, 19)
                && cutOff > admission && release > cutOff;
    }

    private static boolean isWithin(int value, int least, int most) {
        return value >= least && value <= most;
    }

    // All divisors that are no constants come here, so that 0, which no state
    // leads to, is looked for in one place.
    private static int quotient(int dividend, int divisor) {
        return divisor == 0 ? 0 : Math.floorDiv(dividend, divisor);
    }

    private static long longQuotient(long dividend, long divisor) {
        return divisor == 0 ? 0 : Math.floorDiv(dividend, divisor);
    }

    // ---- drafts

    private static int countPoints(int[] points) {
        int count = 0;
        for (int station = 0; station < STATIONS; station++) {
            if (points[station] != NO_POINT) {
                count++;
            }
        }
        return count;
    }

    private static void drawThroughPoints(int[] points, int[] pressures) {
        for (int station = 0; station < STATIONS; station++) {
            int before = pointUpTo(points, station);
            int behind = pointFrom(points, station);
            if (before == NO_STATION && behind == NO_STATION) {
                pressures[station] = 0;
            } else if (before == NO_STATION) {
                pressures[station] = points[behind];
            } else if (behind == NO_STATION || behind == before) {
                pressures[station] = points[before];
            } else {
                int rise = (points[behind] - points[before]) * (station - before);
                pressures[station] = points[before] + quotient(rise, behind - before);
            }
        }
    }

    private static int pointUpTo(int[] points, int station) {
        for (int at = station; at >= 0; at--) {
            if (points[at] != NO_POINT) {
                return at;
            }
        }
        return NO_STATION;
    }

    private static int pointFrom(int[] points, int station) {
        for (int at = station; at < STATIONS; at++) {
            if (points[at] != NO_POINT) {
                return at;
            }
        }
        return NO_STATION;
    }

    // ---- ideal cards

    private void drawIdealCard(Card card, Events events, int leak) {
        drawIdealOutward(card.outward, events, leak);
        drawIdealReturn(card.inward, events);
    }

    private void drawIdealOutward(int[] pressures, Events events, int leak) {
        int back = now.backPressure;
        int steam = now.boilerPressure * now.volumeAt(events.cutOff);
        int atRelease = now.boilerPressure;
        for (int station = 0; station < STATIONS; station++) {
            int pressure = back;
            if (station >= events.release) {
                int fall = (back - atRelease) * (station - events.release + 1);
                pressure = atRelease + quotient(fall, STATIONS - events.release);
            } else if (station > events.cutOff) {
                steam += quotient(steam * leak, 1000);
                pressure = quotient(steam, now.volumeAt(station));
                atRelease = pressure;
            } else if (station >= events.admission) {
                pressure = now.boilerPressure;
            }
            pressures[station] = pressure;
        }
    }

    private void drawIdealReturn(int[] pressures, Events events) {
        int back = now.backPressure;
        int enclosed = back * now.volumeAt(events.compression);
        for (int station = 0; station < STATIONS; station++) {
            boolean isCompressed = station < events.compression;
            pressures[station] = isCompressed ? quotient(enclosed, now.volumeAt(station)) : back;
        }
    }

    private int areaWithCutOff(int end, int cutOff) {
        trialEvents.copyShifted(now.valvesOf(end), 0);
        trialEvents.cutOff = cutOff;
        drawIdealCard(trial, trialEvents, 0);
        return trial.wholeArea();
    }

    private int nearestCutOff(int end, long wanted, boolean isPower) {
        Events valves = now.valvesOf(end);
        int best = valves.cutOff;
        long least = Long.MAX_VALUE;
        for (int cutOff = LEAST_CUT_OFF; cutOff <= MOST_CUT_OFF; cutOff++) {
            if (cutOff > valves.admission && cutOff < valves.release) {
                int area = areaWithCutOff(end, cutOff);
                long reached = isPower ? powerFrom(area, end, BALANCING_SPEED) : area;
                long distance = Math.abs(reached - wanted);
                if (distance < least) {
                    least = distance;
                    best = cutOff;
                }
            }
        }
        return best;
    }

    // ---- power

    private long powerFrom(int area, int end, int speed) {
        long work = (long) area * now.pistonAreaOf(end) * now.strokeLength;
        return longQuotient(work * speed, 2400000);
    }

    private long powerOfCard(Card card) {
        return powerFrom(card.wholeArea(), card.end, card.speed);
    }

    // ---- events of a card

    private void findEvents(Card card) {
        found.admission = findAdmission(card.outward);
        found.cutOff = findCutOff(card.outward, found.admission);
        found.release = findRelease(card, found.cutOff);
        found.compression = findCompression(card.inward);
    }

    private int findAdmission(int[] pressures) {
        int least = greatestOf(pressures) - now.band;
        int station = 0;
        while (station < LAST_STATION && pressures[station] < least) {
            station++;
        }
        return station;
    }

    private int findCutOff(int[] pressures, int admission) {
        int least = greatestOf(pressures) - now.band;
        int station = admission;
        while (station < LAST_STATION && pressures[station + 1] >= least) {
            station++;
        }
        return station;
    }

    private int findRelease(Card card, int cutOff) {
        int least = constantAt(card, cutOff) * (100 - now.tolerance);
        for (int station = cutOff + 1; station < STATIONS; station++) {
            if (constantAt(card, station) * 100 < least) {
                return station;
            }
        }
        return LAST_STATION;
    }

    private int findCompression(int[] pressures) {
        int most = leastOf(pressures) + now.band;
        if (pressures[LAST_STATION] > most) {
            return LAST_STATION;
        }
        int station = LAST_STATION;
        while (station > 0 && pressures[station - 1] <= most) {
            station--;
        }
        return station;
    }

    private int constantAt(Card card, int station) {
        return card.outward[station] * now.volumeAt(station);
    }

    private static int greatestOf(int[] pressures) {
        int greatest = pressures[0];
        for (int station = 1; station < STATIONS; station++) {
            greatest = Math.max(greatest, pressures[station]);
        }
        return greatest;
    }

    private static int leastOf(int[] pressures) {
        int least = pressures[0];
        for (int station = 1; station < STATIONS; station++) {
            least = Math.min(least, pressures[station]);
        }
        return least;
    }

    private int foundLateness(Events valves, int event) {
        int late = found.stationOf(event) - valves.stationOf(event);
        // The return stroke runs down the stations: a late compression has a smaller one.
        return event == COMPRESSION ? -late : late;
    }

    private int deviationFrom(Events valves, int slip) {
        int sum = 0;
        for (int event = ADMISSION; event <= COMPRESSION; event++) {
            sum += Math.abs(foundLateness(valves, event) - slip);
        }
        return sum;
    }

    // ---- cards of an end

    private int countCards(int end) {
        int count = 0;
        for (int i = 0; i < now.count; i++) {
            if (now.cards[i].end == end) {
                count++;
            }
        }
        return count;
    }

    private void drawMeanPressures(int end, int stroke) {
        int cards = countCards(end);
        int[] means = trial.pressuresOf(stroke);
        for (int station = 0; station < STATIONS; station++) {
            int sum = 0;
            for (int i = 0; i < now.count; i++) {
                if (now.cards[i].end == end) {
                    sum += now.cards[i].pressuresOf(stroke)[station];
                }
            }
            means[station] = quotient(sum, cards);
        }
    }

    private long meanOfPowers(int end) {
        long sum = 0;
        for (int i = 0; i < now.count; i++) {
            if (now.cards[i].end == end) {
                sum += powerOfCard(now.cards[i]);
            }
        }
        return longQuotient(sum, countCards(end));
    }

    private int medianArea(int end) {
        int sorted = 0;
        for (int i = 0; i < now.count; i++) {
            if (now.cards[i].end == end) {
                insertSorted(now.cards[i].wholeArea(), sorted);
                sorted++;
            }
        }
        return sorted == 0 ? 0 : sortedAreas[(sorted - 1) / 2];
    }

    private void insertSorted(int area, int sorted) {
        int place = sorted;
        while (place > 0 && sortedAreas[place - 1] > area) {
            sortedAreas[place] = sortedAreas[place - 1];
            place--;
        }
        sortedAreas[place] = area;
    }

    private static boolean isOutlier(Card card, int median, int percent) {
        return Math.abs(card.wholeArea() - median) * 100 > percent * Math.abs(median);
    }

    /** The stations of the four events: valve settings, those of an ideal card, or found ones. */
    private static final class Events {
        int admission;
        int cutOff;
        int release;
        int compression;

        Events() {
            admission = 0;
            cutOff = 8;
            release = 18;
            compression = 4;
        }

        void copyShifted(Events from, int shift) {
            admission = from.admission + shift;
            cutOff = from.cutOff + shift;
            release = from.release + shift;
            compression = from.compression - shift;
        }

        int stationOf(int event) {
            switch (event) {
                case ADMISSION:
                    return admission;
                case CUT_OFF:
                    return cutOff;
                case RELEASE:
                    return release;
                default:
                    return compression;
            }
        }

        boolean existAsIdealCard() {
            return isWithin(admission, 0, 8) && isWithin(cutOff, 1, 19)
                    && isWithin(release, 2, 20) && isWithin(compression, 0, 19);
        }
    }

    /** A card. It never changes once it has been added, so that all states may share it. */
    private static final class Card {
        int end;
        int speed;
        final int[] outward;
        final int[] inward;

        Card() {
            outward = new int[STATIONS];
            inward = new int[STATIONS];
        }

        int[] pressuresOf(int stroke) {
            return stroke == OUTWARD ? outward : inward;
        }

        int differenceAt(int station) {
            return outward[station] - inward[station];
        }

        int wholeArea() {
            int sum = 0;
            for (int station = 0; station < LAST_STATION; station++) {
                sum += differenceAt(station) + differenceAt(station + 1);
            }
            return sum;
        }

        int sumOfForwardAreas() {
            int sum = 0;
            for (int station = 0; station < LAST_STATION; station++) {
                sum += partAboveZero(differenceAt(station), differenceAt(station + 1));
            }
            return sum;
        }

        int sumOfLoopAreas() {
            int sum = 0;
            for (int station = 0; station < LAST_STATION; station++) {
                // With the signs turned, what is below 0 lies above it.
                sum += partAboveZero(-differenceAt(station), -differenceAt(station + 1));
            }
            return sum;
        }

        private static int partAboveZero(int x, int y) {
            if (x >= 0 && y >= 0) {
                return x + y;
            }
            if (x <= 0 && y <= 0) {
                return 0;
            }
            int positive = Math.max(x, y);
            int negative = -Math.min(x, y);
            return quotient(positive * positive, positive + negative);
        }

        int stationsBelowZero() {
            int bits = 0;
            for (int station = 0; station < STATIONS; station++) {
                if (differenceAt(station) < 0) {
                    bits |= 1 << station;
                }
            }
            return bits;
        }
    }

    /** A card that is being drawn, where present; a station without a point has NO_POINT. */
    private static final class Draft {
        boolean present;
        int end;
        int speed;
        final int[] outward;
        final int[] inward;

        Draft() {
            outward = new int[STATIONS];
            inward = new int[STATIONS];
        }

        void begin(int newEnd, int newSpeed) {
            present = true;
            end = newEnd;
            speed = newSpeed;
            for (int station = 0; station < STATIONS; station++) {
                outward[station] = NO_POINT;
                inward[station] = NO_POINT;
            }
        }

        int[] pointsOf(int stroke) {
            return stroke == OUTWARD ? outward : inward;
        }

        void copyFrom(Draft other) {
            present = other.present;
            end = other.end;
            speed = other.speed;
            System.arraycopy(other.outward, 0, outward, 0, STATIONS);
            System.arraycopy(other.inward, 0, inward, 0, STATIONS);
        }
    }

    /** Everything but the history. */
    private static final class State {
        int clearance;
        int headPistonArea;
        int crankPistonArea;
        int strokeLength;
        int boilerPressure;
        int backPressure;
        int band;
        int tolerance;
        final Events headValves;
        final Events crankValves;
        final Draft draft;
        final Card[] cards;
        int count;

        // The places behind the last card hold the filler, so that none is ever null.
        State(Card filler) {
            clearance = 2;
            headPistonArea = 1000;
            crankPistonArea = 900;
            strokeLength = 60;
            boilerPressure = 800;
            backPressure = 50;
            band = 10;
            tolerance = 5;
            headValves = new Events();
            crankValves = new Events();
            draft = new Draft();
            cards = new Card[MOST_CARDS];
            for (int i = 0; i < MOST_CARDS; i++) {
                cards[i] = filler;
            }
            count = 0;
        }

        int pistonAreaOf(int end) {
            return end == HEAD ? headPistonArea : crankPistonArea;
        }

        Events valvesOf(int end) {
            return end == HEAD ? headValves : crankValves;
        }

        int volumeAt(int station) {
            return clearance + station;
        }

        void dropCard(int number) {
            for (int i = number + 1; i < count; i++) {
                cards[i - 1] = cards[i];
            }
            count--;
        }

        void copyFrom(State other) {
            clearance = other.clearance;
            headPistonArea = other.headPistonArea;
            crankPistonArea = other.crankPistonArea;
            strokeLength = other.strokeLength;
            boilerPressure = other.boilerPressure;
            backPressure = other.backPressure;
            band = other.band;
            tolerance = other.tolerance;
            headValves.copyShifted(other.headValves, 0);
            crankValves.copyShifted(other.crankValves, 0);
            draft.copyFrom(other.draft);
            for (int i = 0; i < MOST_CARDS; i++) {
                cards[i] = other.cards[i];
            }
            count = other.count;
        }
    }
}
