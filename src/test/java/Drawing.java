/** Cards that the tests draw, and what they see of an object. */
final class Drawing {
    private Drawing() {
    }

    /** A row of 21 equal pressures. */
    static int[] level(int pressure) {
        int[] row = new int[21];
        java.util.Arrays.fill(row, pressure);
        return row;
    }

    /** The same row with another pressure at one station. */
    static int[] with(int[] row, int station, int pressure) {
        int[] changed = row.clone();
        changed[station] = pressure;
        return changed;
    }

    /** Adds a card with a point at each station where that is needed: 44 calls at most. */
    static int add(IndicatorDiagram x, int end, int speed, int[] outward, int[] inward) {
        x.beginCard(end, speed);
        points(x, 0, outward);
        points(x, 1, inward);
        return x.finishCard();
    }

    private static void points(IndicatorDiagram x, int stroke, int[] row) {
        for (int s = 0; s <= 20; s++) {
            boolean isInside = s > 0 && s < 20 && row[s - 1] == row[s] && row[s] == row[s + 1];
            if (!isInside) {
                x.setPoint(stroke, s, row[s]);
            }
        }
    }

    /** The pressures of one stroke of a card, as a text. */
    static String stroke(IndicatorDiagram x, int card, int stroke) {
        StringBuilder seen = new StringBuilder();
        for (int s = 0; s <= 20; s++) {
            seen.append(s == 0 ? "" : " ").append(x.pressure(card, stroke, s));
        }
        return seen.toString();
    }

    /** The speeds of all cards, by which the tests tell cards apart. */
    static String speeds(IndicatorDiagram x) {
        StringBuilder seen = new StringBuilder();
        for (int card = 0; card < x.cardCount(); card++) {
            seen.append(card == 0 ? "" : " ").append(x.speed(card));
        }
        return seen.toString();
    }

    /** What can be seen of an object by calls that change nothing; some 40 calls, and 45 for each card. */
    static String seen(IndicatorDiagram x) {
        StringBuilder seen = new StringBuilder();
        for (int end = 0; end <= 1; end++) {
            for (int event = 0; event <= 3; event++) {
                seen.append(x.valve(end, event)).append(' ');
            }
            seen.append(x.cardsOf(end)).append(' ').append(x.meanArea(end)).append(' ');
            seen.append(x.meanPower(end)).append(' ').append(x.idealArea(end)).append('\n');
        }
        seen.append(x.balancingCutOff()).append(' ').append(x.imbalance()).append(' ');
        seen.append(x.cardCount()).append(' ').append(x.historySize()).append('\n');
        for (int card = 0; card < x.cardCount(); card++) {
            seen.append(x.end(card)).append(' ').append(x.speed(card)).append(' ').append(x.power(card));
            seen.append(' ').append(x.slip(card)).append(' ').append(x.constant(card, 0)).append('\n');
            seen.append(stroke(x, card, 0)).append('\n').append(stroke(x, card, 1)).append('\n');
        }
        return seen.toString();
    }
}
