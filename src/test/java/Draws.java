/** Drawn numbers, texts and rows, the same each time for the same seed. */
final class Draws {
    private static final String[] ROWS = {
        "1", ".", "&12", "|12", "*1", "+3", "?2", "&+2?1", "&1*|12", "&3&.3", "&*.&1&..", "+|1&23", "*&?1?2",
        "&*|12&1&..", "+&1.", "&?1&?2&?3?4", "**1", "+*2", "&5*5", "|*1+2", "&&123", "&1&2&3&4&5&01", "?+&.*2",
        "&*.&1&.&.&.&..", "+&*1?2", "*|1&*23", "&*1*1", "|?1?2", "&.&.&.&.&.&.&..", "+?.", "&+1+1",
    };

    private long state;

    Draws(long seed) {
        state = 20261119 + seed;
    }

    /** From 0 on. */
    int draw(int below) {
        state = state * 6364136223846793005L + 1442695040888963407L;
        return (int) ((state >>> 33) % below);
    }

    /** Mostly from low to high, now and then past one of them or far off. */
    int near(int low, int high) {
        switch (draw(40)) {
            case 0: return low - 1;
            case 1: return high + 1;
            case 2: return draw(2) == 0 ? Integer.MIN_VALUE : Integer.MAX_VALUE;
            default: return low + draw(high - low + 1);
        }
    }

    /** A text that mostly can be laid. */
    String text() {
        StringBuilder text = new StringBuilder();
        for (int i = draw(4); i >= 0; i--) {
            text.append('c').append(draw(6)).append(',');
            for (int k = draw(6); k >= 0; k--) text.append((char) ('a' + draw(26)));
            text.append(';');
        }
        for (int i = draw(4); i >= 0; i--) {
            text.append('r').append(draw(4)).append(',').append(row()).append(';');
        }
        if (draw(8) != 0) {
            text.append('s');
            for (int k = draw(31); k > 0; k--) text.append((char) ('a' + draw(26)));
            text.append(';');
        }
        for (int faults = draw(3) - 1; faults > 0; faults--) {
            String signs = "cr;,0123456&|*+?.sa {~A";
            text.setCharAt(draw(text.length()), signs.charAt(draw(signs.length())));
        }
        if (draw(9) == 0) text.setLength(draw(text.length() + 1));
        return text.toString();
    }

    /** A row, now and then one of too many signs. */
    String row() {
        if (draw(2) == 0) return ROWS[draw(ROWS.length)];
        StringBuilder row = new StringBuilder();
        int due = 1;
        while (due > 0 && row.length() < 18) {
            char sign = "012345.&&&||*+?".charAt(draw(row.length() > 8 ? 7 : 15));
            row.append(sign);
            due += sign == '&' || sign == '|' ? 1 : sign == '*' || sign == '+' || sign == '?' ? 0 : -1;
        }
        return row.toString();
    }
}
