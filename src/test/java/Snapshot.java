/** All that the face tells of an object, as one text. */
final class Snapshot {
    private Snapshot() {
    }

    static String of(BranchPredictor x) {
        StringBuilder text = new StringBuilder();
        text.append("history ").append(x.history()).append(" flying ").append(x.inFlight());
        for (int i = 0; i < x.inFlight(); i++) {
            text.append(" [").append(x.place(i)).append(' ').append(x.state(i));
            for (int which = 0; which < 4; which++) {
                text.append(x.predicted(i, which) ? 'T' : 'F');
            }
            text.append(']');
        }
        for (int table = 0; table < 3; table++) {
            text.append(" table ");
            addCounters(text, x, table);
        }
        for (int number = 0; number < 8; number++) {
            text.append(" loop");
            for (int what = 0; what < 5; what++) {
                text.append(' ').append(x.loop(number, what));
            }
        }
        text.append(" counts ").append(x.commits()).append(' ').append(x.drops());
        for (int which = 0; which < 4; which++) {
            text.append(' ').append(x.misses(which));
        }
        for (int table = 0; table < 2; table++) {
            text.append(' ').append(x.meetings(table, false)).append(' ').append(x.meetings(table, true));
        }
        text.append(' ').append(x.accuracy()).append(' ').append(x.digest());
        return text.toString();
    }

    private static void addCounters(StringBuilder text, BranchPredictor x, int table) {
        int index = 0;
        try {
            while (index < 1000) {
                text.append(x.counter(table, index));
                index++;
            }
        } catch (IndexOutOfBoundsException e) {
            text.append(" of ").append(index);
        }
    }
}
