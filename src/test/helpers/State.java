/** What an object's calls show of it, as a text. */
final class State {
    private static final int MOST_KINDS = 40;
    private static final int LONGEST_TEXT = 40;

    private State() {
    }

    static String text(FixedKinds x) {
        StringBuilder text = new StringBuilder();
        try {
            for (int i = 0; i < LONGEST_TEXT; i++) {
                text.append((char) x.at(i));
            }
        } catch (ArrayIndexOutOfBoundsException e) {
            return text.toString();
        }
        return text.toString();
    }

    // What is LOST is asked first, since asking for the rules changes it.
    static String of(FixedKinds x) {
        StringBuilder state = new StringBuilder("lost " + x.lost() + " text " + text(x));
        for (int kind = 1; kind <= MOST_KINDS + 1 && x.compare(kind, 0, kind, 0) == 0; kind++) {
            state.append("; kind ").append(kind).append(told(x, kind));
        }
        return state.toString();
    }

    private static String told(FixedKinds x, int kind) {
        long least = x.bound(kind, 0);
        long greatest = x.bound(kind, 1);
        long[] answers = {
            least, greatest, x.physical(kind, 0, 1), x.physical(kind, 1, 1), x.physical(kind, 1, 0),
            // With slope 1 and no offset, the first tells BEYOND, the two others together ROUNDING.
            x.apply(1, kind, least, kind, greatest), x.apply(3, kind, -5, kind, 2), x.apply(3, kind, 7, kind, 2),
        };
        StringBuilder told = new StringBuilder();
        for (long answer : answers) {
            told.append(' ').append(answer);
        }
        return told.toString();
    }
}
