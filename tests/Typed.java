/** Types a text into a JuneVote, twenty bytes a feed. */
final class Typed {
    private Typed() {
    }

    /** Feeds the text behind what is on the tape; bytes that fill the last feed up are cut off again. */
    static int feed(JuneVote x, String text) {
        int size = x.about(11);
        int[] five = new int[5];
        for (int from = 0; from < text.length(); from += 20) {
            for (int i = 0; i < 5; i++) {
                five[i] = four(text, from + 4 * i);
            }
            if (x.feed(five[0], five[1], five[2], five[3], five[4]) == JuneVote.NONE) {
                return JuneVote.NONE;
            }
        }
        return x.end(size + text.length());
    }

    private static int four(String text, int from) {
        int sum = 0;
        for (int i = 0; i < 4; i++) {
            sum = sum << 8 | (from + i < text.length() ? text.charAt(from + i) & 255 : ' ');
        }
        return sum;
    }

    /** A new object with that republic. */
    static JuneVote republic(String text) {
        JuneVote x = new JuneVote();
        feed(x, text);
        if (x.republic() == JuneVote.NONE) {
            throw new IllegalStateException("fault " + x.fault(0) + " at " + x.fault(1) + " of " + text);
        }
        return x;
    }
}
