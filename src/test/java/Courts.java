/** Feeds whole texts, so that a test can say a COURT as it is written. */
final class Courts {
    private Courts() {
    }

    static void feed(TwoServes x, String text) {
        for (int i = 0; i < text.length(); i++) {
            x.feed(text.charAt(i));
        }
    }

    static int court(TwoServes x, String text) {
        feed(x, text);
        return x.court();
    }

    /** An object with a SERVER of this KIND, v, HARD and SOFT. */
    static TwoServes with(int kind, int v, int hard, int soft) {
        TwoServes x = new TwoServes();
        x.server(kind, v, hard, soft);
        return x;
    }
}
