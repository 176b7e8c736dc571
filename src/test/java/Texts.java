/** Puts texts on THE TAPE. */
final class Texts {
    private Texts() {
    }

    /** The bytes of a text from a place on, the lowest first. */
    static long bytes(String text, int from, int n) {
        long bytes = 0;
        for (int i = 0; i < n; i++) {
            bytes |= (long) (text.charAt(from + i) & 255) << (8 * i);
        }
        return bytes;
    }

    static int feed(LightInRoom x, String text) {
        int answer = 0;
        for (int at = 0; at < text.length(); at += 8) {
            int n = Math.min(8, text.length() - at);
            answer = x.feed(n, bytes(text, at, n));
        }
        return answer;
    }

    static int tell(LightInRoom x, String text) {
        feed(x, text);
        return x.telling();
    }

    static LightInRoom room(String... texts) {
        LightInRoom x = new LightInRoom();
        for (String text : texts) {
            if (tell(x, text) < 0) {
                throw new IllegalStateException("the test's own text is wrong: " + text);
            }
        }
        return x;
    }
}
