/** Brings a text onto the tape, twenty bytes a call, the blanks behind its end taken back. */
final class Texts {
    private Texts() {
    }

    /** Five words for each feed; the last ones are filled up with blanks. */
    static int[] words(String text) {
        int[] words = new int[(text.length() + 19) / 20 * 5];
        for (int i = 0; i < words.length * 4; i++) {
            int sign = i < text.length() ? text.charAt(i) & 255 : ' ';
            words[i / 4] = words[i / 4] << 8 | sign;
        }
        return words;
    }

    static void feed(SaintTheft x, String text) {
        int[] words = words(text);
        for (int i = 0; i < words.length; i += 5) {
            x.feed(words[i], words[i + 1], words[i + 2], words[i + 3], words[i + 4]);
        }
        x.back(words.length * 4 - text.length());
    }

    static int read(SaintTheft x, String text) {
        feed(x, text);
        return x.read();
    }

    /** An object that has read a text without a fault. */
    static SaintTheft of(String text) {
        SaintTheft x = new SaintTheft();
        int fault = read(x, text);
        if (fault != 0) {
            throw new IllegalStateException("fault " + fault + " at " + x.place() + " of: " + text);
        }
        return x;
    }
}
