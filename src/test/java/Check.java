/** What the tests of the project share: how answers are compared, and how a setup text is loaded. */
final class Check {
    interface Call {
        void run();
    }

    private static final int BYTES_APPENDED = 20;
    private static int wrong = 0;
    private static String sentence = "";

    private Check() {
    }

    /** The sentence of the document that is broken if a check behind this fails. */
    static void sentence(String words) {
        sentence = " [" + words + "]";
    }

    private static void complain(String what) {
        wrong++;
        System.out.println(what + sentence);
    }

    static void due(String call, long got, long want) {
        if (got != want) {
            complain(call + " answered " + got + ", due is " + want);
        }
    }

    static void due(String call, boolean got, boolean want) {
        due(call, got ? 1 : 0, want ? 1 : 0);
    }

    static void dueFloat(String call, float got, float want) {
        if (got != want) {
            complain(call + " answered " + got + ", due is " + want);
        }
    }

    /** The exception has to be of this very class. */
    static void dueThrow(String call, Class<? extends RuntimeException> want, Call body) {
        String got = "no exception";
        try {
            body.run();
        } catch (RuntimeException e) {
            if (e.getClass() == want) {
                return;
            }
            got = e.getClass().getName();
        }
        complain(call + " threw " + got + ", due is " + want.getName());
    }

    static void dueOutOfBounds(String call, Call body) {
        dueThrow(call, IndexOutOfBoundsException.class, body);
    }

    static void dueIllegalArgument(String call, Call body) {
        dueThrow(call, IllegalArgumentException.class, body);
    }

    static void dueIllegalState(String call, Call body) {
        dueThrow(call, IllegalStateException.class, body);
    }

    static void dueNoSuchElement(String call, Call body) {
        dueThrow(call, java.util.NoSuchElementException.class, body);
    }

    private static int fourBytes(String text, int from) {
        int word = 0;
        for (int i = from; i < from + 4; i++) {
            word = word << 8 | (i < text.length() ? text.charAt(i) & 255 : ' ');
        }
        return word;
    }

    /** Appends the text, with spaces behind it up to a whole number of appends; returns the last answer. */
    static int append(RhymeRoofs x, String text) {
        int length = 0;
        for (int i = 0; i < text.length(); i += BYTES_APPENDED) {
            length = x.append(fourBytes(text, i), fourBytes(text, i + 4), fourBytes(text, i + 8),
                    fourBytes(text, i + 12), fourBytes(text, i + 16));
        }
        return length;
    }

    /** Only for an empty buffer. */
    static int load(RhymeRoofs x, String text) {
        append(x, text);
        return x.load(text.length());
    }

    /** Only for an empty buffer. */
    static int give(RhymeRoofs x, int player, String word) {
        append(x, word);
        return x.give(player, word.length());
    }

    static RhymeRoofs loaded(String text) {
        RhymeRoofs x = new RhymeRoofs();
        int words = load(x, text);
        if (words < 0) {
            due("load of \"" + text + "\"", words, 0);
        }
        return x;
    }

    static void dueError(String text, int code, int offset) {
        RhymeRoofs x = new RhymeRoofs();
        due("load of \"" + text + "\"", load(x, text), code);
        due("errorOffset of \"" + text + "\"", x.errorOffset(), offset);
    }

    static void dueLoaded(String text, int words) {
        RhymeRoofs x = new RhymeRoofs();
        due("load of \"" + text + "\"", load(x, text), words);
        due("errorOffset of \"" + text + "\"", x.errorOffset(), -1);
    }

    static void end() {
        if (wrong != 0) {
            System.out.println(wrong + " answers are not as due");
            System.exit(1);
        }
    }
}
