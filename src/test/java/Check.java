import java.nio.charset.StandardCharsets;

/** What the tests share: a count of wrong answers, and texts fed as calls. */
final class Check {
    private int asked;
    private int wrong;
    private final String name;

    Check(String name) {
        this.name = name;
    }

    void due(String call, long got, long want) {
        asked++;
        if (got != want) {
            wrong++;
            System.out.println(name + ": " + call + " answered " + got + ", due is " + want);
        }
    }

    void finish() {
        System.out.println(name + ": " + asked + " answers, " + wrong + " wrong");
        if (wrong != 0) {
            System.exit(1);
        }
    }

    /** Puts a text behind what the tape has. */
    static void feed(WristTreaty x, byte[] text) {
        int before = x.count(9);
        for (int i = 0; i < text.length; i += 20) {
            x.feed(four(text, i), four(text, i + 4), four(text, i + 8), four(text, i + 12), four(text, i + 16));
        }
        x.end(before + text.length);
    }

    static void feed(WristTreaty x, String text) {
        feed(x, text.getBytes(StandardCharsets.ISO_8859_1));
    }

    /** Reads a text alone, whatever the tape had. */
    static int read(WristTreaty x, String text) {
        x.end(0);
        feed(x, text);
        return x.gorge();
    }

    static WristTreaty of(String text) {
        WristTreaty x = new WristTreaty();
        int lines = read(x, text);
        if (lines < 0) {
            throw new IllegalArgumentException("no gorge: " + text);
        }
        return x;
    }

    /** Fills a slot with numbers of 8 bytes. */
    static void row(WristTreaty x, int slot, long... numbers) {
        x.row(slot, 3, numbers.length);
        for (int i = 0; i < numbers.length; i++) {
            x.write(slot, i, numbers[i]);
        }
    }

    private static int four(byte[] text, int i) {
        int number = 0;
        for (int k = i; k < i + 4; k++) {
            number = number << 8 | (k < text.length ? text[k] & 255 : 32);
        }
        return number;
    }
}
