import java.math.BigInteger;
import java.util.ArrayList;
import java.util.List;
import java.util.Map;
import java.util.Random;
import java.util.regex.Matcher;
import java.util.regex.Pattern;

/** Drawn texts, most with a few things changed in them, against faults found by templates of the lines. */
public final class TextModelTest {
    private static final Check CHECK = new Check("TextModelTest");
    private static final int TEXTS = 20000;
    private static final Pattern TOKEN = Pattern.compile("[a-z]+|[0-9]+|[^ \n]");
    private static final Map<String, String> TEMPLATES = Map.of("gorge", "far 1..20 far 1..20 odds 0..10 ;",
            "man", "on 0..1 grip 1..30 wits 0..9 ;", "clause", "says 1..30 gives|takes 0..99 gives|takes 0..99 ;",
            "wind", "from 0..999 to 0..999 ;", "pot", "0..20 ;");
    private static final Map<String, Integer> MOST = Map.of("man", 8, "clause", 7, "wind", 4);
    private static final String[] WORDS = {"gorge", "man", "clause", "wind", "pot", "far", "odds", "on", "grip", "wits", "says",
        "gives", "takes", "from", "to", ";", "0", "1", "9", "10", "11", "20", "21", "30", "31", "99", "100", "999", "1000",
        "4294967297", "#", "Man", "\t", "" + (char) 0, "" + (char) 233, " ", "\n", ""};

    private final Random random;
    private final List<String> tokens = new ArrayList<>();
    private final List<Integer> places = new ArrayList<>();
    private int lines;
    private int fault;
    private int place;

    private TextModelTest(long seed) {
        random = new Random(seed);
    }

    public static void main(String[] args) {
        int faulty = 0;
        for (long seed = 0; seed < TEXTS; seed++) {
            TextModelTest model = new TextModelTest(seed);
            String text = model.drawText();
            model.find(text);
            faulty += model.fault > 0 ? 1 : 0;
            WristTreaty x = new WristTreaty();
            CHECK.due(text, Check.read(x, text), model.fault > 0 ? -4 : model.lines);
            CHECK.due(text + " fault(0)", x.fault(0), model.fault);
            CHECK.due(text + " fault(1)", x.fault(1), model.fault > 0 ? model.place : -1);
            CHECK.due(text + " tape", x.count(9), model.fault > 0 ? text.length() : 0);
        }
        CHECK.due("texts of both kinds, " + faulty + " faulty", faulty > TEXTS / 4 && faulty < TEXTS * 3 / 4 ? 1 : 0, 1);
        CHECK.finish();
    }

    private int between(int low, int high) {
        return low + random.nextInt(high - low + 1);
    }

    private String drawText() {
        StringBuilder text = new StringBuilder(drawLine("gorge"));
        for (int n = random.nextInt(22); n > 0; n--) {
            text.append(drawLine(new String[] {"man", "clause", "wind", "pot", "man"}[random.nextInt(5)]));
        }
        String[] parts = text.toString().split("(?<= )|(?= )");
        int changes = Math.max(0, random.nextInt(4) - 1);
        for (int i = 0; i < changes; i++) {
            parts[random.nextInt(parts.length)] = WORDS[random.nextInt(WORDS.length)];
        }
        String whole = String.join("", parts);
        return whole.length() > 780 ? whole.substring(0, 780) : whole;
    }

    private String drawLine(String word) {
        StringBuilder line = new StringBuilder(word);
        int before = 0;
        for (String part : TEMPLATES.get(word).split(" ")) {
            line.append(random.nextInt(9) == 0 ? "\n " : " ");
            if (part.contains("..")) {
                String[] ends = part.split("\\.\\.");
                int low = Math.max(before, Integer.parseInt(ends[0]));
                int n = random.nextInt(5) == 0 ? Integer.parseInt(ends[1]) : between(low, Integer.parseInt(ends[1]));
                before = word.equals("wind") ? n : 0;
                line.append(n);
            } else {
                line.append(part.contains("|") ? part.split("\\|")[random.nextInt(2)] : part);
            }
        }
        return line.append(" ").toString();
    }

    private void find(String text) {
        Matcher matcher = TOKEN.matcher(text);
        while (matcher.find()) {
            tokens.add(matcher.group());
            places.add(matcher.start());
        }
        // The end is a token that fits nothing.
        places.add(text.length());
        int at = 0;
        while (at < tokens.size() && fault == 0) {
            at = findInLine(at);
        }
    }

    private int findInLine(int at) {
        String word = tokens.get(at);
        if (!TEMPLATES.containsKey(word) || word.equals("gorge") != (lines == 0)) {
            return fail(1, at);
        }
        if (MOST.containsKey(word) && countOf(word, at) >= MOST.get(word)) {
            return fail(3, at);
        }
        BigInteger before = BigInteger.ZERO;
        for (String part : TEMPLATES.get(word).split(" ")) {
            at++;
            String token = at < tokens.size() ? tokens.get(at) : "";
            if (!part.contains("..")) {
                if (!List.of(part.split("\\|")).contains(token)) {
                    return fail(1, at);
                }
            } else if (!token.matches("[0-9]+")) {
                return fail(1, at);
            } else {
                BigInteger n = new BigInteger(token);
                String[] ends = part.split("\\.\\.");
                if (n.compareTo(new BigInteger(ends[0]).max(before)) < 0 || n.compareTo(new BigInteger(ends[1])) > 0) {
                    return fail(2, at);
                }
                before = word.equals("wind") ? n : BigInteger.ZERO;
            }
        }
        lines++;
        return at + 1;
    }

    /** How often a word stood ahead of a place: it stands once in each of its lines, and in no other one. */
    private int countOf(String word, int at) {
        return (int) tokens.subList(0, at).stream().filter(word::equals).count();
    }

    private int fail(int number, int at) {
        fault = number;
        place = places.get(at);
        return at;
    }
}
