import java.util.ArrayList;
import java.util.Arrays;
import java.util.HashMap;
import java.util.List;
import java.util.Map;
import java.util.regex.Matcher;
import java.util.regex.Pattern;

/**
 * Promise 7, without a second parser: a TOKEN can not stand there if no TEXT that goes on behind it is a HOUSE.
 * Behind each of some beginnings up to four TOKENS, with and without blanks between: all rows as long as each
 * TOKEN can stand, and behind one that can not just one more; then every byte in every place of one TEXT.
 */
public final class TextTest {
    private static final String[] TOKENS = {"house", "door", "alarm", "down", "dow", "0", "1", "07", "8", "9", "10", "99", "100", ";", "-"};
    private static final String[] BEGINNINGS = {"", "house", "house 3", "house 3;", "house 3;door 1", "house 3;door 1 0", "house 3;alarm",
        "house 3;alarm 5 7", "house 3;alarm 0 1 22;", "house 3;alarm 0 1 22;down", "house 3;alarm 0 0 0;alarm 1 1 1;down 1;",
        "house 3;" + "alarm 0 1 2;".repeat(5), "house 3;" + "alarm 0 1 2;".repeat(6), "house 3;" + "alarm 0 1 2;".repeat(6) + "down"};
    /** Whatever may still be missing behind a TOKEN that can stand there. */
    private static final String[] ENDS = {"", ";", "0 ;", "1 ;", "0 1 ;", "1 1 ;", "0 1 1 ;", "house 0 ;"};
    private static final int DEEPEST = 4;
    private static final Pattern ONE_TOKEN = Pattern.compile("[a-z]+|[0-9]+|[^ ]", Pattern.DOTALL);
    private static final Pattern FORM = Pattern.compile(
        "house [0-9]{1,2} ; ((door( [0-9]{1,2}){3}|alarm( [0-9]{1,2}){3}|down [0-9]{1,2}) ; )*");

    /** By the TOKENS up to one: whether something can still come that makes them a HOUSE. */
    private static final Map<String, Boolean> stands = new HashMap<>();
    private static int texts = 0;
    private static int wrong = 0;

    public static void main(String[] args) {
        for (String beginning : BEGINNINGS) {
            for (String between : new String[] {" ", ""}) {
                goOn(beginning, between, 0);
            }
        }
        everyByte();
        System.out.println(wrong == 0 ? "TextTest: " + texts + " TEXTS are read as due" : "TextTest: " + wrong + " TEXTS are read wrong");
        if (wrong != 0) {
            System.exit(1);
        }
    }

    private static void goOn(String text, String between, int depth) {
        look(text);
        look(text + " ");
        for (int i = 0; i < TOKENS.length && depth < DEEPEST; i++) {
            String longer = text + between + TOKENS[i];
            // Behind a FAULT nothing that follows counts; one TOKEN more is looked at, to see just that.
            goOn(longer, between, depth < DEEPEST - 1 && fault(longer) < longer.length() ? DEEPEST - 1 : depth + 1);
        }
    }

    /** Each byte in each place of one TEXT, put in and in another's stead. */
    private static void everyByte() {
        String good = "house 4;door 0 1 5;alarm 3 1 29;down 0;";
        for (int at = 0; at <= good.length(); at++) {
            look(good.substring(0, at));
            for (int c = 0; c < 128; c++) {
                look(good.substring(0, at) + (char) c + good.substring(at));
                look(good.substring(0, at) + (char) c + good.substring(Math.min(good.length(), at + 1)));
            }
        }
    }

    private static void look(String text) {
        if (text.length() > 150 || wrong > 20) {
            return;
        }
        texts++;
        BeepHouse x = new BeepHouse();
        x.alarm(4, 7, 50);
        x.waits(9);
        for (int i = 0; i < text.length(); i++) {
            x.type(text.charAt(i));
        }
        long before = x.digest();
        List<String> tokens = tokensOf(text);
        boolean isHouse = isHouse(tokens);
        long want = isHouse ? tokens.stream().filter(t -> t.equals(";")).count() : -10 - fault(text);
        long got = x.read();
        boolean stays = x.digest() == before;
        if (got != want || stays == isHouse || x.status(0) + x.status(1) + x.status(2) != 0 || x.count(7) != text.length()) {
            wrong++;
            System.out.println("promise 7: \"" + text + "\" answered " + got + ", due is " + want + (stays ? ", all stays" : ", all changes"));
        }
    }

    private static List<String> tokensOf(String text) {
        List<String> tokens = new ArrayList<>();
        Matcher m = ONE_TOKEN.matcher(text);
        while (m.find()) {
            tokens.add(m.group());
        }
        return tokens;
    }

    /** The TEXT's length, if every TOKEN can stand where it does. */
    private static int fault(String text) {
        Matcher m = ONE_TOKEN.matcher(text);
        StringBuilder upTo = new StringBuilder();
        while (m.find()) {
            upTo.append(m.group()).append(' ');
            if (!stands.computeIfAbsent(upTo.toString(), TextTest::canStand)) {
                return m.start();
            }
        }
        return text.length();
    }

    /** Where there is no ALARM yet the FAULT is the number behind down, so the word stands wherever door does. */
    private static boolean canStand(String upTo) {
        String tokens = upTo.replaceAll("\\bdown $", "door ");
        return Arrays.stream(ENDS).anyMatch(end -> isHouse(tokensOf(tokens + end)));
    }

    private static boolean isHouse(List<String> tokens) {
        if (!FORM.matcher(String.join(" ", tokens) + " ").matches()) {
            return false;
        }
        int alarms = 0;
        for (int i = 0; i < tokens.size(); i++) {
            String word = tokens.get(i);
            if (word.equals("house") && !in(tokens, i + 1, 0, 9)
                || word.equals("down") && !in(tokens, i + 1, 0, alarms - 1)
                || word.equals("door") && !(in(tokens, i + 1, 0, 7) && in(tokens, i + 2, 0, 7) && in(tokens, i + 3, 1, 9)
                    && value(tokens, i + 1) != value(tokens, i + 2))
                || word.equals("alarm") && !(alarms < 6 && in(tokens, i + 1, 0, 5) && in(tokens, i + 2, 0, 7))) {
                return false;
            }
            alarms += word.equals("alarm") ? 1 : 0;
        }
        return true;
    }

    private static int value(List<String> tokens, int i) {
        return Integer.parseInt(tokens.get(i));
    }

    private static boolean in(List<String> tokens, int i, int least, int most) {
        return value(tokens, i) >= least && value(tokens, i) <= most;
    }
}
