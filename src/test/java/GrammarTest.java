import java.util.ArrayList;
import java.util.List;
import java.util.Set;
import java.util.TreeSet;

/**
 * FORM by its own words, "TOKEN with which no PROGRAM goes on": the grammar of Term II is kept as rows of rules, and
 * every way to go on is followed at once; each text of a few TOKENS behind some openings is held against that.
 */
public final class GrammarTest {
    // Capitals stand for parts that have rules; n is a NAME, w any WORD, i the if, 9 a WHOLE, others themselves.
    private static final String[] RULES = {
        "P B", "P BP",
        "B w9{K}",
        "K L", "K L;K",
        "L n=S", "L inn=S",
        "S T", "S T+T", "S T<T", "S T+X", "S T<Y",
        "X T+T", "X T+X",
        "Y T<T", "Y T<Y",
        "T n", "T 9", "T ~T", "T (S)"};
    private static final String[] TOKENS = {"zz", "b", "if", "9", "{", "}", ";", "=", "(", ")", "+", "<", "~"};
    private static final String[][] OPENINGS = {
        {},
        {"x", "1", "{"},
        {"x", "1", "{", "if", "b"},
        {"x", "1", "{", "a", "="},
        {"x", "1", "{", "a", "=", "b", "+", "c"},
        {"x", "1", "{", "a", "=", "~", "(", "b", "<"},
        {"x", "1", "{", "a", "=", "(", "b", "<", "c", ")"},
        {"x", "1", "{", "a", "=", "b", "}"},
        {"x", "1", "{", "a", "=", "b", ";", "a", "=", "b", "}", "y", "2", "{"}};
    private static final int MOST_CALLS = 512;

    private HalfGates desk = new HalfGates();
    private int calls = 0;
    private final List<String> tokens = new ArrayList<>();

    public static void main(String[] args) {
        GrammarTest test = new GrammarTest();
        for (String[] opening : OPENINGS) {
            test.from(opening);
        }
        Check.end();
    }

    private void from(String[] opening) {
        Set<String> ways = new TreeSet<>(List.of("P"));
        tokens.clear();
        for (String token : opening) {
            tokens.add(token);
            ways = behind(ways, terminals(token));
        }
        Check.due("an opening can be gone on with", ways.isEmpty(), false);
        goOn(ways, 5);
    }

    /** Each way to go on is what may still come, its first part first; the empty one is a whole PROGRAM. */
    private void goOn(Set<String> ways, int more) {
        hold(ways.contains("") ? 0 : 1, length());
        if (more == 0) {
            return;
        }
        for (String token : TOKENS) {
            int place = length();
            tokens.add(token);
            Set<String> then = behind(ways, terminals(token));
            if (!then.isEmpty()) {
                goOn(then, more - 1);
            } else {
                boolean wordForName = Character.isLetter(token.charAt(0)) && !behind(ways, "n").isEmpty();
                holdWithTail(wordForName ? 2 : 1, place);
            }
            tokens.remove(tokens.size() - 1);
        }
    }

    /** What stands behind the first FAULT doesn't matter. */
    private void holdWithTail(int fault, int place) {
        hold(fault, place);
        tokens.add("A}9");
        hold(fault, place);
        tokens.remove(tokens.size() - 1);
    }

    private static String terminals(String token) {
        char c = token.charAt(0);
        if (Character.isDigit(c)) {
            return "9";
        }
        if (!Character.isLetter(c)) {
            return token;
        }
        return token.equals("if") ? "wi" : token.matches("[a-h]") ? "wn" : "w";
    }

    private static Set<String> behind(Set<String> ways, String terminals) {
        Set<String> then = new TreeSet<>();
        for (String way : ways) {
            take(way, terminals, then);
        }
        return then;
    }

    private static void take(String way, String terminals, Set<String> into) {
        if (way.isEmpty()) {
            return;
        }
        if (terminals.indexOf(way.charAt(0)) >= 0) {
            into.add(way.substring(1));
        }
        for (String rule : RULES) {
            if (rule.charAt(0) == way.charAt(0)) {
                take(rule.substring(2) + way.substring(1), terminals, into);
            }
        }
    }

    /** Each TOKEN has a blank behind it, so the place of the next is the length of those ahead. */
    private int length() {
        int length = 0;
        for (String token : tokens) {
            length += token.length() + 1;
        }
        return length;
    }

    private void hold(int fault, int place) {
        String text = String.join(" ", tokens) + (tokens.isEmpty() ? "" : " ");
        if (calls + 8 > MOST_CALLS) {
            desk = new HalfGates();
            calls = 0;
        }
        calls += 8;
        int told = Check.tell(desk, text);
        if (desk.fault() != fault || desk.where() != (fault == 0 ? -1 : place) || told < 0 != (fault != 0)) {
            Check.fail("[" + text + "]: program " + told + ", fault " + desk.fault() + " at " + desk.where()
                + ", due is fault " + fault + " at " + place);
        } else {
            Check.due("program of [" + text + "]", told < 0 ? -1 : told, fault != 0 ? -1 : blocks());
        }
    }

    private long blocks() {
        return tokens.stream().filter("}"::equals).count();
    }
}
