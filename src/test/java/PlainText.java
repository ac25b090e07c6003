import java.util.ArrayList;
import java.util.List;

/** Reads a TEXT of RULES, and stops by an exception at the first thing that can't stand there. */
final class PlainText {
    static final class Fault extends Exception {
        private static final long serialVersionUID = 1L;
        final int place;

        Fault(int place) {
            this.place = place;
        }
    }

    private static final List<String> KINDS = List.of("girl", "shared", "bred", "twice", "late", "calm");
    private static final List<String> DEEDS = List.of("wait", "turn", "leave");
    private static final List<String> FACTS = List.of("month", "faith", "dowry", "house", "number");

    private final String text;
    private int at;

    PlainText(String text) {
        this.text = text;
    }

    List<PlainCoast.Rule> read() throws Fault {
        List<PlainCoast.Rule> rules = new ArrayList<>();
        while (!peek().isEmpty()) {
            if (rules.size() == 8) {
                throw new Fault(at);
            }
            int kind = oneOf(KINDS);
            PlainCoast.Cond cond = facts -> true;
            if (peek().equals("if")) {
                take("if");
                cond = cond(3);
            }
            int deed = oneOf(DEEDS);
            take(";");
            rules.add(new PlainCoast.Rule(kind, cond, deed));
        }
        return rules;
    }

    /** The next NAME, NUMBER or other byte, with at standing on it; "" at the end. */
    private String peek() {
        while (at < text.length() && text.charAt(at) == ' ') {
            at++;
        }
        String rest = text.substring(at);
        String name = rest.replaceFirst("(?s)[^a-z].*", "");
        String number = rest.replaceFirst("(?s)[^0-9].*", "");
        if (!name.isEmpty()) {
            return name;
        }
        if (!number.isEmpty()) {
            return number;
        }
        return rest.isEmpty() ? "" : rest.substring(0, 1);
    }

    private void take(String what) throws Fault {
        if (!peek().equals(what)) {
            throw new Fault(at);
        }
        at += what.length();
    }

    private int oneOf(List<String> words) throws Fault {
        String word = peek();
        if (!words.contains(word)) {
            throw new Fault(at);
        }
        take(word);
        return words.indexOf(word);
    }

    private PlainCoast.Cond cond(int opens) throws Fault {
        PlainCoast.Cond left = all(opens);
        if (peek().equals("or")) {
            take("or");
            PlainCoast.Cond right = cond(opens);
            return facts -> left.holds(facts) || right.holds(facts);
        }
        return left;
    }

    private PlainCoast.Cond all(int opens) throws Fault {
        PlainCoast.Cond left = one(opens);
        if (peek().equals("and")) {
            take("and");
            PlainCoast.Cond right = all(opens);
            return facts -> left.holds(facts) && right.holds(facts);
        }
        return left;
    }

    private PlainCoast.Cond one(int opens) throws Fault {
        if (peek().equals("not")) {
            take("not");
            PlainCoast.Cond turned = one(opens);
            return facts -> !turned.holds(facts);
        }
        if (peek().equals("(")) {
            if (opens == 0) {
                throw new Fault(at);
            }
            take("(");
            PlainCoast.Cond inner = cond(opens - 1);
            take(")");
            return inner;
        }
        PlainCoast.Value left = value();
        int sign = oneOf(List.of("<", "=", ">")) - 1;
        PlainCoast.Value right = value();
        return facts -> Integer.compare(left.of(facts), right.of(facts)) == sign;
    }

    private PlainCoast.Value value() throws Fault {
        String word = peek();
        if (word.matches("[0-9]{1,4}")) {
            int number = Integer.parseInt(word);
            take(word);
            return facts -> number;
        }
        int fact = oneOf(FACTS);
        return facts -> facts[fact];
    }
}
