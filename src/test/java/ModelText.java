import java.util.ArrayList;
import java.util.List;
import java.util.regex.Matcher;
import java.util.regex.Pattern;

/** The texts in the model: all tokens first, then each line by a pattern of what may come. */
final class ModelText {
    private record Token(String text, int place) { }

    private static final Pattern TOKEN = Pattern.compile("[a-z]+|[0-9]+|;|[^ \\n]", Pattern.DOTALL);

    int fault = 0;
    int place = -1;
    final Model.State state = new Model.State();
    private final List<Token> tokens = new ArrayList<>();
    private int next = 0;

    ModelText(String text) {
        Matcher m = TOKEN.matcher(text);
        while (m.find()) {
            tokens.add(new Token(m.group(), m.start()));
        }
        tokens.add(new Token("", text.length()));
        while (fault == 0 && !peek().text.isEmpty()) {
            line();
        }
    }

    private Token peek() {
        return tokens.get(next);
    }

    private void fail(int kind) {
        if (fault == 0) {
            String t = peek().text;
            fault = t.isEmpty() || t.matches("[a-z]+|[0-9]{1,3}|;") ? kind : 1;
            place = peek().place;
        }
    }

    private int number(int low, int high) {
        if (fault == 0 && !peek().text.matches("[0-9]{1,3}")) {
            fail(2);
        }
        if (fault != 0) {
            return 0;
        }
        int n = Integer.parseInt(peek().text);
        if (n < low || n > high) {
            fail(3);
            return 0;
        }
        next++;
        return n;
    }

    private int option(String word, int low, int high, int without) {
        if (fault != 0 || !peek().text.equals(word)) {
            return without;
        }
        next++;
        return number(low, high);
    }

    private void line() {
        int n = state.strips.size();
        String word = peek().text;
        if (!List.of("strip", "lamp", "oil", "bid", "moths", "cross").contains(word)) {
            fail(2);
            return;
        }
        if (word.equals("strip") && n == 16) {
            fail(4);
            return;
        }
        next++;
        switch (word) {
            case "strip" -> {
                Model.Strip s = new Model.Strip();
                s.crop = number(0, 99);
                s.reapers = option("reapers", 0, 9, 2);
                s.tree = option("tree", 0, 30, 0);
                s.farm = option("farm", 0, 5, 0);
                state.strips.add(s);
            }
            case "lamp" -> {
                state.at = option("at", 0, n - 1, 0);
                state.height = option("height", 1, 30, 6);
                state.power = option("power", 0, 20, 6);
                state.fade = option("fade", 0, 9, 1);
            }
            case "oil" -> state.oil = number(0, 999);
            case "bid" -> {
                int f = number(0, 5);
                int bid = number(0, 99);
                state.bids[f] = bid;
            }
            case "moths" -> state.moths = number(0, 100);
            default -> state.cross = number(0, n - 1);
        }
        if (fault == 0 && peek().text.equals(";")) {
            next++;
            state.lines++;
        } else {
            fail(2);
        }
    }
}
