import java.io.IOException;
import java.math.BigInteger;
import java.nio.charset.StandardCharsets;
import java.nio.file.Files;
import java.nio.file.Path;
import java.util.ArrayDeque;
import java.util.ArrayList;
import java.util.Deque;
import java.util.HashMap;
import java.util.HashSet;
import java.util.List;
import java.util.Map;
import java.util.Random;
import java.util.Set;
import java.util.regex.Matcher;
import java.util.regex.Pattern;

/**
 * The grammar is taken from the document itself: texts and queries are made by it and changed a little, and the place
 * of error 1 must be where an Earley recognizer for this grammar finds that the tokens are the beginning of nothing.
 */
public final class GrammarRuns {
    private static final String HOUSE = "class A{int n;A a;int[] is;int f(int i){return i;}}enum B{K,L}";
    private static final String PLAIN = "boolean byte short char int long float double";
    private static final Set<String> KEYWORDS = Set.of(("abstract class extends implements interface default enum record return " + PLAIN + " true false null this "
        + "instanceof in from where order down give exists all count sum").split(" "));
    private static final Pattern TOKEN = Pattern.compile("(?<name>[A-Za-z_][A-Za-z0-9_]*)|(?<number>[0-9]+\\.[0-9]+|[0-9]+L?)|(?<character>'[ -~&&[^'\\\\]]')"
        + "|(?<text>\"[ -~&&[^\"\\\\]]*\")|(?<symbol>>>>|<<|>>|<=|>=|==|!=|&&|\\|\\||[{}()\\[\\],;.?:=+*/%<>!~&^|-])");
    private static final String BAD = "no token";
    // A "(" of a cast and one of an expression are told apart by what stands behind them.
    private static final String CAST = "cast (";
    private static final String OPEN = "open (";

    /** A rule: the symbols that may stand for a name. */
    private record Rule(String name, List<String> symbols) {
    }

    private record Token(String kind, int at) {
    }

    /** A rule that was begun before the token from, and has been followed up to the dot. */
    private record Item(Rule rule, int dot, int from) {
        String next() {
            return dot < rule.symbols.size() ? rule.symbols.get(dot) : null;
        }

        Item advanced() {
            return new Item(rule, dot + 1, from);
        }
    }

    private static final Map<String, List<Rule>> RULES = new HashMap<>();
    private static final Set<String> EMPTY = new HashSet<>();
    private static final Map<String, Integer> LEVELS = new HashMap<>();
    private static final int MANY = 1000;
    private static final Deque<String> SOURCE = new ArrayDeque<>();
    private static int made = 0;

    private GrammarRuns() {
    }

    public static void main(String[] args) throws IOException {
        int n = args.length > 0 ? Integer.parseInt(args[0]) : 3000;
        readGrammar(Files.readString(Path.of("../shared/DOC.md"), StandardCharsets.UTF_8));
        int refused = 0;
        for (int seed = 0; seed < n; seed++) {
            Random r = new Random(seed);
            boolean isQuery = seed % 3 == 0;
            StringBuilder text = new StringBuilder();
            derive(isQuery ? "query" : "text", r, r.nextInt(400), text);
            String changed = r.nextInt(6) == 0 ? text.toString() : changed(text.toString(), r);
            refused += compare(isQuery, changed);
        }
        Check.is("texts are refused and accepted", refused > n / 5 && refused < n * 4 / 5, true);
        Check.end("GrammarRuns");
    }

    private static int compare(boolean isQuery, String text) {
        List<Token> tokens = tokens(text);
        if (mayBeTooDeep(tokens) || !isQuery && hasManyParameters(tokens)) {
            return 0;
        }
        int due = errorPlace(isQuery ? "query" : "text", tokens, typeNames(isQuery ? tokens(HOUSE) : tokens), text.length());
        int limit = isQuery ? limitPlace(tokens, text.length()) : -1;
        due = limit >= 0 && (due < 0 || limit < due) ? limit : due;
        ObjectHouse x = isQuery ? Check.open(HOUSE) : new ObjectHouse();
        Check.tray(x, text);
        int code = isQuery ? x.ask(0) : x.declare();
        boolean isRefused = code == (isQuery ? -21 : -1);
        Check.is("place of error 1 in " + text, isRefused ? x.place() : -1, due);
        return isRefused ? 1 : 0;
    }

    /** Whether an expression might have the depth 31; what makes it deeper is counted too long rather than too short. */
    private static boolean mayBeTooDeep(List<Token> tokens) {
        Deque<Integer> before = new ArrayDeque<>();
        int depth = 1;
        int most = 1;
        for (Token token : tokens) {
            if (token.kind.equals("(") || token.kind.equals("[")) {
                before.push(depth);
            } else if (token.kind.equals(")") || token.kind.equals("]")) {
                depth = before.isEmpty() ? depth : before.pop();
            } else if (token.kind.equals(",") || token.kind.equals(";")) {
                depth = before.isEmpty() ? 1 : before.peek() + 1;
                continue;
            }
            depth += Set.of("(", "[", ")", "?", ":", "-", "!", "~", "exists", "all", "count", "sum").contains(token.kind) ? 1 : 0;
            most = Math.max(most, depth);
        }
        return most > 30;
    }

    private static boolean hasManyParameters(List<Token> tokens) {
        int count = 1;
        int most = 1;
        for (Token token : tokens) {
            count = token.kind.equals("(") ? 1 : token.kind.equals(",") ? count + 1 : count;
            most = Math.max(most, count);
        }
        return most > 8;
    }

    /** The place of the fourth source or the fifth result of a query; -1 if it has not so many. */
    private static int limitPlace(List<Token> tokens, int length) {
        int depth = 0;
        int room = 3;
        for (int i = 0; i < tokens.size(); i++) {
            String kind = tokens.get(i).kind;
            depth += kind.equals("(") || kind.equals("[") ? 1 : kind.equals(")") || kind.equals("]") ? -1 : 0;
            room = kind.equals("give") ? 4 : room;
            if (kind.equals(",") && depth == 0) {
                room--;
                if (room == 0) {
                    return i + 1 < tokens.size() ? tokens.get(i + 1).at : length;
                }
            }
        }
        return -1;
    }

    // ---------- the grammar of the document

    private static void readGrammar(String document) {
        String grammar = document.substring(document.indexOf("  text = {"), document.indexOf("All operators are left-associative"));
        String query = document.substring(document.indexOf("  query = from"), document.indexOf("Each NAME goes through its source"));
        String all = (grammar + query).replace("```", "").replace("(at most 60)", "").replace("(1 to 3 sources, 1 to 4 results)", "")
            .replace("the keyword of a plain type", "PLAIN").replace("character | text |", "character | TEXT |")
            .replace("{ \"[\" \"]\" }", "[ \"[\" \"]\" ".repeat(8) + "]".repeat(8))
            .replace("\"(\" type \")\" unary", "\"" + CAST + "\" type \")\" unary").replace("| \"(\" expression \")\"", "| \"" + OPEN + "\" expression \")\"");
        Matcher m = Pattern.compile("(?:^|\\s)(\\w+) = ").matcher(all);
        List<String> names = new ArrayList<>();
        List<Integer> from = new ArrayList<>();
        List<Integer> to = new ArrayList<>();
        while (m.find()) {
            names.add(m.group(1));
            to.add(m.start());
            from.add(m.end());
        }
        to.add(all.length());
        for (int i = 0; i < names.size(); i++) {
            Matcher parts = Pattern.compile("\"[^\"]+\"|\\w+|[{}()\\[\\]|]").matcher(all.substring(from.get(i), to.get(i + 1)));
            SOURCE.clear();
            while (parts.find()) {
                SOURCE.add(parts.group());
            }
            alternatives(names.get(i));
        }
        for (int before = -1; before < EMPTY.size();) {
            before = EMPTY.size();
            RULES.values().forEach(rules -> rules.stream().filter(rule -> EMPTY.containsAll(rule.symbols)).forEach(rule -> EMPTY.add(rule.name)));
        }
        Check.is("rules of the grammar", names.size(), 22);
        countLevels();
    }

    private static void add(String name, List<String> symbols) {
        RULES.computeIfAbsent(name, k -> new ArrayList<>()).add(new Rule(name, symbols));
    }

    private static String fresh() {
        return "part " + made++;
    }

    /** Reads alternatives up to a closing bracket or the end and makes them rules of this name. */
    private static void alternatives(String name) {
        List<String> symbols = new ArrayList<>();
        while (!SOURCE.isEmpty() && !"])}".contains(SOURCE.peek())) {
            String part = SOURCE.poll();
            if (part.equals("|")) {
                add(name, symbols);
                symbols = new ArrayList<>();
            } else if (part.equals("{") || part.equals("[") || part.equals("(")) {
                symbols.add(bracket(part));
            } else {
                symbols.add(part.startsWith("\"") ? part.substring(1, part.length() - 1) : part);
            }
        }
        add(name, symbols);
    }

    private static String bracket(String opening) {
        String inner = fresh();
        alternatives(inner);
        SOURCE.poll();
        if (opening.equals("(")) {
            return inner;
        }
        String outer = fresh();
        add(outer, List.of());
        add(outer, opening.equals("{") ? List.of(outer, inner) : List.of(inner));
        return outer;
    }

    // ---------- texts made by the grammar

    /** Adds a text for this symbol; when it has become long enough, only what ends soonest. */
    private static void derive(String symbol, Random r, int length, StringBuilder out) {
        if (!RULES.containsKey(symbol)) {
            out.append(word(symbol, r)).append(r.nextInt(4) == 0 ? "\n" : " ");
            return;
        }
        List<Rule> rules = new ArrayList<>(RULES.get(symbol));
        if (out.length() > length) {
            rules.removeIf(rule -> levels(rule) >= LEVELS.get(symbol));
        }
        for (String s : rules.get(r.nextInt(rules.size())).symbols) {
            derive(s, r, length, out);
        }
    }

    /** How many levels of rules it takes at least to come to tokens. */
    private static int levels(Rule rule) {
        return rule.symbols.stream().mapToInt(s -> RULES.containsKey(s) ? LEVELS.getOrDefault(s, MANY) : 0).max().orElse(0);
    }

    private static void countLevels() {
        for (int n = 0; n < RULES.size(); n++) {
            RULES.forEach((name, rules) -> LEVELS.put(name, rules.stream().mapToInt(GrammarRuns::levels).min().orElse(MANY) + 1));
        }
    }

    private static String word(String symbol, Random r) {
        switch (symbol) {
            case "NAME": return any(r, "a A B b n f x Object Text length number at");
            case "number": return any(r, "0 1 7L 2.5 2147483647 9223372036854775807L 12345678901234.5");
            case "character": return any(r, "'a' '~'");
            case "TEXT": return any(r, "\"\" \"t\" \"(){}\"");
            case "PLAIN": return any(r, PLAIN);
            case CAST: case OPEN: return "(";
            default: return symbol;
        }
    }

    private static String any(Random r, String words) {
        String[] all = words.split(" ");
        return all[r.nextInt(all.length)];
    }

    private static String changed(String text, Random r) {
        StringBuilder s = new StringBuilder(text);
        for (int n = 1 + r.nextInt(2); n > 0; n--) {
            int at = r.nextInt(s.length() + 1);
            int to = Math.min(s.length(), at + r.nextInt(7));
            String part = any(r, "{ } ( ) [ ] , ; . ? : = + - * / % < > ! ~ & ^ | << >> >>> <= >= == != && || [] () (A) (int) (a)") + " ";
            String word = any(r, String.join(" ", KEYWORDS) + " a A B Object Text 1 2.5 1.2.3 2147483648 9223372036854775808L 1234567890123456.5 'a' '' \"t\" \" ' # \\ @ "
                + "a234567890123456789012345678901 a23456789012345678901234567890");
            s.replace(at, r.nextBoolean() ? at : to, r.nextInt(5) == 0 ? "" : r.nextBoolean() ? part : " " + word + " ");
        }
        return s.toString();
    }

    // ---------- tokens, as section 2 tells them

    private static List<Token> tokens(String text) {
        List<Token> tokens = new ArrayList<>();
        Matcher m = TOKEN.matcher(text);
        for (int at = 0; at < text.length();) {
            if (" \t\n\r".indexOf(text.charAt(at)) >= 0) {
                at++;
                continue;
            }
            m.region(at, text.length());
            String kind = m.lookingAt() ? kindOf(m) : BAD;
            tokens.add(new Token(kind, at));
            if (kind.equals(BAD)) {
                break;
            }
            at = m.end();
        }
        return tokens;
    }

    private static String kindOf(Matcher m) {
        String s = m.group();
        if (m.group("name") != null) {
            return s.length() > 30 ? BAD : KEYWORDS.contains(s) ? s : "NAME " + s;
        }
        if (m.group("number") != null) {
            return isNumber(s) ? "number" : BAD;
        }
        if (m.group("text") != null) {
            return s.length() > 102 ? BAD : "TEXT";
        }
        return m.group("character") != null ? "character" : s;
    }

    private static boolean isNumber(String s) {
        if (s.contains(".")) {
            return s.length() <= 16;
        }
        BigInteger value = new BigInteger(s.replace("L", ""));
        return value.compareTo(BigInteger.valueOf(s.endsWith("L") ? Long.MAX_VALUE : Integer.MAX_VALUE)) <= 0;
    }

    private static Set<String> typeNames(List<Token> tokens) {
        Set<String> names = new HashSet<>(Set.of("NAME Object", "NAME Text"));
        for (int i = 1; i < tokens.size(); i++) {
            if (Set.of("class", "interface", "enum", "record").contains(tokens.get(i - 1).kind) && tokens.get(i).kind.startsWith("NAME ")) {
                names.add(tokens.get(i).kind);
            }
        }
        return names;
    }

    // ---------- the recognizer

    /** The place of the first token with which the tokens are no beginning; -1 if they are a whole text. */
    private static int errorPlace(String start, List<Token> tokens, Set<String> typeNames, int length) {
        List<Set<Item>> sets = new ArrayList<>();
        Set<Item> current = new HashSet<>();
        for (Rule rule : RULES.get(start)) {
            current.add(new Item(rule, 0, 0));
        }
        for (int i = 0; i <= tokens.size(); i++) {
            sets.add(current);
            complete(sets, i);
            if (i == tokens.size()) {
                boolean isWhole = current.stream().anyMatch(item -> item.from == 0 && item.rule.name.equals(start) && item.next() == null);
                return isWhole ? -1 : length;
            }
            Set<Item> following = new HashSet<>();
            for (Item item : current) {
                if (item.next() != null && matches(item.next(), tokens, i, typeNames)) {
                    following.add(item.advanced());
                }
            }
            if (following.isEmpty()) {
                return tokens.get(i).at;
            }
            current = following;
        }
        return -1;
    }

    /** Adds what may begin behind token i, and what is whole there. */
    private static void complete(List<Set<Item>> sets, int i) {
        Set<Item> current = sets.get(i);
        Deque<Item> open = new ArrayDeque<>(current);
        while (!open.isEmpty()) {
            Item item = open.poll();
            List<Item> more = new ArrayList<>();
            if (item.next() == null) {
                for (Item waiting : new ArrayList<>(sets.get(item.from))) {
                    if (item.rule.name.equals(waiting.next())) {
                        more.add(waiting.advanced());
                    }
                }
            } else if (RULES.containsKey(item.next())) {
                for (Rule rule : RULES.get(item.next())) {
                    more.add(new Item(rule, 0, i));
                }
                if (EMPTY.contains(item.next())) {
                    more.add(item.advanced());
                }
            }
            for (Item added : more) {
                if (current.add(added)) {
                    open.add(added);
                }
            }
        }
    }

    private static boolean matches(String symbol, List<Token> tokens, int i, Set<String> typeNames) {
        String kind = tokens.get(i).kind;
        String behind = i + 1 < tokens.size() ? tokens.get(i + 1).kind : "";
        boolean isCast = isPlain(behind) || typeNames.contains(behind);
        switch (symbol) {
            case "NAME": return kind.startsWith("NAME ");
            case "PLAIN": return isPlain(kind);
            case CAST: return kind.equals("(") && isCast;
            case OPEN: return kind.equals("(") && !isCast;
            default: return kind.equals(symbol);
        }
    }

    private static boolean isPlain(String kind) {
        return !kind.isEmpty() && (" " + PLAIN + " ").contains(" " + kind + " ");
    }
}
