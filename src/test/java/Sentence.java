import java.io.IOException;
import java.nio.charset.StandardCharsets;
import java.nio.file.Files;
import java.nio.file.Path;
import java.util.HashMap;
import java.util.Map;
import java.util.WeakHashMap;
import java.util.regex.Matcher;
import java.util.regex.Pattern;

/**
 * Runs that belong to a sentence of the document. A run is a text of calls with the answers that are due, as in the
 * examples of the document: make(10)=1 put(1,0,4,5)=0. A text in ` ` becomes the whole tray, bytes in | | (hexadecimal)
 * too. An argument or answer is a number, true, false, a character as 'a', or a double or float as 1.5d or 1.5f.
 * An answer that is left out is not looked at. In a text of classes or a query, § marks the place that is due.
 */
final class Sentence {
    private static final String DOCUMENT = plain(document());
    private static final Map<String, java.lang.reflect.Method> FACE = new HashMap<>();
    private static final Pattern PART = Pattern.compile("`([^`]*)`|\\|([0-9a-f ]*)\\||(\\w+)\\(([^()]*)\\)(?:=(\\S+))?");
    private static final int MOST_CALLS = 512;
    private static final Map<ObjectHouse, int[]> CALLS = new WeakHashMap<>();
    private static String sentence = "";
    private static String last = "";
    private static boolean isBeyond;

    static {
        for (java.lang.reflect.Method m : ObjectHouse.class.getDeclaredMethods()) {
            if (java.lang.reflect.Modifier.isPublic(m.getModifiers())) {
                FACE.put(m.getName(), m);
            }
        }
    }

    private Sentence() {
    }

    private static String document() {
        try {
            return Files.readString(Path.of("../shared/DOC.md"), StandardCharsets.UTF_8);
        } catch (IOException e) {
            throw new IllegalStateException("../shared/DOC.md is not there", e);
        }
    }

    private static String plain(String text) {
        return text.replaceAll("\\s+", " ");
    }

    /** The tests that follow are of this sentence, which must stand in the document. */
    static void of(String quoted) {
        isBeyond = false;
        sentence = quoted;
        Check.is("the document says: " + quoted, DOCUMENT.contains(plain(quoted)), true);
    }

    /** Like of, for what cannot be reached with the 512 calls for which an object is meant. */
    static void beyond(String quoted) {
        of(quoted);
        isBeyond = true;
    }

    /** Counts calls, and refuses to make more than an object is meant for. */
    private static void count(ObjectHouse x, int more) {
        int[] calls = CALLS.computeIfAbsent(x, k -> new int[1]);
        calls[0] += more;
        if (calls[0] > MOST_CALLS && !isBeyond) {
            throw new IllegalStateException("[" + sentence + "] makes " + calls[0] + " calls on one object");
        }
    }

    private static void tray(ObjectHouse x, byte[] bytes) {
        count(x, (bytes.length + 19) / 20 + 2);
        Check.tray(x, bytes);
    }

    /** Makes the calls on a new object. */
    static ObjectHouse run(String calls) {
        ObjectHouse x = new ObjectHouse();
        run(x, calls);
        return x;
    }

    /** Makes the calls on an object, up to the first wrong answer. */
    static void run(ObjectHouse x, String calls) {
        Matcher m = PART.matcher(calls);
        int at = 0;
        while (m.find()) {
            if (!calls.substring(at, m.start()).isBlank()) {
                throw new IllegalArgumentException("no call: " + calls.substring(at, m.start()));
            }
            at = m.end();
            if (m.group(1) != null) {
                last = m.group(1);
                tray(x, last.getBytes(StandardCharsets.ISO_8859_1));
            } else if (m.group(2) != null) {
                tray(x, bytes(m.group(2)));
            } else if (!isRight(x, m.group(3), m.group(4), m.group(5))) {
                return;
            }
        }
        if (!calls.substring(at).isBlank()) {
            throw new IllegalArgumentException("no call: " + calls.substring(at));
        }
    }

    private static boolean isRight(ObjectHouse x, String name, String arguments, String due) {
        java.lang.reflect.Method method = FACE.get(name);
        if (method == null) {
            throw new IllegalArgumentException("no method " + name);
        }
        String[] texts = arguments.isBlank() ? new String[0] : arguments.split(",");
        Class<?>[] types = method.getParameterTypes();
        Object[] values = new Object[texts.length];
        for (int i = 0; i < texts.length; i++) {
            long v = number(texts[i].trim());
            values[i] = types[i] == long.class ? (Object) v : (Object) Math.toIntExact(v);
        }
        Object answer;
        count(x, 1);
        try {
            answer = method.invoke(x, values);
        } catch (ReflectiveOperationException e) {
            throw new IllegalStateException(name + "(" + arguments + ")", e);
        }
        if (due == null) {
            return true;
        }
        long got = answer instanceof Boolean b ? b ? 1 : 0 : ((Number) answer).longValue();
        Check.is("[" + sentence + "] " + last + " " + name + "(" + arguments + ")", got, number(due));
        return got == number(due);
    }

    private static long number(String text) {
        if (text.equals("true") || text.equals("false")) {
            return text.equals("true") ? 1 : 0;
        }
        if (text.length() == 3 && text.charAt(0) == '\'') {
            return text.charAt(1);
        }
        if (text.startsWith("0x")) {
            return Long.parseUnsignedLong(text.substring(2), 16);
        }
        if (text.endsWith("d")) {
            return Check.bits(Double.parseDouble(text.substring(0, text.length() - 1)));
        }
        return text.endsWith("f") ? Check.bits(Float.parseFloat(text.substring(0, text.length() - 1))) : Long.parseLong(text);
    }

    private static byte[] bytes(String digits) {
        String d = digits.replace(" ", "");
        byte[] out = new byte[d.length() / 2];
        for (int i = 0; i < out.length; i++) {
            out[i] = (byte) Integer.parseInt(d.substring(2 * i, 2 * i + 2), 16);
        }
        return out;
    }

    /** Hexadecimal digits; an ASCII text stands among them as 'LC;'. */
    static String digits(String text) {
        StringBuilder s = new StringBuilder();
        for (int i = 0; i < text.length(); i++) {
            if (text.charAt(i) == '\'') {
                for (i++; text.charAt(i) != '\''; i++) {
                    s.append(String.format("%02x", (int) text.charAt(i)));
                }
            } else if (text.charAt(i) != ' ') {
                s.append(text.charAt(i));
            }
        }
        return s.toString();
    }

    /** A graph for | |: these bytes, then their checksum. */
    static String graph(String text) {
        String s = digits(text);
        java.util.zip.CRC32 sum = new java.util.zip.CRC32();
        sum.update(bytes(s));
        return "|" + s + String.format("%08x", sum.getValue()) + "|";
    }

    /** The text must be declared, with this number of classes. */
    static ObjectHouse declared(int classes, String text) {
        return run("`" + text + "` declare()=" + classes + " place()=-1");
    }

    /** The text must be refused with this error, at the §. */
    static void refused(int error, String marked) {
        int place = marked.indexOf('\u00a7');
        run("`" + marked.replace("\u00a7", "") + "` declare()=" + -error + " place()=" + place + " kinds()=0");
    }

    /** The query must be refused with this error, at the §. */
    static void refusedQuery(ObjectHouse x, int error, String marked) {
        int place = marked.indexOf('\u00a7');
        run(x, "`" + marked.replace("\u00a7", "") + "` ask(1000)=" + (-20 - error) + " place()=" + place + " steps()=0 end(1)=-1");
    }

    /** The query must be answered with these values in the first column. */
    static void answered(ObjectHouse x, String query, long... due) {
        run(x, "`" + query + "` ask(100000)=" + due.length + " place()=-1");
        for (int i = 0; i < due.length; i++) {
            Check.is("[" + sentence + "] row " + i + " of " + query, x.answer(i, 0), due[i]);
        }
    }

    /** Text with # in it, many times, with the numbers from 0 in the places of the #. */
    static String many(String one, int n) {
        StringBuilder s = new StringBuilder();
        for (int i = 0; i < n; i++) {
            s.append(one.replace("#", "" + i));
        }
        return s.toString();
    }
}
