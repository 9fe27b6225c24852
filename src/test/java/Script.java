import java.lang.reflect.InvocationTargetException;
import java.lang.reflect.Method;

/**
 * Runs lines such as: take 1 8 -> 5; town "chance 5" -> 1 (the text goes onto the TAPE first, {9} in it is byte 9);
 * tape "bar" (onto the TAPE alone); new. Each script is run a second time without the calls that throw: as these
 * change nothing but the TAPE, all other answers are to be the same.
 */
final class Script {
    private static final int MOST_CALLS = 512;

    private final Class<?> kind;
    private Object object;
    private int calls = 0;
    private int wrong = 0;
    private boolean withThrows = true;

    Script(Class<?> kind) {
        this.kind = kind;
    }

    int wrongAnswers() {
        return wrong;
    }

    void play(String name, String lines) {
        withThrows = true;
        playOnce(name, lines);
        withThrows = false;
        playOnce(name + " (without the calls that throw)", lines);
    }

    private void playOnce(String name, String lines) {
        make();
        for (String line : lines.split("\n")) {
            String text = line.trim();
            if (text.equals("new")) {
                make();
            } else if (text.startsWith("tape ")) {
                feed(quoted(text));
            } else if (!text.isEmpty() && !text.startsWith("#")) {
                playLine(name, text);
            }
        }
    }

    private void playLine(String name, String text) {
        int arrow = text.lastIndexOf("->");
        String call = text.substring(0, arrow).trim();
        String due = text.substring(arrow + 2).trim();
        if (!withThrows && due.endsWith("Exception")) {
            if (usesTape(call)) {
                invoke("end", 0);
            }
            return;
        }
        String got = answer(call);
        // Without the texts that were wrong the first wrong byte is another one.
        boolean matters = withThrows || !call.equals("fault");
        if (matters && !got.equals(due)) {
            wrong++;
            System.out.println(name + ": " + text + " (answered " + got + ")");
        }
        if (calls > MOST_CALLS) {
            wrong++;
            System.out.println(name + ": more than 512 calls on one object at " + text);
        }
    }

    private static boolean usesTape(String call) {
        return call.startsWith("town") || call.startsWith("law")
                || call.startsWith("thieves") || call.startsWith("seen");
    }

    private void make() {
        calls = 0;
        try {
            object = kind.getDeclaredConstructor().newInstance();
        } catch (ReflectiveOperationException e) {
            throw new IllegalStateException(e);
        }
    }

    private static String quoted(String text) {
        String inside = text.substring(text.indexOf('"') + 1, text.lastIndexOf('"'));
        StringBuilder bytes = new StringBuilder();
        for (int i = 0; i < inside.length(); i++) {
            if (inside.charAt(i) == '{') {
                int end = inside.indexOf('}', i);
                bytes.append((char) Integer.parseInt(inside.substring(i + 1, end)));
                i = end;
            } else {
                bytes.append(inside.charAt(i));
            }
        }
        return bytes.toString();
    }

    private String answer(String call) {
        int quote = call.indexOf('"');
        if (quote >= 0) {
            feed(quoted(call));
            return invoke(call.substring(0, quote).trim());
        }
        String[] words = call.split(" +");
        if (words.length > 1 && usesTape(call)) {
            StringBuilder bytes = new StringBuilder();
            for (int i = 1; i < words.length; i++) {
                bytes.append((char) Integer.parseInt(words[i]));
            }
            feed(bytes.toString());
            return invoke(words[0]);
        }
        Object[] args = new Object[words.length - 1];
        for (int i = 1; i < words.length; i++) {
            boolean truth = words[i].equals("true") || words[i].equals("false");
            args[i - 1] = truth ? (Object) Boolean.valueOf(words[i]) : (Object) Integer.valueOf(words[i]);
        }
        return invoke(words[0], args);
    }

    private void feed(String text) {
        invoke("end", 0);
        for (int i = 0; i < text.length(); i += 20) {
            int[] five = new int[5];
            for (int k = 0; k < 20; k++) {
                five[k / 4] = five[k / 4] << 8 | (i + k < text.length() ? text.charAt(i + k) : 0);
            }
            invoke("feed", five[0], five[1], five[2], five[3], five[4]);
        }
        invoke("end", text.length());
    }

    private String invoke(String name, Object... args) {
        calls++;
        try {
            for (Method method : kind.getMethods()) {
                if (method.getName().equals(name) && method.getParameterCount() == args.length) {
                    return String.valueOf(method.invoke(object, args));
                }
            }
            throw new IllegalStateException("no method " + name);
        } catch (InvocationTargetException e) {
            return e.getCause().getClass().getSimpleName();
        } catch (IllegalAccessException e) {
            throw new IllegalStateException(e);
        }
    }
}
