import java.lang.reflect.InvocationTargetException;
import java.lang.reflect.Method;

/** Runs lines such as: take 1 8 -> 5; town "chance 5" -> 1 (the text goes onto the TAPE first); new. */
final class Script {
    private final Class<?> kind;
    private Object object;
    private int wrong = 0;

    Script(Class<?> kind) {
        this.kind = kind;
    }

    int wrongAnswers() {
        return wrong;
    }

    void play(String name, String lines) {
        make();
        for (String line : lines.split("\n")) {
            String text = line.trim();
            if (text.equals("new")) {
                make();
            } else if (!text.isEmpty() && !text.startsWith("#")) {
                int arrow = text.lastIndexOf("->");
                String due = text.substring(arrow + 2).trim();
                String got = answer(text.substring(0, arrow).trim());
                if (!got.equals(due)) {
                    wrong++;
                    System.out.println(name + ": " + text + " (answered " + got + ")");
                }
            }
        }
    }

    private void make() {
        try {
            object = kind.getDeclaredConstructor().newInstance();
        } catch (ReflectiveOperationException e) {
            throw new IllegalStateException(e);
        }
    }

    private String answer(String call) {
        int quote = call.indexOf('"');
        if (quote >= 0) {
            feed(call.substring(quote + 1, call.lastIndexOf('"')));
            return invoke(call.substring(0, quote).trim());
        }
        String[] words = call.split(" +");
        if (words[0].equals("thieves") || words[0].equals("seen")) {
            StringBuilder bytes = new StringBuilder();
            for (int i = 1; i < words.length; i++) {
                bytes.append((char) Integer.parseInt(words[i]));
            }
            feed(bytes.toString());
            return invoke(words[0]);
        }
        Object[] args = new Object[words.length - 1];
        for (int i = 1; i < words.length; i++) {
            boolean truth = words[i].equals("true") || words[i].equals("false");
            args[i - 1] = truth ? (Object) Boolean.valueOf(words[i]) : (Object) Integer.valueOf(words[i]);
        }
        return invoke(words[0], args);
    }

    private void feed(String text) {
        invoke("end", 0);
        for (int i = 0; i < text.length(); i += 20) {
            int[] five = new int[5];
            for (int k = 0; k < 20; k++) {
                five[k / 4] = five[k / 4] << 8 | (i + k < text.length() ? text.charAt(i + k) : 0);
            }
            invoke("feed", five[0], five[1], five[2], five[3], five[4]);
        }
        invoke("end", text.length());
    }

    private String invoke(String name, Object... args) {
        try {
            for (Method method : kind.getMethods()) {
                if (method.getName().equals(name) && method.getParameterCount() == args.length) {
                    return String.valueOf(method.invoke(object, args));
                }
            }
            throw new IllegalStateException("no method " + name);
        } catch (InvocationTargetException e) {
            return e.getCause().getClass().getSimpleName();
        } catch (IllegalAccessException e) {
            throw new IllegalStateException(e);
        }
    }
}
