import java.lang.reflect.InvocationTargetException;
import java.lang.reflect.Method;
import java.util.ArrayList;
import java.util.Arrays;
import java.util.List;
import java.util.Random;
import java.util.TreeMap;

/** Long runs of chosen calls on HourLets and on Model; each answer of the one is held against the other's. */
public final class ModelTest {
    private final Random random;
    private final HourLets x = new HourLets();
    private final Model model = new Model();
    private final List<String> told = new ArrayList<>();
    private int calls = 0;
    private boolean same = true;
    private static final TreeMap<String, Integer> KINDS = new TreeMap<>();

    private ModelTest(long seed) {
        random = new Random(seed);
    }

    public static void main(String[] args) {
        int runs = args.length > 0 ? Integer.parseInt(args[0]) : 400;
        long seed = args.length > 1 ? Long.parseLong(args[1]) : 1;
        for (int i = 0; i < runs; i++) {
            ModelTest test = new ModelTest(seed * 1000003 + i);
            test.go();
            if (!test.same) {
                System.out.println("run " + i + " of seed " + seed);
                int from = Math.max(0, test.told.size() - 40);
                test.told.subList(from, test.told.size()).forEach(System.out::println);
                System.exit(1);
            }
        }
        if (args.length > 2) {
            KINDS.forEach((k, v) -> System.out.println(k + " " + v));
        }
        System.out.println("all answers are as due");
    }

    private static String call(Object object, String name, Object... args) {
        try {
            for (Method method : object.getClass().getMethods()) {
                if (method.getName().equals(name)) {
                    Object answer = method.invoke(object, args);
                    return String.valueOf(answer);
                }
            }
            throw new IllegalStateException("no method " + name);
        } catch (InvocationTargetException e) {
            return "throws." + e.getCause().getClass().getSimpleName();
        } catch (IllegalAccessException e) {
            throw new IllegalStateException(e);
        }
    }

    private String both(String name, Object... args) {
        String got = call(x, name, args);
        String want = call(model, name, args);
        calls++;
        String line = name + Arrays.toString(args) + " answered " + got;
        KINDS.merge(name + (got.startsWith("throws") ? " " + got : got.equals("-1") ? " NONE" : ""), 1, Integer::sum);
        if (!got.equals(want)) {
            same = false;
            line += ", due is " + want;
        }
        told.add(line);
        return got;
    }

    private void feed(String text) {
        both("end", 0);
        int[] b = new int[text.length() + 20];
        for (int i = 0; i < text.length(); i++) {
            b[i] = text.charAt(i);
        }
        for (int i = 0; i < text.length(); i += 20) {
            Object[] five = new Object[5];
            for (int k = 0; k < 5; k++) {
                int at = i + 4 * k;
                five[k] = b[at] << 24 | b[at + 1] << 16 | b[at + 2] << 8 | b[at + 3];
            }
            both("feed", five);
        }
        both("end", text.length());
        told.add("tape: " + text);
    }

    private int upTo(int n) {
        return random.nextInt(n + 1);
    }

    private boolean oneIn(int n) {
        return random.nextInt(n) == 0;
    }

    private int tenants() {
        return model.count(0);
    }

    /** Numbers at which an int's own arithmetic goes wrong. */
    private int extreme() {
        int[] all = {Integer.MIN_VALUE, Integer.MIN_VALUE + 1, -2, Integer.MAX_VALUE - 1, Integer.MAX_VALUE, 256, 1 << 16};
        return all[upTo(all.length - 1)];
    }

    private int tenant() {
        return oneIn(300) ? extreme() : oneIn(40) ? upTo(12) - 1 : tenants() == 0 ? 0 : upTo(tenants() - 1);
    }

    private int room() {
        if (oneIn(60)) {
            return oneIn(3) ? extreme() : oneIn(2) ? -1 : 168;
        }
        if (oneIn(3)) {
            return upTo(167);
        }
        // A room that somebody has, or one beside: there most happens.
        int t = tenant();
        if (t < 0 || t >= tenants()) {
            return upTo(167);
        }
        int r = model.roomOf(t, upTo(6), random.nextBoolean());
        return r < 0 ? upTo(167) : oneIn(2) ? r : Math.floorMod(r + upTo(2) - 1, 168);
    }

    private int someSublet() {
        int from = upTo(167);
        for (int i = 0; i < 168 && !oneIn(50); i++) {
            int r = (from + i) % 168;
            if (model.room(r, 0) != model.room(r, 1)) {
                return r;
            }
        }
        return room();
    }

    private int loggedRoom() {
        int r = model.log(upTo(5), 1);
        return r < 0 || oneIn(9) ? room() : r;
    }

    private int number(int low, int high) {
        return oneIn(120) ? extreme() : oneIn(25) ? (oneIn(2) ? low - 1 : high + 1) : low + upTo(high - low);
    }

    private String n(int low, int high) {
        int v = oneIn(60) ? high + 1 : low + upTo(high - low);
        return oneIn(30) ? "0" + v : String.valueOf(v);
    }

    private String hours() {
        int a = upTo(23);
        int b = oneIn(60) ? upTo(23) : Math.min(23, a + upTo(oneIn(4) ? 23 : 5));
        return a + " to " + b;
    }

    private String townLine(int people) {
        int most = Math.max(0, people - 1);
        switch (random.nextInt(16)) {
            case 0:
            case 1:
                return "tenant " + (oneIn(3) ? upTo(9999) : upTo(150)) + " likes " + hours();
            case 2:
                return "child of " + upTo(most);
            case 3:
                return "goods " + n(0, 6) + " " + n(0, 23) + " " + n(0, 99);
            case 4:
                return "shut " + n(0, 6) + " " + n(0, 23);
            case 5:
            case 6:
                return "sub " + n(0, 6) + " " + n(0, 23) + " " + upTo(most);
            case 7:
            case 8:
                return "want " + upTo(most) + " " + n(1, 20) + " from " + hours();
            case 9:
                return "chance " + n(0, 100);
            default:
                return "let " + n(0, 6) + " " + hours() + " " + upTo(most);
        }
    }

    /** Lines that the town would take, mostly: each is tried on a model of its own first. */
    private String townText() {
        StringBuilder text = new StringBuilder();
        int lines = oneIn(20) ? 15 : upTo(14);
        int people = tenants();
        for (int i = 0; i < lines; i++) {
            String line = townLine(people);
            people += line.startsWith("tenant") || line.startsWith("child") ? 1 : 0;
            text.append(text.length() == 0 ? "" : oneIn(5) ? " ; " : ";").append(line);
        }
        return spoil(text.toString(), "tenat child of let goods shut sub want chance ; 0123456789 likes to from");
    }

    private String sum(int depth) {
        String[] parts = {"day", "hour", "coins", "rooms", "goods", "week"};
        StringBuilder text = new StringBuilder();
        int many = 1 + (oneIn(4) ? upTo(2) : 0);
        for (int i = 0; i < many; i++) {
            int most = oneIn(3) ? 200 : 20;
            text.append(i == 0 ? "" : oneIn(3) ? " + " : "+").append(oneIn(3) ? n(0, most) : parts[upTo(5)]);
        }
        return text.toString();
    }

    private String condition(int depth) {
        switch (random.nextInt(depth > 7 ? 5 : 10)) {
            case 0:
                return "likes";
            case 1:
                return "beside";
            case 2:
            case 3:
                return sum(depth) + "<" + sum(depth);
            case 4:
                return sum(depth) + " > " + sum(depth);
            case 5:
                return "not " + condition(depth + 1);
            case 6:
                return "(" + condition(depth + 1) + ")";
            case 7:
                return condition(depth + 2) + " or " + condition(depth + 2);
            default:
                return condition(depth + 2) + " and " + condition(depth + 2);
        }
    }

    private String lawText() {
        StringBuilder text = new StringBuilder();
        int lines = oneIn(20) ? 13 : upTo(9);
        for (int i = 0; i < lines; i++) {
            String kind = oneIn(3) ? "bar" : oneIn(2) ? "rent " + upTo(oneIn(9) ? 999 : 20) : "value " + upTo(9);
            boolean all = !kind.equals("bar") && oneIn(4);
            text.append(i == 0 ? "" : ";").append(kind).append(all ? "" : " if " + condition(0));
        }
        String whole = text.toString();
        if (whole.length() > 400 && !oneIn(6)) {
            int last = whole.lastIndexOf(';', 400);
            whole = last < 0 ? "" : whole.substring(0, last);
        }
        return spoil(whole, "bar rent value if likes beside not ( ) and or < > + day hour ; 0123456789");
    }

    private String spoil(String text, String signs) {
        StringBuilder b = new StringBuilder(text);
        int many = oneIn(3) ? 1 + upTo(1) : 0;
        for (int i = 0; i < many; i++) {
            int at = upTo(b.length());
            char sign = oneIn(8) ? (char) upTo(255) : signs.charAt(upTo(signs.length() - 1));
            switch (random.nextInt(5)) {
                case 0:
                    b.insert(at, sign);
                    break;
                case 1:
                    b.insert(at, ' ');
                    break;
                case 2:
                    b.setLength(at);
                    break;
                default:
                    if (at < b.length()) {
                        b.setCharAt(at, sign);
                    }
            }
        }
        if (b.length() > 400) {
            b.setLength(400);
        }
        return b.toString();
    }

    private void town() {
        String text = townText();
        // A wrong line is thrown out of most texts, so that towns grow.
        for (int i = 0; i < 15 && !oneIn(8); i++) {
            Model trial = new Model();
            copyTown(trial);
            int at = faultOf(trial, text);
            if (at < 0) {
                break;
            }
            int from = text.lastIndexOf(';', Math.min(at, text.length() - 1));
            int to = text.indexOf(';', at);
            text = (from < 0 ? "" : text.substring(0, from))
                    + (to < 0 ? "" : from < 0 ? text.substring(to + 1) : text.substring(to));
        }
        feed(text);
        both("town");
        both("fault");
    }

    private void copyTown(Model trial) {
        try {
            java.lang.reflect.Field field = Model.class.getDeclaredField("s");
            field.setAccessible(true);
            field.set(trial, ((Model.State) field.get(model)).copy());
        } catch (ReflectiveOperationException e) {
            throw new IllegalStateException(e);
        }
    }

    private static int faultOf(Model trial, String text) {
        for (int i = 0; i < text.length(); i += 20) {
            int[] five = new int[5];
            for (int k = 0; k < 20; k++) {
                int c = i + k < text.length() ? text.charAt(i + k) : 0;
                five[k / 4] = five[k / 4] << 8 | c;
            }
            trial.feed(five[0], five[1], five[2], five[3], five[4]);
        }
        trial.end(text.length());
        try {
            trial.town();
        } catch (IllegalArgumentException | UnsupportedOperationException e) {
            return trial.fault();
        }
        return -1;
    }

    private void law() {
        feed(lawText());
        both("law");
        both("fault");
    }

    private void someBytes() {
        boolean thieves = random.nextBoolean();
        StringBuilder text = new StringBuilder();
        int base = room();
        int many = upTo(4);
        for (int i = 0; i < many; i++) {
            int r = thieves && oneIn(2) ? base + upTo(3) : room();
            text.append((char) (oneIn(30) ? upTo(255) : Math.floorMod(r, 168)));
            if (!thieves && !oneIn(30)) {
                int who = model.room(text.charAt(text.length() - 1) % 168, 1);
                text.append((char) (97 + (oneIn(3) || who < 0 ? tenant() : who)));
            }
        }
        feed(text.toString());
        both(thieves ? "thieves" : "seen");
    }

    private void go() {
        if (oneIn(6)) {
            settleInARing();
        } else if (!oneIn(10)) {
            settle();
        }
        int texts = oneIn(12) ? 13 : upTo(4);
        for (int i = 0; i < texts && same; i++) {
            town();
        }
        if (random.nextBoolean()) {
            law();
        }
        int steps = 60 + upTo(200);
        for (int i = 0; i < steps && same; i++) {
            step();
        }
    }

    /** A text that stands: some tenants who have rooms close to one another. */
    private void settle() {
        StringBuilder text = new StringBuilder();
        int many = 2 + upTo(4);
        for (int t = 0; t < many; t++) {
            text.append(t == 0 ? "" : ";").append("tenant ").append(50 + upTo(900)).append(" likes ").append(hours());
        }
        if (oneIn(2)) {
            text.append(";child of ").append(upTo(many - 1));
        }
        int hour = 0;
        int day = upTo(6);
        for (int i = 0; i < 6 && hour < 24; i++) {
            int to = Math.min(23, hour + upTo(3));
            text.append(";let ").append(day).append(' ').append(hour).append(" to ").append(to).append(' ')
                    .append(upTo(many - 1));
            hour = to + 1 + (oneIn(3) ? 1 : 0);
        }
        feed(text.toString());
        both("town");
    }

    /** Each tenant likes hours that the next one has, so that there are rings to be turned. */
    private void settleInARing() {
        int many = 2 + upTo(3);
        StringBuilder text = new StringBuilder();
        for (int t = 0; t < many; t++) {
            int next = (t + 1) % many * 4 + upTo(1);
            text.append(t == 0 ? "" : ";").append("tenant 300 likes ").append(next).append(" to ").append(next + upTo(2));
        }
        for (int t = 0; t < many; t++) {
            text.append(";let ").append(upTo(6)).append(' ').append(4 * t).append(" to ").append(4 * t + 3)
                    .append(' ').append(t);
        }
        feed(text.toString());
        both("town");
    }

    private void step() {
        switch (random.nextInt(52)) {
            case 0:
                if (oneIn(2)) {
                    town();
                } else {
                    both("feed", random.nextInt(), random.nextInt(), random.nextInt(), random.nextInt(), -1);
                }
                break;
            case 1:
                if (oneIn(3)) {
                    law();
                } else {
                    both("end", oneIn(9) ? extreme() : upTo(420) - 5);
                }
                break;
            case 2:
            case 3:
                both("tenant", tenant(), number(0, 7));
                break;
            case 4:
            case 5:
                both("room", room(), number(0, 5));
                break;
            case 6:
            case 7:
                both("rule", tenant(), room(), number(0, 2));
                break;
            case 8:
                both("roomOf", tenant(), number(0, 9), random.nextBoolean());
                break;
            case 9:
            case 10:
            case 11:
            case 12:
                both("take", tenant(), room());
                break;
            case 13:
                both("leave", room());
                break;
            case 14:
            case 15:
            case 16:
                both("sublet", room(), tenant(), oneIn(3) ? number(0, 999) : number(0, 20));
                break;
            case 17:
                both("ends", someSublet());
                break;
            case 18:
                both("evict", room());
                break;
            case 19:
            case 20:
                int who = tenant();
                int from = who >= 0 && who < tenants() ? model.roomOf(who, upTo(3), true) : room();
                int to = who >= 0 && who < tenants() ? model.roomOf(who, upTo(3), true) : room();
                both("carry", who, oneIn(9) || from < 0 ? room() : from, oneIn(9) || to < 0 ? room() : to,
                        number(1, 99));
                break;
            case 21:
            case 22:
                both("swap", room(), room());
                break;
            case 23:
            case 24:
                both("ticks", oneIn(3) ? 168 : oneIn(2) ? number(1, 400) : upTo(30));
                break;
            case 25:
                both("neighbours", tenant(), tenant(), random.nextBoolean());
                break;
            case 26:
                both("run", tenant(), random.nextBoolean());
                break;
            case 27:
                both("empty", random.nextBoolean());
                break;
            case 28:
                both("wedding", tenant(), tenant());
                break;
            case 29:
                both("court", oneIn(3) ? random.nextInt() : upTo(1023), random.nextBoolean());
                break;
            case 30:
                int many = number(1, 20);
                both("cheap", tenant(), many, oneIn(3) ? NONE : number(0, Math.max(1, Math.min(many, 20)) - 1));
                break;
            case 31:
                if (oneIn(6)) {
                    both("fitted", false);
                    both("fitted", true);
                } else if (oneIn(6)) {
                    for (int r = upTo(5); r < 168; r += 6) {
                        both("given", r);
                    }
                }
                break;
            case 32:
                both("envies", tenant());
                break;
            case 33:
                int bits = oneIn(4) ? upTo(1023) : 1 << upTo(4) | 1 << upTo(4) | (oneIn(2) ? 1 << upTo(9) : 0);
                both("fair", number(0, 6), bits, oneIn(3) ? NONE : number(12, 17));
                break;
            case 34:
            case 35:
                both("ring", tenant(), number(-1, 4));
                break;
            case 36:
            case 37:
                both("turn", tenant());
                break;
            case 38:
                both("soonest", tenant(), tenant());
                break;
            case 39:
                both("heard", tenant(), number(0, 336));
                break;
            case 40:
                both("roomsFor", tenant(), number(1, 24), random.nextBoolean());
                break;
            case 41:
                someBytes();
                break;
            case 42:
                both("changed", room(), number(1, 12), oneIn(2) ? NONE : tenant());
                break;
            case 43:
                both("log", oneIn(3) ? upTo(90) - 1 : number(0, 3), number(0, 3));
                break;
            case 44:
                both("led", loggedRoom(), number(0, 2));
                break;
            case 45:
                both("seed", random.nextInt());
                break;
            case 46:
            case 47:
                for (int i = oneIn(12) ? upTo(14) : upTo(1); i > 0; i--) {
                    both("undo");
                }
                break;
            case 48:
                both("image");
                break;
            case 49:
                if (oneIn(8)) {
                    both("back");
                }
                break;
            default:
                both("count", number(0, 15));
        }
        if (oneIn(12)) {
            for (int what = 0; what < 16; what++) {
                both("count", what);
            }
            for (int r = upTo(6); r < 168; r += 7) {
                both("room", r, 0);
                both("room", r, 1);
                both("room", r, 2);
            }
        }
    }

    private static final int NONE = -1;
}
