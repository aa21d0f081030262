import java.lang.reflect.InvocationTargetException;
import java.lang.reflect.Method;
import java.util.ArrayList;
import java.util.List;
import java.util.Map;
import java.util.Random;
import java.util.TreeMap;

/** Runs of drawn calls (always the same) on LentNames and on PlainTown: both must answer alike. */
public final class ModelTest {
    private static final int RUNS = Integer.getInteger("runs", 160);
    private static final int MOST_CALLS = 512;
    private static final long SEED = Long.getLong("seed", 1);
    private static final List<Method> QUERIES = new ArrayList<>();
    private static final Map<String, Method> OF_REAL = new TreeMap<>();
    private static final Map<String, Method> OF_MODEL = new TreeMap<>();
    private static final Map<String, Integer> SEEN = new TreeMap<>();
    private static int wrong = 0;

    private final Random random;
    private final LentNames real = new LentNames();
    private final PlainTown model = new PlainTown();
    private final List<String> log = new ArrayList<>();
    private int people = 4;

    private ModelTest(long seed) {
        random = new Random(seed);
    }

    public static void main(String[] args) throws Exception {
        for (Method m : LentNames.class.getDeclaredMethods()) {
            if (java.lang.reflect.Modifier.isPublic(m.getModifiers())) {
                OF_REAL.put(m.getName(), m);
                OF_MODEL.put(m.getName(), PlainTown.class.getDeclaredMethod(m.getName(), m.getParameterTypes()));
                if (!List.of("feed", "end", "tell", "custom", "people", "image", "back").contains(m.getName())) {
                    QUERIES.add(m);
                }
            }
        }
        QUERIES.sort((a, b) -> a.getName().compareTo(b.getName()));
        for (int run = 0; run < RUNS && wrong < 5; run++) {
            new ModelTest(SEED * 1000003 + run).go();
        }
        if (Boolean.getBoolean("talk")) {
            SEEN.forEach((k, v) -> System.out.println(k + " " + v));
        }
        System.exit(wrong == 0 ? 0 : 1);
    }

    private void go() throws Exception {
        int before = wrong;
        if (random.nextBoolean()) {
            call("people", random.nextInt(7) + 1);
            people = model.facts.n;
        }
        // A text takes up to 23 calls: with more than 470 no other one is begun.
        while (log.size() < MOST_CALLS - 42 && wrong == before) {
            change();
            for (int k = 0; k < 10 && wrong == before; k++) {
                query();
            }
        }
        while (log.size() < MOST_CALLS && wrong == before) {
            query();
        }
        if (wrong != before) {
            log.forEach(System.out::println);
            System.out.println("----");
        }
    }

    private void change() throws Exception {
        int what = random.nextInt(20);
        if (what < 9) {
            text(townText());
            call("tell");
            call("fault");
        } else if (what < 13) {
            text(customText());
            call("custom");
            call("fault");
        } else if (what < 14) {
            call("image");
        } else if (what < 15) {
            call("back");
        } else if (what < 16) {
            call("people", random.nextInt(8));
            people = model.facts.n;
        } else if (model.facts.letters.size() > 0) {
            call("wish", random.nextInt(model.facts.letters.size()), random.nextInt(people + 1) - 1);
        } else {
            call("purse", random.nextInt(people), random.nextInt(1200));
        }
    }

    private void text(String text) throws Exception {
        for (int from = 0; from == 0 || from < text.length(); from += 20) {
            int[] n = new int[5];
            for (int k = 0; k < 20; k++) {
                int b = from + k < text.length() ? text.charAt(from + k) : random.nextInt(256);
                n[k / 4] = n[k / 4] << 8 | b;
            }
            call("feed", n[0], n[1], n[2], n[3], n[4]);
        }
        call("end", text.length() > 400 ? 400 : text.length());
    }

    private void query() throws Exception {
        Method m = QUERIES.get(random.nextInt(QUERIES.size()));
        Class<?>[] types = m.getParameterTypes();
        Object[] args = new Object[types.length];
        for (int k = 0; k < args.length; k++) {
            args[k] = types[k] == boolean.class ? (Object) random.nextBoolean() : (Object) number(m.getName(), k);
        }
        call(m.getName(), args);
    }

    private int number(String call, int k) {
        int odd = random.nextInt(40);
        if (odd == 0) {
            return List.of(-1, -2, -3, 12, 13, 20, 10000, Integer.MAX_VALUE, Integer.MIN_VALUE, 6).get(random.nextInt(10));
        }
        switch (call) {
            case "look": return k == 0 ? random.nextInt(Math.max(1, model.facts.loans.size())) : random.nextInt(8);
            case "letter": return k == 0 ? random.nextInt(Math.max(1, model.facts.letters.size())) : random.nextInt(3);
            case "wish": return k == 0 ? random.nextInt(Math.max(1, model.facts.letters.size())) : random.nextInt(people + 1) - 1;
            case "pays": case "meets": return random.nextInt(Math.max(1, model.facts.debts.size()));
            case "can": return random.nextInt(Math.max(1, model.facts.sightings.size()));
            case "plan": return k == 0 ? random.nextInt(13) : random.nextInt(5) - 1;
            case "secrets": return k == 0 ? random.nextInt(12) : random.nextInt(5) - 2;
            case "purse": return k == 0 ? random.nextInt(people) : random.nextInt(1200);
            case "liars": case "rich": return random.nextInt(12);
            case "count": return random.nextInt(13);
            default: return k == 0 || call.equals("borne") ? random.nextInt(people) : k == 2 ? random.nextInt(5) : random.nextInt(12);
        }
    }

    private void call(String name, Object... args) throws Exception {
        String got = answer(OF_REAL.get(name), real, args);
        String due = answer(OF_MODEL.get(name), model, args);
        log.add(name + java.util.Arrays.toString(args) + " answered " + got + ", by the model " + due);
        String kind = name.equals("plan") || name.equals("secrets") ? name + " " + (due.length() < 4 ? due : "loan") : name;
        SEEN.merge(due.startsWith("throws") ? name + " " + due : kind, 1, Integer::sum);
        if (!got.equals(due)) {
            wrong++;
        }
    }

    private static String answer(Method m, Object on, Object[] args) throws Exception {
        m.setAccessible(true);
        try {
            return String.valueOf(m.invoke(on, args));
        } catch (InvocationTargetException e) {
            return "throws." + e.getCause().getClass().getSimpleName();
        }
    }

    // ---- texts ----

    private String townText() {
        int lines = random.nextInt(8) == 0 ? random.nextInt(16) : random.nextInt(5) + 1;
        List<String> all = new ArrayList<>();
        int loans = model.facts.loans.size();
        for (int k = 0; k < lines; k++) {
            String line = townLine(loans);
            if (line.startsWith("lend")) {
                loans++;
            }
            all.add(line);
        }
        return spoil(String.join(random.nextInt(4) == 0 ? " ; " : ";", all));
    }

    private String townLine(int loans) {
        int d = random.nextInt(random.nextInt(3) == 0 ? 12 : 6);
        int e = Math.min(11, d + random.nextInt(6));
        int what = random.nextInt(14);
        if (what < 5) {
            return "lend " + someone() + " to " + someone() + " day " + d + " for " + (1 + random.nextInt(random.nextInt(3) == 0 ? 12 : 5))
                + (random.nextInt(3) > 0 ? " on" : "") + (random.nextBoolean() ? " pledge " + random.nextInt(60) : "");
        }
        switch (what) {
            case 5: return loans == 0 ? "court day " + d : "late " + random.nextInt(loans) + " by " + (1 + random.nextInt(6));
            case 6: return random.nextInt(2) == 0 ? "dies " + someone() + " day " + random.nextInt(12) : "court day " + random.nextInt(12);
            case 7: return "court day " + random.nextInt(12);
            case 8: case 9: return "letter " + someone() + " day " + d + " read " + e;
            case 10: return "debt name " + someone() + " day " + d + " judged " + e + " of " + random.nextInt(1000);
            case 11: return "debt body " + someone() + " day " + d + " judged " + e + " of " + random.nextInt(1000);
            default:
                StringBuilder s = new StringBuilder("seen " + someone() + " day " + d + " as " + someone());
                while (random.nextInt(3) == 0) {
                    s.append(" or ").append(someone());
                }
                return s + " known " + e;
        }
    }

    private int someone() {
        return random.nextInt(people);
    }

    private String customText() {
        int lines = random.nextInt(10) == 0 ? random.nextInt(13) : random.nextInt(4);
        List<String> all = new ArrayList<>();
        for (int k = 0; k < lines; k++) {
            all.add((random.nextBoolean() ? "grant" : "refuse") + (random.nextInt(5) > 0 ? " if " + condition(0) : ""));
        }
        return spoil(String.join(";", all));
    }

    private String condition(int deep) {
        StringBuilder s = new StringBuilder(atom(deep));
        while (random.nextInt(3) == 0) {
            s.append(random.nextBoolean() ? " and " : " or ").append(atom(deep));
        }
        return s.toString();
    }

    private String atom(int deep) {
        switch (random.nextInt(deep > 3 ? 9 : 7)) {
            case 0: return "not " + atom(deep + 1);
            case 1: return "(" + condition(deep + 1) + ")";
            case 2: return "own";
            case 3: return "mine";
            default: return sum() + (random.nextBoolean() ? " < " : ">") + sum();
        }
    }

    private String sum() {
        String[] parts = {"day", "days", "pledge", "deep", "gives", "takes", "1", "2", "3", "0", "05", "20"};
        StringBuilder s = new StringBuilder(parts[random.nextInt(parts.length)]);
        while (random.nextInt(4) == 0) {
            s.append(random.nextBoolean() ? "+" : " + ").append(parts[random.nextInt(parts.length)]);
        }
        return s.toString();
    }

    /** Now and then a text with something taken out, put in, or put in place of another thing. */
    private String spoil(String text) {
        StringBuilder s = new StringBuilder(text);
        if (random.nextInt(3) == 0) {
            String[] things = {" ", "", "  ", "1", "13", "999", "1000", "or", "and", "not", "(", ")", ";", "day", "x", "on", "A", "+", "<",
                "0001", "pledge", "own", "\0", "\u00e9", "court", "lend 0 to 1", "if"};
            for (int k = random.nextInt(2); k >= 0; k--) {
                int from = random.nextInt(s.length() + 1);
                int to = Math.min(s.length(), from + random.nextInt(4));
                s.replace(from, to, things[random.nextInt(things.length)]);
            }
        }
        return s.length() > 400 ? s.substring(0, 400) : s.toString();
    }
}
