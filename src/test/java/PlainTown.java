import java.util.ArrayList;
import java.util.Arrays;
import java.util.Collections;
import java.util.List;
import java.util.NoSuchElementException;
import java.util.Objects;
import java.util.regex.Matcher;
import java.util.regex.Pattern;

/** The document once more, written the long way with the Java library: ModelTest holds LentNames against it. */
final class PlainTown {
    static final int NONE = -1;

    static final class Loan {
        int name, body, day, days, pledge, late;
        boolean on;

        Loan copy() {
            Loan l = new Loan();
            l.name = name; l.body = body; l.day = day; l.days = days; l.pledge = pledge; l.late = late; l.on = on;
            return l;
        }
    }

    static final class Letter {
        int name, day, read, wish = NONE;

        Letter copy() {
            Letter l = new Letter();
            l.name = name; l.day = day; l.read = read; l.wish = wish;
            return l;
        }
    }

    record Debt(boolean ofBody, int whose, int day, int judged, int coins) { }

    record Seen(int name, int day, List<Integer> bodies, int known) { }

    record More(int name, int body, int first, int last) implements Comparable<More> {
        public int compareTo(More o) {
            return Arrays.compare(new int[] {name, body, first, last}, new int[] {o.name, o.body, o.first, o.last});
        }

        boolean over(int day) {
            return first <= day && day <= last;
        }

        int number() {
            return 10000 * name + 1000 * body + 20 * first + last;
        }
    }

    /** All that THE IMAGE keeps. */
    static final class Facts {
        int n = 4, texts;
        List<Loan> loans = new ArrayList<>();
        List<Letter> letters = new ArrayList<>();
        List<Debt> debts = new ArrayList<>();
        List<Seen> sightings = new ArrayList<>();
        List<int[]> deaths = new ArrayList<>();
        List<Integer> courts = new ArrayList<>();
        List<String> custom = new ArrayList<>();
        int[] purse = new int[6];

        Facts copy() {
            Facts f = new Facts();
            f.n = n;
            f.texts = texts;
            for (Loan l : loans) f.loans.add(l.copy());
            for (Letter l : letters) f.letters.add(l.copy());
            f.debts.addAll(debts);
            f.sightings.addAll(sightings);
            f.deaths.addAll(deaths);
            f.courts.addAll(courts);
            f.custom.addAll(custom);
            f.purse = purse.clone();
            return f;
        }
    }

    Facts facts = new Facts();
    Facts image;
    List<Integer> tape = new ArrayList<>();
    int faultAt = NONE;

    // ---- texts ----

    record Token(int at, String text) { }

    static final class Wrong extends Exception {
        private static final long serialVersionUID = 1;
        final int at;

        Wrong(int at) {
            this.at = at;
        }
    }

    static final class Tokens {
        final List<Token> all = new ArrayList<>();
        final int length;
        int k;

        Tokens(String text) {
            length = text.length();
            Matcher m = Pattern.compile("[a-z]+|[0-9]+|[^ ]", Pattern.DOTALL).matcher(text);
            while (m.find()) all.add(new Token(m.start(), m.group()));
        }

        String peek() {
            return k < all.size() ? all.get(k).text : "";
        }

        int at() {
            return k < all.size() ? all.get(k).at : length;
        }

        Wrong wrong() {
            return new Wrong(at());
        }

        void need(String word) throws Wrong {
            if (!peek().equals(word)) throw wrong();
            k++;
        }

        boolean maybe(String word) {
            if (!peek().equals(word)) return false;
            k++;
            return true;
        }

        int number(int low, int high) throws Wrong {
            if (k >= all.size() || !peek().matches("[0-9]{1,3}")) throw wrong();
            int v = Integer.parseInt(peek());
            if (v < low || v > high) throw wrong();
            k++;
            return v;
        }
    }

    String text() {
        StringBuilder s = new StringBuilder();
        for (int b : tape) s.append((char) b);
        return s.toString();
    }

    int feed(int a, int b, int c, int d, int e) {
        if (tape.size() > 380) return NONE;
        for (int v : new int[] {a, b, c, d, e}) {
            tape.add(v >>> 24);
            tape.add(v >>> 16 & 255);
            tape.add(v >>> 8 & 255);
            tape.add(v & 255);
        }
        return tape.size();
    }

    boolean end(int n) {
        if (n < 0 || n > tape.size()) return false;
        tape = new ArrayList<>(tape.subList(0, n));
        return true;
    }

    int tell() {
        Tokens t = new Tokens(text());
        tape.clear();
        Facts next = facts.copy();
        try {
            for (int line = 0; !t.all.isEmpty(); line++) {
                if (line == 14) throw t.wrong();
                townLine(t, next);
                if (t.k == t.all.size()) break;
                t.need(";");
            }
        } catch (Wrong w) {
            faultAt = w.at;
            throw new IllegalArgumentException();
        }
        faultAt = NONE;
        if (facts.texts == 10) throw new UnsupportedOperationException();
        next.texts++;
        facts = next;
        return facts.texts;
    }

    private void townLine(Tokens t, Facts f) throws Wrong {
        int people = f.n - 1;
        String word = t.peek();
        List<?> list = word.equals("lend") ? f.loans : word.equals("letter") ? f.letters
            : word.equals("debt") ? f.debts : word.equals("seen") ? f.sightings : null;
        if (list != null && list.size() >= (word.equals("lend") ? 20 : 10)) throw t.wrong();
        switch (word) {
            case "lend" -> {
                t.k++;
                Loan l = new Loan();
                l.name = t.number(0, people);
                t.need("to");
                l.body = t.number(0, people);
                t.need("day");
                l.day = t.number(0, 11);
                t.need("for");
                l.days = t.number(1, 12);
                l.on = t.maybe("on");
                if (t.maybe("pledge")) l.pledge = t.number(0, 999);
                f.loans.add(l);
            }
            case "late" -> {
                t.k++;
                int l = t.number(0, f.loans.size() - 1);
                t.need("by");
                f.loans.get(l).late = t.number(1, 12);
            }
            case "dies" -> {
                t.k++;
                int b = t.number(0, people);
                t.need("day");
                f.deaths.add(new int[] {b, t.number(0, 11)});
            }
            case "court" -> {
                t.k++;
                t.need("day");
                f.courts.add(t.number(0, 11));
            }
            case "letter" -> {
                t.k++;
                Letter l = new Letter();
                l.name = t.number(0, people);
                t.need("day");
                l.day = t.number(0, 11);
                t.need("read");
                l.read = t.number(l.day, 11);
                f.letters.add(l);
            }
            case "debt" -> {
                t.k++;
                boolean ofBody = t.maybe("body");
                if (!ofBody) t.need("name");
                int whose = t.number(0, people);
                t.need("day");
                int day = t.number(0, 11);
                t.need("judged");
                int judged = t.number(day, 11);
                t.need("of");
                f.debts.add(new Debt(ofBody, whose, day, judged, t.number(0, 999)));
            }
            case "seen" -> {
                t.k++;
                int name = t.number(0, people);
                t.need("day");
                int day = t.number(0, 11);
                t.need("as");
                List<Integer> bodies = new ArrayList<>();
                do bodies.add(t.number(0, people)); while (t.maybe("or"));
                t.need("known");
                f.sightings.add(new Seen(name, day, bodies, t.number(day, 11)));
            }
            default -> throw t.wrong();
        }
    }

    int custom() {
        String text = text();
        Tokens t = new Tokens(text);
        tape.clear();
        List<String> lines = new ArrayList<>();
        try {
            for (int line = 0; !t.all.isEmpty(); line++) {
                if (line == 10) throw t.wrong();
                int from = t.at();
                if (!t.maybe("grant")) t.need("refuse");
                if (t.maybe("if")) condition(t, null, 0);
                lines.add(text.substring(from, t.at()));
                if (t.k == t.all.size()) break;
                t.need(";");
            }
        } catch (Wrong w) {
            faultAt = w.at;
            throw new IllegalArgumentException();
        }
        faultAt = NONE;
        facts.custom = lines;
        return lines.size();
    }

    int fault() {
        return faultAt;
    }

    /** What a LOAN is asked by CUSTOM. */
    record Asked(int day, int days, int pledge, int deep, int gives, int takes, boolean own, boolean mine) { }

    private boolean condition(Tokens t, Asked a, int deep) throws Wrong {
        boolean holds = all(t, a, deep);
        while (t.maybe("or")) holds |= all(t, a, deep);
        return holds;
    }

    private boolean all(Tokens t, Asked a, int deep) throws Wrong {
        boolean holds = atom(t, a, deep);
        while (t.maybe("and")) holds &= atom(t, a, deep);
        return holds;
    }

    private boolean atom(Tokens t, Asked a, int deep) throws Wrong {
        if (deep == 6 && (t.peek().equals("not") || t.peek().equals("("))) throw t.wrong();
        if (t.maybe("not")) return !atom(t, a, deep + 1);
        if (t.maybe("(")) {
            boolean holds = condition(t, a, deep + 1);
            t.need(")");
            return holds;
        }
        if (t.maybe("own")) return a != null && a.own;
        if (t.maybe("mine")) return a != null && a.mine;
        int left = sum(t, a);
        boolean less = t.maybe("<");
        if (!less) t.need(">");
        int right = sum(t, a);
        return less ? left < right : left > right;
    }

    private int sum(Tokens t, Asked a) throws Wrong {
        int s = part(t, a);
        while (t.maybe("+")) s += part(t, a);
        return s;
    }

    private int part(Tokens t, Asked a) throws Wrong {
        if (t.peek().matches("[0-9]+")) return t.number(0, 999);
        if (!List.of("day", "days", "pledge", "deep", "gives", "takes").contains(t.peek())) throw t.wrong();
        String word = t.peek();
        t.k++;
        if (a == null) return 0;
        return switch (word) {
            case "day" -> a.day;
            case "days" -> a.days;
            case "pledge" -> a.pledge;
            case "deep" -> a.deep;
            case "gives" -> a.gives;
            default -> a.takes;
        };
    }

    private boolean granted(Asked a) {
        try {
            for (String line : facts.custom) {
                Tokens t = new Tokens(line);
                boolean grant = t.maybe("grant");
                if (!grant) t.need("refuse");
                if (!t.maybe("if") || condition(t, a, 0)) return grant;
            }
        } catch (Wrong w) {
            throw new IllegalStateException("a custom that was read is wrong");
        }
        return true;
    }

    void people(int n) {
        if (n < 2 || n > 6) throw new IllegalArgumentException();
        if (facts.texts > 0) throw new IllegalStateException();
        facts.n = n;
    }

    // ---- the days ----

    /** The ROWS of all NAMES on each DAY, as lists of LOANS, and what became of LOANS. */
    final class Days {
        final List<List<List<Loan>>> rows = new ArrayList<>();
        final List<Loan> refused = new ArrayList<>();
        final java.util.Map<Loan, Integer> lender = new java.util.IdentityHashMap<>();
        final java.util.Map<Loan, Integer> ended = new java.util.IdentityHashMap<>();
        final java.util.Map<Loan, Integer> owed = new java.util.IdentityHashMap<>();

        Days() {
            List<List<Loan>> now = new ArrayList<>();
            for (int i = 0; i < facts.n; i++) now.add(new ArrayList<>());
            for (int day = 0; day < 12; day++) {
                for (List<Loan> row : now) {
                    boolean over = false;
                    for (Loan l : List.copyOf(row)) {
                        over |= l.day + l.days - 1 + l.late < day;
                        if (over) end(row, l, day);
                    }
                }
                if (facts.courts.contains(day)) {
                    for (int name = 0; name < facts.n; name++) {
                        List<Loan> row = now.get(name);
                        while (!row.isEmpty() && (!alive(last(name, row), day) || !right(row, day))) {
                            end(row, row.get(row.size() - 1), day);
                        }
                    }
                }
                for (List<Loan> row : now) {
                    for (Loan l : row) {
                        if (day > l.day + l.days - 1) owed.merge(l, l.pledge, Integer::sum);
                    }
                }
                for (Loan l : facts.loans) if (l.day == day) lend(now, l, day);
                List<List<Loan>> copy = new ArrayList<>();
                for (List<Loan> row : now) copy.add(new ArrayList<>(row));
                rows.add(copy);
            }
        }

        private void end(List<Loan> row, Loan l, int day) {
            row.removeIf(x -> x == l);
            ended.put(l, day);
        }

        private void lend(List<List<Loan>> now, Loan l, int day) {
            List<Loan> row = now.get(l.name);
            int bearer = last(l.name, row);
            boolean ok = alive(bearer, day) && right(row, day)
                && (bearer == l.name || row.get(row.size() - 1).on) && bearer != l.body && alive(l.body, day);
            if (ok) {
                int gives = 0;
                int takes = 0;
                for (int name = 0; name < facts.n; name++) {
                    if (last(name, now.get(name)) == bearer) gives++;
                    if (last(name, now.get(name)) == l.body) takes++;
                }
                ok = granted(new Asked(day, l.days, l.pledge, row.size(), gives, takes, bearer == l.name, l.body == l.name));
            }
            if (ok) {
                lender.put(l, bearer);
                row.add(l);
            } else {
                refused.add(l);
            }
        }

        int bearer(int name, int day) {
            int b = last(name, rows.get(day).get(name));
            return alive(b, day) ? b : NONE;
        }

        int[][] bearers() {
            int[][] all = new int[facts.n][12];
            for (int name = 0; name < facts.n; name++) {
                for (int day = 0; day < 12; day++) all[name][day] = bearer(name, day);
            }
            return all;
        }
    }

    private static int last(int name, List<Loan> row) {
        return row.isEmpty() ? name : row.get(row.size() - 1).body;
    }

    private static boolean right(List<Loan> row, int day) {
        return row.stream().noneMatch(l -> day > l.day + l.days - 1);
    }

    private boolean alive(int body, int day) {
        return facts.deaths.stream().noneMatch(d -> d[0] == body && d[1] <= day);
    }

    private void person(int k) {
        Objects.checkIndex(k, facts.n);
    }

    private static void day(int k) {
        Objects.checkIndex(k, 12);
    }

    int bears(int name, int day) {
        person(name);
        day(day);
        return new Days().bearer(name, day);
    }

    int names(int body, int day) {
        person(body);
        day(day);
        Days d = new Days();
        int bits = 0;
        for (int name = 0; name < facts.n; name++) if (d.bearer(name, day) == body) bits += 1 << name;
        return bits;
    }

    int how(int name, int day) {
        person(name);
        day(day);
        Days d = new Days();
        List<Loan> row = d.rows.get(day).get(name);
        if (d.bearer(name, day) == NONE) return 3;
        return row.isEmpty() ? 0 : right(row, day) ? 1 : 2;
    }

    int row(int name, int day, int k) {
        person(name);
        day(day);
        List<Loan> row = new Days().rows.get(day).get(name);
        if (k == 0) return name;
        return k > 0 && k <= row.size() ? row.get(k - 1).body : NONE;
    }

    private static boolean isNameless(int[][] bearers, boolean alive, int body, int day) {
        for (int[] name : bearers) if (name[day] == body) return false;
        return alive;
    }

    int nameless(int body) {
        person(body);
        int[][] b = new Days().bearers();
        int bits = 0;
        for (int day = 0; day < 12; day++) if (isNameless(b, alive(body, day), body, day)) bits += 1 << day;
        return bits;
    }

    int longest(int body) {
        person(body);
        String s = Integer.toBinaryString(nameless(body));
        int most = 0;
        for (String run : s.split("0")) most = Math.max(most, run.length());
        return most;
    }

    boolean lives(int body, int day) {
        person(body);
        day(day);
        return alive(body, day);
    }

    int look(int loan, int what) {
        Objects.checkIndex(loan, facts.loans.size());
        Loan l = facts.loans.get(loan);
        Days d = new Days();
        return switch (what) {
            case 0 -> l.name;
            case 1 -> l.body;
            case 2 -> l.day;
            case 3 -> l.day + l.days - 1 + l.late;
            case 4 -> d.refused.stream().anyMatch(x -> x == l) ? 1 : 0;
            case 5 -> d.lender.getOrDefault(l, NONE);
            case 6 -> d.ended.getOrDefault(l, NONE);
            case 7 -> d.owed.getOrDefault(l, 0);
            default -> throw new NoSuchElementException();
        };
    }

    int owes(int body, boolean owns) {
        person(body);
        Days d = new Days();
        int s = 0;
        for (Loan l : d.owed.keySet()) if ((owns ? d.lender.get(l) : l.body) == body) s += d.owed.get(l);
        return s;
    }

    int letter(int letter, int what) {
        Objects.checkIndex(letter, facts.letters.size());
        if (what < 0 || what > 2) throw new NoSuchElementException();
        Letter l = facts.letters.get(letter);
        Days d = new Days();
        if (what == 0) return d.bearer(l.name, l.day);
        int day = l.read;
        while (day < 12 && d.bearer(l.name, day) == NONE) day++;
        if (day == 12) return NONE;
        return what == 2 ? day : d.bearer(l.name, day);
    }

    private int payer(Debt x, Days d) {
        if (x.ofBody) return alive(x.whose, x.judged) ? x.whose : NONE;
        return d.bearer(x.whose, x.judged);
    }

    int pays(int debt) {
        Objects.checkIndex(debt, facts.debts.size());
        return payer(facts.debts.get(debt), new Days());
    }

    int bill(int body) {
        person(body);
        Days d = new Days();
        return facts.debts.stream().filter(x -> payer(x, d) == body).mapToInt(Debt::coins).sum();
    }

    int purse(int body, int n) {
        person(body);
        if (n < 0 || n > 9999) throw new IllegalArgumentException();
        int old = facts.purse[body];
        facts.purse[body] = n;
        return old;
    }

    /** What is left of PURSES, and behind it the UNPAID DEBTS as bits. */
    private int[] settled() {
        Days d = new Days();
        int[] left = Arrays.copyOf(facts.purse, 7);
        List<Integer> order = new ArrayList<>();
        for (int k = 0; k < facts.debts.size(); k++) order.add(k);
        order.sort((a, b) -> facts.debts.get(a).judged - facts.debts.get(b).judged);
        for (int k : order) {
            Debt x = facts.debts.get(k);
            int who = payer(x, d);
            if (who != NONE && left[who] >= x.coins) left[who] -= x.coins;
            else left[6] |= 1 << k;
        }
        return left;
    }

    int left(int body) {
        person(body);
        return settled()[body];
    }

    int unpaid() {
        return settled()[6];
    }

    int meets(int debt) {
        Objects.checkIndex(debt, facts.debts.size());
        Debt x = facts.debts.get(debt);
        int[] left = settled();
        Days d = new Days();
        if ((left[6] & 1 << debt) == 0 || x.ofBody) return NONE;
        for (int b = 0; b < facts.n; b++) {
            if (alive(b, x.judged) && d.bearer(x.whose, x.judged) != b && left[b] >= x.coins) return b;
        }
        return NONE;
    }

    int way(int name, boolean hands) {
        person(name);
        int[] b = new Days().bearers()[name];
        int bits = 0;
        int changes = 0;
        for (int day = 0; day < 12; day++) {
            if (b[day] != NONE) bits |= 1 << b[day];
            if (day > 0 && b[day] != b[day - 1]) changes++;
        }
        return hands ? changes : bits;
    }

    int busiest() {
        int best = 0;
        for (int k = 0; k < facts.n; k++) if (way(k, true) > way(best, true)) best = k;
        return best;
    }

    int wish(int letter, int body) {
        Objects.checkIndex(letter, facts.letters.size());
        if (body != NONE) person(body);
        int old = facts.letters.get(letter).wish;
        facts.letters.get(letter).wish = body;
        return old;
    }

    int home() {
        Days d = new Days();
        int bits = 0;
        for (int k = 0; k < facts.letters.size(); k++) {
            Letter l = facts.letters.get(k);
            if (l.wish != NONE && d.bearer(l.name, l.read) == l.wish) bits |= 1 << k;
        }
        return bits;
    }

    // ---- more loans ----

    /** One search: what stands by 2, who lives, the sets found, and the steps. */
    private final class Quest {
        final int[][] base = new Days().bearers();
        final boolean[][] lives = new boolean[facts.n][12];
        final boolean secret;
        final int question;
        final List<List<More>> found = new ArrayList<>();
        int steps;
        boolean spent;

        Quest(boolean secret, int question) {
            this.secret = secret;
            this.question = question;
            for (int b = 0; b < facts.n; b++) for (int d = 0; d < 12; d++) lives[b][d] = alive(b, d);
            for (int most = 0; most <= (secret ? 4 : 5) && found.isEmpty() && !spent; most++) come(List.of(), most);
        }

        private void come(List<More> set, int most) {
            if (spent || !secret && !found.isEmpty()) return;
            if (++steps > 20000) {
                spent = true;
                return;
            }
            List<More> next = secret ? bySighting(set) : byPlan(set);
            if (next == null) {
                found.add(set);
                return;
            }
            if (set.size() == most) return;
            for (More m : next) {
                List<More> grown = new ArrayList<>(set);
                grown.add(m);
                come(grown, most);
            }
        }

        private int[][] with(List<More> set) {
            int[][] b = new int[facts.n][];
            for (int k = 0; k < facts.n; k++) b[k] = base[k].clone();
            for (More m : set) for (int d = m.first; d <= m.last; d++) b[m.name][d] = m.body;
            return b;
        }

        private boolean canBe(More m, List<More> set) {
            for (int d = m.first; d <= m.last; d++) {
                if (!lives[m.body][d] || base[m.name][d] == m.body) return false;
                for (More o : set) if (o.name == m.name && o.over(d)) return false;
            }
            return true;
        }

        private List<More> bySighting(List<More> set) {
            int[][] b = with(set);
            for (Seen s : facts.sightings) {
                if (s.known > question || s.bodies.contains(b[s.name][s.day])) continue;
                List<More> next = new ArrayList<>();
                for (Seen first : facts.sightings) {
                    for (Seen last : facts.sightings) {
                        if (first.name != s.name || last.name != s.name || first.known > question || last.known > question) continue;
                        for (int body : s.bodies) {
                            More m = new More(s.name, body, first.day, last.day);
                            if (m.over(s.day) && canBe(m, set) && !next.contains(m)) next.add(m);
                        }
                    }
                }
                Collections.sort(next);
                return next;
            }
            return null;
        }

        private List<More> byPlan(List<More> set) {
            int[][] b = with(set);
            for (Letter l : facts.letters) {
                if (l.wish != NONE && b[l.name][l.read] != l.wish) {
                    return each(set, l.name, l.name, l.wish, l.read, l.read);
                }
            }
            for (int body = 0; body < facts.n; body++) {
                int run = 0;
                for (int day = 0; day < 12; day++) {
                    run = isNameless(b, lives[body][day], body, day) ? run + 1 : 0;
                    if (run > question) return each(set, 0, facts.n - 1, body, day - question, day);
                }
            }
            return null;
        }

        private List<More> each(List<More> set, int firstName, int lastName, int body, int from, int to) {
            List<More> next = new ArrayList<>();
            for (int name = firstName; name <= lastName; name++) {
                for (int first = 0; first < 12; first++) {
                    for (int last = first; last < 12; last++) {
                        More m = new More(name, body, first, last);
                        boolean over = false;
                        for (int d = from; d <= to; d++) over |= m.over(d);
                        if (over && canBe(m, set)) next.add(m);
                    }
                }
            }
            return next;
        }

        int answer(int k) {
            if (spent) return secret ? -3 : -2;
            if (found.isEmpty()) return NONE;
            if (k == -2) return found.size();
            List<More> first = new ArrayList<>(found.get(0));
            Collections.sort(first);
            if (k == NONE) return first.size();
            return k < first.size() ? first.get(k).number() : NONE;
        }
    }

    int plan(int bound, int k) {
        if (bound < 0 || bound > 12 || k < NONE) throw new IllegalArgumentException();
        return new Quest(false, bound).answer(k);
    }

    int secrets(int day, int what) {
        day(day);
        if (what < -2) throw new IllegalArgumentException();
        return new Quest(true, day).answer(what);
    }

    // ---- sightings ----

    private boolean agrees(Seen s, Days d) {
        return s.bodies.contains(d.bearer(s.name, s.day));
    }

    int agree() {
        Days d = new Days();
        int bits = 0;
        for (int k = 0; k < facts.sightings.size(); k++) if (agrees(facts.sightings.get(k), d)) bits |= 1 << k;
        return bits;
    }

    int can(int sighting) {
        Objects.checkIndex(sighting, facts.sightings.size());
        Seen s = facts.sightings.get(sighting);
        int bits = 0;
        for (int b : s.bodies) if (alive(b, s.day)) bits |= 1 << b;
        return bits;
    }

    int liars(int day) {
        day(day);
        Days d = new Days();
        int bits = 0;
        for (int k = 0; k < facts.sightings.size(); k++) {
            Seen out = facts.sightings.get(k);
            boolean all = out.known <= day;
            for (int o = 0; o < facts.sightings.size(); o++) {
                Seen s = facts.sightings.get(o);
                if (o != k && s.known <= day && !agrees(s, d)) all = false;
            }
            if (all) bits |= 1 << k;
        }
        return bits;
    }

    int rich(int day) {
        day(day);
        int bits = 0;
        for (int b = 0; b < facts.n; b++) if (Integer.bitCount(names(b, day)) > 1) bits |= 1 << b;
        return bits;
    }

    int borne(int name, int body) {
        person(name);
        person(body);
        return (int) Arrays.stream(new Days().bearers()[name]).filter(b -> b == body).count();
    }

    int again(int name, int day) {
        person(name);
        day(day);
        Days d = new Days();
        for (int k = day; k < 12; k++) if (d.bearer(name, k) == name) return k;
        return NONE;
    }

    void image() {
        image = facts.copy();
    }

    boolean back() {
        if (image == null) return false;
        facts = image.copy();
        return true;
    }

    int count(int what) {
        return switch (what) {
            case 0 -> facts.n;
            case 1 -> facts.texts;
            case 2 -> facts.loans.size();
            case 3 -> facts.letters.size();
            case 4 -> facts.debts.size();
            case 5 -> facts.sightings.size();
            case 6 -> new Days().refused.size();
            case 7 -> (int) facts.deaths.stream().mapToInt(d -> d[0]).distinct().count();
            case 8 -> (int) facts.courts.stream().distinct().count();
            case 9 -> (int) facts.letters.stream().filter(l -> l.wish != NONE).count();
            case 10 -> facts.custom.size();
            case 11 -> Arrays.stream(facts.purse, 0, facts.n).sum();
            default -> NONE;
        };
    }
}
