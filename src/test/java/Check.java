import java.util.Collections;
import java.util.NoSuchElementException;

/** What the tests share: how an answer is held against the due one, how a text is told, and all answers of a town. Tests extend it. */
class Check {
    static final int NONE = LentNames.NONE;
    static final Class<?> NO_INDEX = IndexOutOfBoundsException.class;
    static final Class<?> BAD_ARGUMENT = IllegalArgumentException.class;
    static final Class<?> BAD_STATE = IllegalStateException.class;
    static final Class<?> NO_ELEMENT = NoSuchElementException.class;
    static final Class<?> NO_ROOM = UnsupportedOperationException.class;
    private static int wrong = 0;

    interface Call {
        void go();
    }

    /** Something that is done to a town. */
    interface Deed {
        void doTo(LentNames x);
    }

    /** Makes a new town, always the same. */
    interface Maker {
        LentNames make();
    }

    static void exit() {
        System.exit(wrong == 0 ? 0 : 1);
    }

    static void due(String what, long got, long want) {
        if (got != want) {
            wrong++;
            System.out.println(what + " answered " + got + ", due is " + want);
        }
    }

    static void due(String what, boolean got, boolean want) {
        due(what, got ? 1 : 0, want ? 1 : 0);
    }

    static void dueThrow(String what, Class<?> want, Call call) {
        Class<?> got = null;
        try {
            call.go();
        } catch (RuntimeException e) {
            got = e.getClass();
        }
        if (got != want) {
            wrong++;
            System.out.println(what + " threw " + got + ", due is " + want);
        }
    }

    /** A deed is refused with that exception, and all later calls answer as if it had not been done. */
    static void refused(String what, Class<?> want, Maker maker, Deed deed) {
        LentNames with = maker.make();
        dueThrow(what, want, () -> deed.doTo(with));
        dueSame("behind " + what, answers(with), answers(maker.make()));
    }

    static void dueSame(String what, String got, String want) {
        if (!got.equals(want)) {
            wrong++;
            System.out.println(what + " all answers were\n  " + got + "\ndue are\n  " + want);
        }
    }

    /** A deed leaves all answers as they are. */
    static void idle(String what, Maker maker, Deed deed) {
        LentNames with = maker.make();
        deed.doTo(with);
        dueSame("behind " + what, answers(with), answers(maker.make()));
    }

    static void write(LentNames x, String text) {
        for (int from = 0; from == 0 || from < text.length(); from += 20) {
            int[] n = new int[5];
            for (int k = 0; k < 20; k++) {
                n[k / 4] = n[k / 4] << 8 | (from + k < text.length() ? text.charAt(from + k) : 0);
            }
            x.feed(n[0], n[1], n[2], n[3], n[4]);
        }
        due("end of " + text, x.end(text.length()), true);
    }

    static int tell(LentNames x, String text) {
        write(x, text);
        return x.tell();
    }

    static int custom(LentNames x, String text) {
        write(x, text);
        return x.custom();
    }

    static LentNames town(int people, String... texts) {
        LentNames x = new LentNames();
        x.people(people);
        for (String text : texts) {
            tell(x, text);
        }
        return x;
    }

    static String times(int n, String line) {
        return String.join(";", Collections.nCopies(n, line));
    }

    /** What a town answers to calls that together show all that it keeps; wishes, purses and THE IMAGE are used up. */
    static String answers(LentNames x) {
        StringBuilder s = new StringBuilder();
        counts(x, s);
        int people = x.count(0);
        for (int body = 0; body < people; body++) {
            s.append(" body ").append(body).append(':');
            for (int day = 0; day < 12; day++) {
                s.append(' ').append(x.bears(body, day)).append(x.lives(body, day) ? '+' : '-');
            }
            s.append(" owes ").append(x.owes(body, false)).append(" bill ").append(x.bill(body)).append(" left ").append(x.left(body));
        }
        told(x, s);
        s.append(" unpaid ").append(x.unpaid()).append(" home ").append(x.home()).append(" agree ").append(x.agree());
        s.append(" plan ").append(x.plan(12, NONE)).append(" secrets ").append(x.secrets(11, NONE)).append(" liars ").append(x.liars(11));
        for (int letter = 0; letter < x.count(3); letter++) {
            s.append(" wish ").append(x.wish(letter, NONE));
        }
        for (int body = 0; body < people; body++) {
            s.append(" purse ").append(x.purse(body, 0));
        }
        s.append(" back ").append(x.back());
        counts(x, s);
        s.append(" tape ").append(x.feed(0, 0, 0, 0, 0));
        return s.toString();
    }

    private static void counts(LentNames x, StringBuilder s) {
        s.append(" counts");
        for (int what = 0; what < 12; what++) {
            s.append(' ').append(x.count(what));
        }
    }

    private static void told(LentNames x, StringBuilder s) {
        for (int loan = 0; loan < x.count(2); loan++) {
            s.append(" loan ").append(loan).append(':');
            for (int what = 0; what < 8; what++) {
                s.append(' ').append(x.look(loan, what));
            }
        }
        for (int letter = 0; letter < x.count(3); letter++) {
            s.append(" letter ").append(x.letter(letter, 0)).append(' ').append(x.letter(letter, 1)).append(' ').append(x.letter(letter, 2));
        }
        for (int debt = 0; debt < x.count(4); debt++) {
            s.append(" debt ").append(x.pays(debt)).append(' ').append(x.meets(debt));
        }
        for (int seen = 0; seen < x.count(5); seen++) {
            s.append(" seen ").append(x.can(seen));
        }
    }
}
