/** WISHES, PLANS, SIGHTINGS and SECRETS: each sentence of the document that names a boundary, from both sides of it. */
public final class SearchBoundsTest extends Check {
    public static void main(String[] args) {
        wishes();
        home();
        plansForWishes();
        moreLoansThatCanBe();
        moreLoansOfOneName();
        namelessForMoreThanTheBound();
        namelessAtTheEdges();
        namelessWhileAlive();
        namelessByTheWindow();
        namelessBehindWishes();
        namelessOfTheFirstBody();
        plansOfFive();
        plansOf20000Steps();
        boundsAndParts();
        plansFollowWhatIsTold();
        agreeing();
        canHaveBeen();
        liars();
        secretsByADay();
        secretsBetweenSightings();
        secretsThatCanBe();
        secretsThatSpoilOthers();
        secretsInOrder();
        secretsOfFour();
        secretsOf20000Steps();
        partsOfSecrets();
        secretsFollowWhatIsTold();
        lastNameAndBody();
        exit();
    }

    private static int more(int name, int body, int first, int last) {
        return 10000 * name + 1000 * body + 20 * first + last;
    }

    private static void plan(String what, LentNames x, int bound, int... loans) {
        due(what + ": how many", x.plan(bound, NONE), loans.length);
        for (int k = 0; k < loans.length; k++) {
            due(what + ": the loan " + k, x.plan(bound, k), loans[k]);
        }
        due(what + ": behind them", x.plan(bound, loans.length), NONE);
        due(what + ": far behind them", x.plan(bound, Integer.MAX_VALUE), NONE);
    }

    private static void noPlan(String what, LentNames x, int bound, int answer) {
        for (int k : new int[] {NONE, 0, 1, 5, Integer.MAX_VALUE}) {
            due(what + ", " + k, x.plan(bound, k), answer);
        }
    }

    private static void secrets(String what, LentNames x, int day, int sets, int... loans) {
        due(what + ": how many", x.secrets(day, NONE), loans.length);
        due(what + ": sets", x.secrets(day, -2), sets);
        for (int k = 0; k < loans.length; k++) {
            due(what + ": the loan " + k, x.secrets(day, k), loans[k]);
        }
        due(what + ": behind them", x.secrets(day, loans.length), NONE);
        due(what + ": far behind them", x.secrets(day, Integer.MAX_VALUE), NONE);
    }

    private static void noSecrets(String what, LentNames x, int day, int answer) {
        for (int k : new int[] {-2, NONE, 0, 1, 4, Integer.MAX_VALUE}) {
            due(what + ", " + k, x.secrets(day, k), answer);
        }
    }

    /** A town with letters of these names, read on these days, wished to these bodies. */
    private static LentNames wished(int people, String text, int[]... letters) {
        LentNames x = text.isEmpty() ? town(people) : town(people, text);
        StringBuilder s = new StringBuilder();
        for (int[] letter : letters) {
            s.append(s.length() == 0 ? "" : ";").append("letter ").append(letter[0]).append(" day 0 read ").append(letter[1]);
        }
        tell(x, s.toString());
        for (int k = 0; k < letters.length; k++) {
            x.wish(k, letters[k][2]);
        }
        return x;
    }

    private static int[] letter(int name, int read, int body) {
        return new int[] {name, read, body};
    }

    // ---- "A WISH for a LETTER from now on (NONE: none): what it was" ----

    private static LentNames twoLetters() {
        LentNames x = town(3, "letter 0 day 0 read 5;letter 1 day 0 read 6");
        x.wish(1, 2);
        return x;
    }

    private static void wishes() {
        LentNames x = twoLetters();
        due("one wish", x.count(9), 1);
        due("none at first", x.wish(0, 0), NONE);
        due("two wishes", x.count(9), 2);
        due("it was", x.wish(0, 2), 0);
        due("another one", x.count(9), 2);
        due("none from now on", x.wish(0, NONE), 2);
        due("one wish", x.count(9), 1);
        due("none, again", x.wish(0, NONE), NONE);
        due("of the last letter", x.wish(1, NONE), 2);
        due("no wish", x.count(9), 0);
        for (int letter : new int[] {-1, 2, 10, Integer.MIN_VALUE, Integer.MAX_VALUE}) {
            refused("wish(" + letter + ", 0)", NO_INDEX, SearchBoundsTest::twoLetters, y -> y.wish(letter, 0));
            refused("wish(" + letter + ", NONE)", NO_INDEX, SearchBoundsTest::twoLetters, y -> y.wish(letter, NONE));
        }
        for (int body : new int[] {-2, 3, 6, Integer.MIN_VALUE, Integer.MAX_VALUE}) {
            refused("wish(1, " + body + ")", NO_INDEX, SearchBoundsTest::twoLetters, y -> y.wish(1, body));
        }
        refused("wish without a letter", NO_INDEX, () -> town(3), y -> y.wish(0, 0));
        LentNames ten = town(3, times(10, "letter 2 day 0 read 11"));
        due("of the tenth", ten.wish(9, 2), NONE);
        due("of the tenth", ten.home(), 512);
        tell(ten, "court day 1");
        due("it stays over a text", ten.wish(9, 2), 2);
    }

    // ---- "WISHES that are had without MORE LOANS, as bits of LETTERS" ----

    private static void home() {
        String lent = "lend 0 to 1 day 3 for 2;dies 1 day 4";
        LentNames x = wished(3, lent, letter(0, 2, 0), letter(0, 3, 0), letter(0, 3, 1), letter(0, 4, 1), letter(0, 5, 0), letter(2, 11, 2));
        due("had", x.home(), 1 + 4 + 16 + 32);
        x.wish(0, NONE);
        due("none is not had", x.home(), 4 + 16 + 32);
        due("without wishes", twoLetters().home(), 0);
        // It is brought to 0 on DAY 5, but its DAY of reading is 4.
        LentNames later = wished(3, lent, letter(0, 4, 0));
        due("brought later", later.letter(0, 1), 0);
        due("not on that day", later.home(), 0);
    }

    // ---- PLAN: "each MORE LOAN that can be of its NAME to that BODY over that DAY, in order" ----

    private static void plansForWishes() {
        plan("no wish", town(3), 12);
        plan("had", wished(3, "", letter(0, 5, 0)), 12);
        plan("on day 0", wished(3, "", letter(0, 0, 2)), 12, more(0, 2, 0, 0));
        plan("on day 11", wished(3, "", letter(0, 11, 2)), 12, more(0, 2, 0, 11));
        plan("two names", wished(3, "", letter(2, 3, 1), letter(0, 4, 2)), 12, more(0, 2, 0, 4), more(2, 1, 0, 3));
        plan("two days by one loan", wished(3, "", letter(0, 3, 1), letter(0, 7, 1)), 12, more(0, 1, 0, 7));
        plan("two days, the later one first", wished(3, "", letter(0, 7, 1), letter(0, 3, 1)), 12, more(0, 1, 0, 7));
        LentNames x = wished(3, "", letter(0, 3, 1), letter(2, 3, 1));
        plan("both", x, 12, more(0, 1, 0, 3), more(2, 1, 0, 3));
        x.wish(0, NONE);
        plan("the second alone", x, 12, more(2, 1, 0, 3));
        x.wish(1, NONE);
        plan("none", x, 12);
    }

    // ---- "if the BODY lives on all of these, and on none of them bears this NAME by 2" ----

    private static void moreLoansThatCanBe() {
        plan("behind days on which it bears it", wished(3, "lend 0 to 1 day 2 for 2", letter(0, 5, 1)), 12, more(0, 1, 4, 5));
        plan("ahead of these", wished(3, "lend 0 to 1 day 6 for 2", letter(0, 5, 1)), 12, more(0, 1, 0, 5));
        plan("between these", wished(3, "lend 0 to 1 day 4 for 1;lend 0 to 1 day 6 for 1", letter(0, 5, 1)), 12, more(0, 1, 5, 5));
        plan("on these", wished(3, "lend 0 to 1 day 2 for 4", letter(0, 5, 1)), 12);
        plan("to its owner", wished(3, "lend 0 to 1 day 2 for 4", letter(0, 5, 0)), 12, more(0, 0, 2, 5));
        plan("who lives on that day", wished(3, "dies 1 day 6", letter(0, 5, 1)), 12, more(0, 1, 0, 5));
        noPlan("who dies on that day", wished(3, "dies 1 day 5", letter(0, 5, 1)), 12, NONE);
        noPlan("who is dead", wished(3, "dies 1 day 0", letter(0, 5, 1)), 12, NONE);
        // "(nobody: likewise)"
        plan("a buried name", wished(3, "dies 0 day 2", letter(0, 5, 1)), 12, more(0, 1, 0, 5));
        plan("a name buried with another one", wished(3, "lend 0 to 1 day 0 for 12;dies 1 day 2", letter(0, 5, 0)), 12, more(0, 0, 0, 5));
        // Who is dead and lies with the name does not bear it.
        noPlan("not to the dead", wished(3, "lend 0 to 1 day 0 for 12;dies 1 day 2", letter(0, 5, 1)), 12, NONE);
        plan("a loan that is late", wished(3, "lend 0 to 1 day 2 for 1;late 0 by 2", letter(0, 5, 1)), 12, more(0, 1, 5, 5));
    }

    // ---- "of one NAME no two have a DAY in common"; "in order by NAME, BODY, first DAY, last DAY" ----

    private static void moreLoansOfOneName() {
        plan("side by side", wished(3, "", letter(0, 3, 1), letter(0, 4, 2)), 12, more(0, 1, 0, 3), more(0, 2, 4, 4));
        plan("found the other way round", wished(3, "", letter(0, 4, 2), letter(0, 3, 1)), 12, more(0, 1, 0, 3), more(0, 2, 4, 4));
        plan("the greater body first", wished(3, "", letter(0, 3, 2), letter(0, 4, 1)), 12, more(0, 1, 4, 4), more(0, 2, 0, 3));
        noPlan("on one day to two", wished(3, "", letter(0, 3, 1), letter(0, 3, 2)), 12, NONE);
        plan("of two names on one day", wished(3, "", letter(0, 3, 2), letter(1, 3, 2)), 12, more(0, 2, 0, 3), more(1, 2, 0, 3));
        // A MORE LOAN over DAY 3 takes it from its OWNER, to whom it cannot be lent there: by 2 it bears it.
        plan("its owner between", wished(2, "", letter(0, 2, 1), letter(0, 4, 1), letter(0, 3, 0)), 12, more(0, 1, 0, 2), more(0, 1, 4, 4));
    }

    // ---- "no BODY is NAMELESS for more than so many DAYS one behind another" ----

    private static void namelessForMoreThanTheBound() {
        LentNames x = town(3, "lend 0 to 1 day 0 for 3");
        for (int bound = 3; bound <= 12; bound++) {
            plan("three days are not more than " + bound, x, bound);
        }
        plan("more than 2", x, 2, more(0, 0, 0, 0));
        plan("more than 1", x, 1, more(0, 0, 0, 1));
        plan("more than 0", x, 0, more(0, 0, 0, 2));
        LentNames all = town(2, "lend 0 to 1 day 0 for 12");
        plan("twelve days are not more than 12", all, 12);
        for (int bound = 0; bound < 12; bound++) {
            // With days 0 to k borne there are 11 less k left; from 0 on the first that is enough is that.
            plan("twelve days and " + bound, all, bound, more(0, 0, 0, 11 - bound));
        }
        plan("nobody", town(6), 0);
    }

    private static void namelessAtTheEdges() {
        LentNames first = town(3, "lend 0 to 1 day 0 for 1");
        plan("on day 0", first, 0, more(0, 0, 0, 0));
        plan("on day 0", first, 1);
        LentNames last = town(3, "lend 0 to 1 day 11 for 1");
        plan("on day 11", last, 0, more(0, 0, 11, 11));
        plan("on day 11", last, 1);
        LentNames two = town(3, "lend 0 to 1 day 10 for 2");
        plan("on 10 and 11", two, 1, more(0, 0, 10, 10));
        plan("on 10 and 11", two, 2);
        LentNames apart = town(3, "lend 0 to 1 day 0 for 2;lend 0 to 1 day 3 for 2");
        plan("twice two", apart, 2);
        // By NAME 0 it takes two, for on DAY 2 it bears that by 2; NAME 1 goes over all, and 1 has NAME 0 but for DAY 2.
        plan("twice two", apart, 1, more(1, 0, 0, 3));
    }

    // ---- a BODY is NAMELESS only while it lives ----

    private static void namelessWhileAlive() {
        LentNames x = town(3, "lend 0 to 1 day 0 for 12;dies 0 day 3");
        plan("three days", x, 3);
        plan("three days", x, 2, more(0, 0, 0, 0));
        plan("all of these", x, 0, more(0, 0, 0, 2));
        plan("dead at once", town(3, "lend 0 to 1 day 0 for 12;dies 0 day 0"), 0);
        // NAME 0 is buried with 1 from DAY 2 on; 0 gets it back by MORE LOANS alone.
        LentNames buried = town(3, "lend 0 to 1 day 1 for 11;dies 1 day 2");
        plan("eleven days", buried, 11);
        plan("eleven days", buried, 10, more(0, 0, 1, 1));
        plan("eleven days", buried, 0, more(0, 0, 1, 11));
    }

    // ---- "over one of the bound and 1 DAYS up to that one" ----

    private static void namelessByTheWindow() {
        // NAMELESS from 3 to 6: with a bound of 1 the first DAY is 4, and 3 and 4 are its DAYS.
        LentNames x = town(3, "lend 0 to 1 day 3 for 4");
        plan("from 3 to 5", x, 1, more(0, 0, 3, 5));
        plan("from 3 to 4", x, 2, more(0, 0, 3, 4));
        plan("on 3", x, 3, more(0, 0, 3, 3));
        plan("none", x, 4);
        // A loan may begin ahead of these DAYS, as long as its NAME's OWNER is not without one for too long.
        LentNames y = town(3, "lend 2 to 1 day 9 for 3");
        plan("from 8 to 9", y, 2, more(0, 2, 8, 9));
        plan("on 10", y, 1, more(0, 2, 10, 10));
        plan("from 9 to 11", y, 0, more(1, 2, 9, 11));
        plan("none", y, 3);
    }

    // ---- "the first WISH .. if all are had: the first BODY" ----

    private static void namelessBehindWishes() {
        LentNames x = wished(3, "lend 0 to 1 day 0 for 3", letter(2, 5, 1));
        plan("the wish alone", x, 12, more(2, 1, 0, 5));
        plan("six days", x, 6, more(2, 1, 0, 5));
        plan("not six days", x, 5, more(2, 1, 1, 5));
        plan("three days", x, 3, more(2, 1, 3, 5));
        plan("not three days", x, 2, more(0, 0, 0, 0), more(2, 1, 4, 5));
    }

    private static void namelessOfTheFirstBody() {
        LentNames apart = town(4, "lend 0 to 2 day 5 for 3;lend 1 to 2 day 0 for 3");
        plan("two bodies", apart, 2, more(0, 0, 5, 5), more(0, 1, 0, 0));
        plan("two bodies", apart, 3);
        LentNames same = town(4, "lend 0 to 2 day 5 for 3;lend 1 to 2 day 5 for 3");
        plan("on the same days", same, 2, more(0, 0, 5, 5), more(0, 1, 6, 6));
        // 0 is NAMELESS from 0 to 2 and from 5 to 7. The first DAY is 1: what lies over 0 or 1 comes first. NAME 1 cannot go
        // over both, for 1 would be without on 3 and 4.
        LentNames twice = town(2, "lend 0 to 1 day 0 for 3;lend 0 to 1 day 5 for 3");
        plan("of it the first day", twice, 1, more(0, 0, 0, 1), more(0, 0, 5, 6));
    }

    // ---- "Tried so, for 0, 1, 2, .. 5 in all"; "none by 5" ----

    private static void plansOfFive() {
        String deaths = "dies 4 day 1;dies 5 day 1";
        int[] four = {more(0, 5, 0, 0), more(1, 5, 0, 0), more(2, 5, 0, 0), more(3, 5, 0, 0)};
        plan("four", wished(6, deaths, letter(0, 0, 5), letter(1, 0, 5), letter(2, 0, 5), letter(3, 0, 5)), 12, four);
        LentNames x = wished(6, deaths, letter(4, 0, 5), letter(3, 0, 5), letter(2, 0, 5), letter(1, 0, 5), letter(0, 0, 5));
        plan("five", x, 12, four[0], four[1], four[2], four[3], more(4, 5, 0, 0));
        LentNames y = wished(6, deaths, letter(4, 0, 5), letter(3, 0, 5), letter(2, 0, 5), letter(1, 0, 5), letter(0, 0, 5), letter(5, 0, 4));
        noPlan("six", y, 12, NONE);
        y.wish(0, NONE);
        plan("five of six", y, 12, four[0], four[1], four[2], four[3], more(5, 4, 0, 0));
        y.wish(0, 4);
        plan("one of six is had", y, 12, four[0], four[1], four[2], four[3], more(5, 4, 0, 0));
    }

    // ---- "SPENT, if there would be more than 20000 STEPS in all" ----

    /**
     * With a, b, c, d ways for the first four of five wishes the sizes 0 to 4 take 5 + 4a + 3ab + 2abc + abcd STEPS, and
     * that of 5 comes to its first set with the sixth. There are a wish's DAY and 1, times the DAYS from it to a death ways.
     */
    private static void plansOf20000Steps() {
        // 9, 3, 32 and 21 ways: 5 + 36 + 81 + 1728 + 18144, and 6.
        LentNames x = wished(6, "dies 1 day 5;dies 2 day 3;dies 3 day 11;dies 4 day 9",
            letter(0, 2, 1), letter(1, 2, 2), letter(2, 3, 3), letter(3, 2, 4), letter(4, 0, 5));
        plan("20000 steps", x, 12, more(0, 1, 0, 2), more(1, 2, 0, 2), more(2, 3, 0, 3), more(3, 4, 0, 2), more(4, 5, 0, 0));
        // 10, 5, 18 and 20 ways: 5 + 40 + 150 + 1800 + 18000, and 6.
        LentNames y = wished(6, "dies 1 day 6;dies 2 day 5;dies 3 day 8;dies 4 day 8",
            letter(0, 1, 1), letter(1, 0, 2), letter(2, 2, 3), letter(3, 3, 4), letter(4, 0, 5));
        noPlan("20001 steps", y, 12, -2);
        dueThrow("k below NONE", BAD_ARGUMENT, () -> y.plan(12, -2));
        y.wish(4, NONE);
        plan("four wishes", y, 12, more(0, 1, 0, 1), more(1, 2, 0, 0), more(2, 3, 0, 2), more(3, 4, 0, 3));
    }

    // ---- "the bound is none, or k is below NONE" ----

    private static void boundsAndParts() {
        LentNames x = town(3, "lend 0 to 1 day 0 for 3");
        plan("0", x, 0, more(0, 0, 0, 2));
        plan("12", x, 12);
        for (int bound : new int[] {-1, 13, Integer.MIN_VALUE, Integer.MAX_VALUE}) {
            for (int k : new int[] {-2, NONE, 0}) {
                dueThrow("plan(" + bound + ", " + k + ")", BAD_ARGUMENT, () -> x.plan(bound, k));
            }
        }
        for (int k : new int[] {-2, -3, Integer.MIN_VALUE}) {
            dueThrow("plan(0, " + k + ")", BAD_ARGUMENT, () -> x.plan(0, k));
            dueThrow("plan(12, " + k + ")", BAD_ARGUMENT, () -> x.plan(12, k));
        }
        plan("as it was", x, 0, more(0, 0, 0, 2));
        refused("plan(13, 0)", BAD_ARGUMENT, SearchBoundsTest::twoLetters, y -> y.plan(13, 0));
        refused("plan(0, -2)", BAD_ARGUMENT, SearchBoundsTest::twoLetters, y -> y.plan(0, -2));
    }

    private static void plansFollowWhatIsTold() {
        LentNames x = town(3, "lend 0 to 1 day 0 for 3");
        x.image();
        plan("three days", x, 2, more(0, 0, 0, 0));
        custom(x, "refuse");
        plan("refused", x, 2);
        custom(x, "");
        tell(x, "late 0 by 1;letter 1 day 0 read 0");
        plan("four days", x, 2, more(0, 0, 0, 1));
        x.wish(0, 0);
        plan("a wish", x, 12, more(1, 0, 0, 0));
        x.back();
        plan("three days again", x, 2, more(0, 0, 0, 0));
        plan("another bound", x, 0, more(0, 0, 0, 2));
    }

    // ---- "A SIGHTING AGREES, if who bore the NAME on its DAY is one of those told" ----

    private static void agreeing() {
        LentNames x = town(3, "lend 0 to 1 day 3 for 2;dies 1 day 4;seen 0 day 2 as 0 known 11;seen 0 day 3 as 0 known 11;seen 0 day 3 as 2 or 1 known 11;"
            + "seen 0 day 4 as 1 known 11;seen 0 day 4 as 0 or 1 or 2 known 11;seen 0 day 5 as 0 known 11;seen 0 day 5 as 1 or 2 known 11",
            "seen 2 day 0 as 2 known 0;seen 2 day 11 as 0 or 1 known 11;seen 2 day 11 as 0 or 1 or 2 known 11");
        due("agree", x.agree(), 1 + 4 + 32 + 128 + 512);
        due("none", town(2).agree(), 0);
    }

    // ---- "those told that lived on its DAY" ----

    private static void canHaveBeen() {
        LentNames x = town(6, "dies 1 day 5;dies 5 day 0;seen 0 day 4 as 1 or 2 known 4;seen 0 day 5 as 1 or 2 known 5;seen 0 day 5 as 1 known 5;"
            + "seen 0 day 4 as 1 or 1 known 4;seen 0 day 0 as 0 or 1 or 2 or 3 or 4 or 5 known 0;seen 0 day 11 as 5 or 4 or 3 or 2 or 1 or 0 known 11");
        int[] can = {6, 4, 0, 2, 31, 29};
        for (int seen = 0; seen < can.length; seen++) {
            due("can(" + seen + ")", x.can(seen), can[seen]);
        }
    }

    // ---- "each of which alone, left out, lets all others KNOWN AGREE"; "whose E is that at most" ----

    private static void liars() {
        LentNames x = town(3, "seen 0 day 0 as 0 known 2;seen 1 day 0 as 0 known 4;seen 2 day 0 as 0 known 6");
        int[] liars = {0, 0, 1, 1, 2, 2, 0, 0, 0, 0, 0, 0};
        for (int day = 0; day < 12; day++) {
            due("liars(" + day + ")", x.liars(day), liars[day]);
        }
        LentNames alone = town(3, "seen 2 day 11 as 0 known 11");
        due("not known", alone.liars(10), 0);
        due("alone", alone.liars(11), 1);
        LentNames ten = town(3, times(9, "seen 2 day 0 as 2 known 0") + ";seen 2 day 1 as 1 known 1");
        due("all nine agree", ten.liars(0), 511);
        due("the tenth", ten.liars(1), 512);
        due("none", town(3).liars(11), 0);
    }

    // ---- SECRETS: "KNOWN by a DAY" ----

    private static void secretsByADay() {
        LentNames x = town(3, "seen 0 day 3 as 1 known 5");
        for (int day = 0; day < 12; day++) {
            if (day < 5) {
                secrets("not known", x, day, 1);
            } else {
                secrets("known", x, day, 1, more(0, 1, 3, 3));
            }
        }
        secrets("nothing seen", town(3), 0, 1);
        secrets("all agree", town(3, "seen 0 day 3 as 0 known 5"), 11, 1);
        secrets("on day 0", town(3, "seen 0 day 0 as 2 known 0"), 0, 1, more(0, 2, 0, 0));
        secrets("on day 11", town(3, "seen 0 day 11 as 2 known 11"), 11, 1, more(0, 2, 11, 11));
    }

    // ---- "whose first and last DAY are DAYS of SIGHTINGS KNOWN of that NAME" ----

    private static LentNames seenOften(String more) {
        LentNames x = town(3, "seen 0 day 3 as 1 known 3;seen 0 day 5 as 0 or 1 known 9;seen 1 day 4 as 1 known 4;seen 0 day 1 as 0 or 1 known 11");
        tell(x, more);
        return x;
    }

    private static void secretsBetweenSightings() {
        LentNames x = seenOften("");
        secrets("its own day", x, 3, 1, more(0, 1, 3, 3));
        secrets("the other is not known", x, 8, 1, more(0, 1, 3, 3));
        secrets("it is known", x, 9, 2, more(0, 1, 3, 3));
        secrets("it is known", x, 10, 2, more(0, 1, 3, 3));
        secrets("one ahead is known", x, 11, 4, more(0, 1, 1, 3));
        secrets("asked by an earlier day again", x, 9, 2, more(0, 1, 3, 3));
        secrets("asked by an earlier day again", x, 8, 1, more(0, 1, 3, 3));
        LentNames twice = town(3, "seen 0 day 3 as 1 or 1 known 3;seen 0 day 3 as 1 known 3");
        secrets("what is told twice is one", twice, 3, 1, more(0, 1, 3, 3));
    }

    private static void secretsThatCanBe() {
        secrets("it lives from 3 to 5", seenOften("dies 1 day 6"), 9, 2, more(0, 1, 3, 3));
        secrets("it dies on 5", seenOften("dies 1 day 5"), 9, 1, more(0, 1, 3, 3));
        noSecrets("it is dead on 4, as name 1 is seen at it", seenOften("dies 1 day 4"), 9, NONE);
        secrets("by 2 it bears it on 6", seenOften("lend 0 to 1 day 6 for 1"), 9, 2, more(0, 1, 3, 3));
        secrets("by 2 it bears it on 5", seenOften("lend 0 to 1 day 5 for 1"), 9, 1, more(0, 1, 3, 3));
        secrets("by 2 it bears it on 4", seenOften("lend 0 to 1 day 4 for 1"), 9, 1, more(0, 1, 3, 3));
        secrets("by 2 it bears it on 3", seenOften("lend 0 to 1 day 3 for 1"), 9, 1);
        noSecrets("dead on that day", town(3, "dies 1 day 3;seen 0 day 3 as 1 known 3"), 3, NONE);
        secrets("dead on the next", town(3, "dies 1 day 4;seen 0 day 3 as 1 known 3"), 3, 1, more(0, 1, 3, 3));
        secrets("a buried name", town(3, "dies 0 day 0;seen 0 day 3 as 0 or 2 known 3"), 3, 1, more(0, 2, 3, 3));
    }

    // ---- a MORE LOAN lies over other SIGHTINGS, too ----

    private static void secretsThatSpoilOthers() {
        LentNames x = town(3, "seen 0 day 3 as 1 known 3;seen 0 day 4 as 0 known 4;seen 0 day 5 as 1 known 5");
        secrets("one", x, 4, 1, more(0, 1, 3, 3));
        secrets("two, for the owner is seen between", x, 5, 1, more(0, 1, 3, 3), more(0, 1, 5, 5));
        LentNames y = town(3, "seen 0 day 3 as 1 known 3;seen 0 day 4 as 0 or 1 known 4;seen 0 day 5 as 1 known 5");
        secrets("one goes over all", y, 5, 1, more(0, 1, 3, 5));
        // DAY 4 goes with the one ahead or with the one behind: of one NAME no two have a DAY in common.
        LentNames z = town(3, "seen 0 day 3 as 1 known 3;seen 0 day 4 as 1 or 2 known 4;seen 0 day 5 as 2 known 5");
        secrets("two", z, 5, 2, more(0, 1, 3, 3), more(0, 2, 4, 5));
    }

    // ---- "each .. in order"; "the first one" ----

    private static void secretsInOrder() {
        LentNames x = town(3, "seen 2 day 3 as 0 known 3;seen 0 day 3 as 2 or 1 known 3");
        secrets("by names and bodies", x, 3, 2, more(0, 1, 3, 3), more(2, 0, 3, 3));
        LentNames y = town(6, "seen 0 day 3 as 5 or 4 or 3 or 2 or 1 known 3");
        secrets("five sets", y, 3, 5, more(0, 1, 3, 3));
    }

    // ---- "(0 to 4)" ----

    private static void secretsOfFour() {
        LentNames x = town(6, "seen 4 day 0 as 5 known 0;seen 1 day 0 as 0 known 0;seen 2 day 0 as 0 known 0;seen 3 day 0 as 0 known 0;seen 0 day 0 as 5 known 1");
        secrets("four", x, 0, 1, more(1, 0, 0, 0), more(2, 0, 0, 0), more(3, 0, 0, 0), more(4, 5, 0, 0));
        noSecrets("five", x, 1, NONE);
        tell(x, "lend 2 to 0 day 0 for 1");
        secrets("four again", x, 1, 1, more(0, 5, 0, 0), more(1, 0, 0, 0), more(3, 0, 0, 0), more(4, 5, 0, 0));
    }

    // ---- "SPENT, if there would be more than 20000 STEPS in all" ----

    private static String seen(int name, int day, String bodies) {
        return "seen " + name + " day " + day + " as " + bodies + " known 11";
    }

    /** With a, b, c, d ways for four sightings the sizes 0 to 4 take 5 + 4a + 3ab + 2abc + abcd STEPS, and abcd are sets. */
    private static void secretsOf20000Steps() {
        String all = "0 or 1 or 2 or 3 or 4 or 5";
        // 15, 3, 20 and 20 ways: 5 + 60 + 135 + 1800 + 18000.
        LentNames x = town(6, String.join(";", seen(0, 3, all), seen(0, 4, all), seen(2, 4, all), seen(2, 6, all), seen(3, 4, all), seen(3, 6, all)),
            String.join(";", seen(0, 5, "1 or 2 or 3 or 4 or 5"), seen(1, 5, "0 or 2 or 3"), seen(2, 5, "0 or 1 or 3 or 4 or 5"), seen(3, 5, "0 or 1 or 2 or 4 or 5")));
        secrets("20000 steps", x, 11, 18000, more(0, 1, 3, 5), more(1, 0, 5, 5), more(2, 0, 4, 5), more(3, 0, 4, 5));
        // 4, 15, 15 and 20 ways: 5 + 16 + 180 + 1800 + 18000.
        LentNames y = town(6, String.join(";", seen(1, 3, all), seen(1, 4, all), seen(2, 3, all), seen(2, 4, all), seen(3, 4, all), seen(3, 6, all)),
            String.join(";", seen(0, 5, "1 or 2 or 3 or 4"), seen(1, 5, "0 or 2 or 3 or 4 or 5"), seen(2, 5, "0 or 1 or 3 or 4 or 5"), seen(3, 5, "0 or 1 or 2 or 4 or 5")));
        noSecrets("20001 steps", y, 11, -3);
        secrets("none is known", y, 10, 1);
        dueThrow("what below -2", BAD_ARGUMENT, () -> y.secrets(11, -3));
    }

    // ---- "what is below -2", and what tells which ----

    private static LentNames seenOnce() {
        return town(3, "seen 0 day 3 as 1 or 2 known 5");
    }

    private static void partsOfSecrets() {
        LentNames x = seenOnce();
        due("how many", x.secrets(5, -1), 1);
        due("sets", x.secrets(5, -2), 2);
        due("the first", x.secrets(5, 0), more(0, 1, 3, 3));
        due("behind it", x.secrets(5, 1), NONE);
        for (int what : new int[] {-3, -4, Integer.MIN_VALUE}) {
            refused("secrets(5, " + what + ")", BAD_ARGUMENT, SearchBoundsTest::seenOnce, y -> y.secrets(5, what));
            refused("secrets(12, " + what + ")", NO_INDEX, SearchBoundsTest::seenOnce, y -> y.secrets(12, what));
            refused("secrets(-1, " + what + ")", NO_INDEX, SearchBoundsTest::seenOnce, y -> y.secrets(-1, what));
        }
        due("as it was", x.secrets(5, -2), 2);
    }

    private static void secretsFollowWhatIsTold() {
        LentNames x = seenOnce();
        x.image();
        secrets("at first", x, 5, 2, more(0, 1, 3, 3));
        tell(x, "lend 0 to 2 day 3 for 1");
        secrets("it is lent", x, 5, 1);
        custom(x, "refuse");
        secrets("it is refused", x, 5, 2, more(0, 1, 3, 3));
        tell(x, "dies 1 day 3");
        secrets("one is dead", x, 5, 1, more(0, 2, 3, 3));
        x.back();
        secrets("back", x, 5, 2, more(0, 1, 3, 3));
        secrets("another day", x, 4, 1);
    }

    // ---- the last of six NAMES and BODIES is as the others ----

    private static void lastNameAndBody() {
        plan("a wish", wished(6, "", letter(5, 11, 4)), 12, more(5, 4, 0, 11));
        plan("a wish", wished(6, "", letter(4, 0, 5)), 12, more(4, 5, 0, 0));
        plan("nameless", town(6, "lend 5 to 4 day 0 for 12"), 11, more(0, 5, 0, 0));
        plan("not nameless", town(6, "lend 5 to 4 day 0 for 12"), 12);
        // Nobody else may be without: only NAME 5 itself, or one that another has besides, will do.
        plan("nameless on no day", town(6, "lend 5 to 4 day 0 for 12"), 0, more(4, 5, 0, 11));
        secrets("seen", town(6, "seen 5 day 11 as 4 known 11"), 11, 1, more(5, 4, 11, 11));
        secrets("seen", town(6, "seen 4 day 11 as 5 known 11"), 11, 1, more(4, 5, 11, 11));
        secrets("seen", town(2, "seen 1 day 0 as 0 known 0"), 0, 1, more(1, 0, 0, 0));
        LentNames ten = town(6, times(9, "seen 0 day 0 as 0 known 0") + ";seen 5 day 2 as 4 known 2");
        due("the tenth", ten.agree(), 511);
        due("the tenth", ten.can(9), 16);
        secrets("the tenth", ten, 2, 1, more(5, 4, 2, 2));
    }
}
