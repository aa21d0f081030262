/** BODIES, LOANS and DAYS: each sentence of the document that names a boundary, from both sides of it. */
public final class DayBoundsTest extends Check {
    public static void main(String[] args) {
        twoToSixBodies();
        peopleAheadOfTexts();
        lastDays();
        lastDaysAndTheEnd();
        endsWithAllBehind();
        firstOfTheRowCounts();
        deadFromThatDayOn();
        buriedWithTheBearer();
        buriedByAnEnd();
        courtsAndRight();
        courtsAndTheDead();
        courtsEndFromTheLastOn();
        courtsAheadOfLoans();
        loansByNumbers();
        loansOfBuriedNames();
        loansByRight();
        loansThatMayBeLentOn();
        loansToTheBearer();
        loansToTheDead();
        loansThatBeginByCustom();
        firstLineThatHolds();
        askedByCustom();
        givesAndTakes();
        ownAndMine();
        andOrNot();
        namelessDays();
        longestRuns();
        pledgesBehindTheLastDay();
        pledgesTillTheEnd();
        pledgesOfRows();
        waysAndHands();
        busiest();
        richAndBorne();
        ownersAgain();
        wholeRows();
        sixBodies();
        twentyLoans();
        exit();
    }

    // ---- helpers: a sign for each DAY, '-' for NONE ----

    private static void bearers(LentNames x, int name, String signs) {
        int people = x.count(0);
        for (int day = 0; day < 12; day++) {
            int want = signs.charAt(day) == '-' ? NONE : signs.charAt(day) - '0';
            due("bears(" + name + ", " + day + ")", x.bears(name, day), want);
            for (int body = 0; body < people; body++) {
                due("names(" + body + ", " + day + ")", (x.names(body, day) >> name & 1) == 1, body == want);
            }
        }
    }

    private static void hows(LentNames x, int name, String signs) {
        for (int day = 0; day < 12; day++) {
            due("how(" + name + ", " + day + ")", x.how(name, day), signs.charAt(day) - '0');
        }
    }

    private static void ended(LentNames x, int... days) {
        for (int loan = 0; loan < days.length; loan++) {
            due("the end of loan " + loan, x.look(loan, 6), days[loan]);
        }
    }

    private static void refusals(String what, LentNames x, String signs) {
        int refused = 0;
        for (int loan = 0; loan < signs.length(); loan++) {
            boolean want = signs.charAt(loan) == 'r';
            refused += want ? 1 : 0;
            due(what + ": refused " + loan, x.look(loan, 4), want ? 1 : 0);
            due(what + ": a lender of " + loan, x.look(loan, 5) == NONE, want);
            if (want) {
                due(what + ": no end of " + loan, x.look(loan, 6), NONE);
                due(what + ": nothing is owed by " + loan, x.look(loan, 7), 0);
            }
        }
        due(what + ": refused in all", x.count(6), refused);
    }

    // ---- "N 2 to 6; 4 at first" ----

    private static void twoToSixBodies() {
        due("4 at first", new LentNames().count(0), 4);
        for (int n = 2; n <= 6; n++) {
            LentNames x = new LentNames();
            x.people(n);
            due("N", x.count(0), n);
            for (int k = 0; k < n; k++) {
                bearers(town(n), k, String.valueOf(k).repeat(12));
            }
            int none = n;
            dueThrow("no name " + n, NO_INDEX, () -> x.bears(none, 0));
            dueThrow("no body " + n, NO_INDEX, () -> x.names(none, 0));
        }
        for (int n : new int[] {1, 0, -1, 7, 8, Integer.MIN_VALUE, Integer.MAX_VALUE}) {
            refused("people(" + n + ")", BAD_ARGUMENT, () -> town(5), x -> x.people(n));
            refused("people(" + n + ") behind a text", BAD_ARGUMENT, () -> town(5, "court day 1"), x -> x.people(n));
        }
    }

    // ---- "IllegalStateException: texts were told" ----

    private static void peopleAheadOfTexts() {
        for (int n = 2; n <= 6; n++) {
            int people = n;
            refused("people(" + n + ") behind a text", BAD_STATE, () -> town(5, ""), x -> x.people(people));
            refused("people(" + n + ") behind two", BAD_STATE, () -> town(5, "court day 1", "court day 2"), x -> x.people(people));
        }
        LentNames x = new LentNames();
        custom(x, "refuse");
        x.people(3);
        due("a custom is no text of the town", x.count(0), 3);
        due("it stays", x.count(10), 1);
        write(x, "court day 12");
        dueThrow("a wrong text", BAD_ARGUMENT, x::tell);
        x.people(5);
        due("a wrong text was not told", x.count(0), 5);
        x.image();
        tell(x, "");
        dueThrow("a text was told", BAD_STATE, () -> x.people(6));
        x.back();
        x.people(6);
        due("ahead of it again", x.count(0), 6);
    }

    // ---- "the LAST DAY of a LOAN is its DAY and F less 1, and LATE more"; "whose LAST DAY is over ends" ----

    private static void lastDays() {
        LentNames x = town(2, "lend 0 to 1 day 2 for 1");
        bearers(x, 0, "001000000000");
        hows(x, 0, "001000000000");
        due("last day", x.look(0, 3), 2);
        ended(x, 3);
        tell(x, "late 0 by 1");
        bearers(x, 0, "001100000000");
        hows(x, 0, "001200000000");
        due("a day late", x.look(0, 3), 3);
        ended(x, 4);
        tell(x, "late 0 by 8");
        bearers(x, 0, "001111111110");
        hows(x, 0, "001222222220");
        ended(x, 11);
        LentNames y = town(2, "lend 0 to 1 day 0 for 3");
        bearers(y, 0, "111000000000");
        ended(y, 3);
    }

    // ---- "(NONE if REFUSED, or not by 11)" ----

    private static void lastDaysAndTheEnd() {
        LentNames x = town(6, "lend 0 to 5 day 0 for 11;lend 1 to 5 day 0 for 12;lend 2 to 5 day 11 for 1;lend 3 to 5 day 11 for 12;lend 4 to 5 day 10 for 1");
        ended(x, 11, NONE, NONE, NONE, 11);
        int[] last = {10, 11, 11, 22, 10};
        for (int loan = 0; loan < 5; loan++) {
            due("last day", x.look(loan, 3), last[loan]);
        }
        bearers(x, 0, "555555555550");
        bearers(x, 1, "555555555555");
        bearers(x, 2, "222222222225");
        bearers(x, 4, "444444444454");
        tell(x, "late 0 by 1;late 3 by 12;late 4 by 1");
        ended(x, NONE, NONE, NONE, NONE, NONE);
        due("the last of all", x.look(3, 3), 34);
        hows(x, 0, "111111111112");
        hows(x, 4, "000000000012");
    }

    // ---- "and with it all behind it in its ROW" ----

    private static void endsWithAllBehind() {
        LentNames x = town(4, "lend 0 to 1 day 0 for 3 on;lend 0 to 2 day 1 for 12 on;lend 0 to 3 day 2 for 12");
        bearers(x, 0, "123000000000");
        hows(x, 0, "111000000000");
        ended(x, 3, 3, 3);
        due("as told", x.look(2, 3), 13);
        tell(x, "late 0 by 1");
        bearers(x, 0, "123300000000");
        hows(x, 0, "111200000000");
        ended(x, 4, 4, 4);
        // Those ahead of it stay.
        LentNames y = town(4, "lend 0 to 1 day 0 for 12 on;lend 0 to 2 day 1 for 2 on;lend 0 to 3 day 2 for 12");
        bearers(y, 0, "123111111111");
        hows(y, 0, "111111111111");
        ended(y, NONE, 3, 3);
        LentNames z = town(4, "lend 0 to 1 day 0 for 12 on;lend 0 to 2 day 1 for 12 on;lend 0 to 3 day 2 for 2");
        bearers(z, 0, "123322222222");
        ended(z, NONE, NONE, 4);
    }

    // ---- "(the first such one in the ROW counts)" ----

    private static void firstOfTheRowCounts() {
        LentNames x = town(4, "lend 0 to 1 day 0 for 3 on;lend 0 to 2 day 1 for 2 on;lend 0 to 3 day 2 for 1");
        bearers(x, 0, "123000000000");
        ended(x, 3, 3, 3);
        LentNames y = town(4, "lend 0 to 1 day 0 for 12 on;lend 0 to 2 day 1 for 2 on;lend 0 to 3 day 2 for 1");
        bearers(y, 0, "123111111111");
        ended(y, NONE, 3, 3);
    }

    // ---- "who DIES on that DAY is dead from then on" ----

    private static void deadFromThatDayOn() {
        for (int day = 0; day < 12; day++) {
            LentNames x = town(2, "dies 1 day " + day);
            for (int d = 0; d < 12; d++) {
                due("lives", x.lives(1, d), d < day);
                due("lives", x.lives(0, d), true);
                due("bears", x.bears(1, d), d < day ? 1 : NONE);
                due("how", x.how(1, d), d < day ? 0 : 3);
                due("row", x.row(1, d, 0), 1);
            }
            due("borne", x.borne(1, 1), day);
        }
        LentNames y = town(2);
        due("nobody dies", y.lives(1, 11), true);
        due("nobody dies", y.count(7), 0);
    }

    // ---- "A NAME whose BEARER is dead, by (a) or now, is BURIED: nobody bears it" ----

    private static void buriedWithTheBearer() {
        LentNames x = town(3, "lend 0 to 1 day 0 for 6;dies 1 day 3");
        bearers(x, 0, "111---000000");
        hows(x, 0, "111333000000");
        due("it lies with the dead", x.row(0, 5, 1), 1);
        due("it came back", x.row(0, 6, 1), NONE);
        ended(x, 6);
        // On its last day it is buried, too.
        LentNames y = town(3, "lend 0 to 1 day 0 for 6;dies 1 day 5");
        bearers(y, 0, "11111-000000");
        LentNames z = town(3, "lend 0 to 1 day 0 for 6;dies 1 day 6");
        bearers(z, 0, "111111000000");
        // A late one is buried, not without right.
        LentNames late = town(3, "lend 0 to 1 day 0 for 2;late 0 by 3;dies 1 day 3");
        hows(late, 0, "112330000000");
        // Who is dead within a row does not bury it.
        LentNames row = town(3, "lend 0 to 1 day 0 for 12 on;lend 0 to 2 day 1 for 5;dies 1 day 3");
        bearers(row, 0, "122222------");
        hows(row, 0, "111111333333");
    }

    private static void buriedByAnEnd() {
        LentNames x = town(2, "lend 0 to 1 day 0 for 5;dies 0 day 2");
        bearers(x, 0, "11111-------");
        hows(x, 0, "111113333333");
        due("at its owner", x.row(0, 5, 1), NONE);
        LentNames y = town(2, "lend 0 to 1 day 0 for 5;dies 0 day 5");
        bearers(y, 0, "11111-------");
        LentNames z = town(2, "lend 0 to 1 day 0 for 5;dies 0 day 6");
        bearers(z, 0, "111110------");
        hows(z, 0, "111110333333");
    }

    // ---- "a COURT: each NAME that is BURIED, or borne WITHOUT RIGHT" ----

    private static void courtsAndRight() {
        String loan = "lend 0 to 1 day 0 for 3;late 0 by 5";
        LentNames without = town(2, loan);
        bearers(without, 0, "111111110000");
        hows(without, 0, "111222220000");
        LentNames byRight = town(2, loan + ";court day 0;court day 1;court day 2");
        bearers(byRight, 0, "111111110000");
        ended(byRight, 8);
        LentNames atOnce = town(2, loan + ";court day 3");
        bearers(atOnce, 0, "111000000000");
        hows(atOnce, 0, "111000000000");
        ended(atOnce, 3);
        due("as told", atOnce.look(0, 3), 7);
        LentNames onTheLast = town(2, loan + ";court day 7");
        bearers(onTheLast, 0, "111111100000");
        ended(onTheLast, 7);
        LentNames over = town(2, loan + ";court day 8;court day 11");
        bearers(over, 0, "111111110000");
        ended(over, 8);
        LentNames eleven = town(2, "lend 0 to 1 day 0 for 11;late 0 by 1;court day 11");
        bearers(eleven, 0, "111111111110");
        ended(eleven, 11);
        LentNames ten = town(2, "lend 0 to 1 day 0 for 12;late 0 by 1;court day 11");
        bearers(ten, 0, "111111111111");
        ended(ten, NONE);
        // Each NAME for itself.
        LentNames two = town(3, "lend 0 to 2 day 0 for 3;late 0 by 5;lend 1 to 2 day 0 for 4;late 1 by 5;court day 3");
        bearers(two, 0, "222000000000");
        bearers(two, 1, "222222222111");
    }

    private static void courtsAndTheDead() {
        String loan = "lend 0 to 1 day 0 for 6;dies 1 day 3";
        LentNames ahead = town(3, loan + ";court day 2");
        bearers(ahead, 0, "111---000000");
        LentNames atOnce = town(3, loan + ";court day 3");
        bearers(atOnce, 0, "111000000000");
        hows(atOnce, 0, "111000000000");
        ended(atOnce, 3);
        LentNames later = town(3, loan + ";court day 5");
        bearers(later, 0, "111--0000000");
        ended(later, 5);
        // "if nobody is left who lives, it stays BURIED, at its OWNER"
        LentNames nobody = town(3, "lend 0 to 1 day 0 for 12;dies 1 day 3;dies 0 day 3;court day 3");
        bearers(nobody, 0, "111---------");
        hows(nobody, 0, "111333333333");
        due("at its owner", nobody.row(0, 3, 1), NONE);
        ended(nobody, 3);
        LentNames owner = town(3, "lend 0 to 1 day 0 for 12;dies 1 day 3;dies 0 day 4;court day 3");
        bearers(owner, 0, "1110--------");
        LentNames late = town(3, "lend 0 to 1 day 0 for 2;late 0 by 9;dies 0 day 1;court day 2");
        bearers(late, 0, "11----------");
        due("at its owner", late.row(0, 2, 1), NONE);
        ended(late, 2);
        // A name of its dead owner has nothing that could end.
        LentNames own = town(3, "dies 0 day 0;court day 0;court day 1");
        hows(own, 0, "333333333333");
        bearers(own, 1, "111111111111");
        // A dead owner's name that is borne by right stays where it is.
        LentNames lent = town(3, "lend 0 to 1 day 0 for 12;dies 0 day 1;court day 1");
        bearers(lent, 0, "111111111111");
        ended(lent, NONE);
    }

    // ---- "LOANS of its ROW end, from the last one on, till its BEARER lives and has it by RIGHT" ----

    private static void courtsEndFromTheLastOn() {
        String row = "lend 0 to 1 day 0 for 12 on;lend 0 to 2 day 0 for 12 on;lend 0 to 3 day 0 for 12";
        LentNames last = town(4, row + ";dies 3 day 4;court day 4");
        bearers(last, 0, "333322222222");
        ended(last, NONE, NONE, 4);
        LentNames both = town(4, row + ";dies 3 day 4;dies 2 day 3;court day 4");
        bearers(both, 0, "333311111111");
        ended(both, NONE, 4, 4);
        LentNames all = town(4, row + ";dies 3 day 4;dies 2 day 3;dies 1 day 2;court day 4");
        bearers(all, 0, "333300000000");
        ended(all, 4, 4, 4);
        LentNames within = town(4, row + ";dies 1 day 4;dies 2 day 4;court day 4");
        bearers(within, 0, "333333333333");
        ended(within, NONE, NONE, NONE);
        String first = "lend 0 to 1 day 0 for 2 on;late 0 by 9;lend 0 to 2 day 0 for 12 on;lend 0 to 3 day 0 for 12";
        LentNames firstLate = town(4, first + ";court day 2");
        bearers(firstLate, 0, "330000000000");
        ended(firstLate, 2, 2, 2);
        String second = "lend 0 to 1 day 0 for 12 on;lend 0 to 2 day 0 for 2 on;late 1 by 9;lend 0 to 3 day 0 for 12";
        LentNames secondLate = town(4, second + ";court day 2");
        bearers(secondLate, 0, "331111111111");
        hows(secondLate, 0, "111111111111");
        ended(secondLate, NONE, 2, 2);
        String third = "lend 0 to 1 day 0 for 12 on;lend 0 to 2 day 0 for 12 on;lend 0 to 3 day 0 for 2;late 2 by 9";
        LentNames thirdLate = town(4, third + ";court day 2");
        bearers(thirdLate, 0, "332222222222");
        ended(thirdLate, NONE, NONE, 2);
        LentNames toTheDead = town(4, third + ";dies 2 day 1;court day 2");
        bearers(toTheDead, 0, "331111111111");
        ended(toTheDead, NONE, 2, 2);
    }

    // ---- the order of (a) to (d) on one DAY ----

    private static void courtsAheadOfLoans() {
        LentNames x = town(3, "lend 0 to 1 day 0 for 2;late 0 by 9;court day 2;lend 0 to 2 day 2 for 3");
        refusals("lent again behind the court", x, "bb");
        bearers(x, 0, "112220000000");
        due("its lender", x.look(1, 5), 0);
        LentNames early = town(3, "lend 0 to 1 day 0 for 2;late 0 by 9;court day 2;lend 0 to 2 day 1 for 3");
        refusals("ahead of it", early, "br");
        LentNames ends = town(3, "lend 0 to 1 day 0 for 2;lend 0 to 2 day 2 for 3;lend 0 to 2 day 1 for 3");
        refusals("lent again as it ends", ends, "bbr");
        LentNames sameDay = town(3, "lend 0 to 1 day 2 for 1;court day 2");
        bearers(sameDay, 0, "001000000000");
        LentNames dying = town(3, "lend 0 to 1 day 2 for 1;dies 0 day 2");
        refusals("deaths are ahead of loans", dying, "r");
    }

    // ---- "LOANS of that DAY, by numbers" ----

    private static void loansByNumbers() {
        LentNames x = town(3, "lend 0 to 1 day 1 for 2;lend 0 to 2 day 1 for 3");
        refusals("the first one", x, "br");
        bearers(x, 0, "011000000000");
        LentNames y = town(3, "lend 0 to 2 day 1 for 3", "lend 0 to 1 day 1 for 2");
        refusals("over texts", y, "br");
        bearers(y, 0, "022200000000");
        LentNames on = town(3, "lend 0 to 1 day 1 for 5 on;lend 0 to 2 day 1 for 3");
        refusals("one on the other", on, "bb");
        bearers(on, 0, "022211000000");
        due("its lender", on.look(1, 5), 1);
        LentNames days = town(3, "lend 0 to 1 day 5 for 2;lend 0 to 2 day 2 for 3", "lend 0 to 2 day 0 for 1");
        refusals("days count first", days, "bbb");
        bearers(days, 0, "202221100000");
        LentNames between = town(3, "lend 0 to 1 day 5 for 2;lend 0 to 2 day 2 for 4");
        refusals("days count first", between, "rb");
    }

    // ---- "a LOAN begins, if the NAME is not BURIED" ----

    private static void loansOfBuriedNames() {
        refusals("its owner lives", town(3, "lend 0 to 1 day 2 for 1;dies 0 day 3"), "b");
        refusals("its owner is dead", town(3, "lend 0 to 1 day 2 for 1;dies 0 day 2"), "r");
        refusals("its owner died ahead", town(3, "lend 0 to 1 day 2 for 1;dies 0 day 1"), "r");
        refusals("its bearer lives", town(3, "lend 0 to 1 day 0 for 9 on;lend 0 to 2 day 2 for 1;dies 1 day 3"), "bb");
        refusals("its bearer is dead", town(3, "lend 0 to 1 day 0 for 9 on;lend 0 to 2 day 2 for 1;dies 1 day 2"), "br");
        refusals("not though its owner wants it", town(3, "lend 0 to 1 day 0 for 9 on;lend 0 to 0 day 2 for 1;dies 1 day 2"), "br");
    }

    // ---- "its BEARER has it by RIGHT" ----

    private static void loansByRight() {
        String lent = "lend 0 to 1 day 0 for 3 on;late 0 by 5;";
        refusals("on its last day by right", town(3, lent + "lend 0 to 2 day 2 for 1"), "bb");
        refusals("on the day behind", town(3, lent + "lend 0 to 2 day 3 for 1"), "br");
        refusals("on its last day", town(3, lent + "lend 0 to 2 day 7 for 1"), "br");
        refusals("when it is over", town(3, lent + "lend 0 to 2 day 8 for 1"), "bb");
        // Without right is who has it behind such a loan, too.
        String row = "lend 0 to 1 day 0 for 3 on;late 0 by 5;lend 0 to 2 day 0 for 9 on;";
        refusals("by right", town(4, row + "lend 0 to 3 day 2 for 1"), "bbb");
        refusals("some loan of its row is behind", town(4, row + "lend 0 to 3 day 3 for 1"), "bbr");
        // A loan on may last longer than that on which it stands, and ends with it.
        LentNames longer = town(3, "lend 0 to 1 day 0 for 3 on;lend 0 to 2 day 2 for 12");
        refusals("a longer one", longer, "bb");
        bearers(longer, 0, "112000000000");
    }

    // ---- "is its OWNER or has it by a LOAN that may be lent on" ----

    private static void loansThatMayBeLentOn() {
        refusals("on", town(3, "lend 0 to 1 day 0 for 3 on;lend 0 to 2 day 1 for 1"), "bb");
        refusals("not on", town(3, "lend 0 to 1 day 0 for 3;lend 0 to 2 day 1 for 1"), "br");
        refusals("on, then not on", town(4, "lend 0 to 1 day 0 for 3 on;lend 0 to 2 day 0 for 3;lend 0 to 3 day 1 for 1"), "bbr");
        refusals("on, then on", town(4, "lend 0 to 1 day 0 for 3 on;lend 0 to 2 day 0 for 3 on;lend 0 to 3 day 1 for 1"), "bbb");
        refusals("its owner, when it is back", town(3, "lend 0 to 1 day 0 for 1;lend 0 to 2 day 1 for 1"), "bb");
        refusals("when the last one is back", town(4, "lend 0 to 1 day 0 for 9 on;lend 0 to 2 day 0 for 1;lend 0 to 3 day 1 for 1"), "bbb");
        // By a loan on a loan it may come back to its owner, who may lend it.
        refusals("to its owner", town(3, "lend 0 to 1 day 0 for 3 on;lend 0 to 0 day 0 for 3;lend 0 to 2 day 1 for 1"), "bbb");
        refusals("not to its owner", town(3, "lend 0 to 1 day 0 for 3;lend 0 to 0 day 0 for 3"), "br");
    }

    // ---- "is not B" ----

    private static void loansToTheBearer() {
        refusals("to its owner", town(3, "lend 0 to 0 day 0 for 3"), "r");
        refusals("to another", town(3, "lend 0 to 1 day 0 for 3"), "b");
        refusals("to who has it", town(3, "lend 0 to 1 day 0 for 3 on;lend 0 to 1 day 1 for 3"), "br");
        refusals("when it is back", town(3, "lend 0 to 1 day 0 for 3 on;lend 0 to 1 day 3 for 3"), "bb");
        refusals("to who had it and lent it on", town(3, "lend 0 to 1 day 0 for 3 on;lend 0 to 2 day 0 for 3 on;lend 0 to 1 day 0 for 3"), "bbb");
    }

    // ---- "B lives" ----

    private static void loansToTheDead() {
        refusals("who dies tomorrow", town(3, "lend 0 to 1 day 4 for 3;dies 1 day 5"), "b");
        refusals("who dies today", town(3, "lend 0 to 1 day 4 for 3;dies 1 day 4"), "r");
        refusals("who is dead", town(3, "lend 0 to 1 day 4 for 3;dies 1 day 0"), "r");
        LentNames x = town(3, "lend 0 to 1 day 4 for 3;dies 1 day 4");
        bearers(x, 0, "000000000000");
    }

    // ---- "and CUSTOM grants it .. (without one, or a text, it does); else it is REFUSED" ----

    private static LentNames judged(String custom) {
        LentNames x = town(3, "lend 0 to 1 day 4 for 3 on pledge 7;late 0 by 1");
        custom(x, custom);
        return x;
    }

    private static void loansThatBeginByCustom() {
        refusals("without a text", town(3, "lend 0 to 1 day 4 for 3"), "b");
        refusals("without a line", judged(""), "b");
        refusals("without one that holds", judged("refuse if 2 < 1"), "b");
        refusals("without one of two that holds", judged("refuse if 2 < 1;grant if 2 < 1"), "b");
        refusals("by one that grants", judged("grant"), "b");
        LentNames x = judged("refuse");
        refusals("by one that refuses", x, "r");
        bearers(x, 0, "000000000000");
        due("last day as told", x.look(0, 3), 7);
        due("nothing is owed", x.owes(1, false), 0);
        // It counts for loans that were told ahead of it and behind it.
        tell(x, "lend 1 to 0 day 4 for 1");
        refusals("behind it", x, "rr");
        custom(x, "grant");
        refusals("in place of it", x, "bb");
    }

    private static void firstLineThatHolds() {
        refusals("grant is first", judged("grant;refuse"), "b");
        refusals("refuse is first", judged("refuse;grant"), "r");
        refusals("grant holds first", judged("refuse if day > 4;grant if day > 3;refuse"), "b");
        refusals("refuse holds first", judged("grant if day > 4;refuse if day > 3;grant"), "r");
        refusals("the tenth", judged(times(9, "grant if day > 4") + ";refuse"), "r");
    }

    /** The part of a SUM is asked with that value for the last of the loans that are told. */
    private static void asked(String part, int value, String loans) {
        String[] lines = loans.split(";");
        int last = -1;
        for (String line : lines) {
            last += line.startsWith("lend") ? 1 : 0;
        }
        String[] refuse = {" < " + value, " > " + value, " + 1 > " + value, " < 1 + " + value};
        int[] want = {0, 0, 1, 1};
        for (int k = 0; k < 4; k++) {
            LentNames x = town(4, loans);
            // The other loans are told apart by their days.
            custom(x, "grant if days < 9;refuse if " + part + refuse[k]);
            due(part + refuse[k] + " of " + loans, x.look(last, 4), want[k]);
        }
    }

    // ---- "day: the DAY; days: F; pledge: P; deep: LOANS in the ROW ahead of it" ----

    private static void askedByCustom() {
        for (int day : new int[] {0, 1, 11}) {
            asked("day", day, "lend 0 to 1 day " + day + " for 9");
        }
        for (int days = 9; days <= 12; days++) {
            asked("days", days, "lend 0 to 1 day 0 for " + days);
            asked("days", days, "lend 0 to 1 day 0 for " + days + ";late 0 by 3");
        }
        asked("pledge", 0, "lend 0 to 1 day 0 for 9");
        asked("pledge", 0, "lend 0 to 1 day 0 for 9 pledge 0");
        asked("pledge", 999, "lend 0 to 1 day 0 for 9 pledge 999");
        asked("deep", 0, "lend 0 to 1 day 0 for 9");
        asked("deep", 1, "lend 0 to 1 day 0 for 8 on;lend 0 to 2 day 0 for 9");
        asked("deep", 2, "lend 0 to 1 day 0 for 8 on;lend 0 to 2 day 0 for 8 on;lend 0 to 3 day 0 for 9");
        asked("deep", 0, "lend 0 to 1 day 0 for 1 on;lend 0 to 2 day 1 for 9");
        asked("deep", 1, "lend 0 to 1 day 0 for 8 on;lend 0 to 2 day 0 for 1 on;lend 0 to 3 day 1 for 9");
        asked("deep", 0, "lend 1 to 2 day 0 for 8;lend 0 to 2 day 0 for 9");
    }

    // ---- "gives, takes: how many NAMES the LENDER, B bears just then" ----

    private static void givesAndTakes() {
        asked("gives", 1, "lend 0 to 1 day 0 for 9");
        asked("takes", 1, "lend 0 to 1 day 0 for 9");
        asked("takes", 0, "lend 1 to 2 day 0 for 8;lend 0 to 1 day 0 for 9");
        asked("takes", 1, "lend 1 to 2 day 0 for 1;lend 0 to 1 day 1 for 9");
        asked("takes", 2, "lend 2 to 1 day 0 for 8;lend 0 to 1 day 0 for 9");
        asked("takes", 3, "lend 2 to 1 day 0 for 8;lend 3 to 1 day 0 for 8;lend 0 to 1 day 0 for 9");
        asked("gives", 2, "lend 1 to 0 day 0 for 8;lend 0 to 2 day 0 for 9");
        asked("gives", 2, "lend 0 to 1 day 0 for 8 on;lend 0 to 2 day 0 for 9");
        asked("gives", 1, "lend 0 to 1 day 0 for 8 on;lend 1 to 3 day 0 for 8;lend 0 to 2 day 0 for 9");
        asked("gives", 4, "lend 1 to 0 day 0 for 8;lend 2 to 0 day 0 for 8;lend 3 to 0 day 0 for 8;lend 0 to 2 day 0 for 9");
        // A loan of the same day with a greater number has not begun yet.
        LentNames x = town(3, "lend 0 to 1 day 0 for 9;lend 2 to 1 day 0 for 1");
        custom(x, "refuse if takes > 1");
        refusals("by numbers", x, "br");
    }

    // ---- "own: the LENDER is the OWNER; mine: B is" ----

    private static void ownAndMine() {
        String row = "lend 0 to 1 day 0 for 9 on;lend 0 to 2 day 0 for 9 on;lend 0 to 0 day 0 for 9;lend 1 to 0 day 0 for 9";
        String[][] judged = {{"refuse if own", "rrrr"}, {"refuse if mine", "bbrb"}, {"refuse if not own", "brrb"}, {"refuse if not mine", "rrrr"},
            {"refuse if own or mine", "rrrr"}, {"refuse if own and mine", "bbbb"}, {"refuse if not own and not mine", "brbb"}};
        for (String[] pair : judged) {
            LentNames x = town(3, row);
            custom(x, pair[0]);
            refusals(pair[0], x, pair[1]);
        }
    }

    // ---- "C: ALL { or ALL }; ALL: ATOM { and ATOM }; ATOM: not ATOM | ( C ) | .." ----

    private static void holds(String condition, boolean want) {
        LentNames x = town(2, "lend 0 to 1 day 0 for 1");
        custom(x, "refuse if " + condition);
        due(condition, x.look(0, 4) == 1, want);
    }

    /** As holds(), for a loan by which a name comes back to its owner. */
    private static void holdsBack(String condition, boolean want) {
        LentNames x = town(2, "lend 0 to 1 day 0 for 2 on;lend 0 to 0 day 1 for 1");
        custom(x, "grant if day < 1;refuse if " + condition);
        due(condition, x.look(1, 4) == 1, want);
    }

    private static void andOrNot() {
        String[] yes = {"own", "1 < 2", "2 > 1", "not mine", "(own)", "not not own", "not 1 < 1", "not 1 > 1"};
        String[] no = {"mine", "2 < 1", "1 > 2", "not own", "(mine)", "not not mine", "1 < 1", "1 > 1"};
        for (String y : yes) {
            holds(y, true);
            for (String other : yes) {
                holds(y + " and " + other, true);
                holds(y + " or " + other, true);
                holds("not (" + y + " and " + other + ")", false);
            }
            for (String n : no) {
                holds(y + " and " + n, false);
                holds(n + " and " + y, false);
                holds(y + " or " + n, true);
                holds(n + " or " + y, true);
                holds("not (" + y + " and " + n + ")", true);
            }
        }
        for (String n : no) {
            holds(n, false);
            for (String other : no) {
                holds(n + " and " + other, false);
                holds(n + " or " + other, false);
                holds("not (" + n + " or " + other + ")", true);
            }
        }
        for (String y : new String[] {"mine", "not own", "1 < 2", "not (own)"}) {
            holdsBack("mine and " + y, true);
            holdsBack(y + " and mine", true);
            holdsBack("not mine and " + y, false);
            holdsBack("own or " + y, true);
            holdsBack(y + " or own", true);
            holdsBack("not mine or not " + y, false);
        }
        // "and" is within "or", and "not" takes one ATOM alone.
        holds("own or own and mine", true);
        holds("mine and own or own", true);
        holds("(own or own) and mine", false);
        holds("mine and (own or own)", false);
        holds("not mine or own and mine", true);
        holds("not own or own", true);
        holds("not (own or own)", false);
        holds("not mine and mine", false);
        holds("mine or mine or own", true);
        holds("own and own and mine", false);
    }

    // ---- "NAMELESS on a DAY on which it lives and bears no NAME" ----

    private static void nameless(LentNames x, int body, String signs) {
        int days = 0;
        for (int day = 0; day < 12; day++) {
            days |= (signs.charAt(day) - '0') << day;
        }
        due("nameless(" + body + ")", x.nameless(body), days);
    }

    private static void namelessDays() {
        LentNames x = town(3, "lend 0 to 1 day 0 for 12");
        nameless(x, 0, "111111111111");
        nameless(x, 1, "000000000000");
        due("longest", x.longest(0), 12);
        due("longest", x.longest(1), 0);
        LentNames first = town(3, "lend 0 to 1 day 0 for 1");
        nameless(first, 0, "100000000000");
        LentNames last = town(3, "lend 0 to 1 day 11 for 1");
        nameless(last, 0, "000000000001");
        due("longest", last.longest(0), 1);
        LentNames dead = town(3, "lend 0 to 1 day 0 for 12;dies 0 day 4");
        nameless(dead, 0, "111100000000");
        due("longest", dead.longest(0), 4);
        LentNames atOnce = town(3, "lend 0 to 1 day 0 for 12;dies 0 day 0");
        nameless(atOnce, 0, "000000000000");
        LentNames other = town(3, "lend 0 to 1 day 0 for 12;lend 2 to 0 day 3 for 2");
        nameless(other, 0, "111001111111");
        nameless(other, 2, "000110000000");
        due("longest", other.longest(0), 7);
        LentNames buried = town(3, "lend 0 to 1 day 0 for 6;dies 1 day 3");
        nameless(buried, 0, "111111000000");
        nameless(buried, 1, "000000000000");
    }

    // ---- "The most DAYS one behind another" ----

    private static void longestRuns() {
        due("1 and 1", town(2, "lend 0 to 1 day 0 for 1;lend 0 to 1 day 2 for 1").longest(0), 1);
        due("2 in one", town(2, "lend 0 to 1 day 0 for 1;lend 0 to 1 day 1 for 1").longest(0), 2);
        due("2 and 4", town(2, "lend 0 to 1 day 0 for 2;lend 0 to 1 day 3 for 4").longest(0), 4);
        due("4 and 2", town(2, "lend 0 to 1 day 0 for 4;lend 0 to 1 day 5 for 2").longest(0), 4);
        due("3 and 3 at the end", town(2, "lend 0 to 1 day 0 for 3;lend 0 to 1 day 9 for 3").longest(0), 3);
        due("11", town(2, "lend 0 to 1 day 1 for 11").longest(0), 11);
        due("none", town(2).longest(0), 0);
    }

    // ---- "for each DAY behind its DAY and F less 1" ----

    private static void pledgesBehindTheLastDay() {
        LentNames x = town(2, "lend 0 to 1 day 0 for 3 pledge 5");
        due("in time", x.look(0, 7), 0);
        int[] late = {1, 2, 8, 9, 12};
        int[] owed = {5, 10, 40, 45, 45};
        for (int k = 0; k < late.length; k++) {
            LentNames y = town(2, "lend 0 to 1 day 0 for 3 pledge 5;late 0 by " + late[k]);
            due("late by " + late[k], y.look(0, 7), owed[k]);
            due("owes", y.owes(1, false), owed[k]);
            due("is owed", y.owes(0, true), owed[k]);
            due("its lender owes nothing", y.owes(0, false), 0);
            due("nobody owes its body", y.owes(1, true), 0);
        }
        due("from day 11 on there is none", town(2, "lend 0 to 1 day 0 for 12 pledge 5;late 0 by 12").look(0, 7), 0);
        due("on day 11", town(2, "lend 0 to 1 day 0 for 11 pledge 5;late 0 by 12").look(0, 7), 5);
        due("of 0", town(2, "lend 0 to 1 day 0 for 3 pledge 0;late 0 by 9").look(0, 7), 0);
        due("of 999", town(2, "lend 0 to 1 day 0 for 1 pledge 999;late 0 by 12").look(0, 7), 10989);
    }

    // ---- "on which a LOAN has not ended yet (behind (c))" ----

    private static void pledgesTillTheEnd() {
        String loan = "lend 0 to 1 day 0 for 3 pledge 5;late 0 by 4";
        due("till its end", town(2, loan).look(0, 7), 20);
        due("a court on the first day", town(2, loan, "court day 3").look(0, 7), 0);
        due("a court on the second", town(2, loan, "court day 4").look(0, 7), 5);
        due("a court on the last", town(2, loan, "court day 6").look(0, 7), 15);
        due("a court behind it", town(2, loan, "court day 7").look(0, 7), 20);
        due("a court ahead", town(2, loan, "court day 2").look(0, 7), 20);
        // The loan of a dead body has not ended, either.
        due("with the dead", town(2, loan, "dies 1 day 4").look(0, 7), 20);
        due("to the dead", town(2, loan, "dies 0 day 4").owes(0, true), 20);
    }

    private static void pledgesOfRows() {
        LentNames x = town(4, "lend 0 to 1 day 0 for 2 on pledge 5;late 0 by 4;lend 0 to 2 day 0 for 3 on pledge 7;late 1 by 9;"
            + "lend 1 to 2 day 0 for 1 pledge 100;late 2 by 1");
        due("of the first: days 2 to 5", x.look(0, 7), 20);
        due("of the second: days 3 to 5", x.look(1, 7), 21);
        due("of another name: day 1", x.look(2, 7), 100);
        due("1 owes", x.owes(1, false), 20);
        due("2 owes both", x.owes(2, false), 121);
        due("1 is owed by its own and by what it lent on", x.owes(1, true), 121);
        due("0 is owed", x.owes(0, true), 20);
        due("3 owes nothing", x.owes(3, false), 0);
        due("3 is owed nothing", x.owes(3, true), 0);
    }

    // ---- WAY and HANDS: "(nobody counts as one)" ----

    private static void waysAndHands() {
        LentNames x = town(3, "lend 0 to 1 day 0 for 12;lend 1 to 2 day 11 for 1;dies 2 day 11");
        due("from day 0 on there is no day ahead", x.way(0, true), 0);
        due("its owner has never borne it", x.way(0, false), 2);
        due("refused", x.way(1, true), 0);
        due("refused", x.way(1, false), 2);
        due("nobody counts as one", x.way(2, true), 1);
        due("nobody is no body", x.way(2, false), 4);
        LentNames y = town(3, "lend 0 to 1 day 0 for 1;lend 0 to 2 day 1 for 1;lend 0 to 1 day 2 for 1;lend 0 to 2 day 3 for 1;lend 0 to 1 day 4 for 1;"
            + "lend 0 to 2 day 5 for 1", "lend 0 to 1 day 6 for 1;lend 0 to 2 day 7 for 1;lend 0 to 1 day 8 for 1;lend 0 to 2 day 9 for 1;lend 0 to 1 day 10 for 1;"
            + "lend 0 to 2 day 11 for 1");
        due("on each day", y.way(0, true), 11);
        due("by two", y.way(0, false), 6);
        LentNames z = town(3, "lend 0 to 1 day 1 for 2;dies 1 day 2;lend 2 to 1 day 11 for 1");
        due("to 1, to nobody, back", z.way(0, true), 3);
        due("by two", z.way(0, false), 3);
        due("one dies", z.way(1, true), 1);
        LentNames lastDay = town(2, "lend 0 to 1 day 11 for 1");
        due("on the last day", lastDay.way(0, true), 1);
        due("on the last day", lastDay.way(0, false), 3);
        LentNames never = town(2, "dies 0 day 0");
        due("never borne", never.way(0, false), 0);
        due("never borne", never.way(0, true), 0);
    }

    // ---- "the NAME of the most HANDS, of several the least" ----

    private static void busiest() {
        due("of none", town(6).busiest(), 0);
        due("the last one", town(6, "lend 5 to 0 day 11 for 1").busiest(), 5);
        due("of two the least", town(6, "lend 5 to 0 day 11 for 1;lend 3 to 0 day 11 for 1").busiest(), 3);
        due("the most", town(6, "lend 5 to 0 day 10 for 1;lend 3 to 0 day 11 for 1").busiest(), 5);
        due("the first one", town(6, "lend 0 to 1 day 5 for 1;lend 3 to 0 day 11 for 1").busiest(), 0);
        for (int name = 0; name < 6; name++) {
            due("each one", town(6, "lend " + name + " to " + (name + 1) % 6 + " day 11 for 1").busiest(), name);
        }
    }

    // ---- "two NAMES or more", "How many DAYS a NAME is borne by a BODY" ----

    private static void richAndBorne() {
        LentNames x = town(4, "lend 0 to 1 day 0 for 1;lend 2 to 1 day 0 for 2;lend 3 to 0 day 1 for 11;lend 0 to 3 day 11 for 1");
        due("three names", x.rich(0), 2);
        due("two names, twice", x.rich(1), 3);
        due("one has two", x.rich(2), 1);
        due("nobody has", x.rich(11), 0);
        due("nobody ever", town(4).rich(0), 0);
        due("no day", x.borne(0, 2), 0);
        due("one day", x.borne(0, 1), 1);
        due("ten days", x.borne(0, 0), 10);
        due("eleven days", x.borne(3, 0), 11);
        due("twelve days", x.borne(1, 1), 12);
        due("the other day", x.borne(3, 3), 1);
        LentNames dead = town(3, "lend 0 to 2 day 0 for 12;lend 1 to 2 day 0 for 12;dies 2 day 3");
        due("it lives", dead.rich(2), 4);
        due("the dead bear none", dead.rich(3), 0);
        due("three days", dead.borne(0, 2), 3);
    }

    // ---- "The first DAY from one on on which the OWNER of a NAME is its BEARER; NONE" ----

    private static void ownersAgain() {
        LentNames x = town(3, "lend 0 to 1 day 2 for 3;lend 1 to 2 day 3 for 9;dies 2 day 5;lend 2 to 0 day 0 for 6");
        int[] again = {0, 1, 5, 5, 5, 5, 6, 7, 8, 9, 10, 11};
        for (int day = 0; day < 12; day++) {
            due("again(0, " + day + ")", x.again(0, day), again[day]);
            due("again(1, " + day + ")", x.again(1, day), day < 3 ? day : NONE);
            due("again(2, " + day + ")", x.again(2, day), NONE);
        }
        LentNames y = town(2, "lend 0 to 1 day 0 for 11");
        due("on the last day", y.again(0, 0), 11);
        due("on the last day", y.again(0, 11), 11);
        LentNames z = town(2, "lend 0 to 1 day 0 for 12");
        due("never", z.again(0, 0), NONE);
        due("never", z.again(0, 11), NONE);
    }

    // ---- "The k-th of a NAME's ROW on a DAY (0 its OWNER); NONE behind it" ----

    private static void wholeRows() {
        LentNames x = town(2, times(14, "lend 0 to 1 day 0 for 12 on"));
        due("owner", x.row(0, 0, 0), 0);
        due("one loan", x.row(0, 0, 1), 1);
        due("behind it", x.row(0, 0, 2), NONE);
        due("to who has it", x.count(6), 13);
        // Twenty loans in one row, the most that there can be.
        String there = "lend 0 to 1 day 0 for 12 on";
        String back = "lend 0 to 0 day 0 for 12 on";
        String six = String.join(";", there, back, there, back, there, back);
        LentNames y = town(2, six + ";" + six, six + ";" + there + ";" + back);
        due("none is refused", y.count(6), 0);
        for (int k = 0; k <= 20; k++) {
            due("row " + k, y.row(0, 11, k), k % 2);
        }
        for (int k : new int[] {21, 22, 100, Integer.MAX_VALUE, -1, -2, Integer.MIN_VALUE}) {
            due("row " + k, y.row(0, 11, k), NONE);
        }
        due("its bearer", y.bears(0, 11), 0);
        due("lent", y.how(0, 11), 1);
        LentNames z = town(2, "lend 0 to 1 day 1 for 2");
        int[] second = {NONE, 1, 1, NONE};
        for (int day = 0; day < 4; day++) {
            due("the second of the row", z.row(0, day, 1), second[day]);
        }
    }

    // ---- the most BODIES and the most LOANS: the last ones are as the others ----

    private static void sixBodies() {
        StringBuilder s = new StringBuilder();
        for (int k = 0; k < 6; k++) {
            s.append(k == 0 ? "" : ";").append("lend ").append(k).append(" to ").append((k + 1) % 6).append(" day ").append(k + 1).append(" for 1");
        }
        LentNames x = town(6, s.toString());
        for (int k = 0; k < 6; k++) {
            int next = (k + 1) % 6;
            due("way " + k, x.way(k, false), 1 << k | 1 << next);
            due("hands " + k, x.way(k, true), 2);
            due("nameless " + k, x.nameless(k), 2 << k);
            due("names " + next, x.names(next, k + 1), 1 << k | 1 << next);
            due("rich " + k, x.rich(k + 1), 1 << next);
            due("borne " + k, x.borne(k, k), 11);
            due("borne " + k, x.borne(k, next), 1);
            due("again " + k, x.again(k, k + 1), k + 2);
        }
        due("busiest", x.busiest(), 0);
        LentNames all = town(6, "lend 0 to 5 day 0 for 12;lend 1 to 5 day 0 for 12;lend 2 to 5 day 0 for 12;lend 3 to 5 day 0 for 12;lend 4 to 5 day 0 for 12");
        due("all names", all.names(5, 11), 63);
        due("one is rich", all.rich(11), 32);
        due("gives none", all.names(4, 11), 0);
        LentNames court = town(6, "lend 5 to 4 day 0 for 2;late 0 by 9;lend 0 to 5 day 0 for 12;dies 5 day 3;court day 3");
        bearers(court, 5, "444---------");
        hows(court, 5, "112333333333");
        bearers(court, 0, "555000000000");
        ended(court, 3, 3);
    }

    private static void twentyLoans() {
        LentNames x = town(6, times(14, "lend 0 to 0 day 0 for 1"), times(5, "lend 0 to 0 day 0 for 1") + ";lend 5 to 4 day 0 for 1 pledge 7;late 19 by 1");
        due("refused", x.count(6), 19);
        due("the last one began", x.look(19, 5), 5);
        due("it ended", x.look(19, 6), 2);
        due("it is owed by", x.owes(4, false), 7);
        due("it is owed to", x.owes(5, true), 7);
        due("not by another", x.owes(0, false), 0);
        due("not to another", x.owes(0, true), 0);
        String six = String.join(";", "lend 5 to 4 day 0 for 12 on", "lend 5 to 5 day 0 for 12 on", "lend 5 to 4 day 0 for 12 on",
            "lend 5 to 5 day 0 for 12 on", "lend 5 to 4 day 0 for 12 on", "lend 5 to 5 day 0 for 12 on");
        LentNames row = town(6, six + ";" + six, six + ";lend 5 to 4 day 0 for 12 on;lend 5 to 5 day 0 for 11 on");
        due("none is refused", row.count(6), 0);
        due("the last of the row", row.row(5, 10, 20), 5);
        due("till its end", row.row(5, 11, 20), NONE);
        due("its bearer", row.bears(5, 10), 5);
        due("its bearer then", row.bears(5, 11), 4);
        for (int loan = 0; loan < 20; loan++) {
            due("end " + loan, row.look(loan, 6), loan == 19 ? 11 : NONE);
        }
    }
}
