/** LETTERS, DEBTS and PURSES: each sentence of the document that names a boundary, from both sides of it. */
public final class AccountBoundsTest extends Check {
    public static void main(String[] args) {
        lettersOnTheDayOfReading();
        lettersLater();
        lettersNever();
        lettersWritten();
        debtsOfNames();
        debtsOfBodies();
        bills();
        purses();
        pursesOverPeople();
        paidWhollyOrNotAtAll();
        paidByDays();
        paidByNumbers();
        unpaidByNobody();
        tenDebts();
        meetsOnlyNamesUnpaid();
        meetsWithAsMuchLeft();
        meetsTheLiving();
        meetsTheLeast();
        exit();
    }

    private static void letter(LentNames x, int letter, int writer, int reader, int day) {
        due("who bore the name of letter " + letter, x.letter(letter, 0), writer);
        due("to whom letter " + letter + " is brought", x.letter(letter, 1), reader);
        due("when letter " + letter + " is brought", x.letter(letter, 2), day);
    }

    // ---- "brought on the DAY on which it is read to who bears the NAME then" ----

    private static void lettersOnTheDayOfReading() {
        LentNames x = town(3, "lend 0 to 1 day 3 for 2;letter 0 day 2 read 2;letter 0 day 2 read 3;letter 0 day 3 read 4;letter 0 day 4 read 5;"
            + "letter 0 day 0 read 11;letter 0 day 11 read 11;letter 0 day 0 read 0");
        letter(x, 0, 0, 0, 2);
        letter(x, 1, 0, 1, 3);
        letter(x, 2, 1, 1, 4);
        letter(x, 3, 1, 0, 5);
        letter(x, 4, 0, 0, 11);
        letter(x, 5, 0, 0, 11);
        letter(x, 6, 0, 0, 0);
    }

    // ---- "if nobody does, on the first DAY behind it on which somebody does" ----

    private static void lettersLater() {
        LentNames x = town(3, "lend 0 to 1 day 0 for 6;dies 1 day 3;letter 0 day 0 read 2;letter 0 day 0 read 3;letter 0 day 0 read 5;letter 0 day 0 read 6");
        letter(x, 0, 1, 1, 2);
        letter(x, 1, 1, 0, 6);
        letter(x, 2, 1, 0, 6);
        letter(x, 3, 1, 0, 6);
        LentNames last = town(3, "lend 0 to 1 day 0 for 11;dies 1 day 3;letter 0 day 0 read 3;letter 0 day 0 read 10;letter 0 day 0 read 11");
        for (int k = 0; k < 3; k++) {
            letter(last, k, 1, 0, 11);
        }
        LentNames byCourt = town(3, "lend 0 to 1 day 0 for 12;dies 1 day 3;court day 8;letter 0 day 0 read 3");
        letter(byCourt, 0, 1, 0, 8);
        LentNames again = town(3, "lend 0 to 1 day 0 for 4;dies 1 day 3;lend 0 to 2 day 4 for 1;letter 0 day 0 read 3");
        letter(again, 0, 1, 2, 4);
    }

    // ---- "else never" ----

    private static void lettersNever() {
        LentNames x = town(3, "lend 0 to 1 day 0 for 12;dies 1 day 3;letter 0 day 0 read 2;letter 0 day 0 read 3;letter 0 day 11 read 11;letter 1 day 2 read 3");
        letter(x, 0, 1, 1, 2);
        letter(x, 1, 1, NONE, NONE);
        letter(x, 2, NONE, NONE, NONE);
        letter(x, 3, 1, NONE, NONE);
        LentNames y = town(2, "dies 0 day 11;letter 0 day 10 read 10;letter 0 day 10 read 11");
        letter(y, 0, 0, 0, 10);
        letter(y, 1, 0, NONE, NONE);
    }

    // ---- "who bore the NAME on the DAY it was written .. NONE" ----

    private static void lettersWritten() {
        LentNames x = town(3, "lend 0 to 1 day 0 for 6;dies 1 day 3;letter 0 day 2 read 11;letter 0 day 3 read 11;letter 0 day 5 read 11;letter 0 day 6 read 11");
        letter(x, 0, 1, 0, 11);
        letter(x, 1, NONE, 0, 11);
        letter(x, 2, NONE, 0, 11);
        letter(x, 3, 0, 0, 11);
    }

    // ---- "A DEBT of a NAME is paid by who bears it on the DAY of judgement (nobody, if none does)" ----

    private static void debtsOfNames() {
        LentNames x = town(3, "lend 0 to 1 day 3 for 4;dies 1 day 5;debt name 0 day 0 judged 2 of 1;debt name 0 day 0 judged 3 of 1;debt name 0 day 3 judged 4 of 1;"
            + "debt name 0 day 3 judged 5 of 1;debt name 0 day 3 judged 6 of 1;debt name 0 day 3 judged 7 of 1;debt name 1 day 0 judged 4 of 1;"
            + "debt name 1 day 0 judged 5 of 1;debt name 0 day 0 judged 0 of 1;debt name 0 day 11 judged 11 of 1");
        int[] payers = {0, 1, 1, NONE, NONE, 0, 1, NONE, 0, 0};
        for (int debt = 0; debt < 10; debt++) {
            due("pays(" + debt + ")", x.pays(debt), payers[debt]);
        }
    }

    // ---- "of a BODY by it (nobody, if it does not live then)" ----

    private static void debtsOfBodies() {
        LentNames x = town(3, "lend 1 to 2 day 0 for 12;dies 1 day 5;debt body 1 day 0 judged 4 of 1;debt body 1 day 0 judged 5 of 1;debt body 1 day 4 judged 6 of 1;"
            + "debt body 0 day 0 judged 0 of 1;debt body 0 day 0 judged 11 of 1");
        int[] payers = {1, NONE, NONE, 0, 0};
        for (int debt = 0; debt < 5; debt++) {
            due("pays(" + debt + ")", x.pays(debt), payers[debt]);
        }
        LentNames y = town(2, "dies 0 day 0;dies 1 day 11;debt body 0 day 0 judged 0 of 1;debt body 1 day 10 judged 10 of 1;debt body 1 day 10 judged 11 of 1");
        due("dead at once", y.pays(0), NONE);
        due("the day ahead", y.pays(1), 1);
        due("dead on the last day", y.pays(2), NONE);
    }

    private static void bills() {
        LentNames x = town(3, "dies 2 day 5;debt body 0 day 0 judged 4 of 999;debt name 0 day 0 judged 5 of 999;debt body 1 day 4 judged 6 of 0;"
            + "debt body 2 day 0 judged 4 of 7;debt body 2 day 0 judged 5 of 11");
        due("of a body and a name", x.bill(0), 1998);
        due("of 0 coins", x.bill(1), 0);
        due("of who lives", x.bill(2), 7);
        x.purse(2, 7);
        due("whatever is in the purse", x.bill(0), 1998);
        due("none", town(2).bill(1), 0);
        String most = times(10, "debt body 0 day 0 judged 0 of 999");
        due("the most", town(2, most).bill(0), 9990);
    }

    // ---- "PURSES (0 to 9999 each; 0 at first)" ----

    private static void purses() {
        LentNames x = town(3);
        for (int body = 0; body < 3; body++) {
            due("0 at first", x.left(body), 0);
            due("0 at first", x.purse(body, 9999), 0);
            due("left", x.left(body), 9999);
        }
        due("the most in all", x.count(11), 29997);
        due("9999", x.purse(2, 0), 9999);
        due("0", x.purse(2, 1), 0);
        due("1", x.purse(2, 1), 1);
        due("all", x.count(11), 19999);
        for (int n : new int[] {-1, 10000, Integer.MIN_VALUE, Integer.MAX_VALUE}) {
            refused("purse(2, " + n + ")", BAD_ARGUMENT, AccountBoundsTest::filled, y -> y.purse(2, n));
            refused("purse(3, " + n + ")", NO_INDEX, AccountBoundsTest::filled, y -> y.purse(3, n));
        }
        for (int body : new int[] {-1, 3, Integer.MIN_VALUE, Integer.MAX_VALUE}) {
            refused("purse(" + body + ", 5)", NO_INDEX, AccountBoundsTest::filled, y -> y.purse(body, 5));
        }
        LentNames six = town(6);
        for (int body = 0; body < 6; body++) {
            six.purse(body, 9999);
        }
        due("six full ones", six.count(11), 59994);
    }

    private static LentNames filled() {
        LentNames x = town(3, "debt body 2 day 0 judged 0 of 5");
        x.purse(2, 7);
        return x;
    }

    private static void pursesOverPeople() {
        LentNames x = new LentNames();
        x.purse(3, 70);
        x.people(3);
        due("of the bodies that there are", x.count(11), 0);
        x.people(6);
        due("who was there", x.purse(3, 8), 70);
        due("who was not", x.purse(5, 9), 0);
        due("all", x.count(11), 17);
    }

    // ---- "wholly, or, if there is less in it (or nobody pays), not at all: UNPAID" ----

    private static void paidWhollyOrNotAtAll() {
        LentNames x = town(2, "debt body 0 day 0 judged 0 of 50");
        int[] purse = {49, 50, 51, 0, 9999};
        int[] left = {49, 0, 1, 0, 9949};
        int[] unpaid = {1, 0, 0, 1, 0};
        for (int k = 0; k < purse.length; k++) {
            x.purse(0, purse[k]);
            due("left of " + purse[k], x.left(0), left[k]);
            due("unpaid with " + purse[k], x.unpaid(), unpaid[k]);
            due("the purse stays", x.count(11), purse[k]);
        }
        LentNames zero = town(2, "debt body 0 day 0 judged 0 of 0");
        due("0 out of an empty purse", zero.unpaid(), 0);
        LentNames largest = town(2, "debt body 0 day 0 judged 0 of 999");
        largest.purse(0, 998);
        due("998", largest.unpaid(), 1);
        largest.purse(0, 999);
        due("999", largest.unpaid(), 0);
        // Pledges are not paid out of purses.
        LentNames pledge = town(2, "lend 0 to 1 day 0 for 1 pledge 5;late 0 by 3");
        pledge.purse(1, 20);
        due("owed", pledge.owes(1, false), 15);
        due("left", pledge.left(1), 20);
        due("left", pledge.left(0), 0);
    }

    // ---- "by DAYS of judgement, of one DAY by numbers" ----

    private static void paidByDays() {
        LentNames x = town(2, "debt body 0 day 0 judged 11 of 60;debt body 0 day 9 judged 10 of 50;debt body 0 day 0 judged 0 of 40");
        int[] purse = {39, 40, 89, 90, 99, 100, 149, 150};
        int[] unpaid = {7, 3, 3, 1, 1, 1, 1, 0};
        int[] left = {39, 0, 49, 0, 9, 10, 59, 0};
        for (int k = 0; k < purse.length; k++) {
            x.purse(0, purse[k]);
            due("unpaid with " + purse[k], x.unpaid(), unpaid[k]);
            due("left of " + purse[k], x.left(0), left[k]);
        }
    }

    private static void paidByNumbers() {
        LentNames x = town(2, "debt name 0 day 3 judged 4 of 60;debt body 0 day 0 judged 4 of 50", "debt body 0 day 4 judged 4 of 40");
        int[] purse = {39, 40, 50, 60, 99, 100, 110, 149, 150};
        int[] unpaid = {7, 3, 5, 6, 6, 2, 4, 4, 0};
        int[] left = {39, 0, 0, 0, 39, 0, 0, 39, 0};
        for (int k = 0; k < purse.length; k++) {
            x.purse(0, purse[k]);
            due("unpaid with " + purse[k], x.unpaid(), unpaid[k]);
            due("left of " + purse[k], x.left(0), left[k]);
        }
        due("the other one has nothing to do with it", x.left(1), 0);
    }

    private static void unpaidByNobody() {
        LentNames x = town(2, "dies 0 day 3;debt name 0 day 0 judged 2 of 0;debt name 0 day 0 judged 3 of 0;debt body 0 day 0 judged 2 of 0;debt body 0 day 0 judged 3 of 0");
        due("nobody pays, not even 0", x.unpaid(), 10);
        x.purse(0, 100);
        due("whatever is in the purse of the dead", x.unpaid(), 10);
        due("it stays there", x.left(0), 100);
    }

    private static void tenDebts() {
        LentNames x = town(2, times(10, "debt body 1 day 0 judged 5 of 10"));
        due("all", x.unpaid(), 1023);
        x.purse(1, 90);
        due("the tenth", x.unpaid(), 512);
        x.purse(1, 100);
        due("none", x.unpaid(), 0);
        due("none", town(2).unpaid(), 0);
    }

    // ---- MEETS: "a DEBT that is UNPAID, and of a NAME"; "NONE (also of a DEBT that is paid, or of a BODY)" ----

    private static void meetsOnlyNamesUnpaid() {
        LentNames x = town(3, "debt name 0 day 0 judged 0 of 50;debt body 0 day 0 judged 0 of 50");
        x.purse(2, 50);
        due("unpaid, of a name", x.meets(0), 2);
        due("unpaid, of a body", x.meets(1), NONE);
        x.purse(0, 49);
        due("unpaid", x.meets(0), 2);
        x.purse(0, 50);
        due("paid", x.meets(0), NONE);
        due("unpaid, of a body", x.meets(1), NONE);
        x.purse(0, 100);
        due("both are paid", x.meets(1), NONE);
    }

    // ---- "has as much LEFT" ----

    private static void meetsWithAsMuchLeft() {
        LentNames x = town(3, "debt name 0 day 0 judged 5 of 50;debt body 2 day 0 judged 11 of 30");
        int[] purse = {29, 49, 50, 79, 80};
        int[] meets = {NONE, NONE, NONE, NONE, 2};
        for (int k = 0; k < purse.length; k++) {
            x.purse(2, purse[k]);
            due("behind all debts, with " + purse[k], x.meets(0), meets[k]);
        }
        x.purse(1, 49);
        due("one too few", x.meets(0), 2);
        x.purse(1, 50);
        due("as much", x.meets(0), 1);
        LentNames zero = town(3, "dies 0 day 0;debt name 0 day 0 judged 0 of 0");
        due("0 is as much as 0", zero.meets(0), 1);
        LentNames unpaid = town(3, "debt name 0 day 0 judged 5 of 50;debt body 2 day 0 judged 11 of 60");
        unpaid.purse(2, 59);
        due("what it could not pay is left", unpaid.meets(0), 2);
    }

    // ---- "lives on its DAY of judgement, does not bear the NAME then" ----

    private static void meetsTheLiving() {
        for (int day = 4; day <= 6; day++) {
            LentNames x = town(3, "debt name 0 day 0 judged 5 of 50;dies 1 day " + day);
            x.purse(1, 50);
            x.purse(2, 50);
            due("dies on " + day, x.meets(0), day == 6 ? 1 : 2);
        }
        LentNames lent = town(3, "lend 0 to 1 day 5 for 1;debt name 0 day 0 judged 5 of 50;debt name 0 day 0 judged 6 of 50");
        lent.purse(0, 50);
        due("its owner does not bear it then", lent.meets(0), NONE);
        due("its owner paid the other one", lent.unpaid(), 1);
        lent.purse(0, 100);
        due("its owner has as much left", lent.meets(0), 0);
        LentNames alone = town(2, "debt name 0 day 0 judged 5 of 50;dies 1 day 5");
        due("nobody is left", alone.meets(0), NONE);
    }

    // ---- "the least BODY .. none" ----

    private static void meetsTheLeast() {
        LentNames x = town(6, "debt name 3 day 0 judged 5 of 50");
        due("none", x.meets(0), NONE);
        for (int body : new int[] {5, 4, 2, 1, 0}) {
            x.purse(body, 50);
            due("the least", x.meets(0), body);
        }
    }
}
