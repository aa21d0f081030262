/** The promises one by one, with answers that were worked out by hand from the document. */
public final class PromiseTest extends Check {
    public static void main(String[] args) {
        newObject();
        feed();
        end();
        tell();
        townFaults();
        textsTooShort();
        customFaults();
        room();
        people();
        rowsAndRights();
        refusalsAndTheDead();
        courts();
        pledges();
        look();
        letters();
        debts();
        debtsInOrder();
        customs();
        customStays();
        wishesAndPlans();
        plansThatAreNoneOrSpent();
        sightings();
        secretsThatAreNoneOrSpent();
        namesBorneBackToOwners();
        image();
        exit();
    }

    // ---- promise 1 ----

    private static void newObject() {
        LentNames x = new LentNames();
        due("N at first", x.count(0), 4);
        for (int what = 1; what <= 11; what++) {
            due("count " + what + " at first", x.count(what), 0);
        }
        due("count(12)", x.count(12), NONE);
        due("count(-1)", x.count(-1), NONE);
        due("fault at first", x.fault(), NONE);
        for (int k = 0; k < 4; k++) {
            for (int day = 0; day < 12; day++) {
                due("bears at first", x.bears(k, day), k);
                due("names at first", x.names(k, day), 1 << k);
                due("how at first", x.how(k, day), 0);
                due("lives at first", x.lives(k, day), true);
            }
            due("nameless at first", x.nameless(k), 0);
            due("left at first", x.left(k), 0);
        }
        due("unpaid at first", x.unpaid(), 0);
        due("agree at first", x.agree(), 0);
        due("home at first", x.home(), 0);
        due("busiest at first", x.busiest(), 0);
        due("plan at first", x.plan(0, NONE), 0);
        due("secrets at first", x.secrets(11, NONE), 0);
        due("sets at first", x.secrets(11, -2), 1);
    }

    // ---- promises 2 to 5 ----

    private static void feed() {
        LentNames x = new LentNames();
        for (int k = 1; k <= 20; k++) {
            due("feed " + k, x.feed(0, 0, 0, 0, 0), 20 * k);
        }
        due("feed beyond 400", x.feed(0, 0, 0, 0, 0), NONE);
        due("nothing came", x.end(401), false);
        due("end 381", x.end(381), true);
        due("feed to 401", x.feed(0, 0, 0, 0, 0), NONE);
        due("end 380", x.end(380), true);
        due("feed to 400", x.feed(0, 0, 0, 0, 0), 400);
        x.end(0);
        // "cour" "t da" "y 1" and a byte above 127, which ends what may stand there.
        due("feed the highest first", x.feed(0x636f7572, 0x74206461, 0x79203180, -1, -1), 20);
        dueThrow("a byte above 127", BAD_ARGUMENT, x::tell);
        due("its place", x.fault(), 11);
    }

    private static void end() {
        LentNames x = new LentNames();
        due("end 0 of none", x.end(0), true);
        due("end 1 of none", x.end(1), false);
        x.feed(0x20202020, 0x20202020, 0x20202020, 0x20202020, 0x20202020);
        due("end 21 of 20", x.end(21), false);
        due("end -1", x.end(-1), false);
        due("end least", x.end(Integer.MIN_VALUE), false);
        due("still 20", x.feed(0, 0, 0, 0, 0), 40);
        due("end 40 of 40", x.end(40), true);
        due("end 3", x.end(3), true);
        due("feed behind 3", x.feed(0, 0, 0, 0, 0), 23);
    }

    private static void tell() {
        LentNames x = new LentNames();
        for (int k = 1; k <= 10; k++) {
            write(x, k % 2 == 0 ? "   " : "court day " + k);
            due("tell " + k, x.tell(), k);
        }
        write(x, "court day 12");
        dueThrow("a wrong 11th text", BAD_ARGUMENT, x::tell);
        due("its fault", x.fault(), 10);
        due("the tape is used up", x.end(1), false);
        write(x, "court day 10");
        dueThrow("an 11th text", NO_ROOM, x::tell);
        due("it was read", x.fault(), NONE);
        due("the tape is used up", x.end(1), false);
        due("texts", x.count(1), 10);
        due("courts", x.count(8), 5);
    }

    private static void townFaults() {
        String[] right = {"", "   ", "lend 0to1day2for3on pledge4", "lend 000 to 1 day 011 for 012", " court day 1 ;  court day 2  ",
            "lend 0 to 1 day 0 for 1;late 0 by 12", "letter 0 day 3 read 3", "debt name 0 day 1 judged 1 of 999", "debt body 3 day 0 judged 11 of 0",
            "seen 0 day 1 as 0 or 1 or 0 known 1", "lend 3 to 3 day 11 for 12 on pledge 999", "dies 3 day 11", "lend 0 to 1 day 0 for 1 pledge 0"};
        for (String text : right) {
            LentNames x = new LentNames();
            write(x, text);
            due("tell " + text, x.tell(), 1);
            due("fault of " + text, x.fault(), NONE);
        }
        townFault(";", 0);
        townFault("  x", 2);
        townFault("lend ", 5);
        townFault("lend a", 5);
        townFault("lend 0 to 1 day 2 for 3onpledge 4", 23);
        townFault("lend 0000 to", 5);
        townFault("lend 0 to 1 day 2 for 3 pledge 1000", 31);
        townFault("lend 0 to 1 day 2 for 3 pledge -1", 31);
        townFault("court day 1;;", 12);
        townFault("court day 1 ; ", 14);
        townFault("courtday 1", 0);
        townFault("Court day 1", 0);
        townFault("court day 1 2", 12);
        townFault("court\tday 1", 5);
        townFault("late 0 by 1", 5);
        townFault("lend 0 to 1 day 0 for 1;late 1 by 1", 29);
        townFault("lend 0 to 1 day 0 for 1;late 0 by 13", 34);
        townFault("lend 0 to 1 day 0 for 1;late 0 by 0", 34);
        townFault("dies 4 day 1", 5);
        townFault("letter 0 day 3 read 2", 20);
        townFault("debt body 0 day 1 judged 12 of 1", 25);
        townFault("debt names 0 day 1 judged 1 of 1", 5);
        townFault("seen 0 day 1 as 4 known 1", 16);
        townFault("seen 0 day 1 known 1", 13);
        townFault("seen 0 day 5 as 1 known 4", 24);
        townFault("grant", 0);
        townFault("lend 4 to 0 day 0 for 1", 5);
        townFault("lend 0 to 4 day 0 for 1", 10);
        townFault("lend 0 to 1 day 12 for 1", 16);
        townFault("lend 0 to 1 day 0 for 13", 22);
        townFault("lend 0 to 1 day 0 for 0", 22);
        townFault("dies 0 day 12", 11);
        townFault("court day 12", 10);
        townFault("letter 4 day 0 read 0", 7);
        townFault("letter 0 day 12 read 12", 13);
        townFault("letter 0 day 0 read 12", 20);
        townFault("debt name 4 day 0 judged 0 of 1", 10);
        townFault("debt body 4 day 0 judged 0 of 1", 10);
        townFault("debt body 0 day 12 judged 12 of 1", 16);
        townFault("debt body 0 day 0 judged 0 of 1000", 30);
        townFault("seen 4 day 0 as 0 known 0", 5);
        townFault("seen 0 day 12 as 0 known 12", 11);
        townFault("seen 0 day 0 as 0 known 12", 24);
        townFault("seen 0 day 0 as 0 or 4 known 0", 21);
    }

    /** A text that ends where more must come, is wrong at its length, and one with a sign there at that sign. */
    private static void textsTooShort() {
        String[] lines = {"lend 0 to 1 day 2 for", "lend 0 to 1 day 2 for 3 on pledge", "dies 1 day", "court day", "letter 0 day 1 read",
            "debt name 0 day 1 judged 2 of", "debt body 0 day 1 judged 2 of", "seen 0 day 1 as 0 or 1 or", "seen 0 day 1 as 0 or 1 known"};
        String[] whole = {"lend 0 to 1 day 2 for 3", "lend 0 to 1 day 2 for 3 on"};
        for (String line : lines) {
            for (int cut = line.length(); cut > 0; cut = line.lastIndexOf(' ', cut - 1)) {
                String text = line.substring(0, cut);
                if (!text.equals(whole[0]) && !text.equals(whole[1])) {
                    townFault(text, cut);
                    townFault(text + "  ", cut + 2);
                    townFault(text + " ;", cut + 1);
                }
                townFault(text + " +", cut + 1);
            }
        }
        String[] customs = {"grant if own or mine or", "grant if own and mine and", "refuse if ( own or ( not mine )", "refuse if not ( not",
            "grant if day + days + 3 <", "grant if day + days +", "grant if day > pledge +"};
        for (String line : customs) {
            for (int cut = line.length(); cut > 0; cut = line.lastIndexOf(' ', cut - 1)) {
                String text = line.substring(0, cut);
                boolean wants = !text.equals("grant") && !text.equals("refuse") && !text.endsWith(" own") && !text.endsWith(" mine")
                    && !text.endsWith("> pledge");
                if (wants || text.contains("(")) {
                    customFault(text, cut);
                    customFault(text + "  ", cut + 2);
                    customFault(text + " ;", cut + 1);
                }
                customFault(text + " court", cut + 1);
            }
        }
    }

    private static void townFault(String text, int at) {
        LentNames x = new LentNames();
        write(x, "court day 0;" + text);
        dueThrow("tell " + text, BAD_ARGUMENT, x::tell);
        due("fault of " + text, x.fault(), at + 12);
        due("nothing stays of " + text, x.count(1) + x.count(2) + x.count(8), 0);
    }

    private static void customFaults() {
        String[] right = {"grant", "refuse if 1<2", "grant if days+pledge > 999", "grant if((((((own))))))", "refuse if own or mine and not own",
            "grant if ((((((own)))))) and not not not not not not own", " grant if ( own ) ", "grant if 001 > 0+0+0"};
        for (String text : right) {
            LentNames x = new LentNames();
            write(x, text);
            due("custom " + text, x.custom(), 1);
            due("fault of " + text, x.fault(), NONE);
        }
        customFault("grant if", 8);
        customFault("grant if  ", 10);
        customFault("grant if own mine", 13);
        customFault("grant if own and", 16);
        customFault("grant if own or or", 16);
        customFault("grant if 1<2<3", 12);
        customFault("grant if 1+<2", 11);
        customFault("grant if day day", 13);
        customFault("grant if (1)<2", 11);
        customFault("grant if own)", 12);
        customFault("grant if not", 12);
        customFault("grant if not(not(not(not own", 21);
        customFault("grant if (((((((own", 15);
        customFault("refuse if 0000 > 1", 10);
        customFault("refuse if 1 = 1", 12);
        customFault("grants", 0);
        customFault("grant ; grant;", 14);
        customFault("court day 1", 0);
        customFault(times(10, "grant") + "; grant", 61);
        customFault(times(10, "grant") + ";", 60);
    }

    private static void customFault(String text, int at) {
        LentNames x = new LentNames();
        write(x, text);
        dueThrow("custom " + text, BAD_ARGUMENT, x::custom);
        due("fault of " + text, x.fault(), at);
        due("lines behind " + text, x.count(10), 0);
        due("the tape is used up", x.end(1), false);
    }

    private static void room() {
        LentNames x = town(4, times(14, "lend 0 to 1 day 0 for 1"));
        write(x, times(6, "lend 0 to 1 day 0 for 1") + ";lend");
        dueThrow("a 21st loan", BAD_ARGUMENT, x::tell);
        due("its first word", x.fault(), 144);
        due("loans", x.count(2), 14);
        write(x, times(6, "lend 0 to 1 day 0 for 1") + ";late 19 by 1");
        due("20 loans", x.tell(), 2);
        due("loans", x.count(2), 20);
        roomFor("letter 0 day 0 read 0", 3);
        roomFor("debt name 0 day 0 judged 0 of 1", 4);
        roomFor("seen 0 day 0 as 0 known 0", 5);
        LentNames y = new LentNames();
        write(y, times(14, "court day 1") + "; court day 1");
        dueThrow("a 15th line", BAD_ARGUMENT, y::tell);
        due("its first word", y.fault(), 169);
        write(y, times(14, "court day 1"));
        due("14 lines", y.tell(), 1);
    }

    private static void roomFor(String line, int what) {
        LentNames x = new LentNames();
        write(x, times(11, line));
        dueThrow("11 times " + line, BAD_ARGUMENT, x::tell);
        due("the 11th", x.fault(), 10 * (line.length() + 1));
        write(x, times(10, line));
        due("10 times " + line, x.tell(), 1);
        due("count " + what, x.count(what), 10);
    }

    // ---- promise 6 ----

    private static void people() {
        LentNames x = new LentNames();
        dueThrow("people(1)", BAD_ARGUMENT, () -> x.people(1));
        dueThrow("people(7)", BAD_ARGUMENT, () -> x.people(7));
        x.people(6);
        due("N", x.count(0), 6);
        due("the last one", x.bears(5, 0), 5);
        x.people(2);
        dueThrow("no body 2", NO_INDEX, () -> x.names(2, 0));
        write(x, "lend 2 to 0 day 0 for 1");
        dueThrow("no name 2", BAD_ARGUMENT, x::tell);
        due("no name 2", x.fault(), 5);
        write(x, "");
        x.tell();
        dueThrow("people behind a text", BAD_STATE, () -> x.people(3));
        dueThrow("none, behind a text", BAD_ARGUMENT, () -> x.people(7));
        due("N", x.count(0), 2);
    }

    // ---- promises 7 to 15, 24, 25, 33 to 35 ----

    private static void rowsAndRights() {
        LentNames x = town(3, "lend 0 to 1 day 1 for 2 on;lend 0 to 2 day 2 for 5;late 0 by 1");
        int[] bearers = {0, 1, 2, 2, 0, 0};
        int[] hows = {0, 1, 1, 2, 0, 0};
        for (int day = 0; day < 6; day++) {
            due("bears 0 on " + day, x.bears(0, day), bearers[day]);
            due("how 0 on " + day, x.how(0, day), hows[day]);
        }
        int[] row = {0, 1, 2, NONE, NONE};
        for (int k = 0; k < 5; k++) {
            due("row " + k, x.row(0, 3, k), row[k]);
        }
        due("row far behind", x.row(0, 3, Integer.MAX_VALUE), NONE);
        due("row ahead", x.row(0, 3, Integer.MIN_VALUE), NONE);
        due("row on its own", x.row(0, 4, 1), NONE);
        due("ends with the one ahead of it", x.look(1, 6), 4);
        due("last day as told", x.look(1, 3), 6);
        dueThrow("bears(3, 0)", NO_INDEX, () -> x.bears(3, 0));
        dueThrow("bears(0, 12)", NO_INDEX, () -> x.bears(0, 12));
        dueThrow("names(-1, 0)", NO_INDEX, () -> x.names(-1, 0));
        dueThrow("names(0, -1)", NO_INDEX, () -> x.names(0, -1));
        dueThrow("how(3, 0)", NO_INDEX, () -> x.how(3, 0));
        dueThrow("how(0, 12)", NO_INDEX, () -> x.how(0, 12));
        dueThrow("row(3, 0, 0)", NO_INDEX, () -> x.row(3, 0, 0));
        dueThrow("row(0, 12, 0)", NO_INDEX, () -> x.row(0, 12, 0));
        dueThrow("nameless(3)", NO_INDEX, () -> x.nameless(3));
        dueThrow("longest(-1)", NO_INDEX, () -> x.longest(-1));
        dueThrow("lives(3, 0)", NO_INDEX, () -> x.lives(3, 0));
        dueThrow("lives(0, 12)", NO_INDEX, () -> x.lives(0, 12));
        dueThrow("owes(3, true)", NO_INDEX, () -> x.owes(3, true));
        dueThrow("way(3, true)", NO_INDEX, () -> x.way(3, true));
        dueThrow("rich(12)", NO_INDEX, () -> x.rich(12));
        dueThrow("borne(3, 0)", NO_INDEX, () -> x.borne(3, 0));
        dueThrow("borne(0, 3)", NO_INDEX, () -> x.borne(0, 3));
        dueThrow("again(3, 0)", NO_INDEX, () -> x.again(3, 0));
        dueThrow("again(0, 12)", NO_INDEX, () -> x.again(0, 12));
    }

    private static void refusalsAndTheDead() {
        LentNames x = town(4, "lend 0 to 1 day 0 for 3;lend 0 to 2 day 1 for 1;lend 1 to 1 day 0 for 1;lend 1 to 3 day 2 for 1",
            "lend 2 to 3 day 1 for 5;lend 2 to 0 day 3 for 1;dies 3 day 2");
        int[] refused = {0, 1, 1, 1, 0, 1};
        for (int loan = 0; loan < 6; loan++) {
            due("refused " + loan, x.look(loan, 4), refused[loan]);
        }
        due("count(6)", x.count(6), 4);
        due("count(7)", x.count(7), 1);
        int[] bearers = {2, 3, NONE, NONE, NONE, NONE, 2, 2};
        for (int day = 0; day < 8; day++) {
            due("bears 2 on " + day, x.bears(2, day), bearers[day]);
        }
        due("buried", x.how(2, 2), 3);
        due("it lies with the dead", x.row(2, 3, 1), 3);
        due("buried at its owner", x.how(3, 2), 3);
        due("lives on 1", x.lives(3, 1), true);
        due("lives on 2", x.lives(3, 2), false);
        due("nameless(0)", x.nameless(0), 7);
        due("nameless(2)", x.nameless(2), 62);
        due("longest(2)", x.longest(2), 5);
        due("nameless(3)", x.nameless(3), 0);
        due("longest(3)", x.longest(3), 0);
        due("names(3, 1)", x.names(3, 1), 12);
        due("names(3, 2)", x.names(3, 2), 0);
        due("rich(1)", x.rich(1), 10);
        due("rich(2)", x.rich(2), 2);
        due("ended by itself", x.look(4, 6), 6);
        due("borne(2, 3)", x.borne(2, 3), 1);
        due("borne(2, 2)", x.borne(2, 2), 7);
        due("way(2)", x.way(2, false), 12);
        due("hands(2)", x.way(2, true), 3);
        due("hands(3)", x.way(3, true), 1);
        due("hands(0)", x.way(0, true), 1);
        due("busiest", x.busiest(), 2);
        due("again(2, 1)", x.again(2, 1), 6);
        due("again(2, 0)", x.again(2, 0), 0);
        due("again(3, 2)", x.again(3, 2), NONE);
        due("again(0, 0)", x.again(0, 0), 3);
        LentNames y = town(2, "dies 1 day 5;dies 1 day 3;dies 1 day 7");
        due("the first of its days", y.lives(1, 2), true);
        due("the first of its days", y.lives(1, 3), false);
        due("dies once", y.count(7), 1);
    }

    private static void courts() {
        LentNames x = town(4, "lend 0 to 1 day 0 for 9 on;lend 0 to 2 day 1 for 9 on;lend 0 to 3 day 2 for 1 pledge 7",
            "late 2 by 5;court day 4;dies 2 day 6;court day 7;court day 4");
        int[] bearers = {1, 2, 3, 3, 2, 2, NONE, 1, 1, 0, 0, 0};
        int[] hows = {1, 1, 1, 2, 1, 1, 3, 1, 1, 0, 0, 0};
        for (int day = 0; day < 12; day++) {
            due("bears 0 on " + day, x.bears(0, day), bearers[day]);
            due("how 0 on " + day, x.how(0, day), hows[day]);
        }
        due("the first court ends it", x.look(2, 6), 4);
        due("the second court ends it", x.look(1, 6), 7);
        due("it ends by itself", x.look(0, 6), 9);
        due("one day is owed", x.look(2, 7), 7);
        due("owes(3)", x.owes(3, false), 7);
        due("is owed 2", x.owes(2, true), 7);
        due("owes(2)", x.owes(2, false), 0);
        due("courts", x.count(8), 2);
        due("stays buried", x.how(2, 7), 3);
        LentNames y = town(4, "lend 0 to 1 day 0 for 12;dies 0 day 1;dies 1 day 2;court day 3");
        due("with the dead", y.row(0, 2, 1), 1);
        due("at its dead owner", y.row(0, 3, 1), NONE);
        due("stays buried", y.how(0, 3), 3);
        due("nobody bears it", y.bears(0, 3), NONE);
        due("ended by the court", y.look(0, 6), 3);
        LentNames z = town(3, "lend 0 to 1 day 0 for 1 on;late 0 by 9;lend 0 to 2 day 1 for 1;court day 2;lend 0 to 2 day 2 for 1");
        due("without right it is not lent", z.look(1, 4), 1);
        due("the court is ahead of loans", z.look(2, 5), 0);
    }

    private static void pledges() {
        LentNames x = town(3, "lend 0 to 1 day 0 for 1 pledge 10;late 0 by 12;dies 1 day 3;lend 2 to 1 day 8 for 2 pledge 3");
        due("last day", x.look(0, 3), 12);
        due("not ended by 11", x.look(0, 6), NONE);
        due("the dead owe too", x.look(0, 7), 110);
        due("owes(1)", x.owes(1, false), 110);
        due("is owed 0", x.owes(0, true), 110);
        due("is owed 1", x.owes(1, true), 0);
        due("a refused one", x.look(1, 7), 0);
        LentNames y = town(3, "lend 0 to 1 day 0 for 3 pledge 10;late 0 by 5;late 0 by 1;lend 2 to 1 day 2 for 1 pledge 4;late 1 by 2");
        due("what was told last", y.look(0, 3), 3);
        due("one day", y.look(0, 7), 10);
        due("two days", y.look(1, 7), 8);
        due("owes both", y.owes(1, false), 18);
        due("is owed 2", y.owes(2, true), 8);
    }

    private static void look() {
        LentNames x = town(4, "lend 3 to 2 day 10 for 12;lend 3 to 3 day 0 for 1");
        int[] first = {3, 2, 10, 21, 0, 3, NONE, 0};
        int[] second = {3, 3, 0, 0, 1, NONE, NONE, 0};
        for (int what = 0; what < 8; what++) {
            due("look 0, " + what, x.look(0, what), first[what]);
            due("look 1, " + what, x.look(1, what), second[what]);
        }
        dueThrow("look(0, 8)", NO_ELEMENT, () -> x.look(0, 8));
        dueThrow("look(0, -1)", NO_ELEMENT, () -> x.look(0, -1));
        dueThrow("look(2, 0)", NO_INDEX, () -> x.look(2, 0));
        dueThrow("look(-1, 9)", NO_INDEX, () -> x.look(-1, 9));
    }

    // ---- promises 16 to 18, 20 to 23 ----

    private static void letters() {
        LentNames x = town(4, "lend 0 to 1 day 0 for 3;dies 1 day 1;letter 0 day 0 read 1;letter 1 day 0 read 2;letter 0 day 2 read 3");
        int[][] answers = {{1, 0, 3}, {1, NONE, NONE}, {NONE, 0, 3}};
        for (int letter = 0; letter < 3; letter++) {
            for (int what = 0; what < 3; what++) {
                due("letter " + letter + ", " + what, x.letter(letter, what), answers[letter][what]);
            }
        }
        dueThrow("letter(0, 3)", NO_ELEMENT, () -> x.letter(0, 3));
        dueThrow("letter(0, -1)", NO_ELEMENT, () -> x.letter(0, -1));
        dueThrow("letter(3, 3)", NO_INDEX, () -> x.letter(3, 3));
        dueThrow("letter(-1, 0)", NO_INDEX, () -> x.letter(-1, 0));
    }

    private static void debts() {
        LentNames x = town(4, "lend 0 to 1 day 0 for 3;dies 1 day 1;debt name 0 day 0 judged 1 of 5;debt body 1 day 0 judged 0 of 30;"
            + "debt body 1 day 0 judged 1 of 3;debt name 2 day 0 judged 5 of 100;debt name 2 day 0 judged 4 of 60");
        int[] payers = {NONE, 1, NONE, 2, 2};
        for (int debt = 0; debt < 5; debt++) {
            due("pays " + debt, x.pays(debt), payers[debt]);
        }
        due("bill(0)", x.bill(0), 0);
        due("bill(1)", x.bill(1), 30);
        due("bill(2)", x.bill(2), 160);
        due("all unpaid", x.unpaid(), 31);
        due("purse(2)", x.purse(2, 120), 0);
        due("the earlier one is paid", x.unpaid(), 15);
        due("left(2)", x.left(2), 60);
        due("purse(1)", x.purse(1, 30), 0);
        due("unpaid", x.unpaid(), 13);
        due("left(1)", x.left(1), 0);
        due("nobody has as much", x.meets(3), NONE);
        x.purse(3, 100);
        due("meets", x.meets(3), 3);
        x.purse(0, 99);
        due("one too few", x.meets(3), 3);
        due("what was in it", x.purse(0, 100), 99);
        due("the least", x.meets(3), 0);
        due("of a body", x.meets(2), NONE);
        due("paid", x.meets(4), NONE);
        due("nobody bears it", x.meets(0), 0);
        x.purse(0, 0);
        x.purse(1, 50);
        due("the dead meet none", x.meets(0), 2);
        due("coins", x.count(11), 270);
        dueThrow("purse(0, 10000)", BAD_ARGUMENT, () -> x.purse(0, 10000));
        dueThrow("purse(0, -1)", BAD_ARGUMENT, () -> x.purse(0, -1));
        dueThrow("purse(4, -1)", NO_INDEX, () -> x.purse(4, -1));
        due("it is as it was", x.purse(0, 9999), 0);
        dueThrow("pays(5)", NO_INDEX, () -> x.pays(5));
        dueThrow("pays(-1)", NO_INDEX, () -> x.pays(-1));
        dueThrow("meets(5)", NO_INDEX, () -> x.meets(5));
        dueThrow("bill(4)", NO_INDEX, () -> x.bill(4));
        dueThrow("left(4)", NO_INDEX, () -> x.left(4));
    }

    private static void debtsInOrder() {
        LentNames x = town(2, "debt body 0 day 0 judged 3 of 60;debt body 0 day 0 judged 3 of 50;debt body 0 day 0 judged 3 of 0;"
            + "dies 1 day 2;debt name 1 day 0 judged 2 of 0");
        x.purse(0, 60);
        due("of one day by numbers; nothing is paid by nobody", x.unpaid(), 10);
        due("left", x.left(0), 0);
        x.purse(0, 59);
        due("not in part", x.left(0), 9);
        due("the next one is", x.unpaid(), 9);
    }

    // ---- promise 19 ----

    private static void customs() {
        refusedBy("", 0);
        refusedBy("grant", 0);
        refusedBy("refuse", 7);
        refusedBy("refuse if own", 7);
        refusedBy("refuse if mine", 4);
        refusedBy("refuse if day > 2", 4);
        refusedBy("refuse if day > 1 + 1 + 1", 0);
        refusedBy("refuse if days > 3", 2);
        refusedBy("refuse if pledge > 3", 1);
        refusedBy("refuse if deep > 1", 4);
        refusedBy("refuse if deep > 0", 6);
        refusedBy("refuse if gives > 1", 6);
        refusedBy("refuse if takes < 1", 4);
        refusedBy("grant if own;refuse", 6);
        refusedBy("grant if mine;refuse if day > 2;refuse if deep > 0", 2);
        refusedBy("refuse if not own and not mine", 2);
        refusedBy("refuse if own and days > 3 or mine", 4);
        refusedBy("refuse if mine or days > 3 and own", 4);
        refusedBy("refuse if own and (days > 3 or mine)", 0);
        refusedBy("refuse if not (own or mine)", 2);
        refusedBy("refuse if pledge + days > day + 4", 1);
        refusedBy("refuse if 1<1", 0);
        refusedBy("refuse if 1>1", 0);
        refusedBy("refuse if not not own", 7);
    }

    /** 0 lends to 1, who lends on to 2 on the same DAY, who lends it to its OWNER on the next. */
    private static void refusedBy(String custom, int loans) {
        LentNames x = town(4, "lend 0 to 1 day 2 for 3 on pledge 4;lend 0 to 2 day 2 for 5 on;lend 0 to 0 day 3 for 1");
        write(x, custom);
        x.custom();
        int refused = 0;
        for (int loan = 0; loan < 3; loan++) {
            refused |= x.look(loan, 4) << loan;
        }
        due("refused by: " + custom, refused, loans);
    }

    private static void customStays() {
        LentNames x = town(4, "lend 0 to 1 day 0 for 1");
        write(x, "refuse");
        due("custom", x.custom(), 1);
        due("refused", x.count(6), 1);
        write(x, "grant;refuse if");
        dueThrow("a wrong custom", BAD_ARGUMENT, x::custom);
        due("fault", x.fault(), 15);
        due("the one before stays", x.count(6) + x.count(10), 2);
        write(x, "lend 1 to 2 day 0 for 1");
        x.tell();
        due("fault", x.fault(), NONE);
        due("for later texts too", x.count(6), 2);
        write(x, times(10, "grant"));
        due("ten lines", x.custom(), 10);
        due("ten lines", x.count(10), 10);
        due("none refused", x.count(6), 0);
        write(x, "  ");
        due("no line", x.custom(), 0);
    }

    // ---- promises 26 to 28 ----

    private static void wishesAndPlans() {
        LentNames x = town(2, "letter 0 day 0 read 3");
        due("no wish", x.home(), 0);
        due("wish", x.wish(0, 0), NONE);
        due("had", x.home(), 1);
        due("wishes", x.count(9), 1);
        due("no loan is needed", x.plan(0, NONE), 0);
        due("wish", x.wish(0, 1), 0);
        due("not had", x.home(), 0);
        due("plan(12)", x.plan(12, NONE), 1);
        due("the first in order", x.plan(12, 0), 1003);
        due("behind", x.plan(12, 1), NONE);
        due("far behind", x.plan(12, Integer.MAX_VALUE), NONE);
        due("plan(3)", x.plan(3, 0), 1023);
        due("plan(0)", x.plan(0, NONE), 2);
        due("plan(0), 0", x.plan(0, 0), 1003);
        due("plan(0), 1", x.plan(0, 1), 10003);
        dueThrow("plan(13)", BAD_ARGUMENT, () -> x.plan(13, 0));
        dueThrow("plan(-1)", BAD_ARGUMENT, () -> x.plan(-1, 0));
        dueThrow("plan(0, -2)", BAD_ARGUMENT, () -> x.plan(0, -2));
        dueThrow("wish(1)", NO_INDEX, () -> x.wish(1, 0));
        dueThrow("wish(-1)", NO_INDEX, () -> x.wish(-1, 0));
        dueThrow("wish(0, 2)", NO_INDEX, () -> x.wish(0, 2));
        dueThrow("wish(0, -2)", NO_INDEX, () -> x.wish(0, -2));
        due("it was", x.wish(0, NONE), 1);
        due("wishes", x.count(9), 0);
        due("nothing to plan", x.plan(0, NONE), 0);
        LentNames y = town(3, "lend 0 to 1 day 0 for 12");
        due("12 days are not more than 12", y.plan(12, NONE), 0);
        due("one loan to 0", y.plan(11, NONE), 1);
        // The first in order is of NAME 0, which 1 bears: 0 bears it on DAY 0 then.
        due("its first", y.plan(11, 0), 0);
        due("11 days are left", y.plan(10, 0), 1);
        due("five days are left", y.plan(5, 0), 6);
    }

    private static void plansThatAreNoneOrSpent() {
        LentNames x = town(2, "letter 0 day 0 read 3;dies 1 day 2;letter 1 day 0 read 3");
        x.wish(0, 1);
        due("the dead bear none", x.plan(12, NONE), NONE);
        due("the dead bear none", x.plan(12, 0), NONE);
        x.wish(0, NONE);
        x.wish(1, 0);
        due("a buried name may be lent", x.plan(12, NONE), 1);
        due("on days when its bearer lives too", x.plan(12, 0), 10003);
        LentNames y = town(6, "lend 0 to 1 day 0 for 12;lend 2 to 1 day 0 for 12;lend 3 to 1 day 0 for 12;"
            + "lend 4 to 1 day 0 for 12;lend 5 to 1 day 0 for 12");
        due("all bounds but the widest are spent", y.plan(11, NONE), -2);
        due("spent", y.plan(0, 0), -2);
        due("twelve days are borne", y.plan(12, NONE), 0);
        // No hand counts these: PlainTown comes to the first set with STEP 20000 here, and with STEP 20001 there.
        LentNames edge = town(6, "lend 3 to 4 day 5 for 3;lend 4 to 5 day 6 for 10");
        due("20000 steps", edge.plan(0, NONE), 2);
        due("20000 steps", edge.plan(0, 0), 33107);
        LentNames beyond = town(6, "lend 4 to 5 day 4 for 9;lend 3 to 4 day 5 for 3");
        due("20001 steps", beyond.plan(0, NONE), -2);
    }

    // ---- promises 29 to 32 ----

    private static void sightings() {
        LentNames x = town(4, "lend 0 to 1 day 2 for 3;dies 3 day 6;seen 0 day 3 as 1 or 2 known 3;seen 0 day 5 as 2 or 3 known 7;"
            + "seen 0 day 8 as 2 or 3 known 9;seen 2 day 8 as 2 known 9");
        due("agree", x.agree(), 9);
        due("can(1)", x.can(1), 12);
        due("can(2)", x.can(2), 4);
        due("no liar is known of", x.liars(2), 0);
        due("where all agree, each may be left out", x.liars(3), 1);
        due("one does not agree", x.liars(7), 2);
        due("two do not", x.liars(9), 0);
        due("secrets(3)", x.secrets(3, NONE), 0);
        due("the empty set", x.secrets(3, -2), 1);
        due("secrets(7)", x.secrets(7, NONE), 1);
        // From 5 to 5 by 2 or by 3, or by 2 from 3 to 5 (it is told on 3 too).
        due("sets(7)", x.secrets(7, -2), 3);
        due("the first of these", x.secrets(7, 0), 2065);
        due("behind it", x.secrets(7, 1), NONE);
        due("secrets(9)", x.secrets(9, NONE), 1);
        due("sets(9)", x.secrets(9, -2), 2);
        due("over both days", x.secrets(9, 0), 2068);
        dueThrow("can(4)", NO_INDEX, () -> x.can(4));
        dueThrow("can(-1)", NO_INDEX, () -> x.can(-1));
        dueThrow("liars(12)", NO_INDEX, () -> x.liars(12));
        dueThrow("secrets(12)", NO_INDEX, () -> x.secrets(12, -3));
        dueThrow("secrets(0, -3)", BAD_ARGUMENT, () -> x.secrets(0, -3));
    }

    private static void secretsThatAreNoneOrSpent() {
        LentNames x = town(2, "dies 1 day 0;seen 0 day 3 as 1 known 4");
        due("secrets ahead", x.secrets(3, NONE), 0);
        due("the dead bear none", x.secrets(4, NONE), NONE);
        due("no sets", x.secrets(4, -2), NONE);
        due("no loan", x.secrets(4, 0), NONE);
        LentNames y = town(6, "seen 0 day 0 as 1 known 0;seen 1 day 0 as 0 known 0;seen 2 day 0 as 0 known 0;seen 3 day 0 as 0 known 0;seen 4 day 0 as 0 known 1");
        due("four names", y.secrets(0, NONE), 4);
        due("five names", y.secrets(1, NONE), NONE);
        String[] all = new String[4];
        all[0] = "dies 2 day 0";
        all[1] = manySightings(0, 5);
        all[2] = manySightings(5, 9);
        all[3] = "seen 1 day 0 as 2 known 0";
        LentNames last = town(6, all);
        due("one that cannot agree, by 0", last.secrets(0, NONE), NONE);
        due("it comes last", last.secrets(8, NONE), -3);
        due("it comes last", last.secrets(8, -2), -3);
        due("it comes last", last.secrets(8, 0), -3);
        LentNames first = town(6, all[0], all[3], all[1], all[2]);
        due("it comes first", first.secrets(8, NONE), NONE);
    }

    private static String manySightings(int from, int to) {
        StringBuilder s = new StringBuilder();
        for (int day = from; day < to; day++) {
            s.append(day > from ? ";" : "").append("seen 0 day ").append(day).append(" as 1 or 2 or 3 or 4 or 5 known ").append(day);
        }
        return s.toString();
    }

    // ---- a NAME that its OWNER bears by a LOAN ----

    private static void namesBorneBackToOwners() {
        LentNames x = town(3, "lend 0 to 1 day 0 for 9 on;lend 0 to 0 day 1 for 2;lend 0 to 2 day 2 for 1;late 1 by 1");
        due("its owner bears it", x.bears(0, 1), 0);
        due("again", x.again(0, 0), 1);
        due("but it is lent", x.how(0, 1), 1);
        due("an owner may lend it on", x.look(2, 5), 0);
        due("all of the row", x.row(0, 2, 3), 2);
    }

    // ---- promises 36 to 38 ----

    private static void image() {
        LentNames x = new LentNames();
        due("back without one", x.back(), false);
        x.people(5);
        x.purse(4, 7);
        x.image();
        write(x, "lend 0 to 1 day 0 for 12;letter 0 day 0 read 1;dies 2 day 3;court day 2;debt body 0 day 0 judged 1 of 2;seen 0 day 0 as 0 known 0");
        x.tell();
        x.wish(0, 3);
        x.purse(4, 9);
        write(x, "refuse");
        x.custom();
        write(x, "court");
        dueThrow("a wrong text", BAD_ARGUMENT, x::tell);
        x.feed(0, 0, 0, 0, 0);
        due("plan ahead of it", x.plan(12, NONE), 1);
        due("back", x.back(), true);
        int[] counts = {5, 0, 0, 0, 0, 0, 0, 0, 0, 0, 0, 7};
        for (int what = 0; what < 12; what++) {
            due("count " + what, x.count(what), counts[what]);
        }
        due("the tape stays", x.feed(0, 0, 0, 0, 0), 40);
        due("the fault stays", x.fault(), 5);
        due("nobody dies", x.lives(2, 3), true);
        due("plan behind it", x.plan(12, NONE), 0);
        x.people(2);
        due("back again", x.back(), true);
        due("N", x.count(0), 5);
        x.end(0);
        write(x, "lend 0 to 1 day 0 for 12;letter 0 day 0 read 1;dies 2 day 3;court day 2;debt body 0 day 0 judged 1 of 2;seen 0 day 0 as 0 known 0");
        x.tell();
        x.wish(0, 3);
        write(x, "refuse;grant");
        x.custom();
        x.image();
        int[] later = {5, 1, 1, 1, 1, 1, 1, 1, 1, 1, 2, 7};
        x.wish(0, NONE);
        x.purse(0, 5);
        write(x, "");
        x.custom();
        write(x, "dies 0 day 0;court day 9;late 0 by 3;lend 1 to 0 day 0 for 1;letter 0 day 0 read 0;debt body 0 day 0 judged 1 of 2;seen 0 day 0 as 0 known 0");
        x.tell();
        due("back to the later one", x.back(), true);
        for (int what = 0; what < 12; what++) {
            due("count " + what, x.count(what), later[what]);
        }
        due("nobody else dies", x.lives(0, 0), true);
        due("it is not late", x.look(0, 3), 11);
        due("the wish", x.wish(0, 1), 3);
        due("the purse", x.purse(0, 0), 0);
    }
}
