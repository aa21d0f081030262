/** Arguments of all calls, exceptions, THE IMAGE and counts: each boundary that the document names, from both sides. */
public final class CallBoundsTest extends Check {
    private static final int PEOPLE = 5;
    private static final int LOANS = 4;
    private static final int LETTERS = 2;
    private static final int DEBTS = 3;
    private static final int SIGHTINGS = 2;
    private static final int DAYS = 12;

    /** A call with one argument that has bounds; the others are right. */
    private interface With {
        void call(LentNames x, int k);
    }

    public static void main(String[] args) {
        namesThatThereAre();
        bodiesThatThereAre();
        daysThatThereAre();
        thingsThatWereTold();
        thingsInAnEmptyTown();
        otherWhats();
        firstOfSeveralExceptions();
        partsAreNotBound();
        backWithoutImage();
        imageOfAll();
        imageIsOne();
        imageBesides();
        imageOfPeople();
        counts();
        newObject();
        callsOfOneObject();
        exit();
    }

    /** All kinds of things are told in it, and an image of another state is kept. */
    private static LentNames full() {
        LentNames x = new LentNames();
        x.people(PEOPLE);
        x.purse(0, 30);
        x.image();
        custom(x, "refuse if pledge > 50;grant if day < 8");
        tell(x, "lend 0 to 1 day 0 for 3 on pledge 5;late 0 by 2;lend 0 to 2 day 1 for 2;lend 3 to 4 day 2 for 4 pledge 60;lend 4 to 0 day 9 for 2");
        tell(x, "dies 1 day 6;court day 4;letter 0 day 0 read 2;letter 1 day 5 read 7;debt name 0 day 0 judged 3 of 20;debt body 3 day 1 judged 4 of 7");
        tell(x, "debt name 4 day 1 judged 9 of 8;seen 0 day 2 as 2 or 1 known 2;seen 4 day 3 as 2 known 5");
        x.wish(0, 3);
        x.purse(0, 25);
        x.purse(3, 9999);
        return x;
    }

    /** The same with a text on its tape that was not read yet, and a fault of one that was. */
    private static LentNames fullWithTape() {
        LentNames x = full();
        write(x, "court day");
        dueThrow("wrong", BAD_ARGUMENT, x::tell);
        write(x, "court day 3");
        return x;
    }

    /** A deed that reads no text is refused with that exception, and leaves all as it was, the TAPE and fault() too. */
    private static void refusedQuietly(String what, Class<?> want, Deed deed) {
        LentNames x = fullWithTape();
        dueThrow(what, want, () -> deed.doTo(x));
        due("the fault behind " + what, x.fault(), 9);
        refused(what, want, CallBoundsTest::fullWithTape, deed);
    }

    /** 0 and the last one are there; what lies on both sides of them is refused, and that leaves all as it was. */
    private static void bounded(String what, int count, With with) {
        LentNames x = full();
        with.call(x, 0);
        with.call(x, count - 1);
        for (int k : new int[] {-1, count, count + 1, Integer.MIN_VALUE, Integer.MAX_VALUE}) {
            refusedQuietly(what + " of " + k, NO_INDEX, y -> with.call(y, k));
        }
        // A call that only asks leaves all as it was, too.
        if (!what.startsWith("purse") && !what.startsWith("wish")) {
            idle(what, CallBoundsTest::fullWithTape, y -> with.call(y, count - 1));
        }
    }

    // ---- "IndexOutOfBoundsException: there is no such NAME, BODY, DAY, LOAN, LETTER, DEBT, SIGHTING" ----

    private static void namesThatThereAre() {
        bounded("bears: the name", PEOPLE, (x, k) -> x.bears(k, 0));
        bounded("how: the name", PEOPLE, (x, k) -> x.how(k, 0));
        bounded("row: the name", PEOPLE, (x, k) -> x.row(k, 0, 0));
        bounded("way: the name", PEOPLE, (x, k) -> x.way(k, false));
        bounded("way, hands: the name", PEOPLE, (x, k) -> x.way(k, true));
        bounded("borne: the name", PEOPLE, (x, k) -> x.borne(k, 0));
        bounded("again: the name", PEOPLE, (x, k) -> x.again(k, 0));
    }

    private static void bodiesThatThereAre() {
        bounded("names: the body", PEOPLE, (x, k) -> x.names(k, 0));
        bounded("nameless: the body", PEOPLE, (x, k) -> x.nameless(k));
        bounded("longest: the body", PEOPLE, (x, k) -> x.longest(k));
        bounded("lives: the body", PEOPLE, (x, k) -> x.lives(k, 0));
        bounded("owes: the body", PEOPLE, (x, k) -> x.owes(k, false));
        bounded("owes, owns: the body", PEOPLE, (x, k) -> x.owes(k, true));
        bounded("bill: the body", PEOPLE, (x, k) -> x.bill(k));
        bounded("purse: the body", PEOPLE, (x, k) -> x.purse(k, 1));
        bounded("left: the body", PEOPLE, (x, k) -> x.left(k));
        bounded("borne: the body", PEOPLE, (x, k) -> x.borne(0, k));
    }

    private static void daysThatThereAre() {
        bounded("bears: the day", DAYS, (x, k) -> x.bears(0, k));
        bounded("names: the day", DAYS, (x, k) -> x.names(0, k));
        bounded("how: the day", DAYS, (x, k) -> x.how(0, k));
        bounded("row: the day", DAYS, (x, k) -> x.row(0, k, 0));
        bounded("lives: the day", DAYS, (x, k) -> x.lives(0, k));
        bounded("secrets: the day", DAYS, (x, k) -> x.secrets(k, NONE));
        bounded("liars: the day", DAYS, (x, k) -> x.liars(k));
        bounded("rich: the day", DAYS, (x, k) -> x.rich(k));
        bounded("again: the day", DAYS, (x, k) -> x.again(0, k));
    }

    private static void thingsThatWereTold() {
        for (int w = 0; w < 8; w++) {
            int what = w;
            bounded("look, " + what + ": the loan", LOANS, (x, k) -> x.look(k, what));
        }
        for (int w = 0; w < 3; w++) {
            int what = w;
            bounded("letter, " + what + ": the letter", LETTERS, (x, k) -> x.letter(k, what));
        }
        bounded("wish: the letter", LETTERS, (x, k) -> x.wish(k, 0));
        bounded("pays: the debt", DEBTS, (x, k) -> x.pays(k));
        bounded("meets: the debt", DEBTS, (x, k) -> x.meets(k));
        bounded("can: the sighting", SIGHTINGS, (x, k) -> x.can(k));
        // There are as many bodies, and NONE besides.
        for (int body : new int[] {-2, PEOPLE, Integer.MIN_VALUE, Integer.MAX_VALUE}) {
            refusedQuietly("wish: the body " + body, NO_INDEX, x -> x.wish(0, body));
        }
        LentNames x = full();
        due("the last body", x.wish(1, PEOPLE - 1), NONE);
        due("none", x.wish(1, NONE), PEOPLE - 1);
        due("the first body", x.wish(1, 0), NONE);
    }

    private static void thingsInAnEmptyTown() {
        for (int k : new int[] {-1, 0, 1}) {
            refused("look(" + k + ")", NO_INDEX, LentNames::new, x -> x.look(k, 0));
            refused("letter(" + k + ")", NO_INDEX, LentNames::new, x -> x.letter(k, 0));
            refused("wish(" + k + ")", NO_INDEX, LentNames::new, x -> x.wish(k, 0));
            refused("pays(" + k + ")", NO_INDEX, LentNames::new, x -> x.pays(k));
            refused("meets(" + k + ")", NO_INDEX, LentNames::new, x -> x.meets(k));
            refused("can(" + k + ")", NO_INDEX, LentNames::new, x -> x.can(k));
        }
        // What a wrong text told is not there.
        LentNames x = new LentNames();
        write(x, "lend 0 to 1 day 0 for 1;letter 0 day 0 read 0;debt name 0 day 0 judged 0 of 1;seen 0 day 0 as 0 known 0;x");
        dueThrow("a wrong text", BAD_ARGUMENT, x::tell);
        dueThrow("look", NO_INDEX, () -> x.look(0, 0));
        dueThrow("letter", NO_INDEX, () -> x.letter(0, 0));
        dueThrow("pays", NO_INDEX, () -> x.pays(0));
        dueThrow("can", NO_INDEX, () -> x.can(0));
    }

    // ---- "NoSuchElementException: another what"; "NONE for another what" ----

    private static void otherWhats() {
        LentNames x = full();
        for (int what = 0; what < 8; what++) {
            x.look(0, what);
        }
        for (int what : new int[] {-1, 8, 9, Integer.MIN_VALUE, Integer.MAX_VALUE}) {
            refusedQuietly("look(0, " + what + ")", NO_ELEMENT, y -> y.look(0, what));
            refusedQuietly("look(3, " + what + ")", NO_ELEMENT, y -> y.look(LOANS - 1, what));
        }
        for (int what = 0; what < 3; what++) {
            x.letter(0, what);
        }
        for (int what : new int[] {-1, 3, 4, Integer.MIN_VALUE, Integer.MAX_VALUE}) {
            refusedQuietly("letter(0, " + what + ")", NO_ELEMENT, y -> y.letter(0, what));
            refusedQuietly("letter(1, " + what + ")", NO_ELEMENT, y -> y.letter(LETTERS - 1, what));
        }
        for (int what : new int[] {-1, -2, 12, 13, Integer.MIN_VALUE, Integer.MAX_VALUE}) {
            due("count(" + what + ")", x.count(what), NONE);
        }
    }

    // ---- "Of several exceptions the one told first is thrown" ----

    private static void firstOfSeveralExceptions() {
        refusedQuietly("look of none, another what", NO_INDEX, x -> x.look(LOANS, 8));
        refusedQuietly("letter of none, another what", NO_INDEX, x -> x.letter(LETTERS, 3));
        refusedQuietly("purse of none, that is none", NO_INDEX, x -> x.purse(PEOPLE, 10000));
        refusedQuietly("a purse that is none", BAD_ARGUMENT, x -> x.purse(PEOPLE - 1, 10000));
        refusedQuietly("secrets by none, what below -2", NO_INDEX, x -> x.secrets(12, -3));
        refusedQuietly("what below -2", BAD_ARGUMENT, x -> x.secrets(11, -3));
        refusedQuietly("people that are none, behind texts", BAD_ARGUMENT, x -> x.people(7));
        refusedQuietly("people behind texts", BAD_STATE, x -> x.people(6));
        refusedQuietly("a bound that is none, k below NONE", BAD_ARGUMENT, x -> x.plan(13, -2));
        refused("a wrong text", BAD_ARGUMENT, CallBoundsTest::full, x -> tell(x, "court day 12"));
        refused("a wrong custom", BAD_ARGUMENT, CallBoundsTest::full, x -> custom(x, "grant;court"));
    }

    // ---- k of row() has no bounds, nor has what there of plan() and secrets() above ----

    private static void partsAreNotBound() {
        LentNames x = full();
        for (int k : new int[] {Integer.MIN_VALUE, -2, -1, 5, 21, Integer.MAX_VALUE}) {
            due("row of " + k, x.row(0, 2, k), NONE);
        }
        due("owner", x.row(0, 2, 0), 0);
        due("who has it", x.row(0, 2, 1), 1);
        due("who has it from there", x.row(0, 2, 2), 2);
        due("behind it", x.row(0, 2, 3), NONE);
        due("plan far behind", x.plan(0, Integer.MAX_VALUE), NONE);
        due("secrets far behind", x.secrets(11, Integer.MAX_VALUE), NONE);
        // On a wrong name or day no k helps.
        dueThrow("row(5, 0, 0)", NO_INDEX, () -> x.row(PEOPLE, 0, 0));
        dueThrow("row(0, 12, -1)", NO_INDEX, () -> x.row(0, 12, -1));
    }

    // ---- "false, and nothing happens, if none was kept" ----

    private static LentNames withoutImage() {
        LentNames x = town(3, "lend 0 to 1 day 0 for 3;letter 0 day 0 read 1");
        x.purse(0, 5);
        x.wish(0, 2);
        custom(x, "refuse");
        return x;
    }

    private static void backWithoutImage() {
        due("none at first", new LentNames().back(), false);
        due("none", withoutImage().back(), false);
        idle("back", CallBoundsTest::withoutImage, LentNames::back);
        LentNames x = new LentNames();
        due("none", x.back(), false);
        x.image();
        due("one", x.back(), true);
        due("still one", x.back(), true);
    }

    // ---- "THE IMAGE (one) of all may be kept, and gone back to" ----

    private static void imageOfAll() {
        idle("an image that is gone back to", CallBoundsTest::ownImage, LentNames::back);
        Deed[] changes = {x -> tell(x, ""), x -> tell(x, "lend 1 to 0 day 0 for 9"), x -> tell(x, "late 0 by 9"), x -> tell(x, "dies 0 day 0"),
            x -> tell(x, "court day 2"), x -> tell(x, "letter 3 day 0 read 9"), x -> tell(x, "debt body 0 day 0 judged 9 of 99"),
            x -> tell(x, "seen 2 day 0 as 1 known 0"), x -> custom(x, "refuse"), x -> custom(x, ""), x -> x.purse(0, 9), x -> x.wish(1, 2),
            x -> x.wish(0, NONE)};
        for (int k = 0; k < changes.length; k++) {
            Deed change = changes[k];
            idle("the change " + k + ", and back", CallBoundsTest::ownImage, x -> {
                change.doTo(x);
                due("back", x.back(), true);
            });
            // Without going back it is seen.
            LentNames changed = ownImage();
            change.doTo(changed);
            due("the change " + k + " is seen", answers(changed).equals(answers(ownImage())), false);
        }
    }

    private static LentNames ownImage() {
        LentNames x = full();
        x.image();
        return x;
    }

    private static void imageIsOne() {
        LentNames x = town(3);
        x.image();
        x.purse(0, 1);
        x.image();
        x.purse(0, 2);
        due("back", x.back(), true);
        due("the later one", x.purse(0, 3), 1);
        due("back again", x.back(), true);
        due("it stays as it was kept", x.purse(0, 4), 1);
        x.image();
        x.purse(0, 5);
        x.back();
        due("the third one", x.purse(0, 6), 4);
        // A call that is refused keeps none.
        LentNames y = town(3);
        dueThrow("refused", NO_INDEX, () -> y.purse(3, 1));
        due("none", y.back(), false);
    }

    // ---- "(but for the TAPE, fault() and THE IMAGE itself)" ----

    private static void imageBesides() {
        LentNames x = new LentNames();
        write(x, "court day 12");
        dueThrow("wrong", BAD_ARGUMENT, x::tell);
        write(x, "court day 1");
        x.image();
        due("the tape stays at an image", x.end(11), true);
        due("the fault stays at an image", x.fault(), 10);
        due("the tape can be told", x.tell(), 1);
        due("a right text", x.fault(), NONE);
        write(x, "court day");
        dueThrow("wrong", BAD_ARGUMENT, x::tell);
        write(x, "court day 11");
        due("back", x.back(), true);
        due("the fault is not gone back to", x.fault(), 9);
        due("nor is the tape", x.end(13), false);
        due("it has what it had", x.end(12), true);
        due("and can be told", x.tell(), 1);
        due("a court", x.count(8), 1);
    }

    private static void imageOfPeople() {
        LentNames x = new LentNames();
        x.people(6);
        x.purse(5, 7);
        x.image();
        x.people(2);
        dueThrow("no body 5", NO_INDEX, () -> x.left(5));
        tell(x, "court day 1");
        due("back", x.back(), true);
        due("six", x.count(0), 6);
        due("its purse", x.left(5), 7);
        due("no text", x.count(1), 0);
        x.people(3);
        due("ahead of texts", x.count(0), 3);
        for (int k = 0; k < 10; k++) {
            tell(x, "");
        }
        x.back();
        due("texts can be told again", tell(x, "dies 5 day 0"), 1);
        // What those did who are not there any more is gone with them.
        LentNames y = town(3);
        y.image();
        y.people(6);
        tell(y, "lend 3 to 0 day 1 for 1;lend 4 to 5 day 1 for 1;lend 5 to 0 day 0 for 12;dies 4 day 3;dies 2 day 5");
        due("the busiest of six", y.busiest(), 4);
        y.back();
        dueSame("back to three", answers(y), answers(three()));
        y.back();
        due("the busiest of three", y.busiest(), 0);
        due("rich", y.rich(1), 0);
        due("names", y.names(0, 1), 1);
        due("way", y.way(2, false), 4);
    }

    private static LentNames three() {
        LentNames x = town(3);
        x.image();
        return x;
    }

    // ---- promise 38 ----

    private static void counts() {
        LentNames x = full();
        int[] counts = {PEOPLE, 3, LOANS, LETTERS, DEBTS, SIGHTINGS, 1, 1, 1, 1, 2, 10024};
        for (int what = 0; what < 12; what++) {
            due("count(" + what + ")", x.count(what), counts[what]);
        }
        LentNames most = town(6, times(14, "lend 0 to 0 day 0 for 1"), times(6, "lend 0 to 0 day 0 for 1") + ";dies 0 day 0;dies 1 day 0;dies 2 day 0;dies 3 day 0;"
            + "dies 4 day 0;dies 5 day 0", times(10, "letter 0 day 0 read 0"), times(10, "debt name 0 day 0 judged 0 of 0"), times(10, "seen 0 day 0 as 0 known 0"));
        for (int letter = 0; letter < 10; letter++) {
            most.wish(letter, 5);
        }
        int[] limits = {6, 5, 20, 10, 10, 10, 20, 6, 0, 10, 0, 0};
        for (int what = 0; what < 12; what++) {
            due("the most of " + what, most.count(what), limits[what]);
        }
    }

    // ---- promise 1 ----

    private static void newObject() {
        LentNames x = new LentNames();
        int[] counts = {4, 0, 0, 0, 0, 0, 0, 0, 0, 0, 0, 0};
        for (int what = 0; what < 12; what++) {
            due("count(" + what + ") at first", x.count(what), counts[what]);
        }
        due("no fault", x.fault(), NONE);
        due("an empty tape", x.end(1), false);
        due("no image", x.back(), false);
        LentNames other = full();
        due("objects have nothing in common", new LentNames().count(2), 0);
        due("objects have nothing in common", other.count(2), LOANS);
    }

    // ---- "An object is used for at most 512 calls" ----

    private static void callsOfOneObject() {
        LentNames x = town(2);
        int calls = 1;
        for (int k = 0; k < 10; k++) {
            write(x, "lend 0 to 1 day " + k + " for 1");
            due("text", x.tell(), k + 1);
            calls += 4;
        }
        for (; calls < 510; calls += 2) {
            due("purse", x.purse(1, calls), calls == 41 ? 0 : calls - 2);
            due("left", x.left(1), calls);
        }
        for (; calls < 511; calls++) {
            due("hands", x.way(0, true), 1);
        }
        due("the 512th call", x.bears(0, 9), 1);
    }
}
