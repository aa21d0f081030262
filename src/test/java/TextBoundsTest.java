import java.util.ArrayList;
import java.util.Arrays;
import java.util.List;

/** TAPE and texts: each sentence of the document that names a boundary, from both sides of it. */
public final class TextBoundsTest extends Check {
    // In these a capital letter stands for a number. A line is whole behind as many words and numbers as told with it.
    private static final String LEND = "lend A to B day D for F on pledge P";
    private static final String LATE = "late L by F";
    private static final String DIES = "dies B day D";
    private static final String COURT = "court day D";
    private static final String LETTER = "letter A day D read E";
    private static final String DEBT_NAME = "debt name A day D judged E of C";
    private static final String DEBT_BODY = "debt body B day D judged E of C";
    private static final String SEEN = "seen A day D as B or B known E";
    private static final String[] LINES = {LEND, LATE, DIES, COURT, LETTER, DEBT_NAME, DEBT_BODY, SEEN};
    private static final int[][] WHOLE = {{8, 9, 11}, {4}, {4}, {3}, {6}, {9}, {9}, {10}};
    private static final String ONE_LOAN = "lend 0 to 1 day 0 for 1";

    public static void main(String[] args) {
        tapeOf400();
        highestByteFirst();
        cutTape();
        textsOfTheTown();
        linesOfTheTown();
        numbersOfEachLine();
        daysThatAreTooEarly();
        namesAndBodiesThatThereAre();
        loansThatThereAreByThen();
        wordsOfEachLine();
        linesThatEndTooEarly();
        onAndPledge();
        roomForLoans();
        roomForOthers();
        blanks();
        textsWithoutLine();
        nothingStaysOfAWrongText();
        lateThatIsToldLast();
        firstDayOfDeath();
        oneCourtOfEachDay();
        linesOfCustom();
        numbersOfCustom();
        nestedDeep();
        wordsOfCustom();
        customThatEndsTooEarly();
        customInPlaceOfTheOneBefore();
        faultOfTheLatestText();
        exit();
    }

    // ---- helpers: '^' stands ahead of the first wrong byte ----

    private static LentNames before(int people, String text) {
        return text.isEmpty() ? town(people) : town(people, text);
    }

    private static void right(int people, String told, String text) {
        LentNames x = before(people, told);
        int texts = x.count(1);
        due("tell " + text, tell(x, text), texts + 1);
        due("fault of " + text, x.fault(), NONE);
        due("the tape behind " + text, x.end(1), false);
    }

    private static void wrong(int people, String told, String marked) {
        String text = marked.replace("^", "");
        refused("tell " + marked, BAD_ARGUMENT, () -> before(people, told), x -> tell(x, text));
        LentNames x = before(people, told);
        write(x, text);
        dueThrow("tell " + marked, BAD_ARGUMENT, x::tell);
        due("fault of " + marked, x.fault(), marked.indexOf('^'));
        due("the tape behind " + marked, x.end(1), false);
    }

    private static void wrong(String marked) {
        wrong(4, ONE_LOAN, marked);
    }

    private static void right(String text) {
        right(4, ONE_LOAN, text);
    }

    private static LentNames strictTown() {
        LentNames x = town(4, "lend 0 to 1 day 0 for 1 pledge 5;lend 2 to 3 day 0 for 1");
        custom(x, "refuse if pledge > 4;grant");
        return x;
    }

    private static void rightCustom(String text, int lines) {
        LentNames x = strictTown();
        due("custom " + text, custom(x, text), lines);
        due("lines of " + text, x.count(10), lines);
        due("fault of " + text, x.fault(), NONE);
        due("the tape behind " + text, x.end(1), false);
    }

    private static void wrongCustom(String marked) {
        String text = marked.replace("^", "");
        refused("custom " + marked, BAD_ARGUMENT, TextBoundsTest::strictTown, x -> custom(x, text));
        LentNames x = strictTown();
        write(x, text);
        dueThrow("custom " + marked, BAD_ARGUMENT, x::custom);
        due("fault of " + marked, x.fault(), marked.indexOf('^'));
        due("the tape behind " + marked, x.end(1), false);
    }

    /** A line in which the numbers are put: the slot-th of its words and numbers is that one, the others are right. */
    private static String filled(String line, int slot, String thing) {
        String[] words = line.split(" ");
        for (int k = 0; k < words.length; k++) {
            words[k] = k == slot ? thing : usual(words[k]);
        }
        return String.join(" ", words);
    }

    private static String usual(String word) {
        switch (word) {
            case "A": case "L": return "0";
            case "B": return "1";
            case "D": return "3";
            case "E": return "11";
            case "F": return "2";
            case "P": case "C": return "7";
            default: return word;
        }
    }

    // ---- "more than 400", "of each number the highest first", "if it has fewer, or n is below 0" ----

    private static void tapeOf400() {
        LentNames x = new LentNames();
        for (int k = 1; k <= 20; k++) {
            due("feed " + k, x.feed(0x20202020, 0x20202020, 0x20202020, 0x20202020, 0x20202020), 20 * k);
        }
        due("feed beyond 400", x.feed(-1, -1, -1, -1, -1), NONE);
        due("it has 400", x.end(401), false);
        due("all 400", x.end(400), true);
        due("400 blanks are a text", x.tell(), 1);
        LentNames y = new LentNames();
        write(y, " ".repeat(380));
        due("380 and 20 are not more than 400", y.feed(0, 0, 0, 0, 0), 400);
        LentNames z = new LentNames();
        write(z, " ".repeat(381));
        due("381 and 20 are", z.feed(0, 0, 0, 0, 0), NONE);
        due("none came", z.end(382), false);
        due("381 stay", z.end(381), true);
        due("and can be told", z.tell(), 1);
        LentNames last = new LentNames();
        write(last, " ".repeat(389) + "court day 1");
        due("400 bytes are a text", last.tell(), 1);
        due("up to the last byte", last.count(8), 1);
        due("a day of one digit", last.how(0, 1), 0);
    }

    private static void highestByteFirst() {
        LentNames x = new LentNames();
        // "dies" " 3 d" "ay 1" "1;co" "urt " and "day " "11".
        x.feed(0x64696573, 0x20332064, 0x61792031, 0x313b636f, 0x75727420);
        due("two numbers", x.feed(0x64617920, 0x31310000, 0, 0, 0), 40);
        due("end", x.end(26), true);
        due("tell", x.tell(), 1);
        due("lives", x.lives(3, 10), true);
        due("dies", x.lives(3, 11), false);
        due("court", x.count(8), 1);
        // The highest bit of a number is the highest of its first byte: 0xa0 is no blank, nor is 0xe4 a d.
        LentNames y = new LentNames();
        y.feed(0x20202020, 0xa0202020, 0, 0, 0);
        y.end(8);
        dueThrow("160", BAD_ARGUMENT, y::tell);
        due("its place", y.fault(), 4);
        y.feed(0xe4696573, 0x20332064, 0x61792031, 0, 0);
        y.end(12);
        dueThrow("228", BAD_ARGUMENT, y::tell);
        due("its place", y.fault(), 0);
    }

    private static void cutTape() {
        LentNames x = new LentNames();
        due("0 of none", x.end(0), true);
        due("1 of none", x.end(1), false);
        due("-1 of none", x.end(-1), false);
        write(x, "court day 12");
        due("13 of 12", x.end(13), false);
        due("-1 of 12", x.end(-1), false);
        due("the least of 12", x.end(Integer.MIN_VALUE), false);
        due("the greatest of 12", x.end(Integer.MAX_VALUE), false);
        due("12 of 12", x.end(12), true);
        due("11 of 12", x.end(11), true);
        due("12 of 11", x.end(12), false);
        due("the first 11 alone", x.tell(), 1);
        due("a court", x.count(8), 1);
        write(x, "court day 12");
        due("0 of 12", x.end(0), true);
        due("1 of 0", x.end(1), false);
        due("no byte", x.tell(), 2);
        idle("end that is none", () -> written("court day 1"), y -> y.end(12));
        idle("end below 0", () -> written("court day 1"), y -> y.end(-1));
    }

    private static LentNames written(String text) {
        LentNames x = new LentNames();
        write(x, text);
        return x;
    }

    // ---- "at most 10, one behind another", "there are 10" ----

    private static LentNames toldOften(int texts) {
        LentNames x = new LentNames();
        for (int k = 1; k <= texts; k++) {
            due("text " + k, tell(x, k == 10 ? "" : k == 9 ? " " : "court day " + k), k);
        }
        return x;
    }

    private static void textsOfTheTown() {
        LentNames x = toldOften(10);
        due("ten texts", x.count(1), 10);
        due("eight courts", x.count(8), 8);
        refused("an 11th text", NO_ROOM, () -> toldOften(10), y -> tell(y, "court day 11"));
        refused("an 11th text without a line", NO_ROOM, () -> toldOften(10), y -> tell(y, ""));
        refused("an 11th text that is wrong", BAD_ARGUMENT, () -> toldOften(10), y -> tell(y, "court day 12"));
        write(x, "court day 12");
        dueThrow("an 11th text that is wrong", BAD_ARGUMENT, x::tell);
        due("it was read", x.fault(), 10);
        due("it is used up", x.end(1), false);
        write(x, "court day 11");
        dueThrow("an 11th text that is right", NO_ROOM, x::tell);
        due("it was read", x.fault(), NONE);
        due("it is used up", x.end(1), false);
        LentNames nine = toldOften(9);
        write(nine, "court day 12");
        dueThrow("a wrong 10th text", BAD_ARGUMENT, nine::tell);
        due("wrong ones do not count", tell(nine, "court day 11"), 10);
        due("a custom is none of them", custom(nine, "grant"), 1);
        due("nor is it too many", nine.count(1), 10);
    }

    // ---- "at most 14"; "of a 15th LINE .. the first word" ----

    private static void linesOfTheTown() {
        right(times(14, "court day 1"));
        right(times(14, "court day 1") + "   ");
        wrong(times(14, "court day 1") + ";^court day 1");
        wrong(times(14, "court day 1") + " ;  ^court day 1;court day 1");
        wrong(times(14, "court day 1") + ";^x");
        wrong(times(14, "court day 1") + ";^");
        wrong(times(14, "court day 1") + ";  ^");
        wrong(times(14, "court day 1") + ";^;");
        wrong(times(14, "court day 1") + "^x");
        wrong(times(13, "court day 1") + ";court day ^12;court day 1");
        LentNames x = town(4, times(14, "court day 1"));
        due("of each text 14", tell(x, times(14, "court day 2")), 2);
    }

    // ---- the bounds of numbers, and "of 1 to 3 digits" ----

    private static void numbersOfEachLine() {
        for (String line : LINES) {
            String[] words = line.split(" ");
            for (int slot = 0; slot < words.length; slot++) {
                switch (words[slot]) {
                    case "A": case "B":
                        slot(line, slot, "0 3 00 003", "4 9 10 004 999 0000 0003 1000");
                        break;
                    case "D":
                        slot(line, slot, "0 11 00 011 000", "12 99 012 111 0011 0000");
                        break;
                    case "E":
                        slot(line, slot, "3 11 03 011", "12 2 0 012 002 0011 0003");
                        break;
                    case "F":
                        slot(line, slot, "1 12 01 012", "0 13 00 000 013 120 0012 0001");
                        break;
                    case "P": case "C":
                        slot(line, slot, "0 999 00 000 099", "1000 0000 0999 00000 9999");
                        break;
                    case "L":
                        slot(line, slot, "0 00 000", "1 01 100 0000");
                        break;
                    default:
                        break;
                }
            }
        }
        numbersAreTaken();
    }

    private static void slot(String line, int slot, String rightOnes, String wrongOnes) {
        for (String number : rightOnes.split(" ")) {
            right(filled(line, slot, number));
        }
        for (String number : wrongOnes.split(" ")) {
            wrong(filled(line, slot, "^" + number));
        }
        for (String other : new String[] {"-1", "+1", "x", "to", ";", "(", "\u0000"}) {
            wrong(filled(line, slot, "^" + other));
        }
    }

    /** The outermost numbers that are right are what later calls tell. */
    private static void numbersAreTaken() {
        LentNames x = town(4, "lend 003 to 000 day 011 for 012 pledge 999;late 000 by 012;lend 000 to 003 day 000 for 001;late 1 by 1");
        int[] first = {3, 0, 11, 34, 0, 3, NONE, 0};
        int[] second = {0, 3, 0, 1, 0, 0, 2, 0};
        for (int what = 0; what < 8; what++) {
            due("look 0, " + what, x.look(0, what), first[what]);
            due("look 1, " + what, x.look(1, what), second[what]);
        }
        LentNames y = town(4, "debt body 3 day 11 judged 11 of 999;debt name 0 day 0 judged 0 of 000;letter 3 day 11 read 11;"
            + "letter 0 day 0 read 0;seen 3 day 11 as 3 known 11;seen 0 day 0 as 0 known 0");
        due("999 coins", y.bill(3), 999);
        due("0 coins", y.bill(0), 0);
        due("the last letter", y.letter(0, 2), 11);
        due("the first letter", y.letter(1, 2), 0);
        due("both agree", y.agree(), 3);
        due("known on 0", y.liars(0), 2);
        due("known on 10", y.liars(10), 2);
        due("known on 11", y.liars(11), 3);
    }

    // ---- "E not ahead of D", "a DAY too early" ----

    private static void daysThatAreTooEarly() {
        String[] lines = {"letter 0 day D read E", "debt name 0 day D judged E of 1", "debt body 0 day D judged E of 1", "seen 0 day D as 0 known E"};
        for (String line : lines) {
            for (int day = 0; day < 12; day++) {
                String dated = line.replace("D", String.valueOf(day));
                right(dated.replace("E", String.valueOf(day)));
                right(dated.replace("E", "11"));
                wrong(dated.replace("E", "^12"));
                if (day > 0) {
                    wrong(dated.replace("E", "^" + (day - 1)));
                    wrong(dated.replace("E", "^0"));
                }
            }
        }
    }

    // ---- "a NAME, a BODY that there is" ----

    private static void namesAndBodiesThatThereAre() {
        for (int people = 2; people <= 6; people++) {
            for (String line : LINES) {
                String[] words = line.split(" ");
                for (int slot = 0; slot < words.length; slot++) {
                    if (words[slot].equals("A") || words[slot].equals("B")) {
                        right(people, ONE_LOAN, filled(line, slot, String.valueOf(people - 1)));
                        wrong(people, ONE_LOAN, filled(line, slot, "^" + people));
                    }
                }
            }
        }
    }

    // ---- "a LOAN that there is by then" ----

    private static void loansThatThereAreByThen() {
        wrong(4, "", "late ^0 by 1");
        wrong(4, "", "late ^0 by 1;lend 0 to 1 day 0 for 1");
        right(4, "", "lend 0 to 1 day 0 for 1;late 0 by 1");
        wrong(4, "", "lend 0 to 1 day 0 for 1;late ^1 by 1;lend 0 to 1 day 0 for 1");
        right(4, ONE_LOAN, "late 0 by 1");
        wrong(4, ONE_LOAN, "late ^1 by 1");
        right(4, ONE_LOAN, "lend 1 to 0 day 0 for 1;late 1 by 1");
        wrong(4, ONE_LOAN, "lend 1 to 0 day 0 for 1;late ^2 by 1");
        LentNames x = town(4);
        write(x, "lend 0 to 1 day 0 for 1;x");
        dueThrow("a wrong text", BAD_ARGUMENT, x::tell);
        write(x, "late 0 by 1");
        dueThrow("its loan is none", BAD_ARGUMENT, x::tell);
        due("its loan is none", x.fault(), 5);
        LentNames full = town(4, times(14, ONE_LOAN), times(6, ONE_LOAN));
        due("the last of 20", tell(full, "late 19 by 12"), 3);
        due("its last day", full.look(19, 3), 12);
        write(full, "late 20 by 12");
        dueThrow("there is no 21st", BAD_ARGUMENT, full::tell);
        due("there is no 21st", full.fault(), 5);
        LentNames refused = town(2, "lend 0 to 0 day 0 for 1;late 0 by 3");
        due("a refused one is there", refused.look(0, 3), 3);
    }

    // ---- "a word that is none", "as long as a to z go on" ----

    private static void wordsOfEachLine() {
        for (String line : LINES) {
            String[] words = line.split(" ");
            for (int k = 0; k < words.length; k++) {
                String word = words[k];
                if (Character.isUpperCase(word.charAt(0))) {
                    continue;
                }
                for (String other : new String[] {word + "a", word + "z", word.substring(1), "X" + word.substring(1), "7", "(", "a" + word, "grant"}) {
                    wrong(filled(line, k, "^" + other));
                }
                // A word ends where a to z end: what is behind it cannot stand there.
                wrong(filled(line, k, word + "^X"));
                wrong(filled(line, k, word + "^" + (char) ('a' - 1)));
                wrong(filled(line, k, word + "^" + (char) ('z' + 1)));
            }
        }
        wrong("^courtday 1");
        wrong("^debtname 0 day 0 judged 0 of 0");
        wrong("lend 0 to 1 day 0 for 1 ^onpledge 1");
        right("lend 0to 1day 0for 1on pledge 1");
        right("lend0to1day0for1on pledge1");
        right("seen0day0as0or1or2known0");
        wrong("^grant");
        wrong("court day 1;^refuse");
    }

    // ---- "or the text's length, if more must come" ----

    private static void linesThatEndTooEarly() {
        for (int line = 0; line < LINES.length; line++) {
            String[] words = filled(LINES[line], NONE, "").split(" ");
            for (int n = 1; n <= words.length; n++) {
                String cut = String.join(" ", Arrays.copyOf(words, n));
                boolean whole = Arrays.binarySearch(WHOLE[line], n) >= 0;
                if (whole) {
                    right(cut);
                    right(cut + "   ");
                    right(cut + ";court day 1");
                    wrong(cut + ";^");
                    wrong(cut + " ;  ^");
                    wrong(cut + " ^7");
                    wrong(cut + ";^;");
                } else {
                    wrong(cut + "^");
                    wrong(cut + "   ^");
                    wrong(cut + "^;");
                    wrong(cut + " ^;court day 1");
                }
                wrong(cut + " ^.");
            }
        }
        wrong("^;");
        wrong("  ^;court day 1");
        wrong("lend 0 to 1 day 0 for 1 pledge^");
        wrong("seen 0 day 0 as 0^");
        wrong("seen 0 day 0 as 0 or^");
        wrong("seen 0 day 0 as 0 ^or or 0 known 0".replace("^or or", "or ^or"));
        wrong("seen 0 day 0 as ^known 0");
        wrong("seen 0 day 0 as 0 ^1 known 0");
    }

    // ---- "[ on ] [ pledge P ]": each once or not, in this order ----

    private static void onAndPledge() {
        right(ONE_LOAN + " on");
        right(ONE_LOAN + " pledge 0");
        right(ONE_LOAN + " on pledge 0");
        wrong(ONE_LOAN + " on ^on");
        wrong(ONE_LOAN + " pledge 0 ^on");
        wrong(ONE_LOAN + " pledge 0 ^pledge 0");
        wrong(ONE_LOAN + " on pledge 0 ^on");
        wrong("late 0 by 1 ^on");
        wrong("late 0 by 1 ^pledge 1");
        // Without "pledge" none is owed, and without "on" it is not lent on.
        LentNames x = town(3, "lend 0 to 1 day 0 for 1;late 0 by 1;lend 0 to 2 day 0 for 1");
        due("no pledge", x.look(0, 7), 0);
        due("not lent on", x.look(1, 4), 1);
        LentNames y = town(3, "lend 0 to 1 day 0 for 1 on pledge 1;late 0 by 1;lend 0 to 2 day 0 for 1");
        due("a pledge", y.look(0, 7), 1);
        due("lent on", y.look(1, 4), 0);
    }

    // ---- "LOANS (at most 20), LETTERS, DEBTS, SIGHTINGS (at most 10 each)"; "for which there is no room, the first word" ----

    private static void roomForLoans() {
        String six = times(6, ONE_LOAN);
        LentNames x = town(4, times(14, ONE_LOAN), times(5, ONE_LOAN));
        due("19 loans", x.count(2), 19);
        write(x, ONE_LOAN + "; " + ONE_LOAN);
        dueThrow("a 21st loan", BAD_ARGUMENT, x::tell);
        due("its first word", x.fault(), ONE_LOAN.length() + 2);
        due("the 20th is gone too", x.count(2), 19);
        due("a 20th loan", tell(x, "lend 3 to 2 day 5 for 6"), 3);
        due("20 loans", x.count(2), 20);
        due("it is numbered 19", x.look(19, 0), 3);
        dueThrow("there is no 20", NO_INDEX, () -> x.look(20, 0));
        due("it began", x.bears(3, 5), 2);
        for (String marked : new String[] {"^lend", "  ^lend", "court day 1; ^lend 0 to 1 day 0 for 1", "^lend x", "^lend9"}) {
            refused("tell " + marked, BAD_ARGUMENT, () -> town(4, times(14, ONE_LOAN), six), y -> tell(y, marked.replace("^", "")));
            LentNames y = town(4, times(14, ONE_LOAN), six);
            write(y, marked.replace("^", ""));
            dueThrow(marked, BAD_ARGUMENT, y::tell);
            due(marked, y.fault(), marked.indexOf('^'));
        }
        LentNames full = town(4, times(14, ONE_LOAN), six);
        due("other lines are told still", tell(full, "late 19 by 1;dies 0 day 11;court day 0;letter 0 day 0 read 0;"
            + "debt body 0 day 0 judged 0 of 0;seen 0 day 0 as 0 known 0"), 3);
    }

    private static void roomForOthers() {
        room(new String[] {"letter 3 day 2 read 2"}, 3);
        room(new String[] {"debt name 3 day 2 judged 2 of 1"}, 4);
        room(new String[] {"debt body 3 day 2 judged 2 of 1"}, 4);
        room(new String[] {"debt name 3 day 2 judged 2 of 1", "debt body 3 day 2 judged 2 of 1"}, 4);
        room(new String[] {"seen 3 day 2 as 3 or 2 known 2"}, 5);
    }

    /** Ten of a kind, by two texts, are told; of an 11th one the first word is wrong, however it goes on. */
    private static void room(String[] kinds, int what) {
        List<String> lines = new ArrayList<>();
        for (int k = 0; k < 12; k++) {
            lines.add(kinds[k % kinds.length]);
        }
        Maker nine = () -> town(4, String.join(";", lines.subList(0, 5)), String.join(";", lines.subList(5, 9)));
        Maker ten = () -> town(4, String.join(";", lines.subList(0, 5)), String.join(";", lines.subList(5, 10)));
        String first = kinds[0].substring(0, kinds[0].indexOf(' '));
        due("nine", nine.make().count(what), 9);
        due("ten", ten.make().count(what), 10);
        LentNames x = nine.make();
        due("a tenth", tell(x, lines.get(9)), 3);
        due("ten", x.count(what), 10);
        full("an 11th by one text", nine, lines.get(9) + ";^" + lines.get(10));
        full("an 11th", ten, "^" + lines.get(10));
        full("an 11th behind blanks", ten, "court day 1 ;  ^" + lines.get(10));
        full("the word alone", ten, "^" + first);
        full("the word and a wrong thing", ten, "^" + first + " x");
        due("other lines are told still", tell(ten.make(), "lend 0 to 1 day 0 for 1;late 0 by 1;dies 0 day 11;court day 0"), 3);
    }

    private static void full(String what, Maker maker, String marked) {
        String text = marked.replace("^", "");
        refused(what + ": " + marked, BAD_ARGUMENT, maker, x -> tell(x, text));
        LentNames x = maker.make();
        write(x, text);
        dueThrow(what, BAD_ARGUMENT, x::tell);
        due(what + ": " + marked, x.fault(), marked.indexOf('^'));
    }

    // ---- "between all there may be blanks (32), also ahead and behind" ----

    private static void blanks() {
        for (String line : LINES) {
            String words = filled(line, NONE, "");
            right("   " + words.replace(" ", "    ") + "   ");
            right(" " + words + " ; " + words + " ");
            // Where a number is on one side, none is needed.
            right(words.replaceAll("(?<=[0-9]) | (?=[0-9])", ""));
            for (int other : new int[] {0, 9, 10, 13, 31, 33, 95, 160, 255}) {
                int at = words.indexOf(' ');
                wrong(words.substring(0, at) + "^" + (char) other + words.substring(at + 1));
                wrong("^" + (char) other + words);
                wrong(words + "^" + (char) other);
            }
        }
        rightCustom("   grant   if   not   (   own   )   and   day   +   1   <   2   ;   refuse   ", 2);
        rightCustom("grant if(own)or(mine)and(1<2+3);refuse if not(day>2)", 2);
        rightCustom("grant if 1<day and day>1or own", 1);
        for (int other : new int[] {0, 9, 10, 13, 31, 33, 160, 255}) {
            wrongCustom("grant^" + (char) other + "if own");
            wrongCustom("^" + (char) other + "grant");
            wrongCustom("grant^" + (char) other);
        }
    }

    // ---- "A text that is empty, or blanks alone, has no LINE" ----

    private static void textsWithoutLine() {
        for (int blanks : new int[] {0, 1, 20, 399, 400}) {
            right(" ".repeat(blanks));
            rightCustom(" ".repeat(blanks), 0);
        }
        wrong(" ".repeat(20) + "^;");
        wrongCustom(" ".repeat(20) + "^;");
        LentNames x = strictTown();
        due("refused", x.count(6), 1);
        due("no line", custom(x, ""), 0);
        due("no line: all are granted", x.count(6), 0);
        due("an empty text counts", tell(x, ""), 2);
        dueThrow("and people are told", BAD_STATE, () -> x.people(4));
        LentNames y = new LentNames();
        due("without a feed", y.tell(), 1);
        due("without a feed", y.custom(), 0);
        due("no fault", y.fault(), NONE);
    }

    // ---- "Of a wrong text nothing stays" ----

    private static void nothingStaysOfAWrongText() {
        String all = "lend 0 to 2 day 1 for 2 on pledge 3;late 0 by 5;dies 3 day 4;court day 5;letter 0 day 0 read 0;"
            + "debt name 0 day 0 judged 0 of 1;debt body 0 day 0 judged 0 of 1;seen 0 day 0 as 0 known 0";
        wrong(all + ";^x");
        wrong(all + ";^");
        wrong(all + " ^,");
        wrong(all + ";court day ^12");
        String[] lines = all.split(";");
        for (String line : lines) {
            wrong(line + ";^x");
            wrong(line + ";" + line + "^.");
        }
        wrongCustom("refuse;^x");
        wrongCustom("refuse;grant;^");
        wrongCustom("refuse if own ^own");
        wrongCustom("^court day 1");
    }

    // ---- "LATE of a LOAN is what was told last (0 at first)" ----

    private static void lateThatIsToldLast() {
        LentNames x = town(2, "lend 0 to 1 day 2 for 3");
        due("0 at first", x.look(0, 3), 4);
        tell(x, "late 0 by 12");
        due("12 late", x.look(0, 3), 16);
        tell(x, "late 0 by 5;late 0 by 1");
        due("the last one, though it is less", x.look(0, 3), 5);
        due("it is borne till then", x.bears(0, 5), 1);
        due("not longer", x.bears(0, 6), 0);
        tell(x, "lend 1 to 0 day 0 for 1");
        due("of another loan 0 at first", x.look(1, 3), 0);
    }

    // ---- "a BODY DIES once, at the first of its DAYS that are told" ----

    private static void firstDayOfDeath() {
        LentNames x = town(3, "dies 1 day 11");
        due("lives on 10", x.lives(1, 10), true);
        due("dead on 11", x.lives(1, 11), false);
        tell(x, "dies 1 day 4");
        due("lives on 3", x.lives(1, 3), true);
        due("dead on 4", x.lives(1, 4), false);
        tell(x, "dies 1 day 5;dies 1 day 4;dies 1 day 11");
        due("lives on 3 still", x.lives(1, 3), true);
        due("dead on 4 still", x.lives(1, 4), false);
        due("once", x.count(7), 1);
        tell(x, "dies 1 day 0;dies 2 day 1;dies 0 day 11");
        due("dead on 0", x.lives(1, 0), false);
        due("others have days of their own", x.lives(2, 0), true);
        due("all die", x.count(7), 3);
    }

    // ---- "COURTS (of each DAY one)" ----

    private static void oneCourtOfEachDay() {
        LentNames x = town(2, "court day 0;court day 11;court day 0");
        due("two days", x.count(8), 2);
        tell(x, "court day 11;court day 5");
        due("three days", x.count(8), 3);
        StringBuilder s = new StringBuilder("court day 0");
        for (int day = 1; day < 12; day++) {
            s.append(";court day ").append(day);
        }
        tell(x, s.toString());
        due("all days", x.count(8), 12);
    }

    // ---- CUSTOM: "at most 10"; "of an 11th LINE its first word" ----

    private static void linesOfCustom() {
        rightCustom("grant", 1);
        rightCustom(times(9, "grant"), 9);
        rightCustom(times(10, "grant"), 10);
        rightCustom(times(10, "refuse if 1 < 2") + "  ", 10);
        wrongCustom(times(10, "grant") + ";^grant");
        wrongCustom(times(10, "grant") + " ;  ^refuse if own");
        wrongCustom(times(10, "grant") + ";^x");
        wrongCustom(times(10, "grant") + ";^");
        wrongCustom(times(10, "grant") + ";   ^");
        wrongCustom(times(10, "grant") + ";^;");
        wrongCustom(times(10, "grant") + " ^x");
        wrongCustom(times(9, "grant") + ";grant ^x;grant");
        // An 11th LINE would have been the first one that holds.
        LentNames x = strictTown();
        due("ten lines", custom(x, times(9, "refuse if 2 < 1") + ";refuse"), 10);
        due("the tenth one holds", x.count(6), 2);
    }

    // ---- CUSTOM: "NUMBER (1 to 3 digits)" ----

    private static void numbersOfCustom() {
        for (String number : new String[] {"0", "9", "99", "999", "000", "010"}) {
            rightCustom("grant if " + number + " < 1", 1);
            rightCustom("grant if 1 > " + number, 1);
            rightCustom("grant if 1 > 1 + " + number, 1);
        }
        for (String number : new String[] {"1000", "0000", "0999", "9999", "00000"}) {
            wrongCustom("grant if ^" + number + " < 1");
            wrongCustom("grant if 1 > ^" + number);
            wrongCustom("grant if 1 > 1 + ^" + number);
        }
        granted("refuse if pledge < 999", false);
        granted("refuse if pledge > 998", true);
        granted("refuse if pledge + 1 > 999 + 0", true);
        granted("refuse if pledge > 999", false);
        granted("refuse if pledge + pledge + pledge > 999 + 999 + 998", true);
        granted("refuse if pledge + pledge + pledge > 999 + 999 + 999", false);
    }

    private static void granted(String custom, boolean refused) {
        LentNames x = town(2, "lend 0 to 1 day 0 for 1 pledge 999");
        custom(x, custom);
        due("refused by " + custom, x.look(0, 4) == 1, refused);
    }

    // ---- CUSTOM: "( and not within one another at most 6 deep (the 7th one is wrong" ----

    private static void nestedDeep() {
        rightCustom("grant if ((((((own))))))", 1);
        wrongCustom("grant if ((((((^(own)))))))");
        rightCustom("grant if not not not not not not own", 1);
        wrongCustom("grant if not not not not not not ^not own");
        rightCustom("grant if not(not(not(own)))", 1);
        wrongCustom("grant if not(not(not(^not own)))");
        rightCustom("grant if (not(not(not own)))", 1);
        wrongCustom("grant if (not(not(not ^(own))))");
        wrongCustom("grant if ((((((^not own))))))");
        wrongCustom("grant if not not not not not not ^(own)");
        // Those side by side are not within one another.
        rightCustom("grant if ((((((own)))))) and ((((((own)))))) or not not not not not not own", 1);
        rightCustom("grant if (((((not own and not own or (mine)))))) or (own)", 1);
        wrongCustom("grant if (((((not own and not ^(mine))))))");
        rightCustom("grant if ((((((own)))))); refuse if ((((((mine))))))", 2);
        wrongCustom("grant if ((((((^(");
        wrongCustom("grant if ((((((^not");
        wrongCustom("grant if ((((((^)");
        wrongCustom("grant if ((((((own)))))^");
        wrongCustom("grant if ((((((own))))))^)");
        // All six hold: an even number of not is none.
        LentNames x = strictTown();
        custom(x, "refuse if not not not not not not 1 < 2");
        due("six of not", x.count(6), 2);
        custom(x, "refuse if (not (not (not 1 < 2)))");
        due("three of not", x.count(6), 0);
        // On each of the seven levels both an "or" and an "and" wait for what is deeper.
        String waits = "2 < 1 or 1 < 2 and ";
        custom(x, "refuse if " + (waits + "(").repeat(6) + waits + "1 + 1 > 1 + 0" + ")".repeat(6));
        due("all wait", x.count(6), 2);
        custom(x, "refuse if " + (waits + "(").repeat(6) + waits + "1 + 1 > 1 + 1" + ")".repeat(6));
        due("all wait", x.count(6), 0);
    }

    // ---- CUSTOM: words, and what cannot stand where ----

    private static void wordsOfCustom() {
        for (String word : new String[] {"granta", "grantz", "gran", "Grant", "grantif", "refused", "if", "own", "(", "1", ";"}) {
            wrongCustom("^" + word);
            wrongCustom("grant;^" + word);
        }
        for (String word : new String[] {"ifa", "ifz", "i", "own", "(", "1", "and", "or", "grant"}) {
            wrongCustom("grant ^" + word + " own");
        }
        for (String word : new String[] {"owna", "ownz", "ow", "minea", "Own", "nota", "and", "or", "if", "to", "dayss", "da", "pledges", "deeper",
            "give", "take", "<", ">", "+", ")", "-1", "="}) {
            wrongCustom("grant if ^" + word);
            wrongCustom("grant if not ^" + word);
            wrongCustom("grant if (^" + word);
            wrongCustom("grant if own and ^" + word);
            wrongCustom("grant if own or ^" + word);
        }
        for (String part : new String[] {"0", "day", "days", "pledge", "deep", "gives", "takes"}) {
            rightCustom("grant if " + part + " < 1", 1);
            rightCustom("grant if 1 > 2 + " + part, 1);
            wrongCustom("grant if " + part + "^");
            wrongCustom("grant if " + part + " ^and own");
            wrongCustom("grant if " + part + " ^own");
            wrongCustom("grant if " + part + " ^= 1");
            wrongCustom("grant if " + part + " + ^own");
            wrongCustom("grant if " + part + " < ^own");
            wrongCustom("grant if " + part + " < ^(1)");
            wrongCustom("grant if " + part + " < 1 ^< 2");
            wrongCustom("grant if " + part + " < 1 ^> 2");
            wrongCustom("grant if " + part + " <^= 1");
            wrongCustom("grant if own ^< " + part);
            wrongCustom("grant if own ^+ " + part);
            wrongCustom("grant if (" + part + "^) < 1");
        }
        wrongCustom("grant if own ^not mine");
        wrongCustom("grant if own ^(mine)");
        wrongCustom("grant if own ^mine");
        wrongCustom("grant if own^)");
        wrongCustom("grant if 1 ^1 < 2");
        wrongCustom("grant if own ^if own");
        wrongCustom("grant if own ^grant");
        wrongCustom("grant if (own ^; grant)");
        wrongCustom("grant if ( ^)");
    }

    private static void customThatEndsTooEarly() {
        String[] cut = {"grant if", "grant if not", "grant if (", "grant if (own", "grant if (own or", "grant if own and", "grant if own or",
            "grant if day", "grant if day +", "grant if day + 1", "grant if 1 <", "grant if 1 >", "grant if 1 < 2 +", "grant;", "grant if own;"};
        for (String text : cut) {
            wrongCustom(text + "^");
            wrongCustom(text + "    ^");
            wrongCustom(text + "    ^.");
        }
    }

    // ---- CUSTOM: "in place of the one before" ----

    private static void customInPlaceOfTheOneBefore() {
        LentNames x = strictTown();
        due("one is refused", x.count(6), 1);
        due("a shorter one", custom(x, "refuse"), 1);
        due("all are refused", x.count(6), 2);
        due("lines", x.count(10), 1);
        due("a longer one", custom(x, "grant;refuse;refuse"), 3);
        due("none is refused", x.count(6), 0);
        due("lines", x.count(10), 3);
        for (int k = 0; k < 12; k++) {
            due("there may be any number of these texts", custom(x, "refuse if day < " + k), 1);
        }
        due("texts of the town", x.count(1), 1);
    }

    // ---- "The first wrong byte of the latest text that was read; NONE without one, and ahead of any" ----

    private static void faultOfTheLatestText() {
        LentNames x = new LentNames();
        due("ahead of any", x.fault(), NONE);
        write(x, "court day 12");
        due("it was not read yet", x.fault(), NONE);
        dueThrow("wrong", BAD_ARGUMENT, x::tell);
        due("wrong", x.fault(), 10);
        due("asked again", x.fault(), 10);
        write(x, "grant");
        due("not read yet", x.fault(), 10);
        x.custom();
        due("a right custom", x.fault(), NONE);
        write(x, "grant if");
        dueThrow("a wrong custom", BAD_ARGUMENT, x::custom);
        due("a wrong custom", x.fault(), 8);
        x.image();
        x.back();
        dueThrow("another call that throws", NO_INDEX, () -> x.bears(9, 0));
        due("it stays", x.fault(), 8);
        write(x, "x");
        dueThrow("wrong at once", BAD_ARGUMENT, x::tell);
        due("wrong at once", x.fault(), 0);
        tell(x, "");
        due("an empty text has none", x.fault(), NONE);
        write(x, " ".repeat(388) + "court day 12");
        dueThrow("at the end of 400", BAD_ARGUMENT, x::tell);
        due("at the end of 400", x.fault(), 398);
        write(x, " ".repeat(391) + "court day");
        dueThrow("more must come", BAD_ARGUMENT, x::tell);
        due("the length of 400", x.fault(), 400);
        write(x, " ".repeat(395) + "grant");
        due("a custom of 400", x.custom(), 1);
        write(x, " ".repeat(392) + "grant if");
        dueThrow("more must come", BAD_ARGUMENT, x::custom);
        due("the length of 400", x.fault(), 400);
    }
}
