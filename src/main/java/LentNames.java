import java.util.NoSuchElementException;

/** A town where names are lent. The numbered promises stand in DOC.md; README.md says how to use it. */
public final class LentNames {
    public static final int NONE = -1;

    private static final int DAYS = 12;
    private static final int ALL_DAYS = (1 << DAYS) - 1;
    private static final int LEAST_PEOPLE = 2;
    private static final int MOST_PEOPLE = 6;
    private static final int FIRST_PEOPLE = 4;
    private static final int MOST_BYTES = 400;
    private static final int BYTES_A_FEED = 20;
    private static final int MOST_TEXTS = 10;
    private static final int MOST_TOWN_LINES = 14;
    private static final int MOST_CUSTOM_LINES = 10;
    private static final int MOST_NESTED = 6;
    private static final int MOST_DIGITS = 3;
    private static final int MOST_LOANS = 20;
    private static final int MOST_OTHERS = 10;
    private static final int MOST_AMOUNT = 999;
    private static final int MOST_COINS = 9999;
    private static final int MOST_STEPS = 20000;
    private static final int MOST_PLANNED = 5;
    private static final int MOST_SECRETS = 4;

    // Columns of the tables of a Town.
    private static final int LOAN_NAME = 0;
    private static final int LOAN_BODY = 1;
    private static final int LOAN_DAY = 2;
    private static final int LOAN_FOR = 3;
    private static final int LOAN_ON = 4;
    private static final int LOAN_PLEDGE = 5;
    private static final int LOAN_LATE = 6;
    private static final int LOAN_COLUMNS = 7;
    private static final int LETTER_NAME = 0;
    private static final int LETTER_DAY = 1;
    private static final int LETTER_READ = 2;
    private static final int LETTER_WISH = 3;
    private static final int DEBT_OF_BODY = 0;
    private static final int DEBT_WHOSE = 1;
    private static final int DEBT_JUDGED = 2;
    private static final int DEBT_COINS = 3;
    private static final int SEEN_NAME = 0;
    private static final int SEEN_DAY = 1;
    private static final int SEEN_BODIES = 2;
    private static final int SEEN_KNOWN = 3;
    private static final int OTHER_COLUMNS = 4;

    // What a NAME is on a DAY, as how() answers it.
    private static final int AT_OWNER = 0;
    private static final int LENT = 1;
    private static final int WITHOUT_RIGHT = 2;
    private static final int BURIED = 3;

    // CUSTOM is kept as code for a stack: below ASK a number, from ASK on an asked value, then the signs.
    private static final int ASK = 1000;
    private static final int ASK_DAY = 0;
    private static final int ASK_DAYS = 1;
    private static final int ASK_PLEDGE = 2;
    private static final int ASK_DEEP = 3;
    private static final int ASK_GIVES = 4;
    private static final int ASK_TAKES = 5;
    private static final int ASK_OWN = 6;
    private static final int ASK_MINE = 7;
    private static final int ASKED = 8;
    private static final int PLUS = 2000;
    private static final int LESS = 2001;
    private static final int MORE = 2002;
    private static final int NOT = 2003;
    private static final int AND = 2004;
    private static final int OR = 2005;
    private static final int GRANT = 2006;
    private static final int REFUSE = 2007;
    // Six levels with two open sides each and one comparison need 17 places.
    private static final int STACK = 32;

    private final Tape tape;
    private final Calendar calendar;
    private final Accounts accounts;
    private final TownReader townReader;
    private final CustomReader customReader;
    private final PlanSearch planSearch;
    private final SecretSearch secretSearch;
    private final Town kept;
    private Town town;
    private Town draft;
    private boolean hasImage;
    private int faultAt;

    public LentNames() {
        tape = new Tape();
        kept = new Town();
        town = new Town();
        draft = new Town();
        calendar = new Calendar(town);
        accounts = new Accounts();
        townReader = new TownReader(tape, draft);
        customReader = new CustomReader(tape, draft.custom);
        planSearch = new PlanSearch(calendar);
        secretSearch = new SecretSearch(calendar);
        hasImage = false;
        faultAt = NONE;
        renew();
    }

    // ---- the TAPE and the texts ----

    public int feed(int a, int b, int c, int d, int e) {
        if (tape.size + BYTES_A_FEED > MOST_BYTES) {
            return NONE;
        }
        tape.append(a);
        tape.append(b);
        tape.append(c);
        tape.append(d);
        tape.append(e);
        return tape.size;
    }

    public boolean end(int n) {
        if (n < 0 || n > tape.size) {
            return false;
        }
        tape.size = n;
        return true;
    }

    public int tell() throws IllegalArgumentException, UnsupportedOperationException {
        draft.copy(town);
        boolean right = townReader.reads(draft);
        useUpTape(right);
        if (!right) {
            throw new IllegalArgumentException("the text of the town is wrong");
        }
        if (town.texts >= MOST_TEXTS) {
            throw new UnsupportedOperationException("there are ten texts");
        }
        draft.texts++;
        takeDraft();
        renew();
        return town.texts;
    }

    public int fault() {
        return faultAt;
    }

    public int custom() throws IllegalArgumentException {
        draft.copy(town);
        boolean right = customReader.reads(draft.custom);
        useUpTape(right);
        if (!right) {
            throw new IllegalArgumentException("the text of the custom is wrong");
        }
        takeDraft();
        renew();
        return town.custom.lines;
    }

    public void people(int n) throws IllegalArgumentException, IllegalStateException {
        if (n < LEAST_PEOPLE || n > MOST_PEOPLE) {
            throw new IllegalArgumentException("there cannot be so many bodies");
        }
        if (town.texts > 0) {
            throw new IllegalStateException("texts were told");
        }
        town.people = n;
        renew();
    }

    // ---- NAMES and DAYS ----

    public int bears(int name, int day) throws IndexOutOfBoundsException {
        needName(name);
        needDay(day);
        return calendar.bearerOf(name, day);
    }

    public int names(int body, int day) throws IndexOutOfBoundsException {
        needBody(body);
        needDay(day);
        return calendar.namesOf(body, day);
    }

    public int how(int name, int day) throws IndexOutOfBoundsException {
        needName(name);
        needDay(day);
        return calendar.stateOf(name, day);
    }

    public int row(int name, int day, int k) throws IndexOutOfBoundsException {
        needName(name);
        needDay(day);
        return calendar.rowPlace(name, day, k);
    }

    public int nameless(int body) throws IndexOutOfBoundsException {
        needBody(body);
        return calendar.namelessDays(body);
    }

    public int longest(int body) throws IndexOutOfBoundsException {
        needBody(body);
        int runs = calendar.namelessDays(body);
        int most = 0;
        for (int length = 1; length <= DAYS && runs != 0; length++) {
            most = length;
            runs = longerRuns(runs);
        }
        return most;
    }

    public boolean lives(int body, int day) throws IndexOutOfBoundsException {
        needBody(body);
        needDay(day);
        return hasBit(calendar.alive[body], day);
    }

    public int rich(int day) throws IndexOutOfBoundsException {
        needDay(day);
        int bodies = 0;
        for (int body = 0; body < town.people; body++) {
            if (Integer.bitCount(calendar.namesOf(body, day)) >= 2) {
                bodies |= 1 << body;
            }
        }
        return bodies;
    }

    public int borne(int name, int body) throws IndexOutOfBoundsException {
        needName(name);
        needBody(body);
        return Integer.bitCount(calendar.borneDays[pair(name, body)]);
    }

    public int again(int name, int day) throws IndexOutOfBoundsException {
        needName(name);
        needDay(day);
        for (int d = day; d < DAYS; d++) {
            if (calendar.bearerOf(name, d) == name) {
                return d;
            }
        }
        return NONE;
    }

    public int way(int name, boolean hands) throws IndexOutOfBoundsException {
        needName(name);
        if (hands) {
            return calendar.handsOf(name);
        }
        int bodies = 0;
        for (int body = 0; body < town.people; body++) {
            if (calendar.borneDays[pair(name, body)] != 0) {
                bodies |= 1 << body;
            }
        }
        return bodies;
    }

    public int busiest() {
        int best = 0;
        for (int name = 1; name < town.people; name++) {
            if (calendar.handsOf(name) > calendar.handsOf(best)) {
                best = name;
            }
        }
        return best;
    }

    // ---- LOANS and PLEDGES ----

    public int look(int loan, int what) throws IndexOutOfBoundsException, NoSuchElementException {
        needRow(town.loans, loan);
        switch (what) {
            case 0:
                return town.loans.at(loan, LOAN_NAME);
            case 1:
                return town.loans.at(loan, LOAN_BODY);
            case 2:
                return town.loans.at(loan, LOAN_DAY);
            case 3:
                return town.lastDay(loan);
            case 4:
                return calendar.lender[loan] == NONE ? 1 : 0;
            case 5:
                return calendar.lender[loan];
            case 6:
                return calendar.endedOn[loan];
            case 7:
                return calendar.owed[loan];
            default:
                throw new NoSuchElementException("a loan has no such number");
        }
    }

    public int owes(int body, boolean owns) throws IndexOutOfBoundsException {
        needBody(body);
        int coins = 0;
        for (int loan = 0; loan < town.loans.count; loan++) {
            int who = owns ? calendar.lender[loan] : town.loans.at(loan, LOAN_BODY);
            if (who == body) {
                coins += calendar.owed[loan];
            }
        }
        return coins;
    }

    // ---- LETTERS and WISHES ----

    public int letter(int letter, int what) throws IndexOutOfBoundsException, NoSuchElementException {
        needRow(town.letters, letter);
        if (what < 0 || what > 2) {
            throw new NoSuchElementException("a letter has no such number");
        }
        int name = town.letters.at(letter, LETTER_NAME);
        if (what == 0) {
            return calendar.bearerOf(name, town.letters.at(letter, LETTER_DAY));
        }
        int day = calendar.firstBorne(name, town.letters.at(letter, LETTER_READ));
        if (day == NONE || what == 2) {
            return day;
        }
        return calendar.bearerOf(name, day);
    }

    public int wish(int letter, int body) throws IndexOutOfBoundsException {
        needRow(town.letters, letter);
        if (body != NONE) {
            needBody(body);
        }
        int before = town.letters.at(letter, LETTER_WISH);
        town.letters.put(letter, LETTER_WISH, body);
        planSearch.forget();
        return before;
    }

    public int home() {
        int had = 0;
        for (int letter = 0; letter < town.letters.count; letter++) {
            int body = town.letters.at(letter, LETTER_WISH);
            int name = town.letters.at(letter, LETTER_NAME);
            int day = town.letters.at(letter, LETTER_READ);
            if (body != NONE && calendar.bearerOf(name, day) == body) {
                had |= 1 << letter;
            }
        }
        return had;
    }

    public int plan(int bound, int k) throws IllegalArgumentException {
        if (bound < 0 || bound > DAYS) {
            throw new IllegalArgumentException("the bound is none");
        }
        if (k < NONE) {
            throw new IllegalArgumentException("k is below NONE");
        }
        planSearch.ask(bound);
        return planSearch.spent ? -2 : planSearch.part(k);
    }

    // ---- DEBTS and PURSES ----

    public int pays(int debt) throws IndexOutOfBoundsException {
        needRow(town.debts, debt);
        return calendar.payer(debt);
    }

    public int bill(int body) throws IndexOutOfBoundsException {
        needBody(body);
        int coins = 0;
        for (int debt = 0; debt < town.debts.count; debt++) {
            if (calendar.payer(debt) == body) {
                coins += town.debts.at(debt, DEBT_COINS);
            }
        }
        return coins;
    }

    public int purse(int body, int n) throws IndexOutOfBoundsException, IllegalArgumentException {
        needBody(body);
        if (n < 0 || n > MOST_COINS) {
            throw new IllegalArgumentException("no purse holds that");
        }
        int before = town.purses[body];
        town.purses[body] = n;
        return before;
    }

    public int left(int body) throws IndexOutOfBoundsException {
        needBody(body);
        accounts.settle(town, calendar);
        return accounts.rest[body];
    }

    public int unpaid() {
        accounts.settle(town, calendar);
        return accounts.open;
    }

    public int meets(int debt) throws IndexOutOfBoundsException {
        needRow(town.debts, debt);
        accounts.settle(town, calendar);
        if (!hasBit(accounts.open, debt) || town.debts.at(debt, DEBT_OF_BODY) == 1) {
            return NONE;
        }
        int name = town.debts.at(debt, DEBT_WHOSE);
        int day = town.debts.at(debt, DEBT_JUDGED);
        int coins = town.debts.at(debt, DEBT_COINS);
        for (int body = 0; body < town.people; body++) {
            boolean other = hasBit(calendar.alive[body], day) && calendar.bearerOf(name, day) != body;
            if (other && accounts.rest[body] >= coins) {
                return body;
            }
        }
        return NONE;
    }

    // ---- SIGHTINGS ----

    public int agree() {
        int sightings = 0;
        for (int seen = 0; seen < town.sightings.count; seen++) {
            if (calendar.agrees(seen)) {
                sightings |= 1 << seen;
            }
        }
        return sightings;
    }

    public int can(int sighting) throws IndexOutOfBoundsException {
        needRow(town.sightings, sighting);
        int told = town.sightings.at(sighting, SEEN_BODIES);
        int day = town.sightings.at(sighting, SEEN_DAY);
        int bodies = 0;
        for (int body = 0; body < town.people; body++) {
            if (hasBit(told, body) && hasBit(calendar.alive[body], day)) {
                bodies |= 1 << body;
            }
        }
        return bodies;
    }

    public int secrets(int day, int what) throws IndexOutOfBoundsException, IllegalArgumentException {
        needDay(day);
        if (what < -2) {
            throw new IllegalArgumentException("what is below -2");
        }
        secretSearch.ask(day);
        if (secretSearch.spent) {
            return -3;
        }
        if (what == -2) {
            return secretSearch.sets == 0 ? NONE : secretSearch.sets;
        }
        return secretSearch.part(what);
    }

    public int liars(int day) throws IndexOutOfBoundsException {
        needDay(day);
        int known = town.knownBy(day);
        int wrong = known & ~agree();
        int liars = 0;
        for (int seen = 0; seen < town.sightings.count; seen++) {
            // By the document's words a sighting is one too where all others agree anyhow.
            if (hasBit(known, seen) && (wrong & ~(1 << seen)) == 0) {
                liars |= 1 << seen;
            }
        }
        return liars;
    }

    // ---- THE IMAGE and counts ----

    public void image() {
        kept.copy(town);
        hasImage = true;
    }

    public boolean back() {
        if (!hasImage) {
            return false;
        }
        town.copy(kept);
        renew();
        return true;
    }

    public int count(int what) {
        switch (what) {
            case 0:
                return town.people;
            case 1:
                return town.texts;
            case 2:
                return town.loans.count;
            case 3:
                return town.letters.count;
            case 4:
                return town.debts.count;
            case 5:
                return town.sightings.count;
            case 6:
                return calendar.refused();
            case 7:
                return town.dying();
            case 8:
                return Integer.bitCount(town.courts);
            case 9:
                return town.wishes();
            case 10:
                return town.custom.lines;
            case 11:
                return town.coins();
            default:
                return NONE;
        }
    }

    // ---- what the calls above share ----

    private void useUpTape(boolean right) {
        // A reader that fails stops at the begin of what cannot stand there.
        faultAt = right ? NONE : tape.place;
        tape.size = 0;
    }

    private void takeDraft() {
        Town before = town;
        town = draft;
        draft = before;
    }

    private void renew() {
        calendar.live(town);
        planSearch.forget();
        secretSearch.forget();
    }

    private void needName(int name) {
        if (name < 0 || name >= town.people) {
            throw new IndexOutOfBoundsException("there is no such name");
        }
    }

    private void needBody(int body) {
        if (body < 0 || body >= town.people) {
            throw new IndexOutOfBoundsException("there is no such body");
        }
    }

    private static void needDay(int day) {
        if (day < 0 || day >= DAYS) {
            throw new IndexOutOfBoundsException("there is no such day");
        }
    }

    private static void needRow(Table table, int row) {
        if (row < 0 || row >= table.count) {
            throw new IndexOutOfBoundsException("nothing of that number was told");
        }
    }

    private static boolean hasBit(int bits, int k) {
        return (bits >> k & 1) == 1;
    }

    private static int pair(int name, int body) {
        return name * MOST_PEOPLE + body;
    }

    private static int cell(int name, int day) {
        return name * DAYS + day;
    }

    /** Of DAYS with which a run of some length ends, those with which one a DAY longer does. */
    private static int longerRuns(int runs) {
        return runs & runs << 1;
    }

    /** The bytes of a text, and the place up to which a reader has come in it. */
    private static final class Tape {
        final int[] bytes = new int[MOST_BYTES];
        int size;
        int place;

        void append(int number) {
            for (int shift = 24; shift >= 0 && size < MOST_BYTES; shift -= 8) {
                bytes[size] = number >> shift & 255;
                size++;
            }
        }

        void rewind() {
            moveTo(0);
        }

        boolean isOver() {
            return place >= size;
        }

        boolean isSign(char sign) {
            return byteAt(place) == sign;
        }

        boolean takesSign(char sign) {
            if (!isSign(sign)) {
                return false;
            }
            moveTo(place + 1);
            return true;
        }

        boolean isWord(String word) {
            int end = place + word.length();
            if (end > size) {
                return false;
            }
            for (int k = place; k < end; k++) {
                if (bytes[k] != word.charAt(k - place)) {
                    return false;
                }
            }
            return end == size || bytes[end] < 'a' || bytes[end] > 'z';
        }

        boolean takesWord(String word) {
            if (!isWord(word)) {
                return false;
            }
            moveTo(place + word.length());
            return true;
        }

        /** The number that stands here, and its place is left; NONE, and the place stays, if it cannot be. */
        int takesNumber(int least, int most) {
            int value = 0;
            int digits = 0;
            while (digits <= MOST_DIGITS && isDigit(byteAt(place + digits))) {
                value = value * 10 + byteAt(place + digits) - '0';
                digits++;
            }
            if (digits == 0 || digits > MOST_DIGITS || value < least || value > most) {
                return NONE;
            }
            moveTo(place + digits);
            return value;
        }

        // The place is always behind blanks, so that it tells the begin of the next thing.
        private void moveTo(int next) {
            place = next;
            while (place < size && bytes[place] == ' ') {
                place++;
            }
        }

        private int byteAt(int k) {
            return k < size ? bytes[k] : NONE;
        }

        private static boolean isDigit(int sign) {
            return sign >= '0' && sign <= '9';
        }
    }

    /** Rows of numbers, as many columns each, up to a told number of rows. */
    private static final class Table {
        final int columns;
        final int[] cells;
        int count;

        Table(int rows, int columns) {
            this.columns = columns;
            this.cells = new int[rows * columns];
        }

        boolean isFull() {
            return (count + 1) * columns > cells.length;
        }

        /** A new row of zeros: its number. */
        int addRow() {
            if (isFull()) {
                return NONE;
            }
            count++;
            for (int column = 0; column < columns; column++) {
                put(count - 1, column, 0);
            }
            return count - 1;
        }

        int at(int row, int column) {
            boolean isThere = row >= 0 && row < count && column >= 0 && column < columns;
            return isThere ? cells[row * columns + column] : NONE;
        }

        void put(int row, int column, int value) {
            boolean isThere = row >= 0 && row < count && column >= 0 && column < columns;
            if (isThere) {
                cells[row * columns + column] = value;
            }
        }

        void copyRows(Table other) {
            count = other.count;
            System.arraycopy(other.cells, 0, cells, 0, Math.min(cells.length, other.cells.length));
        }
    }

    /** All that was told, and nothing of what follows from it: so THE IMAGE is a copy of this alone. */
    private static final class Town {
        final Table loans = new Table(MOST_LOANS, LOAN_COLUMNS);
        final Table letters = new Table(MOST_OTHERS, OTHER_COLUMNS);
        final Table debts = new Table(MOST_OTHERS, OTHER_COLUMNS);
        final Table sightings = new Table(MOST_OTHERS, OTHER_COLUMNS);
        final int[] diesOn = new int[MOST_PEOPLE];
        final int[] purses = new int[MOST_PEOPLE];
        final Custom custom = new Custom();
        int people = FIRST_PEOPLE;
        int texts;
        int courts;

        Town() {
            for (int body = 0; body < MOST_PEOPLE; body++) {
                diesOn[body] = DAYS;
            }
        }

        void copy(Town other) {
            loans.copyRows(other.loans);
            letters.copyRows(other.letters);
            debts.copyRows(other.debts);
            sightings.copyRows(other.sightings);
            System.arraycopy(other.diesOn, 0, diesOn, 0, MOST_PEOPLE);
            System.arraycopy(other.purses, 0, purses, 0, MOST_PEOPLE);
            custom.copyCode(other.custom);
            people = other.people;
            texts = other.texts;
            courts = other.courts;
        }

        /** The last DAY on which a LOAN is by RIGHT. */
        int rightDay(int loan) {
            return loans.at(loan, LOAN_DAY) + loans.at(loan, LOAN_FOR) - 1;
        }

        int lastDay(int loan) {
            return rightDay(loan) + loans.at(loan, LOAN_LATE);
        }

        /** The SIGHTINGS that are KNOWN by a DAY, as bits. */
        int knownBy(int day) {
            int known = 0;
            for (int seen = 0; seen < sightings.count; seen++) {
                if (sightings.at(seen, SEEN_KNOWN) <= day) {
                    known |= 1 << seen;
                }
            }
            return known;
        }

        int dying() {
            int bodies = 0;
            for (int body = 0; body < people; body++) {
                if (diesOn[body] < DAYS) {
                    bodies++;
                }
            }
            return bodies;
        }

        int wishes() {
            int told = 0;
            for (int letter = 0; letter < letters.count; letter++) {
                if (letters.at(letter, LETTER_WISH) != NONE) {
                    told++;
                }
            }
            return told;
        }

        int coins() {
            int all = 0;
            for (int body = 0; body < people; body++) {
                all += purses[body];
            }
            return all;
        }
    }

    /** CUSTOM as code for a stack, and how a LOAN is judged by it. */
    private static final class Custom {
        final int[] code = new int[MOST_BYTES];
        final int[] stack = new int[STACK];
        int length;
        int lines;
        private int top;

        void clear() {
            length = 0;
            lines = 0;
        }

        boolean append(int op) {
            if (length >= MOST_BYTES) {
                return false;
            }
            code[length] = op;
            length++;
            return true;
        }

        void copyCode(Custom other) {
            length = other.length;
            lines = other.lines;
            System.arraycopy(other.code, 0, code, 0, MOST_BYTES);
        }

        boolean grants(int[] asked) {
            top = 0;
            for (int k = 0; k < length; k++) {
                int op = code[k];
                if (op == GRANT || op == REFUSE) {
                    if (pop() != 0) {
                        return op == GRANT;
                    }
                } else {
                    work(op, asked);
                }
            }
            return true;
        }

        private void work(int op, int[] asked) {
            if (op < ASK) {
                push(op);
            } else if (op < PLUS) {
                push(op - ASK < asked.length ? asked[op - ASK] : 0);
            } else if (op == NOT) {
                push(pop() == 0 ? 1 : 0);
            } else {
                int right = pop();
                int left = pop();
                push(join(op, left, right));
            }
        }

        private static int join(int op, int left, int right) {
            switch (op) {
                case PLUS:
                    return left + right;
                case LESS:
                    return left < right ? 1 : 0;
                case MORE:
                    return left > right ? 1 : 0;
                case AND:
                    return left & right;
                default:
                    return left | right;
            }
        }

        private void push(int value) {
            if (top < STACK) {
                stack[top] = value;
                top++;
            }
        }

        private int pop() {
            if (top <= 0) {
                return 0;
            }
            top--;
            return stack[top];
        }
    }

    /** Reads a text of THE TOWN into a draft. Where it fails, the TAPE's place is the first wrong byte. */
    private static final class TownReader {
        private final Tape tape;
        private Town town;

        TownReader(Tape tape, Town draft) {
            this.tape = tape;
            this.town = draft;
        }

        boolean reads(Town draft) {
            town = draft;
            tape.rewind();
            if (tape.isOver()) {
                return true;
            }
            for (int lines = 0; lines < MOST_TOWN_LINES; lines++) {
                if (!readLine()) {
                    return false;
                }
                if (tape.isOver()) {
                    return true;
                }
                if (!tape.takesSign(';')) {
                    return false;
                }
            }
            return false;
        }

        private boolean readLine() {
            if (tape.isWord("lend")) {
                return !town.loans.isFull() && tape.takesWord("lend") && readLoan();
            }
            if (tape.isWord("letter")) {
                return !town.letters.isFull() && tape.takesWord("letter") && readLetter();
            }
            if (tape.isWord("debt")) {
                return !town.debts.isFull() && tape.takesWord("debt") && readDebt();
            }
            if (tape.isWord("seen")) {
                return !town.sightings.isFull() && tape.takesWord("seen") && readSighting();
            }
            if (tape.takesWord("late")) {
                return readLate();
            }
            if (tape.takesWord("dies")) {
                return readDeath();
            }
            return tape.takesWord("court") && readCourt();
        }

        private boolean readLoan() {
            int loan = town.loans.addRow();
            if (!readInto(town.loans, loan, LOAN_NAME, 0, town.people - 1) || !tape.takesWord("to")
                || !readInto(town.loans, loan, LOAN_BODY, 0, town.people - 1) || !tape.takesWord("day")
                || !readInto(town.loans, loan, LOAN_DAY, 0, DAYS - 1) || !tape.takesWord("for")
                || !readInto(town.loans, loan, LOAN_FOR, 1, DAYS)) {
                return false;
            }
            if (tape.takesWord("on")) {
                town.loans.put(loan, LOAN_ON, 1);
            }
            return !tape.takesWord("pledge") || readInto(town.loans, loan, LOAN_PLEDGE, 0, MOST_AMOUNT);
        }

        private boolean readLate() {
            int loan = tape.takesNumber(0, town.loans.count - 1);
            return loan != NONE && tape.takesWord("by") && readInto(town.loans, loan, LOAN_LATE, 1, DAYS);
        }

        private boolean readDeath() {
            int body = tape.takesNumber(0, town.people - 1);
            if (body == NONE || !tape.takesWord("day")) {
                return false;
            }
            int day = tape.takesNumber(0, DAYS - 1);
            if (day == NONE) {
                return false;
            }
            town.diesOn[body] = Math.min(town.diesOn[body], day);
            return true;
        }

        private boolean readCourt() {
            if (!tape.takesWord("day")) {
                return false;
            }
            int day = tape.takesNumber(0, DAYS - 1);
            if (day == NONE) {
                return false;
            }
            town.courts |= 1 << day;
            return true;
        }

        private boolean readLetter() {
            int letter = town.letters.addRow();
            town.letters.put(letter, LETTER_WISH, NONE);
            return readInto(town.letters, letter, LETTER_NAME, 0, town.people - 1) && tape.takesWord("day")
                && readInto(town.letters, letter, LETTER_DAY, 0, DAYS - 1) && tape.takesWord("read")
                && readInto(town.letters, letter, LETTER_READ, town.letters.at(letter, LETTER_DAY), DAYS - 1);
        }

        private boolean readDebt() {
            int debt = town.debts.addRow();
            if (tape.takesWord("body")) {
                town.debts.put(debt, DEBT_OF_BODY, 1);
            } else if (!tape.takesWord("name")) {
                return false;
            }
            if (!readInto(town.debts, debt, DEBT_WHOSE, 0, town.people - 1) || !tape.takesWord("day")) {
                return false;
            }
            // The DAY of a DEBT only bounds its DAY of judgement: nothing else asks for it.
            int day = tape.takesNumber(0, DAYS - 1);
            return day != NONE && tape.takesWord("judged")
                && readInto(town.debts, debt, DEBT_JUDGED, day, DAYS - 1) && tape.takesWord("of")
                && readInto(town.debts, debt, DEBT_COINS, 0, MOST_AMOUNT);
        }

        private boolean readSighting() {
            int seen = town.sightings.addRow();
            if (!readInto(town.sightings, seen, SEEN_NAME, 0, town.people - 1) || !tape.takesWord("day")
                || !readInto(town.sightings, seen, SEEN_DAY, 0, DAYS - 1) || !tape.takesWord("as")
                || !readBodies(seen)) {
                return false;
            }
            return tape.takesWord("known")
                && readInto(town.sightings, seen, SEEN_KNOWN, town.sightings.at(seen, SEEN_DAY), DAYS - 1);
        }

        private boolean readBodies(int seen) {
            int bodies = 0;
            for (int k = 0; k < MOST_BYTES; k++) {
                int body = tape.takesNumber(0, town.people - 1);
                if (body == NONE) {
                    return false;
                }
                bodies |= 1 << body;
                if (!tape.takesWord("or")) {
                    break;
                }
            }
            town.sightings.put(seen, SEEN_BODIES, bodies);
            return true;
        }

        private boolean readInto(Table table, int row, int column, int least, int most) {
            int value = tape.takesNumber(least, most);
            if (value == NONE) {
                return false;
            }
            table.put(row, column, value);
            return true;
        }
    }

    /** Reads a text of CUSTOM as code. Where it fails, the TAPE's place is the first wrong byte. */
    private static final class CustomReader {
        private final Tape tape;
        private Custom custom;

        CustomReader(Tape tape, Custom draft) {
            this.tape = tape;
            this.custom = draft;
        }

        boolean reads(Custom draft) {
            custom = draft;
            custom.clear();
            tape.rewind();
            if (tape.isOver()) {
                return true;
            }
            for (int lines = 1; lines <= MOST_CUSTOM_LINES; lines++) {
                if (!readLine()) {
                    return false;
                }
                custom.lines = lines;
                if (tape.isOver()) {
                    return true;
                }
                if (!tape.takesSign(';')) {
                    return false;
                }
            }
            return false;
        }

        private boolean readLine() {
            int verdict = GRANT;
            if (tape.takesWord("refuse")) {
                verdict = REFUSE;
            } else if (!tape.takesWord("grant")) {
                return false;
            }
            if (!tape.takesWord("if")) {
                return custom.append(1) && custom.append(verdict);
            }
            return readCondition(0) && custom.append(verdict);
        }

        private boolean readCondition(int deep) {
            if (!readAll(deep)) {
                return false;
            }
            for (int k = 0; k < MOST_BYTES && tape.takesWord("or"); k++) {
                if (!readAll(deep) || !custom.append(OR)) {
                    return false;
                }
            }
            return true;
        }

        private boolean readAll(int deep) {
            if (!readAtom(deep)) {
                return false;
            }
            for (int k = 0; k < MOST_BYTES && tape.takesWord("and"); k++) {
                if (!readAtom(deep) || !custom.append(AND)) {
                    return false;
                }
            }
            return true;
        }

        private boolean readAtom(int deep) {
            if (tape.isWord("not")) {
                return deep < MOST_NESTED && tape.takesWord("not") && readAtom(deep + 1) && custom.append(NOT);
            }
            if (tape.isSign('(')) {
                return deep < MOST_NESTED && tape.takesSign('(') && readCondition(deep + 1) && tape.takesSign(')');
            }
            if (tape.takesWord("own")) {
                return custom.append(ASK + ASK_OWN);
            }
            if (tape.takesWord("mine")) {
                return custom.append(ASK + ASK_MINE);
            }
            if (!readSum()) {
                return false;
            }
            if (tape.takesSign('<')) {
                return readSum() && custom.append(LESS);
            }
            return tape.takesSign('>') && readSum() && custom.append(MORE);
        }

        private boolean readSum() {
            if (!readPart()) {
                return false;
            }
            for (int k = 0; k < MOST_BYTES && tape.takesSign('+'); k++) {
                if (!readPart() || !custom.append(PLUS)) {
                    return false;
                }
            }
            return true;
        }

        private boolean readPart() {
            int value = tape.takesNumber(0, MOST_AMOUNT);
            if (value != NONE) {
                return custom.append(value);
            }
            for (int asked = ASK_DAY; asked <= ASK_TAKES; asked++) {
                if (tape.takesWord(askedWord(asked))) {
                    return custom.append(ASK + asked);
                }
            }
            return false;
        }

        private static String askedWord(int asked) {
            switch (asked) {
                case ASK_DAY:
                    return "day";
                case ASK_DAYS:
                    return "days";
                case ASK_PLEDGE:
                    return "pledge";
                case ASK_DEEP:
                    return "deep";
                case ASK_GIVES:
                    return "gives";
                default:
                    return "takes";
            }
        }
    }

    /** What comes of a Town, DAY by DAY: it is lived anew whenever something else was told. */
    private static final class Calendar {
        private static final int MOST_IN_ROW = MOST_LOANS + 1;

        final int[] alive = new int[MOST_PEOPLE];
        final int[] borneDays = new int[MOST_PEOPLE * MOST_PEOPLE];
        final int[] lender = new int[MOST_LOANS];
        final int[] endedOn = new int[MOST_LOANS];
        final int[] owed = new int[MOST_LOANS];
        Town town;
        private final int[] bearers = new int[MOST_PEOPLE * DAYS];
        private final int[] states = new int[MOST_PEOPLE * DAYS];
        private final int[] rows = new int[MOST_PEOPLE * DAYS * MOST_IN_ROW];
        // Of each LOAN the last DAY by RIGHT, and its LAST DAY.
        private final int[] rightDays = new int[MOST_LOANS];
        private final int[] lastDays = new int[MOST_LOANS];
        // The ROWS of the DAY at hand: the LOANS of each NAME, and how many.
        private final int[] chain = new int[MOST_PEOPLE * MOST_LOANS];
        private final int[] deep = new int[MOST_PEOPLE];
        private final int[] asked = new int[ASKED];

        Calendar(Town told) {
            town = told;
        }

        void live(Town told) {
            town = told;
            begin();
            for (int day = 0; day < DAYS; day++) {
                // Who is dead on a DAY is fixed from the begin, so nothing is done for the burials between.
                endLoans(day);
                if (hasBit(town.courts, day)) {
                    holdCourt(day);
                }
                chargePledges(day);
                lendNames(day);
                note(day);
            }
        }

        int bearerOf(int name, int day) {
            return isNoted(name, day) ? bearers[cell(name, day)] : NONE;
        }

        int stateOf(int name, int day) {
            return isNoted(name, day) ? states[cell(name, day)] : NONE;
        }

        int rowPlace(int name, int day, int k) {
            if (!isNoted(name, day) || k < 0 || k >= MOST_IN_ROW) {
                return NONE;
            }
            return rows[cell(name, day) * MOST_IN_ROW + k];
        }

        int namesOf(int body, int day) {
            int names = 0;
            for (int name = 0; name < town.people; name++) {
                if (bearerOf(name, day) == body) {
                    names |= 1 << name;
                }
            }
            return names;
        }

        int namelessDays(int body) {
            int days = alive[body];
            for (int name = 0; name < town.people; name++) {
                days &= ~borneDays[pair(name, body)];
            }
            return days;
        }

        int handsOf(int name) {
            int hands = 0;
            for (int day = 1; day < DAYS; day++) {
                if (bearerOf(name, day) != bearerOf(name, day - 1)) {
                    hands++;
                }
            }
            return hands;
        }

        int firstBorne(int name, int from) {
            for (int day = Math.max(from, 0); day < DAYS; day++) {
                if (bearerOf(name, day) != NONE) {
                    return day;
                }
            }
            return NONE;
        }

        int payer(int debt) {
            int whose = town.debts.at(debt, DEBT_WHOSE);
            int day = town.debts.at(debt, DEBT_JUDGED);
            if (town.debts.at(debt, DEBT_OF_BODY) == 0) {
                return bearerOf(whose, day);
            }
            return isAlive(whose, day) ? whose : NONE;
        }

        boolean agrees(int seen) {
            int bearer = bearerOf(town.sightings.at(seen, SEEN_NAME), town.sightings.at(seen, SEEN_DAY));
            return bearer != NONE && hasBit(town.sightings.at(seen, SEEN_BODIES), bearer);
        }

        int refused() {
            int loans = 0;
            for (int loan = 0; loan < town.loans.count; loan++) {
                if (lender[loan] == NONE) {
                    loans++;
                }
            }
            return loans;
        }

        private boolean isNoted(int name, int day) {
            return name >= 0 && name < MOST_PEOPLE && day >= 0 && day < DAYS;
        }

        private void begin() {
            for (int loan = 0; loan < MOST_LOANS; loan++) {
                lender[loan] = NONE;
                endedOn[loan] = NONE;
                owed[loan] = 0;
                rightDays[loan] = town.rightDay(loan);
                lastDays[loan] = town.lastDay(loan);
            }
            for (int body = 0; body < MOST_PEOPLE; body++) {
                alive[body] = ALL_DAYS & (1 << town.diesOn[body]) - 1;
                deep[body] = 0;
            }
            for (int k = 0; k < borneDays.length; k++) {
                borneDays[k] = 0;
            }
        }

        private void endLoans(int day) {
            for (int name = 0; name < town.people; name++) {
                for (int k = 0; k < deep[name]; k++) {
                    if (day > lastDays[loanAt(name, k)]) {
                        endFrom(name, k, day);
                        break;
                    }
                }
            }
        }

        private void endFrom(int name, int from, int day) {
            for (int k = from; k < deep[name]; k++) {
                endedOn[loanAt(name, k)] = day;
            }
            deep[name] = from;
        }

        private void holdCourt(int day) {
            for (int name = 0; name < town.people; name++) {
                for (int k = deep[name] - 1; k >= 0 && !isBorneByRight(name, day); k--) {
                    endFrom(name, k, day);
                }
            }
        }

        private void chargePledges(int day) {
            for (int name = 0; name < town.people; name++) {
                for (int k = 0; k < deep[name]; k++) {
                    int loan = loanAt(name, k);
                    if (day > rightDays[loan]) {
                        owed[loan] += town.loans.at(loan, LOAN_PLEDGE);
                    }
                }
            }
        }

        private void lendNames(int day) {
            for (int loan = 0; loan < town.loans.count; loan++) {
                int name = town.loans.at(loan, LOAN_NAME);
                boolean isToday = town.loans.at(loan, LOAN_DAY) == day;
                if (isToday && mayBegin(loan, name, day) && isGranted(loan, name, day)) {
                    lender[loan] = lastOf(name);
                    chain[name * MOST_LOANS + deep[name]] = loan;
                    deep[name]++;
                }
            }
        }

        private boolean mayBegin(int loan, int name, int day) {
            int bearer = lastOf(name);
            int body = town.loans.at(loan, LOAN_BODY);
            if (deep[name] >= MOST_LOANS || bearer == body || !isAlive(body, day)) {
                return false;
            }
            return isBorneByRight(name, day) && (bearer == name || isLentOn(name));
        }

        private boolean isLentOn(int name) {
            return deep[name] > 0 && town.loans.at(loanAt(name, deep[name] - 1), LOAN_ON) == 1;
        }

        private boolean isGranted(int loan, int name, int day) {
            int bearer = lastOf(name);
            int body = town.loans.at(loan, LOAN_BODY);
            asked[ASK_DAY] = day;
            asked[ASK_DAYS] = town.loans.at(loan, LOAN_FOR);
            asked[ASK_PLEDGE] = town.loans.at(loan, LOAN_PLEDGE);
            asked[ASK_DEEP] = deep[name];
            asked[ASK_GIVES] = borneNow(bearer);
            asked[ASK_TAKES] = borneNow(body);
            asked[ASK_OWN] = bearer == name ? 1 : 0;
            asked[ASK_MINE] = body == name ? 1 : 0;
            return town.custom.grants(asked);
        }

        // Asked only of bodies that live: a NAME whose last one lives is not BURIED.
        private int borneNow(int body) {
            int names = 0;
            for (int name = 0; name < town.people; name++) {
                if (lastOf(name) == body) {
                    names++;
                }
            }
            return names;
        }

        private void note(int day) {
            for (int name = 0; name < town.people; name++) {
                int last = lastOf(name);
                boolean buried = !isAlive(last, day);
                bearers[cell(name, day)] = buried ? NONE : last;
                states[cell(name, day)] = stateNow(name, day);
                if (!buried) {
                    borneDays[pair(name, last)] |= 1 << day;
                }
                noteRow(name, cell(name, day) * MOST_IN_ROW);
            }
        }

        private void noteRow(int name, int from) {
            rows[from] = name;
            for (int k = 0; k < MOST_LOANS; k++) {
                rows[from + 1 + k] = k < deep[name] ? town.loans.at(loanAt(name, k), LOAN_BODY) : NONE;
            }
        }

        private int stateNow(int name, int day) {
            if (!isAlive(lastOf(name), day)) {
                return BURIED;
            }
            if (deep[name] == 0) {
                return AT_OWNER;
            }
            return isOverdue(name, day) ? WITHOUT_RIGHT : LENT;
        }

        private boolean isBorneByRight(int name, int day) {
            return isAlive(lastOf(name), day) && !isOverdue(name, day);
        }

        private boolean isOverdue(int name, int day) {
            for (int k = 0; k < deep[name]; k++) {
                if (day > rightDays[loanAt(name, k)]) {
                    return true;
                }
            }
            return false;
        }

        private boolean isAlive(int body, int day) {
            return body >= 0 && body < MOST_PEOPLE && hasBit(alive[body], day);
        }

        private int lastOf(int name) {
            return deep[name] == 0 ? name : town.loans.at(loanAt(name, deep[name] - 1), LOAN_BODY);
        }

        private int loanAt(int name, int k) {
            return chain[name * MOST_LOANS + k];
        }
    }

    /** How DEBTS are paid out of PURSES. */
    private static final class Accounts {
        final int[] rest = new int[MOST_PEOPLE];
        int open;

        void settle(Town town, Calendar calendar) {
            System.arraycopy(town.purses, 0, rest, 0, MOST_PEOPLE);
            open = 0;
            for (int day = 0; day < DAYS; day++) {
                for (int debt = 0; debt < town.debts.count; debt++) {
                    if (town.debts.at(debt, DEBT_JUDGED) == day) {
                        settleDebt(debt, calendar.payer(debt), town.debts.at(debt, DEBT_COINS));
                    }
                }
            }
        }

        private void settleDebt(int debt, int payer, int coins) {
            if (payer == NONE || rest[payer] < coins) {
                open |= 1 << debt;
            } else {
                rest[payer] -= coins;
            }
        }
    }

    /** Tries sets of MORE LOANS, for 0, 1, 2, .. in all, till one lacks nothing. */
    private abstract static class Search {
        // By a NAME and a BODY the DAYS on which the one is borne by the other, with the MORE LOANS chosen.
        final int[] holds = new int[MOST_PEOPLE * MOST_PEOPLE];
        // By a NAME the DAYS with which its MORE LOANS may begin and end.
        final int[] ends = new int[MOST_PEOPLE];
        private final int[] taken = new int[MOST_PEOPLE];
        private final int[] chosen = new int[MOST_PLANNED];
        private final int[] found = new int[MOST_PLANNED];
        final Calendar calendar;
        Town town;
        int question;
        int sets;
        boolean spent;
        // The first lack: MORE LOANS of one of these NAMES to one of these BODIES over one of these DAYS mend it.
        int lackNames;
        int lackBodies;
        int lackFrom;
        int lackTo;
        private boolean answered;
        private int size;
        private int limit;
        private int steps;

        Search(Calendar calendar) {
            this.calendar = calendar;
            this.town = calendar.town;
        }

        /** The most MORE LOANS that are tried. */
        abstract int most();

        /** Whether the first set that is found ends the search. */
        abstract boolean endsWithFirst();

        /** Sets the DAYS with which MORE LOANS may begin and end. */
        abstract void setEnds();

        /** Whether something is not as it should be with the MORE LOANS chosen: sets the first lack. */
        abstract boolean lacks();

        void forget() {
            answered = false;
        }

        // An answer is kept, for the parts of one set are asked for by several calls.
        void ask(int newQuestion) {
            if (answered && question == newQuestion) {
                return;
            }
            town = calendar.town;
            question = newQuestion;
            System.arraycopy(calendar.borneDays, 0, holds, 0, holds.length);
            for (int name = 0; name < MOST_PEOPLE; name++) {
                taken[name] = 0;
            }
            sets = 0;
            size = 0;
            steps = 0;
            spent = false;
            setEnds();
            for (int all = 0; all <= most() && sets == 0 && !spent; all++) {
                limit = all;
                come(0);
            }
            answered = true;
        }

        /** How many there are (k NONE), or the k-th of them; NONE behind, or if no set was found. */
        int part(int k) {
            if (sets == 0) {
                return NONE;
            }
            if (k == NONE) {
                return size;
            }
            return k >= 0 && k < size ? found[k] : NONE;
        }

        void setLack(int names, int bodies, int from, int to) {
            lackNames = names;
            lackBodies = bodies;
            lackFrom = from;
            lackTo = to;
        }

        private void come(int chosenSoFar) {
            steps++;
            if (steps > MOST_STEPS) {
                spent = true;
            } else if (!lacks()) {
                keepSet(chosenSoFar);
            } else if (chosenSoFar < limit && chosenSoFar < MOST_PLANNED) {
                mend(chosenSoFar);
            }
        }

        private void mend(int chosenSoFar) {
            // The steps from here on set lacks of their own.
            int names = lackNames;
            int bodies = lackBodies;
            int from = lackFrom;
            int to = lackTo;
            for (int name = 0; name < town.people; name++) {
                for (int body = 0; body < town.people; body++) {
                    if (hasBit(names, name) && hasBit(bodies, body)) {
                        tryLoans(chosenSoFar, name, body, from, to);
                    }
                }
            }
        }

        private void tryLoans(int chosenSoFar, int name, int body, int from, int to) {
            int free = calendar.alive[body] & ~calendar.borneDays[pair(name, body)] & ~taken[name];
            int mayEnd = ends[name] & free;
            for (int first = 0; first <= to && first < DAYS; first++) {
                if (!hasBit(mayEnd, first)) {
                    continue;
                }
                // All DAYS from the first one on must be free, so the first that is not ends them.
                for (int last = first; last < DAYS && hasBit(free, last) && !isOver(); last++) {
                    if (last >= from && hasBit(mayEnd, last)) {
                        tryLoan(chosenSoFar, name, body, first, last);
                    }
                }
            }
        }

        private void tryLoan(int chosenSoFar, int name, int body, int first, int last) {
            int days = (1 << last + 1) - (1 << first);
            chosen[chosenSoFar] = 10000 * name + 1000 * body + 20 * first + last;
            give(name, body, days);
            come(chosenSoFar + 1);
            giveBack(name, days);
        }

        private boolean isOver() {
            return spent || sets > 0 && endsWithFirst();
        }

        private void keepSet(int chosenSoFar) {
            sets++;
            if (sets > 1) {
                return;
            }
            size = chosenSoFar;
            // The number of a MORE LOAN is greater, if it is later in order.
            for (int k = 0; k < size; k++) {
                int place = k;
                while (place > 0 && found[place - 1] > chosen[k]) {
                    found[place] = found[place - 1];
                    place--;
                }
                found[place] = chosen[k];
            }
        }

        private void give(int name, int body, int days) {
            taken[name] |= days;
            for (int other = 0; other < MOST_PEOPLE; other++) {
                holds[pair(name, other)] &= ~days;
            }
            holds[pair(name, body)] |= days;
        }

        // No two MORE LOANS of a NAME have a DAY in common, so these DAYS were as they are without any.
        private void giveBack(int name, int days) {
            taken[name] &= ~days;
            for (int other = 0; other < MOST_PEOPLE; other++) {
                int k = pair(name, other);
                holds[k] = holds[k] & ~days | calendar.borneDays[k] & days;
            }
        }
    }

    /** PLAN: WISHES are had, and no BODY is NAMELESS for more DAYS than the bound, which is the question. */
    private static final class PlanSearch extends Search {
        PlanSearch(Calendar calendar) {
            super(calendar);
        }

        int most() {
            return MOST_PLANNED;
        }

        boolean endsWithFirst() {
            return true;
        }

        void setEnds() {
            for (int name = 0; name < MOST_PEOPLE; name++) {
                ends[name] = ALL_DAYS;
            }
        }

        boolean lacks() {
            return lacksWish() || lacksName();
        }

        private boolean lacksWish() {
            for (int letter = 0; letter < town.letters.count; letter++) {
                int name = town.letters.at(letter, LETTER_NAME);
                int body = town.letters.at(letter, LETTER_WISH);
                int day = town.letters.at(letter, LETTER_READ);
                if (body != NONE && !hasBit(holds[pair(name, body)], day)) {
                    setLack(1 << name, 1 << body, day, day);
                    return true;
                }
            }
            return false;
        }

        private boolean lacksName() {
            for (int body = 0; body < town.people; body++) {
                int runs = calendar.alive[body];
                for (int name = 0; name < town.people; name++) {
                    runs &= ~holds[pair(name, body)];
                }
                for (int more = 0; more < question && runs != 0; more++) {
                    runs = longerRuns(runs);
                }
                if (runs != 0) {
                    int day = Integer.bitCount((runs & -runs) - 1);
                    setLack((1 << town.people) - 1, 1 << body, day - question, day);
                    return true;
                }
            }
            return false;
        }
    }

    /** SECRETS: all SIGHTINGS AGREE that are KNOWN by a DAY, which is the question. */
    private static final class SecretSearch extends Search {
        private int known;

        SecretSearch(Calendar calendar) {
            super(calendar);
        }

        int most() {
            return MOST_SECRETS;
        }

        boolean endsWithFirst() {
            return false;
        }

        void setEnds() {
            known = town.knownBy(question);
            for (int name = 0; name < MOST_PEOPLE; name++) {
                ends[name] = 0;
                for (int seen = 0; seen < town.sightings.count; seen++) {
                    if (hasBit(known, seen) && town.sightings.at(seen, SEEN_NAME) == name) {
                        ends[name] |= 1 << town.sightings.at(seen, SEEN_DAY);
                    }
                }
            }
        }

        boolean lacks() {
            for (int seen = 0; seen < town.sightings.count; seen++) {
                if (hasBit(known, seen) && !isMet(seen)) {
                    int day = town.sightings.at(seen, SEEN_DAY);
                    setLack(1 << town.sightings.at(seen, SEEN_NAME), town.sightings.at(seen, SEEN_BODIES), day, day);
                    return true;
                }
            }
            return false;
        }

        private boolean isMet(int seen) {
            int name = town.sightings.at(seen, SEEN_NAME);
            int told = town.sightings.at(seen, SEEN_BODIES);
            for (int body = 0; body < town.people; body++) {
                if (hasBit(told, body) && hasBit(holds[pair(name, body)], town.sightings.at(seen, SEEN_DAY))) {
                    return true;
                }
            }
            return false;
        }
    }
}
