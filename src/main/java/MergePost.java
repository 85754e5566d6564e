/**
 * A mailing house: templates, addresses and their matches, and runs of letters.
 * ../shared/DOC.md says what each call answers; README.md says how to use and test it.
 */
public final class MergePost {

    public static final int NONE = -1;
    public static final int MISSING = 1, DEEP = 2, LONG = 3, COSTLY = 4;

    private static final int LINE_LIMIT = 96;
    private static final int WORD_LIMIT = 12;
    private static final int TEXT_LIMIT = 160;
    private static final int TEMPLATES = 8;
    private static final int ADDRESSES = 12;
    private static final int REASONS = 8;
    private static final int RUNS = 8;
    private static final int MONEY_LIMIT = 1000000000;
    private static final int GREATEST_INT = 2147483647;
    private static final int HIGHEST_ZONE = 5;
    /** A choice may stand within 4 others, a template within 4 others. */
    private static final int CHOICES = 5, LEVELS = 5;
    /** The fields by the signs that name them, and each one's place there. */
    private static final String FIELDS = "nshzpm";
    private static final int NAMES = 0, STREET = 1, HOUSE = 2, ZONE = 3, POINTS = 4, MEMBERS = 5, FIELD_COUNT = 6;
    /** As many as 12 names and the signs between them can have. */
    private static final int NAMES_LIMIT = ADDRESSES * (WORD_LIMIT + 3) - 3;
    private static final int NUMBER_LIMIT = 4;
    /** Far above the some 66,000 steps that the longest letter takes. */
    private static final int STEPS = 1000000;

    private final Line line = new Line();
    private final Press press = new Press();
    private final Book book = new Book();
    private final Likener likener = new Likener();
    private final Franking franking = new Franking();
    private final Run[] runs = new Run[RUNS];
    private int begunRuns;
    private int paid;

    public MergePost() {
        for (int run = 0; run < RUNS; run++) {
            runs[run] = new Run();
        }
    }

    // ---- the line

    public int type(long signs) throws IllegalArgumentException, IllegalStateException {
        int added = countSigns(signs);
        if (added == NONE) {
            throw new IllegalArgumentException("no signs of a line");
        }
        if (line.signs.length + added > LINE_LIMIT) {
            throw new IllegalStateException("the line is full");
        }
        for (int sign = 0; sign < added; sign++) {
            line.signs.add(signOf(signs, sign));
        }
        return line.signs.length;
    }

    public int template(int template) throws IndexOutOfBoundsException {
        checkTemplate(template);
        boolean faultless = press.readTemplate(line, template);
        int answer = faultless ? line.signs.length : -1 - line.at;
        line.clear();
        return answer;
    }

    public int address(int address) throws IndexOutOfBoundsException, IllegalStateException {
        if (address < 0 || address > book.count) {
            throw new IndexOutOfBoundsException("no such address");
        }
        if (address >= ADDRESSES || book.hasMatch(address)) {
            throw new IllegalStateException("no room for another address, or it has a match");
        }
        boolean faultless = book.readAddress(line, address);
        int answer = faultless ? address : -1 - line.at;
        line.clear();
        return answer;
    }

    // ---- addresses, matches

    public int addresses() {
        return book.count;
    }

    public char cleaned(int address, boolean street, int place) throws IndexOutOfBoundsException {
        checkAddress(address);
        if (place < 0) {
            throw new IndexOutOfBoundsException("no such place");
        }
        char sign = book.entries[address].cleanedWord(street).signAt(place);
        return sign == 0 ? ' ' : sign;
    }

    public int apart(int first, int second, boolean street) throws IndexOutOfBoundsException {
        checkAddress(first);
        checkAddress(second);
        return likener.distance(book.entries[first].cleanedWord(street), book.entries[second].cleanedWord(street));
    }

    public int likeness(int first, int second) throws IndexOutOfBoundsException {
        checkAddress(first);
        checkAddress(second);
        return bitsOf(likener.likenessOf(book.entries[first], book.entries[second]));
    }

    public int pairs(int hundredths) throws IllegalArgumentException {
        if (hundredths < 0 || hundredths > 100) {
            throw new IllegalArgumentException("hundredths out of range");
        }
        float least = (float) hundredths / 100f;
        int found = 0;
        for (int second = 0; second < book.count; second++) {
            for (int first = 0; first < second; first++) {
                if (likener.likenessOf(book.entries[first], book.entries[second]) >= least) {
                    found++;
                }
            }
        }
        return found;
    }

    public boolean match(int first, int second) throws IndexOutOfBoundsException, IllegalStateException {
        checkAddress(first);
        checkAddress(second);
        boolean matched = book.areMatched(first, second);
        if (first == second || !matched && !canBeMatched(first, second)) {
            throw new IllegalStateException("these can't be matched");
        }
        book.turnMatch(first, second);
        return !matched;
    }

    public int group(int address) throws IndexOutOfBoundsException {
        checkAddress(address);
        return book.groupOf(address);
    }

    // ---- runs, letters

    public int franking(int base, int step) throws IllegalArgumentException {
        if (base < 0 || base > MONEY_LIMIT || step < 0 || step > MONEY_LIMIT) {
            throw new IllegalArgumentException("base or step out of range");
        }
        franking.base = base;
        franking.step = step;
        return franking.costOf(franking.weightOf(20, 1), HIGHEST_ZONE);
    }

    public int run(int template, int reason)
            throws IndexOutOfBoundsException, IllegalArgumentException, IllegalStateException {
        checkTemplate(template);
        if (reason < 0 || reason >= REASONS) {
            throw new IllegalArgumentException("reason out of range");
        }
        if (begunRuns >= RUNS) {
            throw new IllegalStateException("no room for another run");
        }
        runs[begunRuns].template = template;
        runs[begunRuns].reason = reason;
        begunRuns++;
        return begunRuns - 1;
    }

    public int letters(int run) throws IndexOutOfBoundsException {
        checkRun(run);
        return countLetters(runs[run]);
    }

    public int letter(int run, int letter, int what) throws IndexOutOfBoundsException, IllegalArgumentException {
        checkLetter(run, letter);
        if (what < 0 || what > 4) {
            throw new IllegalArgumentException("what out of range");
        }
        Letter asked = findLetter(runs[run], letter);
        if (what == 0) {
            return asked.members;
        }
        if (what == 1) {
            return asked.trouble;
        }
        if (asked.trouble != 0) {
            return NONE;
        }
        return what == 2 ? asked.text.length : what == 3 ? asked.weight : asked.cost;
    }

    public char sign(int run, int letter, int place) throws IndexOutOfBoundsException {
        checkLetter(run, letter);
        if (place < 0) {
            throw new IndexOutOfBoundsException("no such place");
        }
        Letter asked = findLetter(runs[run], letter);
        return asked.trouble != 0 ? 0 : asked.text.signAt(place);
    }

    public int anew(int run, int letter) throws IndexOutOfBoundsException {
        checkLetter(run, letter);
        Letter asked = findLetter(runs[run], letter);
        if (asked.trouble != 0) {
            return 0;
        }
        Letter made = compose(runs[run].template, asked.members);
        return made.trouble != 0 ? NONE : asked.text.unlikeSigns(made.text);
    }

    public int trouble(int run, int letter, int level, boolean place) throws IndexOutOfBoundsException {
        checkLetter(run, letter);
        if (level < 0) {
            throw new IndexOutOfBoundsException("no such level");
        }
        if (findLetter(runs[run], letter).trouble == 0) {
            return NONE;
        }
        return place ? press.placeAt(level) : press.templateAt(level);
    }

    public int post(int run) throws IndexOutOfBoundsException, IllegalStateException {
        checkRun(run);
        Run posting = runs[run];
        if (posting.posted) {
            throw new IllegalStateException("the run was posted");
        }
        int due = book.listDue(posting.reason);
        for (int letter = 0; letter < due; letter++) {
            Letter made = compose(posting.template, book.dueAt(letter));
            if (made.trouble == 0) {
                posting.keep(made);
                book.notePosted(made.members, posting.reason);
                pay(made.cost);
            }
        }
        posting.posted = true;
        return posting.count;
    }

    public int spent() {
        return paid;
    }

    public int reasons(int address) throws IndexOutOfBoundsException {
        checkAddress(address);
        return book.posted[address];
    }

    // ---- what the calls share

    private void checkTemplate(int template) {
        if (template < 0 || template >= TEMPLATES) {
            throw new IndexOutOfBoundsException("no such template");
        }
    }

    private void checkAddress(int address) {
        if (address < 0 || address >= book.count || address >= ADDRESSES) {
            throw new IndexOutOfBoundsException("no such address");
        }
    }

    private void checkRun(int run) {
        if (run < 0 || run >= begunRuns || run >= RUNS) {
            throw new IndexOutOfBoundsException("no such run");
        }
    }

    private void checkLetter(int run, int letter) {
        checkRun(run);
        if (letter < 0 || letter >= countLetters(runs[run])) {
            throw new IndexOutOfBoundsException("no such letter");
        }
    }

    private int countLetters(Run run) {
        return run.posted ? run.count : book.listDue(run.reason);
    }

    /** For a letter that checkLetter has found: of an open run it counts on the list that this has made. */
    private Letter findLetter(Run run, int letter) {
        if (run.posted && letter >= 0 && letter < ADDRESSES) {
            return run.kept[letter];
        }
        return compose(run.template, book.dueAt(letter));
    }

    /** The letter that comes now; it is the press's own, and good until the next one is made. */
    private Letter compose(int template, int members) {
        press.household.gather(book, members);
        press.write(template);
        Letter made = press.draft;
        made.members = members;
        if (made.trouble == 0) {
            made.weight = franking.weightOf(made.text.length, press.household.values[MEMBERS]);
            made.cost = franking.costOf(made.weight, press.household.values[ZONE]);
            if (made.cost == NONE) {
                press.blameWhole(template, COSTLY);
            }
        }
        return made;
    }

    private void pay(int cost) {
        paid = cost > GREATEST_INT - paid ? GREATEST_INT : paid + cost;
    }

    private boolean canBeMatched(int first, int second) {
        return likener.likenessOf(book.entries[first], book.entries[second]) >= 0.5f;
    }

    private static char signOf(long signs, int number) {
        return (char) (signs >>> 8 * number & 255);
    }

    /** How many signs there are ahead of 8 bits of 0; NONE if they can't be typed. */
    private static int countSigns(long signs) {
        int count = 0;
        for (int number = 0; number < 8; number++) {
            char sign = signOf(signs, number);
            if (sign != 0 && (sign < 32 || sign > 126 || count < number)) {
                return NONE;
            }
            if (sign != 0) {
                count++;
            }
        }
        return count;
    }

    private static boolean isDigit(char sign, char highest) {
        return sign >= '0' && sign <= highest;
    }

    /** The bits of a float from 0 on and below 2, by arithmetic, as the language has no call for them. */
    private static int bitsOf(float value) {
        if (!(value > 0f)) {
            return 0;
        }
        float scaled = value;
        int exponent = 127;
        for (; scaled < 1f && exponent > 1; exponent--) {
            scaled = scaled * 2f;
        }
        return (exponent << 23) + (int) ((scaled - 1f) * 8388608f);
    }

    /** Signs up to a limit; 0 stands for the sign behind the last one. */
    private static final class Signs {
        private final char[] row;
        private int length;

        private Signs(int limit) {
            row = new char[limit > 0 ? limit : 0];
        }

        private char signAt(int place) {
            return place >= 0 && place < length && place < row.length ? row[place] : 0;
        }

        private int room() {
            return row.length - length;
        }

        private void add(char sign) {
            if (length >= 0 && length < row.length) {
                row[length] = sign;
                length++;
            }
        }

        private void addAll(Signs signs) {
            int added = Math.min(signs.length, row.length - length);
            if (added > 0) {
                System.arraycopy(signs.row, 0, row, length, added);
                length += added;
            }
        }

        private void addNumber(int number) {
            int unit = number >= 1000 ? 1000 : number >= 100 ? 100 : number >= 10 ? 10 : 1;
            for (; unit > 0; unit /= 10) {
                add((char) ('0' + number / unit % 10));
            }
        }

        private void become(Signs signs) {
            length = 0;
            addAll(signs);
        }

        private void becomeCleaned(Signs signs) {
            length = 0;
            for (int place = 0; place < signs.length; place++) {
                char sign = signs.signAt(place);
                if (sign >= 'A' && sign <= 'Z') {
                    add((char) (sign - 'A' + 'a'));
                } else if (sign >= 'a' && sign <= 'z' || isDigit(sign, '9')) {
                    add(sign);
                }
            }
        }

        /** What one has more than the other one is unlike, as no sign is 0. */
        private int unlikeSigns(Signs other) {
            int unlike = 0;
            for (int place = 0; place < Math.max(length, other.length); place++) {
                if (signAt(place) != other.signAt(place)) {
                    unlike++;
                }
            }
            return unlike;
        }
    }

    /** The line that is typed; who reads it stops at the first sign that cannot stand there. */
    private static final class Line {
        private final Signs signs = new Signs(LINE_LIMIT);
        private int at;

        private void clear() {
            signs.length = 0;
        }

        private char here() {
            return signs.signAt(at);
        }

        private boolean atEnd() {
            return at >= signs.length;
        }

        private boolean takeIf(boolean itCanStandHere) {
            if (itCanStandHere) {
                at++;
            }
            return itCanStandHere;
        }

        private boolean take(char sign) {
            return takeIf(!atEnd() && here() == sign);
        }

        private boolean takeDigit(char highest) {
            return takeIf(isDigit(here(), highest));
        }

        private boolean takeField() {
            return takeIf(FIELDS.indexOf(here()) >= 0);
        }

        private boolean takeRelation() {
            return takeIf(here() == '=' || here() == '<' || here() == '>');
        }

        /** A number of at most so many digits; NONE if there is no digit. */
        private int takeNumber(int most, char highest) {
            int number = NONE;
            for (int taken = 0; taken < most && isDigit(here(), highest); taken++) {
                number = (number == NONE ? 0 : number * 10) + (here() - '0');
                at++;
            }
            return number;
        }

        private boolean takeWord(Signs into) {
            into.length = 0;
            for (int taken = 0; taken < WORD_LIMIT && !atEnd() && here() != ','; taken++) {
                into.add(here());
                at++;
            }
            return into.length > 0;
        }
    }

    /** A template's signs, and where each choice goes on. */
    private static final class Template {
        private final Signs signs = new Signs(LINE_LIMIT);
        /** At a [ the place of its second text, at a | the place behind its choice. */
        private final int[] jumps = new int[LINE_LIMIT];
        /** While it is read: of each open choice the [, and from the | on that. */
        private final int[] marks = new int[CHOICES];
        private int openChoices;
        private boolean told;

        private int jumpAt(int place) {
            return place >= 0 && place < LINE_LIMIT ? jumps[place] : LINE_LIMIT;
        }

        /** Whether the line is a template; if not, the line stands at its fault. */
        private boolean read(Line line) {
            line.at = 0;
            openChoices = 0;
            for (int parts = 0; parts < LINE_LIMIT && !line.atEnd(); parts++) {
                if (!readPart(line)) {
                    return false;
                }
            }
            signs.become(line.signs);
            told = openChoices == 0;
            return told;
        }

        private boolean readPart(Line line) {
            char sign = line.here();
            if (sign == '<') {
                return line.take(sign) && line.takeField() && line.take('>');
            }
            if (sign == '@') {
                return line.take(sign) && line.takeDigit('7');
            }
            if (sign == '[') {
                return openChoice(line);
            }
            if (sign == '|') {
                return turnChoice(line);
            }
            if (sign == ']') {
                return closeChoice(line);
            }
            return line.take(sign);
        }

        private boolean openChoice(Line line) {
            if (openChoices < 0 || openChoices >= CHOICES) {
                return false;
            }
            marks[openChoices] = line.at;
            openChoices++;
            return line.take('[') && line.takeField() && line.takeRelation()
                    && line.takeNumber(3, '9') != NONE && line.take('?');
        }

        private boolean turnChoice(Line line) {
            if (!jumpFromMark(line, '[')) {
                return false;
            }
            marks[openChoices - 1] = line.at;
            return line.take('|');
        }

        private boolean closeChoice(Line line) {
            if (!jumpFromMark(line, '|')) {
                return false;
            }
            openChoices--;
            return line.take(']');
        }

        /** From the innermost choice's mark to behind here; whether that mark is such a sign. */
        private boolean jumpFromMark(Line line, char sign) {
            if (openChoices <= 0 || openChoices > CHOICES) {
                return false;
            }
            int mark = marks[openChoices - 1];
            if (mark < 0 || mark >= LINE_LIMIT || line.signs.signAt(mark) != sign) {
                return false;
            }
            jumps[mark] = line.at + 1;
            return true;
        }
    }

    private static final class Address {
        private final Signs name = new Signs(WORD_LIMIT);
        private final Signs street = new Signs(WORD_LIMIT);
        private final Signs cleanedName = new Signs(WORD_LIMIT);
        private final Signs cleanedStreet = new Signs(WORD_LIMIT);
        private int house;
        private int zone;
        private int points;

        private Signs cleanedWord(boolean ofStreet) {
            return ofStreet ? cleanedStreet : cleanedName;
        }

        /** Whether the line is an address; if not, the line stands at its fault. */
        private boolean read(Line line) {
            line.at = 0;
            boolean faultless = line.takeWord(name) && line.take(',') && line.takeWord(street) && line.take(',')
                    && readNumbers(line) && line.atEnd();
            cleanedName.becomeCleaned(name);
            cleanedStreet.becomeCleaned(street);
            return faultless;
        }

        private boolean readNumbers(Line line) {
            house = line.takeNumber(3, '9');
            if (house == NONE || !line.take(',')) {
                return false;
            }
            zone = line.takeNumber(1, '5');
            if (zone == NONE || !line.take(',')) {
                return false;
            }
            points = line.takeNumber(2, '9');
            return points != NONE;
        }
    }

    /** The addresses, which of them are matched, and for what each was posted a letter; sets are bits. */
    private static final class Book {
        private final Address[] entries = new Address[ADDRESSES];
        private Address spare = new Address();
        private final int[] matched = new int[ADDRESSES];
        private final int[] posted = new int[ADDRESSES];
        private final int[] due = new int[ADDRESSES];
        private int count;

        private Book() {
            for (int address = 0; address < ADDRESSES; address++) {
                entries[address] = new Address();
            }
        }

        /** Reads into the spare one, as a line with a fault may change nothing. */
        private boolean readAddress(Line line, int address) {
            boolean faultless = spare.read(line);
            if (faultless && address >= 0 && address < ADDRESSES) {
                Address former = entries[address];
                entries[address] = spare;
                spare = former;
                count = Math.max(count, address + 1);
            }
            return faultless;
        }

        private boolean hasMatch(int address) {
            return address >= 0 && address < ADDRESSES && matched[address] != 0;
        }

        private boolean areMatched(int first, int second) {
            return first >= 0 && first < ADDRESSES && (matched[first] & 1 << second) != 0;
        }

        private void turnMatch(int first, int second) {
            if (first >= 0 && first < ADDRESSES && second >= 0 && second < ADDRESSES) {
                matched[first] ^= 1 << second;
                matched[second] ^= 1 << first;
            }
        }

        private int groupOf(int address) {
            int members = 1 << address;
            int before = 0;
            for (int round = 0; round < ADDRESSES && members != before; round++) {
                before = members;
                members |= matchesOf(members);
            }
            return members;
        }

        private int matchesOf(int members) {
            int found = 0;
            for (int address = 0; address < ADDRESSES; address++) {
                if ((members & 1 << address) != 0) {
                    found |= matched[address];
                }
            }
            return found;
        }

        /** Lists the groups that are due a letter for a reason, by their lowest members. */
        private int listDue(int reason) {
            int listed = 0;
            for (int address = 0; address < count && listed < ADDRESSES; address++) {
                int members = groupOf(address);
                boolean lowest = (members & (1 << address) - 1) == 0;
                if (lowest && !wasPosted(members, reason)) {
                    due[listed] = members;
                    listed++;
                }
            }
            return listed;
        }

        private int dueAt(int letter) {
            return letter >= 0 && letter < ADDRESSES ? due[letter] : 0;
        }

        private boolean wasPosted(int members, int reason) {
            for (int address = 0; address < ADDRESSES; address++) {
                if ((members & 1 << address) != 0 && (posted[address] & 1 << reason) != 0) {
                    return true;
                }
            }
            return false;
        }

        private void notePosted(int members, int reason) {
            for (int address = 0; address < ADDRESSES; address++) {
                if ((members & 1 << address) != 0) {
                    posted[address] |= 1 << reason;
                }
            }
        }
    }

    /** How like addresses are. */
    private static final class Likener {
        /** How far the first word, as far as it was read, is from so many signs of the second one. */
        private final int[] row = new int[WORD_LIMIT + 1];

        private int distance(Signs first, Signs second) {
            int width = Math.min(second.length, WORD_LIMIT);
            for (int place = 0; place <= width; place++) {
                row[place] = place;
            }
            for (int place = 0; place < first.length; place++) {
                readSign(first.signAt(place), second, width);
            }
            return width >= 0 ? row[width] : 0;
        }

        private void readSign(char sign, Signs second, int width) {
            int corner = row[0];
            row[0]++;
            for (int place = 1; place <= width; place++) {
                int another = corner + (second.signAt(place - 1) == sign ? 0 : 1);
                corner = row[place];
                row[place] = Math.min(another, 1 + Math.min(row[place], row[place - 1]));
            }
        }

        private float wordLikeness(Signs first, Signs second) {
            int greater = Math.max(first.length, second.length);
            if (greater <= 0) {
                return 1f;
            }
            return 1f - (float) distance(first, second) / (float) greater;
        }

        private float likenessOf(Address first, Address second) {
            float houses = first.house == second.house ? 1f : 0f;
            float zones = first.zone == second.zone ? 1f : 0f;
            float likeness = 0.4f * wordLikeness(first.cleanedName, second.cleanedName);
            likeness = likeness + 0.3f * wordLikeness(first.cleanedStreet, second.cleanedStreet);
            likeness = likeness + 0.2f * houses;
            return likeness + 0.1f * zones;
        }
    }

    private static final class Franking {
        private int base = 10;
        private int step = 5;

        private int weightOf(int signs, int members) {
            return 8 + 3 * ((signs + 19) / 20) + 2 * (members - 1);
        }

        /**
         * NONE if it is no int. Only the last step is looked at: none is below 0, and the last one
         * at least doubles what is before it, so that an earlier one is an int if the last one is.
         */
        private int costOf(int weight, int zone) {
            long begunTens = weight > 20 ? (weight - 20 + 9) / 10 : 0;
            long cost = (base + step * begunTens) * (zone + 2);
            return cost > GREATEST_INT ? NONE : (int) cost;
        }
    }

    /** The members of a group as a template sees them: of each field its value, and how it is written. */
    private static final class Household {
        private final Signs[] written = new Signs[FIELD_COUNT];
        private final int[] values = new int[FIELD_COUNT];
        private final Signs between = new Signs(3);

        private Household() {
            for (int field = 0; field < FIELD_COUNT; field++) {
                written[field] = new Signs(field == NAMES ? NAMES_LIMIT : field == STREET ? WORD_LIMIT : NUMBER_LIMIT);
            }
            between.add(' ');
            between.add('&');
            between.add(' ');
        }

        private void gather(Book book, int members) {
            for (int field = 0; field < FIELD_COUNT; field++) {
                written[field].length = 0;
                values[field] = 0;
            }
            for (int address = 0; address < ADDRESSES; address++) {
                if ((members & 1 << address) != 0) {
                    addMember(book.entries[address]);
                }
            }
            values[NAMES] = written[NAMES].length;
            values[STREET] = written[STREET].length;
            for (int field = HOUSE; field < FIELD_COUNT; field++) {
                written[field].addNumber(values[field]);
            }
        }

        private void addMember(Address address) {
            if (values[MEMBERS] == 0) {
                written[STREET].addAll(address.street);
                values[HOUSE] = address.house;
                values[ZONE] = address.zone;
            } else {
                written[NAMES].addAll(between);
            }
            written[NAMES].addAll(address.name);
            values[POINTS] += address.points;
            values[MEMBERS]++;
        }
    }

    /** A letter that was written; kept as it is, once it is posted. */
    private static final class Letter {
        private final Signs text = new Signs(TEXT_LIMIT);
        private int members;
        private int trouble;
        private int weight;
        private int cost;

        private void become(Letter letter) {
            text.become(letter.text);
            members = letter.members;
            trouble = letter.trouble;
            weight = letter.weight;
            cost = letter.cost;
        }
    }

    private static final class Run {
        private final Letter[] kept = new Letter[ADDRESSES];
        private int count;
        private int template;
        private int reason;
        private boolean posted;

        private Run() {
            for (int letter = 0; letter < ADDRESSES; letter++) {
                kept[letter] = new Letter();
            }
        }

        private void keep(Letter letter) {
            if (count >= 0 && count < ADDRESSES) {
                kept[count].become(letter);
                count++;
            }
        }
    }

    /** The templates, and what writes the text of a letter of them: its draft. */
    private static final class Press {
        private final Template[] templates = new Template[TEMPLATES];
        private Template spare = new Template();
        private final Household household = new Household();
        private final Letter draft = new Letter();
        /** Of each open level its template, the place of the part in work, and the text's length at first. */
        private final int[] named = new int[LEVELS];
        private final int[] places = new int[LEVELS];
        private final int[] lengths = new int[LEVELS];
        private int levels;
        /** A bit for each level and template that has written nothing there, so that it need not do so again. */
        private long silent;

        private Press() {
            for (int template = 0; template < TEMPLATES; template++) {
                templates[template] = new Template();
            }
        }

        /** Reads into the spare one, as a line with a fault may change nothing. */
        private boolean readTemplate(Line line, int template) {
            boolean faultless = spare.read(line);
            if (faultless && template >= 0 && template < TEMPLATES) {
                Template former = templates[template];
                templates[template] = spare;
                spare = former;
            }
            return faultless;
        }

        private int templateAt(int level) {
            return level >= 0 && level < levels && level < LEVELS ? named[level] : NONE;
        }

        private int placeAt(int level) {
            return level >= 0 && level < levels && level < LEVELS ? places[level] : NONE;
        }

        /** Writes the draft for the household; if it is in trouble, the levels stay open that tell of it. */
        private void write(int template) {
            draft.text.length = 0;
            draft.trouble = 0;
            silent = 0;
            levels = 0;
            if (!isTold(template)) {
                blameWhole(template, MISSING);
                return;
            }
            open(template);
            for (int steps = 0; steps < STEPS && levels > 0 && draft.trouble == 0; steps++) {
                writePart(levels - 1);
            }
        }

        private void blameWhole(int template, int trouble) {
            levels = 0;
            open(template);
            draft.trouble = trouble;
        }

        private boolean isTold(int template) {
            return template >= 0 && template < TEMPLATES && templates[template].told;
        }

        private void open(int template) {
            if (levels >= 0 && levels < LEVELS) {
                named[levels] = template;
                places[levels] = 0;
                lengths[levels] = draft.text.length;
                levels++;
            }
        }

        private void writePart(int level) {
            if (level < 0 || level >= LEVELS || !isTold(named[level])) {
                return;
            }
            Template template = templates[named[level]];
            int place = places[level];
            char sign = template.signs.signAt(place);
            if (place >= template.signs.length) {
                close(level);
            } else if (sign == '@') {
                enter(level, template.signs.signAt(place + 1) - '0');
            } else if (sign == '<') {
                writeField(level, template.signs.signAt(place + 1));
            } else if (sign == '[') {
                choose(level, template);
            } else if (sign == '|') {
                places[level] = template.jumpAt(place);
            } else if (sign == ']') {
                places[level]++;
            } else {
                writeSign(level, sign);
            }
        }

        private void close(int level) {
            if (draft.text.length == lengths[level]) {
                silent |= silentBit(level, named[level]);
            }
            levels = level;
            if (level > 0) {
                places[level - 1] += 2;
            }
        }

        private void enter(int level, int template) {
            if (!isTold(template)) {
                draft.trouble = MISSING;
            } else if (levels >= LEVELS) {
                draft.trouble = DEEP;
            } else if ((silent & silentBit(levels, template)) != 0) {
                places[level] += 2;
            } else {
                open(template);
            }
        }

        private static long silentBit(int level, int template) {
            return 1L << level * TEMPLATES + template;
        }

        private void choose(int level, Template template) {
            int place = places[level];
            int field = FIELDS.indexOf(template.signs.signAt(place + 1));
            char relation = template.signs.signAt(place + 2);
            int behind = place + 3;
            int number = 0;
            for (int digit = 0; digit < 3 && isDigit(template.signs.signAt(behind), '9'); digit++) {
                number = number * 10 + (template.signs.signAt(behind) - '0');
                behind++;
            }
            int value = field >= 0 && field < FIELD_COUNT ? household.values[field] : 0;
            places[level] = holds(value, relation, number) ? behind + 1 : template.jumpAt(place);
        }

        private static boolean holds(int value, char relation, int number) {
            return relation == '=' ? value == number : relation == '<' ? value < number : value > number;
        }

        private void writeField(int level, char sign) {
            int field = FIELDS.indexOf(sign);
            if (field < 0 || field >= FIELD_COUNT || household.written[field].length > draft.text.room()) {
                draft.trouble = LONG;
                return;
            }
            draft.text.addAll(household.written[field]);
            places[level] += 3;
        }

        private void writeSign(int level, char sign) {
            if (draft.text.room() < 1) {
                draft.trouble = LONG;
                return;
            }
            draft.text.add(sign);
            places[level]++;
        }
    }
}
