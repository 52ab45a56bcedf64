/**
 * A republic in which the length of each month is voted in the month before.
 * The promises are told in DOC.md; words in capitals there are the terms used here.
 */
public final class JuneVote {
    public static final int NONE = -1;
    public static final int GAP = -1000000;

    /** What several promises answer for what can't be, where NONE has a meaning of its own. */
    private static final int REFUSED = -2;

    private static final int MOST_BYTES = 1700;
    private static final int BYTES_AT_ONCE = 20;
    private static final int MOST_MONTHS = 6;
    private static final int MOST_PEOPLE = 5;
    private static final int MOST_DUES = 12;
    private static final int LONGEST = 31;
    private static final int LENGTHS = 32;
    private static final int MOST_VOTES = 9;
    private static final int MOST_THAT_WERE = 300;
    private static final int MOST_AT_ONCE = 60;
    private static final int BOXES = 3;
    private static final int LATEST_TIME = 100000;
    private static final int MOST_LATER = 1000;
    private static final int LONGEST_PLAN = 4;
    private static final int MOST_SKEW = 120;
    private static final int WIDEST_SKEW = 99;

    private static final int ACT_RUN = 0;
    private static final int ACT_DECREE = 1;
    private static final int ACT_FORGIVE = 2;
    private static final int ACT_ENDOW = 3;

    private final Tape tape;
    private final Reader reader;
    private final Calendar now;
    private final Calendar[] boxes;
    private final boolean[] boxFull;
    private final Poll poll;
    private final Sway sway;
    private final Foresight foresight;
    private final Acts acts;
    private final Ledgers ledgers;
    private final int[] lying;
    private Republic told;
    private Republic spare;
    private int lyingCount;
    private int time;
    private int faultNumber;
    private int faultPlace;

    public JuneVote() {
        tape = new Tape();
        told = new Republic();
        spare = new Republic();
        reader = new Reader(tape, spare);
        now = new Calendar(told);
        boxes = new Calendar[BOXES];
        boxFull = new boolean[BOXES];
        for (int i = 0; i < BOXES; i++) {
            boxes[i] = new Calendar(told);
        }
        poll = new Poll(now);
        sway = new Sway(poll);
        foresight = new Foresight(new Calendar(told), poll);
        acts = new Acts();
        ledgers = new Ledgers();
        lying = new int[MOST_PEOPLE];
        faultPlace = NONE;
    }

    public int feed(int a, int b, int c, int d, int e) {
        if (tape.size + BYTES_AT_ONCE > MOST_BYTES) {
            return NONE;
        }
        tape.put(a);
        tape.put(b);
        tape.put(c);
        tape.put(d);
        tape.put(e);
        return tape.size;
    }

    public int end(int n) {
        if (n < 0 || n > tape.size) {
            return NONE;
        }
        tape.size = n;
        return n;
    }

    public int republic() {
        boolean good = reader.readInto(spare);
        faultNumber = reader.fault;
        faultPlace = reader.faultPlace;
        tape.size = 0;
        if (!good) {
            return NONE;
        }
        Republic old = told;
        told = spare;
        spare = old;
        beginAnew();
        return told.months;
    }

    private void beginAnew() {
        now.begin(told);
        acts.forgetAll();
        ledgers.count = 0;
        lyingCount = 0;
        for (int i = 0; i < BOXES; i++) {
            boxFull[i] = false;
        }
    }

    public int fault(int what) {
        switch (what) {
            case 0:
                return faultNumber;
            case 1:
                return faultPlace;
            default:
                return NONE;
        }
    }

    public int person(int person, int what) {
        if (!told.hasPerson(person)) {
            return GAP;
        }
        switch (what) {
            case 0:
                return now.votes[person];
            case 1:
                return now.have[person];
            default:
                return GAP;
        }
    }

    public int due(int due, int what) {
        if (!told.hasDue(due)) {
            return NONE;
        }
        switch (what) {
            case 0:
                return now.paid[due];
            case 1:
                return now.lapsed[due];
            case 2:
                return now.forgiven[due] ? 1 : 0;
            default:
                return NONE;
        }
    }

    public int length(int i) {
        return now.hadMonth(i) ? now.lengths[i] : NONE;
    }

    public int date(int n, int what) {
        int i = now.monthHolding(n);
        if (i == NONE || told.months == 0) {
            return NONE;
        }
        int day = n - now.firstDay(i);
        switch (what) {
            case 0:
                return i / told.months;
            case 1:
                return i % told.months;
            case 2:
                return day + 1;
            case 3:
                return told.weekDay(told.broken ? day : n);
            default:
                return NONE;
        }
    }

    public int number(int year, int month, int day) {
        if (year < 0 || year > MOST_THAT_WERE || !told.hasMonth(month)) {
            return NONE;
        }
        int i = year * told.months + month;
        if (!now.hadMonth(i) || day < 1 || day > now.lengths[i]) {
            return NONE;
        }
        return now.firstDay(i) + day - 1;
    }

    public int drift(int what) {
        int upper = now.driftUpper(0, 0);
        int lower = now.driftLower();
        int common = commonDivisor(Math.abs(upper), lower);
        switch (what) {
            case 0:
                return upper / common;
            case 1:
                return lower / common;
            default:
                return GAP;
        }
    }

    private static int commonDivisor(int a, int b) {
        int one = a;
        int other = b;
        // Euclid on ints ends within some fifty steps.
        for (int i = 0; i < 100 && other != 0; i++) {
            int left = one % other;
            one = other;
            other = left;
        }
        return Math.max(one, 1);
    }

    public int may(int length) {
        if (told.months == 0) {
            return NONE;
        }
        poll.open(now);
        return poll.mayBe(length) ? 1 : 0;
    }

    public int worth(int person, int length) {
        if (told.months == 0 || !told.hasPerson(person) || !isLength(length)) {
            return GAP;
        }
        poll.open(now);
        return poll.worthOf(person, length);
    }

    private static boolean isLength(int length) {
        return length >= 0 && length <= LONGEST;
    }

    public int votes(int person) {
        if (told.months == 0 || !told.hasPerson(person)) {
            return NONE;
        }
        poll.open(now);
        return poll.voteOf(person);
    }

    public int counted() {
        return told.months == 0 ? NONE : poll.resultFor(now);
    }

    public int run(int n) {
        if (n < 0 || n > MOST_AT_ONCE || !canCome(n)) {
            return NONE;
        }
        letCome(n);
        acts.note(ACT_RUN, n, 0, 0);
        return now.were;
    }

    private boolean canCome(int n) {
        return told.months > 0 && now.were + n <= MOST_THAT_WERE;
    }

    private void letCome(int n) {
        for (int i = 0; i < n; i++) {
            now.comes(poll.resultFor(now));
        }
    }

    public int decree(int length) {
        if (!isLength(length) || !canCome(1)) {
            return NONE;
        }
        now.comes(length);
        acts.note(ACT_DECREE, length, 0, 0);
        return now.were;
    }

    public int forgive(int due) {
        if (!told.hasDue(due)) {
            return NONE;
        }
        now.forgiven[due] = !now.forgiven[due];
        acts.note(ACT_FORGIVE, due, 0, 0);
        return now.forgiven[due] ? 1 : 0;
    }

    public int endow(int person, int votes) {
        if (!told.hasPerson(person) || votes < 0 || votes > MOST_VOTES) {
            return NONE;
        }
        int before = now.votes[person];
        now.votes[person] = votes;
        acts.note(ACT_ENDOW, person, before, votes);
        return before;
    }

    public boolean undo() {
        if (!acts.stepBack()) {
            return false;
        }
        int what = acts.what[acts.done];
        switch (acts.kind[acts.done]) {
            case ACT_RUN:
                takeBack(what);
                break;
            case ACT_DECREE:
                takeBack(1);
                break;
            case ACT_FORGIVE:
                turnForgiven(what);
                break;
            default:
                giveVotes(what, acts.before[acts.done]);
                break;
        }
        return true;
    }

    private void takeBack(int n) {
        for (int i = 0; i < n; i++) {
            now.goes();
        }
    }

    private void turnForgiven(int due) {
        if (told.hasDue(due)) {
            now.forgiven[due] = !now.forgiven[due];
        }
    }

    private void giveVotes(int person, int votes) {
        if (told.hasPerson(person)) {
            now.votes[person] = votes;
        }
    }

    public boolean redo() {
        if (!acts.canStepOn()) {
            return false;
        }
        int what = acts.what[acts.done];
        switch (acts.kind[acts.done]) {
            case ACT_RUN:
                letCome(what);
                break;
            case ACT_DECREE:
                now.comes(what);
                break;
            case ACT_FORGIVE:
                turnForgiven(what);
                break;
            default:
                giveVotes(what, acts.after[acts.done]);
                break;
        }
        acts.stepOn();
        return true;
    }

    public int turned(int people, int length) {
        if (!canBeAimedAt(length) || !isSet(people, told.people)) {
            return NONE;
        }
        return sway.turns(people, length) ? 1 : 0;
    }

    /** Also takes the votes as they are now, which the asking that follows builds on. */
    private boolean canBeAimedAt(int length) {
        if (told.months == 0) {
            return false;
        }
        sway.begin(now);
        return poll.mayBe(length);
    }

    private static boolean isSet(int set, int members) {
        return set >= 0 && set < 1 << members;
    }

    public int least(int length) {
        return canBeAimedAt(length) ? sway.leastSet(length) : NONE;
    }

    public int bribe(int length, int what) {
        if (what < 0 || what > 1 || !canBeAimedAt(length)) {
            return NONE;
        }
        int set = sway.cheapestSet(length);
        if (set == NONE) {
            return NONE;
        }
        return what == 0 ? sway.asked(set, length) : set;
    }

    public int rest(int what) {
        lyingCount = 0;
        if (told.months == 0 || what < 0 || what > 1) {
            return NONE;
        }
        sway.begin(now);
        int turns = sway.turnsTillRest();
        if (turns == NONE) {
            return NONE;
        }
        layDown(sway.ballots, told.people);
        return what == 0 ? turns : poll.outcome(sway.ballots);
    }

    private void layDown(int[] from, int n) {
        lyingCount = Math.min(n, Math.min(from.length, lying.length));
        System.arraycopy(from, 0, lying, 0, lyingCount);
    }

    public int plan(int person, int n) {
        lyingCount = 0;
        if (told.months == 0 || !told.hasPerson(person) || n < 1 || n > LONGEST_PLAN) {
            return GAP;
        }
        if (!foresight.findPlan(now, person, n)) {
            return GAP - 1;
        }
        layDown(foresight.bestRow, n);
        return foresight.bestSum;
    }

    public int span(int due, int what) {
        if (!told.hasDue(due) || now.forgiven[due]) {
            return REFUSED;
        }
        switch (what) {
            case 0:
                return now.soonestPaid(told.dueAt(due));
            case 1:
                return now.latestPaid(told.dueAt(due));
            case 2:
                return now.canLapse(told.dueAt(due)) ? 1 : 0;
            default:
                return REFUSED;
        }
    }

    public int skew(int n, int w, boolean repair) {
        if (told.months == 0 || n < 1 || n > MOST_SKEW || w < 0 || w > WIDEST_SKEW) {
            return REFUSED;
        }
        return foresight.firstSkewed(now, n, w, repair);
    }

    public int again(int what) {
        if (told.months == 0 || what < 0 || what > 1 || !foresight.findAgain(now)) {
            return NONE;
        }
        return what == 0 ? foresight.earlierYear : foresight.laterYear;
    }

    public int ahead(int n, int what, int person) {
        if (told.months == 0 || n < 0 || n > MOST_AT_ONCE) {
            return GAP;
        }
        switch (what) {
            case 0:
                return foresight.daysAhead(now, n);
            case 1:
                return foresight.lapsesAhead(now, n);
            case 2:
                return told.hasPerson(person) ? foresight.hadAhead(now, n, person) : GAP;
            default:
                return GAP;
        }
    }

    public int net(int person, int dues) {
        if (!told.hasPerson(person) || !isSet(dues, told.dues)) {
            return GAP;
        }
        return now.netOf(person, dues);
    }

    public int lies(int i) {
        return i >= 0 && i < lyingCount ? lying[i] : NONE;
    }

    public int ledger(int n, int month, int day) {
        if (!told.hasMonth(month)) {
            return NONE;
        }
        return ledgers.write(n, month, day, time);
    }

    public boolean untell(int ledger) {
        return ledgers.strike(ledger, time);
    }

    public int later(int by) {
        if (by < 0 || by > MOST_LATER || time + by > LATEST_TIME) {
            return NONE;
        }
        time += by;
        return time;
    }

    public int lengths(int m, int k) {
        if (told.months == 0 || !ledgers.canAsk(m)) {
            return NONE;
        }
        return ledgers.rows(told, m, k);
    }

    public int known(int m, int i, boolean most, int k) {
        if (told.months == 0 || !ledgers.canAsk(m) || i < 0 || i >= m) {
            return NONE;
        }
        int rows = ledgers.rows(told, m, k);
        if (rows == REFUSED) {
            return REFUSED;
        }
        return rows == 0 ? NONE : ledgers.knownLength(told, i, most);
    }

    public int image(int box) {
        if (box < 0 || box >= BOXES) {
            return NONE;
        }
        boxes[box].copyOf(now);
        boxFull[box] = true;
        return now.were;
    }

    public int back(int box) {
        if (box < 0 || box >= BOXES || !boxFull[box]) {
            return NONE;
        }
        now.copyOf(boxes[box]);
        acts.forgetAll();
        return now.were;
    }

    public int about(int what) {
        switch (what) {
            case 0:
                return told.months;
            case 1:
                return told.people;
            case 2:
                return told.dues;
            case 3:
                return now.were;
            case 4:
                return now.days;
            case 5:
                return now.nextYear();
            case 6:
                return now.nextMonth();
            case 7:
                return acts.done;
            case 8:
                return acts.kept - acts.done;
            case 9:
                return ledgers.count;
            case 10:
                return time;
            case 11:
                return tape.size;
            case 12:
                return told.units;
            case 13:
                return lyingCount;
            default:
                return NONE;
        }
    }

    /** The bytes that were fed, and the tokens cut from them, one at a time. */
    private static final class Tape {
        static final int END = 0;
        static final int BAD = 1;
        static final int NUMBER = 2;
        static final int NAME = 3;
        // A sign's kind is its character's number; a word's is FIRST_WORD and its place in WORDS.
        static final int FIRST_WORD = 100;
        static final int MONTH = 100;
        static final int DAYS = 101;
        static final int GETS = 102;
        static final int OWES = 103;
        static final int DRIFT = 104;
        static final int YEAR = 105;
        static final int HAVE = 106;
        static final int FROM = 107;
        static final int TO = 108;
        static final int PERSON = 109;
        static final int VOTES = 110;
        static final int WISH = 111;
        static final int DUE = 112;
        static final int BY = 113;
        static final int PAYS = 114;
        static final int ON = 115;
        static final int OF = 116;
        static final int LATE = 117;
        static final int SUN = 118;
        static final int AND = 119;
        static final int LAW = 120;
        static final int COUNT = 121;
        static final int MOST = 122;
        static final int MIDDLE = 123;
        static final int MEAN = 124;
        static final int WEEK = 125;
        static final int BROKEN = 126;
        static final int OR = 127;
        static final int NOT = 128;

        private static final String WORDS =
            "month days gets owes drift year have from to person votes wish due by pays on of late sun and law count most middle mean week broken or not ";
        private static final int WORD_COUNT = 29;
        private static final String SIGNS = ";()<>=+-*/%";
        private static final int LONGEST_WORD = 8;
        private static final int MOST_DIGITS = 4;

        private final byte[] bytes;
        private final long[] words;
        private final int[] kinds;
        private final int[] places;
        private final long[] values;
        int size;
        private int count;
        private int next;
        /** Of the token that is looked at: its kind, its first byte, its number or name. */
        int kind;
        int place;
        int number;
        long name;

        Tape() {
            bytes = new byte[MOST_BYTES];
            words = new long[WORD_COUNT];
            kinds = new int[MOST_BYTES + 1];
            places = new int[MOST_BYTES + 1];
            values = new long[MOST_BYTES + 1];
            int word = 0;
            long key = 0;
            for (int i = 0; i < WORDS.length() && word < WORD_COUNT; i++) {
                char letter = WORDS.charAt(i);
                if (letter == ' ') {
                    words[word] = key;
                    word++;
                    key = 0;
                } else {
                    key = keyWith(key, letter);
                }
            }
        }

        /** A word is kept as one long, five bits a letter, so that names are compared without texts. */
        private static long keyWith(long key, int letter) {
            return key * 32 + (letter - 'a' + 1);
        }

        void put(int four) {
            for (int shift = 24; shift >= 0; shift -= 8) {
                if (size >= 0 && size < bytes.length) {
                    bytes[size] = (byte) (four >>> shift);
                    size++;
                }
            }
        }

        /** Cuts all that was fed into tokens, and looks at the first. */
        void cut() {
            count = 0;
            int i = 0;
            // Each step goes on by a byte at least.
            for (int steps = 0; steps < MOST_BYTES && i < size; steps++) {
                int first = at(i);
                if (isBlank(first)) {
                    i++;
                } else if (isLetter(first)) {
                    i = cutWord(i);
                } else if (isDigit(first)) {
                    i = cutNumber(i);
                } else {
                    lay(SIGNS.indexOf((char) first) >= 0 ? first : BAD, i, 0);
                    i++;
                }
            }
            lay(END, size, 0);
            next = 0;
            take();
        }

        private int at(int i) {
            return i >= 0 && i < size && i < bytes.length ? bytes[i] & 255 : 0;
        }

        private void lay(int sort, int from, long value) {
            if (count < kinds.length) {
                kinds[count] = sort;
                places[count] = from;
                values[count] = value;
                count++;
            }
        }

        private int cutWord(int from) {
            int i = from;
            long key = 0;
            for (; i < size && isLetter(at(i)); i++) {
                key = keyWith(key, at(i));
            }
            lay(i - from > LONGEST_WORD ? BAD : kindOfWord(key), from, key);
            return i;
        }

        private int kindOfWord(long key) {
            for (int i = 0; i < words.length; i++) {
                if (words[i] == key) {
                    return FIRST_WORD + i;
                }
            }
            return NAME;
        }

        private int cutNumber(int from) {
            int i = from;
            long value = 0;
            for (; i < size && isDigit(at(i)); i++) {
                value = value * 10 + (at(i) - '0');
            }
            boolean letterBehind = i < size && isLetter(at(i));
            lay(letterBehind || i - from > MOST_DIGITS ? BAD : NUMBER, from, value);
            return i;
        }

        /** Goes on to the next token; behind the last it stays there. */
        void take() {
            if (next < count && next < kinds.length) {
                kind = kinds[next];
                place = places[next];
                number = (int) values[next];
                name = values[next];
                next++;
            }
        }

        private static boolean isBlank(int sign) {
            return sign == 32 || sign == 10;
        }

        private static boolean isLetter(int sign) {
            return sign >= 'a' && sign <= 'z';
        }

        private static boolean isDigit(int sign) {
            return sign >= '0' && sign <= '9';
        }
    }

    /** Reads the text of a republic, up to its first fault. Its methods answer whether all went well. */
    private static final class Reader {
        private static final int NO_TOKEN = 1;
        private static final int CANT_STAND = 2;
        private static final int TOLD_ALREADY = 3;
        private static final int CANT_BE = 4;
        private static final int UNKNOWN = 5;

        private static final int MOST_UNITS = 90;
        private static final int MOST_UNITS_IN_ONE = 30;
        private static final int MOST_AROUND = 6;
        private static final int LONGEST_SUN_YEAR = 186;
        private static final int MOST_OF_FRACTION = 99;
        private static final int MOST_PAID = 99;
        private static final int LONGEST_WEEK = 9;

        // What binds less stands lower; a one is no chain, but not or a relation.
        private static final int OR_CHAIN = 0;
        private static final int AND_CHAIN = 1;
        private static final int ONE = 2;
        private static final int SUM_CHAIN = 3;
        private static final int TERM_CHAIN = 4;
        private static final int UNIT = 5;
        private static final int NO_CHAIN = 6;

        private final Tape tape;
        private final long[] monthNames;
        private final long[] personNames;
        private final long[] dueNames;
        private Republic draft;
        private int toldOnce;
        private int unitsInOne;
        private int value;
        int fault;
        int faultPlace;

        Reader(Tape from, Republic first) {
            tape = from;
            draft = first;
            monthNames = new long[MOST_MONTHS];
            personNames = new long[MOST_PEOPLE];
            dueNames = new long[MOST_DUES];
            faultPlace = NONE;
        }

        boolean readInto(Republic target) {
            draft = target;
            draft.clear();
            fault = 0;
            faultPlace = NONE;
            toldOnce = 0;
            tape.cut();
            for (int i = 0; i < MOST_BYTES && tape.kind != Tape.END; i++) {
                if (!readLine() || !want(';')) {
                    return false;
                }
            }
            draft.settleSun();
            return true;
        }

        private boolean refuse(int number) {
            fault = tape.kind == Tape.BAD ? NO_TOKEN : number;
            faultPlace = tape.place;
            return false;
        }

        private boolean want(int kind) {
            if (tape.kind != kind) {
                return refuse(CANT_STAND);
            }
            tape.take();
            return true;
        }

        /** The number is left in value. */
        private boolean wantNumber(int least, int most) {
            if (tape.kind != Tape.NUMBER) {
                return refuse(CANT_STAND);
            }
            if (tape.number < least || tape.number > most) {
                return refuse(CANT_BE);
            }
            value = tape.number;
            tape.take();
            return true;
        }

        /** The name is put behind the ones that count; it is one of them when the draft counts its line. */
        private boolean wantNewName(long[] names, int count) {
            if (tape.kind != Tape.NAME || count < 0 || count >= names.length) {
                return refuse(CANT_STAND);
            }
            if (placeOfName(names, count) != NONE) {
                return refuse(TOLD_ALREADY);
            }
            names[count] = tape.name;
            tape.take();
            return true;
        }

        /** Its place is left in value; that of the taken one can't be told again. */
        private boolean wantKnownName(long[] names, int count, int taken) {
            if (tape.kind != Tape.NAME) {
                return refuse(CANT_STAND);
            }
            value = placeOfName(names, count);
            if (value == NONE) {
                return refuse(UNKNOWN);
            }
            if (value == taken) {
                return refuse(TOLD_ALREADY);
            }
            tape.take();
            return true;
        }

        private int placeOfName(long[] names, int count) {
            for (int i = 0; i < count && i < names.length; i++) {
                if (names[i] == tape.name) {
                    return i;
                }
            }
            return NONE;
        }

        private boolean readLine() {
            switch (tape.kind) {
                case Tape.MONTH:
                    return beginLine(draft.months < MOST_MONTHS) && readMonth();
                case Tape.PERSON:
                    return beginLine(draft.people < MOST_PEOPLE) && readPerson();
                case Tape.DUE:
                    return beginLine(draft.dues < MOST_DUES) && readDue();
                case Tape.SUN:
                    return beginOnce(1) && readSun();
                case Tape.LAW:
                    return beginOnce(2) && readFormula(Republic.LAW);
                case Tape.COUNT:
                    return beginOnce(4) && readCount();
                case Tape.WEEK:
                    return beginOnce(8) && readWeek();
                default:
                    return refuse(CANT_STAND);
            }
        }

        private boolean beginLine(boolean hasRoom) {
            if (!hasRoom) {
                return refuse(CANT_STAND);
            }
            tape.take();
            return true;
        }

        private boolean beginOnce(int bit) {
            boolean first = (toldOnce & bit) == 0;
            toldOnce |= bit;
            return beginLine(first);
        }

        private boolean readMonth() {
            if (!wantNewName(monthNames, draft.months) || !want(Tape.FROM) || !wantNumber(0, LONGEST)) {
                return false;
            }
            int from = value;
            if (!want(Tape.TO) || !wantNumber(from, LONGEST)) {
                return false;
            }
            draft.addMonth(from, value);
            return true;
        }

        private boolean readPerson() {
            if (!wantNewName(personNames, draft.people) || !want(Tape.VOTES) || !wantNumber(0, MOST_VOTES)) {
                return false;
            }
            draft.addPerson(value);
            if (tape.kind != Tape.WISH) {
                return true;
            }
            tape.take();
            return readFormula(draft.people - 1);
        }

        private boolean readDue() {
            if (!wantNewName(dueNames, draft.dues)) {
                return false;
            }
            Due due = draft.dueAt(draft.dues);
            if (!want(Tape.BY) || !wantKnownName(personNames, draft.people, NONE)) {
                return false;
            }
            due.by = value;
            if (!want(Tape.TO) || !wantKnownName(personNames, draft.people, due.by)) {
                return false;
            }
            due.to = value;
            if (!want(Tape.PAYS) || !wantNumber(1, MOST_PAID)) {
                return false;
            }
            due.pays = value;
            return readDueDay(due);
        }

        private boolean readDueDay(Due due) {
            if (!want(Tape.ON) || !wantNumber(1, LONGEST)) {
                return false;
            }
            due.day = value;
            if (!want(Tape.OF) || !wantKnownName(monthNames, draft.months, NONE)) {
                return false;
            }
            due.month = value;
            due.late = tape.kind == Tape.LATE;
            if (due.late) {
                tape.take();
            }
            draft.dues++;
            return true;
        }

        private boolean readSun() {
            if (!wantNumber(0, LONGEST_SUN_YEAR)) {
                return false;
            }
            int whole = value;
            if (!want(Tape.AND) || !wantNumber(0, MOST_OF_FRACTION)) {
                return false;
            }
            int upper = value;
            if (!want(Tape.OF) || !wantNumber(upper + 1, MOST_OF_FRACTION)) {
                return false;
            }
            draft.setSun(whole, upper, value);
            return true;
        }

        private boolean readCount() {
            if (tape.kind != Tape.MOST && tape.kind != Tape.MIDDLE && tape.kind != Tape.MEAN) {
                return refuse(CANT_STAND);
            }
            draft.way = tape.kind;
            tape.take();
            return true;
        }

        private boolean readWeek() {
            if (!wantNumber(1, LONGEST_WEEK)) {
                return false;
            }
            draft.week = value;
            draft.broken = tape.kind == Tape.BROKEN;
            if (draft.broken) {
                tape.take();
            }
            return true;
        }

        private boolean readFormula(int which) {
            unitsInOne = 0;
            draft.beginFormula(which);
            boolean good = readChain(OR_CHAIN, 0);
            draft.endFormula(which);
            return good;
        }

        /** around: how many ( e ) and ones behind not this stands within; it keeps the recursion low. */
        private boolean readChain(int level, int around) {
            if (level == ONE) {
                return readOne(around);
            }
            if (level >= UNIT) {
                return readUnit(around);
            }
            if (!readChain(level + 1, around)) {
                return false;
            }
            for (int i = 0; i < MOST_UNITS && chainOf(tape.kind) == level; i++) {
                int joint = tape.kind;
                tape.take();
                if (!readChain(level + 1, around)) {
                    return false;
                }
                draft.emit(-joint);
            }
            return true;
        }

        private static int chainOf(int kind) {
            switch (kind) {
                case Tape.OR:
                    return OR_CHAIN;
                case Tape.AND:
                    return AND_CHAIN;
                case '+':
                case '-':
                    return SUM_CHAIN;
                case '*':
                case '/':
                case '%':
                    return TERM_CHAIN;
                default:
                    return NO_CHAIN;
            }
        }

        private boolean readOne(int around) {
            if (tape.kind == Tape.NOT) {
                return readNot(around);
            }
            if (!readChain(SUM_CHAIN, around)) {
                return false;
            }
            int relation = tape.kind;
            if (relation != '<' && relation != '>' && relation != '=') {
                return true;
            }
            tape.take();
            if (!readChain(SUM_CHAIN, around)) {
                return false;
            }
            draft.emit(-relation);
            return true;
        }

        private boolean readNot(int around) {
            if (around > MOST_AROUND) {
                return refuse(CANT_STAND);
            }
            tape.take();
            if (!readOne(around + 1)) {
                return false;
            }
            draft.emit(-Tape.NOT);
            return true;
        }

        private boolean readUnit(int around) {
            boolean word = tape.kind >= Tape.MONTH && tape.kind <= Tape.HAVE;
            boolean deep = tape.kind == '(' && around > MOST_AROUND;
            if (!word && tape.kind != Tape.NUMBER && tape.kind != '(' || deep) {
                return refuse(CANT_STAND);
            }
            if (draft.units >= MOST_UNITS || unitsInOne >= MOST_UNITS_IN_ONE) {
                return refuse(CANT_STAND);
            }
            draft.units++;
            unitsInOne++;
            if (tape.kind == '(') {
                tape.take();
                return readChain(OR_CHAIN, around + 1) && want(')');
            }
            draft.emit(word ? -tape.kind : tape.number);
            tape.take();
            return true;
        }
    }

    /** What a due is: who pays whom, how much, when. */
    private static final class Due {
        int by;
        int to;
        int pays;
        int day;
        int month;
        boolean late;

        Due() {
            // All is set when its line is read.
        }

        /** On which day of its month it is paid, if that is so long; 0 if it lapses. */
        int dayPaid(int length) {
            if (length >= day) {
                return day;
            }
            return late ? Math.max(length, 0) : 0;
        }
    }

    /** What the text told; nothing in it changes once it is read. */
    private static final class Republic {
        /** The law's formula stands behind the wishes of the people. */
        static final int LAW = MOST_PEOPLE;
        private static final int DAYS_OF_A_MONTH = 30;

        int months;
        final int[] from;
        final int[] to;
        int people;
        final int[] firstVotes;
        int dues;
        private final Due[] dueRow;
        /** The sun's year is sunUpper of sunLower days; 0 of them: not told yet. */
        int sunUpper;
        int sunLower;
        int way;
        int week;
        boolean broken;
        int units;
        /** Whether any formula asks what one gets or owes. */
        boolean asksFlows;
        /** Formulas, operands first: a number stands for itself, all else as its kind of token below 0. */
        final int[] code;
        private int codeSize;
        private final int[] starts;
        private final int[] ends;

        Republic() {
            from = new int[MOST_MONTHS];
            to = new int[MOST_MONTHS];
            firstVotes = new int[MOST_PEOPLE];
            dueRow = new Due[MOST_DUES];
            for (int i = 0; i < MOST_DUES; i++) {
                dueRow[i] = new Due();
            }
            code = new int[MOST_BYTES];
            starts = new int[MOST_PEOPLE + 1];
            ends = new int[MOST_PEOPLE + 1];
            clear();
        }

        void clear() {
            months = 0;
            people = 0;
            dues = 0;
            sunUpper = 0;
            sunLower = 0;
            way = Tape.MOST;
            week = 7;
            broken = false;
            units = 0;
            asksFlows = false;
            codeSize = 0;
            for (int i = 0; i < starts.length && i < ends.length; i++) {
                starts[i] = 0;
                ends[i] = 0;
            }
        }

        void addMonth(int least, int most) {
            if (months < MOST_MONTHS) {
                from[months] = least;
                to[months] = most;
                months++;
            }
        }

        void addPerson(int votes) {
            if (people < MOST_PEOPLE) {
                firstVotes[people] = votes;
                people++;
            }
        }

        void setSun(int whole, int upper, int lower) {
            sunUpper = whole * lower + upper;
            sunLower = lower;
        }

        void settleSun() {
            if (sunLower == 0) {
                setSun(DAYS_OF_A_MONTH * months, 0, 1);
            }
        }

        void beginFormula(int which) {
            if (which >= 0 && which < starts.length) {
                starts[which] = codeSize;
            }
        }

        void endFormula(int which) {
            if (which >= 0 && which < ends.length) {
                ends[which] = codeSize;
            }
        }

        void emit(int element) {
            if (codeSize < code.length) {
                code[codeSize] = element;
                codeSize++;
                asksFlows |= element == -Tape.GETS || element == -Tape.OWES;
            }
        }

        int startOf(int which) {
            return which >= 0 && which < starts.length ? starts[which] : 0;
        }

        int endOf(int which) {
            return which >= 0 && which < ends.length ? ends[which] : 0;
        }

        boolean hasLaw() {
            return endOf(LAW) > startOf(LAW);
        }

        boolean hasMonth(int month) {
            return month >= 0 && month < months;
        }

        boolean hasPerson(int person) {
            return person >= 0 && person < people;
        }

        boolean hasDue(int due) {
            return due >= 0 && due < dues;
        }

        Due dueAt(int due) {
            return due >= 0 && due < dueRow.length ? dueRow[due] : dueRow[0];
        }

        int leastOf(int month) {
            return hasMonth(month) ? from[month] : 0;
        }

        int mostOf(int month) {
            return hasMonth(month) ? to[month] : 0;
        }

        int weekDay(int day) {
            return week > 0 ? Math.floorMod(day, week) : 0;
        }
    }

    /** The months that were, and what came of them. */
    private static final class Calendar {
        /** Room for 300 months that were and for what is looked at ahead of them (191 at most). */
        private static final int ROOM = 512;

        Republic republic;
        final int[] lengths;
        int were;
        int days;
        final int[] have;
        final int[] votes;
        final int[] paid;
        final int[] lapsed;
        final boolean[] forgiven;

        Calendar(Republic of) {
            republic = of;
            lengths = new int[ROOM];
            have = new int[MOST_PEOPLE];
            votes = new int[MOST_PEOPLE];
            paid = new int[MOST_DUES];
            lapsed = new int[MOST_DUES];
            forgiven = new boolean[MOST_DUES];
        }

        void begin(Republic of) {
            republic = of;
            were = 0;
            days = 0;
            for (int i = 0; i < MOST_PEOPLE; i++) {
                have[i] = 0;
                votes[i] = of.firstVotes[i];
            }
            for (int i = 0; i < MOST_DUES; i++) {
                paid[i] = 0;
                lapsed[i] = 0;
                forgiven[i] = false;
            }
        }

        void copyOf(Calendar other) {
            republic = other.republic;
            were = other.were;
            days = other.days;
            System.arraycopy(other.lengths, 0, lengths, 0, Math.min(were, ROOM));
            System.arraycopy(other.have, 0, have, 0, MOST_PEOPLE);
            System.arraycopy(other.votes, 0, votes, 0, MOST_PEOPLE);
            System.arraycopy(other.paid, 0, paid, 0, MOST_DUES);
            System.arraycopy(other.lapsed, 0, lapsed, 0, MOST_DUES);
            for (int i = 0; i < MOST_DUES; i++) {
                forgiven[i] = other.forgiven[i];
            }
        }

        int nextMonth() {
            return republic.months > 0 ? were % republic.months : NONE;
        }

        /** Years count from 0, and without months none was. */
        int nextYear() {
            return republic.months > 0 ? were / republic.months : 0;
        }

        boolean hadMonth(int i) {
            return i >= 0 && i < were && i < lengths.length;
        }

        void comes(int length) {
            if (were < lengths.length) {
                settleDues(length, 1);
                lengths[were] = length;
                were++;
                days += length;
            }
        }

        /** Takes the latest month back; what is forgiven must be as it was when the month came. */
        void goes() {
            if (were > 0 && were <= lengths.length) {
                were--;
                int length = lengths[were];
                days -= length;
                settleDues(length, -1);
            }
        }

        private void settleDues(int length, int times) {
            int month = nextMonth();
            for (int i = 0; i < republic.dues && i < MOST_DUES; i++) {
                Due due = republic.dueAt(i);
                if (due.month == month && !forgiven[i]) {
                    if (due.dayPaid(length) == 0) {
                        lapsed[i] += times;
                    } else {
                        paid[i] += times;
                        give(due.by, -times * due.pays);
                        give(due.to, times * due.pays);
                    }
                }
            }
        }

        private void give(int person, int sum) {
            if (person >= 0 && person < have.length) {
                have[person] += sum;
            }
        }

        int netOf(int person, int set) {
            int sum = 0;
            for (int i = 0; i < republic.dues && i < MOST_DUES; i++) {
                Due due = republic.dueAt(i);
                // What is forgiven counts, too: who asks tells the set.
                if ((set >>> i & 1) != 0) {
                    if (due.to == person) {
                        sum += due.pays;
                    }
                    if (due.by == person) {
                        sum -= due.pays;
                    }
                }
            }
            return sum;
        }

        int driftLower() {
            return Math.max(1, republic.sunLower * republic.months);
        }

        /** The upper part of drift (over driftLower) when so many days and months more were. */
        int driftUpper(int moreDays, int moreMonths) {
            return (days + moreDays) * driftLower() - (were + moreMonths) * republic.sunUpper;
        }

        int monthHolding(int n) {
            int behind = 0;
            for (int i = 0; i < were && i < lengths.length; i++) {
                behind += lengths[i];
                if (n >= 0 && n < behind) {
                    return i;
                }
            }
            return NONE;
        }

        int firstDay(int month) {
            int first = 0;
            for (int i = 0; i < month && i < lengths.length; i++) {
                first += lengths[i];
            }
            return first;
        }

        int soonestPaid(Due due) {
            for (int length = republic.leastOf(due.month); length <= republic.mostOf(due.month); length++) {
                // The least length that pays at all pays the soonest.
                if (due.dayPaid(length) > 0) {
                    return daysTill(due.month, false) + due.dayPaid(length);
                }
            }
            return NONE;
        }

        int latestPaid(Due due) {
            int day = due.dayPaid(republic.mostOf(due.month));
            return day > 0 ? daysTill(due.month, true) + day : NONE;
        }

        boolean canLapse(Due due) {
            return due.dayPaid(republic.leastOf(due.month)) == 0;
        }

        /** How many days there are, at the most or the least, from now on till that month begins. */
        private int daysTill(int month, boolean most) {
            int sum = 0;
            int one = nextMonth();
            for (int i = 0; i < MOST_MONTHS && one != month; i++) {
                sum += most ? republic.mostOf(one) : republic.leastOf(one);
                one = one + 1 < republic.months ? one + 1 : 0;
            }
            return sum;
        }
    }

    /** What may be, what each votes for, and what comes of it, for a calendar's coming month. */
    private static final class Poll {
        private static final int NOBODY = -1;
        /** One e has 30 units at most, so no more values wait at once. */
        private static final int MOST_WAITING = 40;

        private final int[] waiting;
        private final int[] tally;
        private final int[] ballots;
        /** What each would get and pay in the coming month of each length: [person * LENGTHS + length]. */
        private final int[] gets;
        private final int[] owes;
        Calendar calendar;
        /** The lengths that may be, as bits. */
        int mask;
        private int month;
        private int year;
        /** Drift behind a coming month without days, cut down. */
        private int driftOfNone;

        Poll(Calendar first) {
            waiting = new int[MOST_WAITING];
            tally = new int[LENGTHS];
            ballots = new int[MOST_PEOPLE];
            gets = new int[MOST_PEOPLE * LENGTHS];
            owes = new int[MOST_PEOPLE * LENGTHS];
            calendar = first;
        }

        /** All asking is about this calendar's coming month from now on, as it is now. */
        void open(Calendar of) {
            calendar = of;
            month = of.nextMonth();
            year = of.nextYear();
            driftOfNone = Math.floorDiv(of.driftUpper(0, 1), of.driftLower());
            if (of.republic.asksFlows) {
                fillFlows();
            }
            mask = maskByLaw(of.republic);
        }

        private void fillFlows() {
            for (int i = 0; i < gets.length && i < owes.length; i++) {
                gets[i] = 0;
                owes[i] = 0;
            }
            for (int i = 0; i < calendar.republic.dues && i < MOST_DUES; i++) {
                Due due = calendar.republic.dueAt(i);
                if (due.month == month && !calendar.forgiven[i]) {
                    addFlow(gets, due.to, due);
                    addFlow(owes, due.by, due);
                }
            }
        }

        private static void addFlow(int[] flows, int person, Due due) {
            for (int length = 0; length < LENGTHS; length++) {
                int i = person * LENGTHS + length;
                if (i >= 0 && i < flows.length && due.dayPaid(length) != 0) {
                    flows[i] += due.pays;
                }
            }
        }

        private int maskByLaw(Republic republic) {
            int all = 0;
            int lawful = 0;
            boolean free = !republic.hasLaw();
            int most = republic.mostOf(month);
            for (int length = republic.leastOf(month); length <= most; length++) {
                all |= 1 << length;
                if (free || valueOf(Republic.LAW, NOBODY, length) != 0) {
                    lawful |= 1 << length;
                }
            }
            return lawful != 0 ? lawful : all;
        }

        boolean mayBe(int length) {
            return isLength(length) && (mask >>> length & 1) != 0;
        }

        private int leastThatMayBe() {
            for (int length = 0; length < LENGTHS; length++) {
                if ((mask >>> length & 1) != 0) {
                    return length;
                }
            }
            return 0;
        }

        int worthOf(int person, int length) {
            return valueOf(person, person, length);
        }

        int voteOf(int person) {
            int vote = NONE;
            int most = 0;
            for (int length = 0; length < LENGTHS; length++) {
                if (mayBe(length)) {
                    int worth = valueOf(person, person, length);
                    if (vote == NONE || worth > most) {
                        vote = length;
                        most = worth;
                    }
                }
            }
            return vote;
        }

        void takeBallots(int[] into) {
            for (int i = 0; i < calendar.republic.people && i < into.length; i++) {
                into[i] = voteOf(i);
            }
        }

        int resultFor(Calendar of) {
            open(of);
            takeBallots(ballots);
            return outcome(ballots);
        }

        /** What is counted, if all vote so. */
        int outcome(int[] cast) {
            int all = fillTally(cast);
            if (all <= 0) {
                return leastThatMayBe();
            }
            switch (calendar.republic.way) {
                case Tape.MIDDLE:
                    return middle(all);
                case Tape.MEAN:
                    return mean(all);
                default:
                    return mostVoted();
            }
        }

        private int fillTally(int[] cast) {
            for (int length = 0; length < LENGTHS; length++) {
                tally[length] = 0;
            }
            int all = 0;
            for (int i = 0; i < calendar.republic.people && i < cast.length && i < MOST_PEOPLE; i++) {
                if (isLength(cast[i])) {
                    tally[cast[i]] += calendar.votes[i];
                    all += calendar.votes[i];
                }
            }
            return all;
        }

        private int mostVoted() {
            int best = 0;
            for (int length = 1; length < LENGTHS; length++) {
                if (tally[length] > tally[best]) {
                    best = length;
                }
            }
            return best;
        }

        private int middle(int all) {
            int sum = 0;
            for (int length = 0; length < LENGTHS; length++) {
                sum += tally[length];
                if (2 * sum >= all) {
                    return length;
                }
            }
            return LONGEST;
        }

        private int mean(int all) {
            int sum = 0;
            for (int length = 0; length < LENGTHS; length++) {
                sum += tally[length] * length;
            }
            return all > 0 ? sum / all : 0;
        }

        /** What comes of a formula, asked by a person of a length; 0 of one that was not told. */
        private int valueOf(int which, int person, int length) {
            int[] code = calendar.republic.code;
            int end = Math.min(calendar.republic.endOf(which), code.length);
            int top = 0;
            for (int i = calendar.republic.startOf(which); i < end; i++) {
                int element = code[i];
                if (element >= 0 || isWord(-element)) {
                    if (top >= waiting.length) {
                        return 0;
                    }
                    waiting[top] = element >= 0 ? element : factOf(-element, person, length);
                    top++;
                } else if (element == -Tape.NOT) {
                    if (top < 1) {
                        return 0;
                    }
                    waiting[top - 1] = waiting[top - 1] == 0 ? 1 : 0;
                } else {
                    if (top < 2) {
                        return 0;
                    }
                    top--;
                    waiting[top - 1] = join(-element, waiting[top - 1], waiting[top]);
                }
            }
            return top > 0 ? waiting[0] : 0;
        }

        private static boolean isWord(int kind) {
            return kind >= Tape.MONTH && kind <= Tape.HAVE;
        }

        private int factOf(int kind, int person, int length) {
            boolean somebody = person >= 0 && person < MOST_PEOPLE && length >= 0 && length < LENGTHS;
            switch (kind) {
                case Tape.DAYS:
                    return length;
                case Tape.GETS:
                    return somebody ? gets[person * LENGTHS + length] : 0;
                case Tape.OWES:
                    return somebody ? owes[person * LENGTHS + length] : 0;
                case Tape.DRIFT:
                    // Whole days more are as many more behind the cut, too.
                    return driftOfNone + length;
                case Tape.YEAR:
                    return year;
                case Tape.MONTH:
                    return month;
                default:
                    return somebody ? calendar.have[person] : 0;
            }
        }

        private static int join(int kind, int a, int b) {
            switch (kind) {
                case '+':
                    return a + b;
                case '-':
                    return a - b;
                case '*':
                    return a * b;
                case '/':
                    return b == 0 ? 0 : a / b;
                case '%':
                    return b == 0 ? 0 : a % b;
                case '<':
                    return a < b ? 1 : 0;
                case '>':
                    return a > b ? 1 : 0;
                case '=':
                    return a == b ? 1 : 0;
                case Tape.AND:
                    return a != 0 && b != 0 ? 1 : 0;
                default:
                    return a != 0 || b != 0 ? 1 : 0;
            }
        }
    }

    /** Who together turns what is counted, for how much, and where votes come to rest. */
    private static final class Sway {
        private static final int MOST_TURNS = 40;

        private final Poll poll;
        private final int[] own;
        final int[] ballots;
        private final int[] worths;
        private int people;

        Sway(Poll asked) {
            poll = asked;
            own = new int[MOST_PEOPLE];
            ballots = new int[MOST_PEOPLE];
            worths = new int[MOST_PEOPLE * LENGTHS];
        }

        void begin(Calendar of) {
            poll.open(of);
            poll.takeBallots(own);
            people = Math.min(of.republic.people, MOST_PEOPLE);
        }

        boolean turns(int set, int length) {
            for (int i = 0; i < people; i++) {
                ballots[i] = isIn(set, i) ? length : own[i];
            }
            return poll.outcome(ballots) == length;
        }

        private static boolean isIn(int set, int i) {
            return (set >>> i & 1) != 0;
        }

        int leastSet(int length) {
            int best = NONE;
            for (int set = 0; set < 1 << people; set++) {
                if (turns(set, length) && (best == NONE || Integer.bitCount(set) < Integer.bitCount(best))) {
                    best = set;
                }
            }
            return best;
        }

        int cheapestSet(int length) {
            int best = NONE;
            int least = 0;
            for (int set = 0; set < 1 << people; set++) {
                if (turns(set, length)) {
                    int sum = asked(set, length);
                    if (best == NONE || sum < least) {
                        best = set;
                        least = sum;
                    }
                }
            }
            return best;
        }

        int asked(int set, int length) {
            int sum = 0;
            for (int i = 0; i < people; i++) {
                if (isIn(set, i)) {
                    sum += poll.worthOf(i, own[i]) - poll.worthOf(i, length);
                }
            }
            return sum;
        }

        /** The votes at rest are left in ballots. */
        int turnsTillRest() {
            for (int i = 0; i < people; i++) {
                ballots[i] = own[i];
                for (int length = 0; length < LENGTHS; length++) {
                    worths[i * LENGTHS + length] = poll.worthOf(i, length);
                }
            }
            for (int turn = 1; turn <= MOST_TURNS; turn++) {
                if (!turnChangesVotes()) {
                    return turn;
                }
            }
            return NONE;
        }

        private boolean turnChangesVotes() {
            boolean changed = false;
            for (int i = 0; i < people; i++) {
                int before = ballots[i];
                ballots[i] = bestVote(i);
                changed |= ballots[i] != before;
            }
            return changed;
        }

        private int bestVote(int person) {
            int best = ballots[person];
            int most = worthOfOutcome(person, best);
            for (int length = 0; length < LENGTHS; length++) {
                if (poll.mayBe(length)) {
                    int worth = worthOfOutcome(person, length);
                    if (worth > most) {
                        best = length;
                        most = worth;
                    }
                }
            }
            return best;
        }

        private int worthOfOutcome(int person, int vote) {
            ballots[person] = vote;
            int outcome = poll.outcome(ballots);
            return isLength(outcome) ? worths[person * LENGTHS + outcome] : 0;
        }
    }

    /** What comes, if it goes on so; all is tried on a calendar of its own. */
    private static final class Foresight {
        private static final int MOST_ROWS = 20000;
        private static final int LATEST_YEAR = 30;

        private final Calendar trial;
        private final Poll poll;
        private final int[] row;
        private final int[] worths;
        final int[] bestRow;
        int bestSum;
        private boolean found;
        private int rows;
        private int person;
        private int months;
        int earlierYear;
        int laterYear;

        Foresight(Calendar own, Poll asked) {
            trial = own;
            poll = asked;
            row = new int[LONGEST_PLAN];
            worths = new int[LONGEST_PLAN * LENGTHS];
            bestRow = new int[LONGEST_PLAN];
        }

        private void step() {
            trial.comes(poll.resultFor(trial));
        }

        private void stepFrom(Calendar now, int n) {
            trial.copyOf(now);
            for (int i = 0; i < n; i++) {
                trial.comes(poll.resultFor(trial));
            }
        }

        int daysAhead(Calendar now, int n) {
            stepFrom(now, n);
            return trial.days;
        }

        int lapsesAhead(Calendar now, int n) {
            stepFrom(now, n);
            int sum = 0;
            for (int i = 0; i < MOST_DUES; i++) {
                sum += trial.lapsed[i] - now.lapsed[i];
            }
            return sum;
        }

        int hadAhead(Calendar now, int n, int who) {
            stepFrom(now, n);
            return who >= 0 && who < MOST_PEOPLE ? trial.have[who] : GAP;
        }

        int firstSkewed(Calendar now, int n, int w, boolean repair) {
            trial.copyOf(now);
            for (int i = 1; i <= n; i++) {
                if (repair) {
                    trial.comes(repaired());
                } else {
                    step();
                }
                if (Math.abs(trial.driftUpper(0, 0)) > w * trial.driftLower()) {
                    return i;
                }
            }
            return NONE;
        }

        private int repaired() {
            poll.open(trial);
            int greatest = 0;
            for (int length = 0; length < LENGTHS; length++) {
                if (poll.mayBe(length)) {
                    if (trial.driftUpper(length, 1) >= 0) {
                        return length;
                    }
                    greatest = length;
                }
            }
            return greatest;
        }

        boolean findAgain(Calendar now) {
            trial.copyOf(now);
            for (int i = 0; i < MOST_MONTHS && trial.nextMonth() > 0; i++) {
                step();
            }
            int first = trial.were;
            int size = trial.republic.months;
            for (int year = 0; year <= LATEST_YEAR; year++) {
                for (int i = 0; i < size; i++) {
                    step();
                }
                for (int earlier = 0; earlier < year; earlier++) {
                    if (areAlike(first + earlier * size, first + year * size, size)) {
                        earlierYear = earlier;
                        laterYear = year;
                        return true;
                    }
                }
            }
            return false;
        }

        private boolean areAlike(int one, int other, int size) {
            for (int i = 0; i < size; i++) {
                if (!trial.hadMonth(one + i) || !trial.hadMonth(other + i)
                        || trial.lengths[one + i] != trial.lengths[other + i]) {
                    return false;
                }
            }
            return true;
        }

        /** False if too many rows would be looked at; else the plan is in bestRow and bestSum. */
        boolean findPlan(Calendar now, int who, int n) {
            trial.copyOf(now);
            person = who;
            months = Math.min(n, LONGEST_PLAN);
            found = false;
            rows = 0;
            return !isSpentAtOnce(now.republic, now.nextMonth()) && lookOn(0, 0);
        }

        /** Without a law the rows can be counted ahead (32 to the fourth fits an int): nothing need be tried in vain. */
        private boolean isSpentAtOnce(Republic republic, int firstMonth) {
            if (republic.hasLaw()) {
                return false;
            }
            int all = 0;
            int ofThisSize = 1;
            int month = firstMonth;
            for (int i = 0; i < months; i++) {
                ofThisSize *= republic.mostOf(month) - republic.leastOf(month) + 1;
                all += ofThisSize;
                month = month + 1 < republic.months ? month + 1 : 0;
            }
            return all > MOST_ROWS;
        }

        /** Looks at all rows that begin with the first lengths of row, depth of them, of that worth. */
        private boolean lookOn(int depth, int sum) {
            if (depth < 0 || depth >= LONGEST_PLAN) {
                return true;
            }
            int mask = weigh(depth);
            for (int length = 0; length < LENGTHS; length++) {
                if ((mask >>> length & 1) != 0) {
                    rows++;
                    if (rows > MOST_ROWS) {
                        return false;
                    }
                    row[depth] = length;
                    if (!lookBehind(depth, length, sum + worths[depth * LENGTHS + length])) {
                        return false;
                    }
                }
            }
            return true;
        }

        /** Worths are taken before any row goes deeper, as the poll is opened anew there. */
        private int weigh(int depth) {
            poll.open(trial);
            for (int length = 0; length < LENGTHS; length++) {
                if (poll.mayBe(length)) {
                    worths[depth * LENGTHS + length] = poll.worthOf(person, length);
                }
            }
            return poll.mask;
        }

        private boolean lookBehind(int depth, int length, int sum) {
            if (depth + 1 >= months) {
                compare(sum);
                return true;
            }
            trial.comes(length);
            boolean good = lookOn(depth + 1, sum);
            trial.goes();
            return good;
        }

        private void compare(int sum) {
            if (!found || sum > bestSum) {
                found = true;
                bestSum = sum;
                System.arraycopy(row, 0, bestRow, 0, LONGEST_PLAN);
            }
        }
    }

    /** The acts that are kept: those done, and behind them those taken back. */
    private static final class Acts {
        private static final int MOST_KEPT = 40;

        final int[] kind;
        final int[] what;
        final int[] before;
        final int[] after;
        int done;
        int kept;

        Acts() {
            kind = new int[MOST_KEPT];
            what = new int[MOST_KEPT];
            before = new int[MOST_KEPT];
            after = new int[MOST_KEPT];
        }

        void forgetAll() {
            done = 0;
            kept = 0;
        }

        void note(int sort, int of, int was, int is) {
            if (done >= MOST_KEPT) {
                dropOldest(kind);
                dropOldest(what);
                dropOldest(before);
                dropOldest(after);
                done = MOST_KEPT - 1;
            }
            kind[done] = sort;
            what[done] = of;
            before[done] = was;
            after[done] = is;
            done++;
            kept = done;
        }

        private static void dropOldest(int[] row) {
            System.arraycopy(row, 1, row, 0, row.length - 1);
        }

        boolean stepBack() {
            if (done <= 0) {
                return false;
            }
            done--;
            return true;
        }

        boolean canStepOn() {
            return done < kept && done < MOST_KEPT;
        }

        void stepOn() {
            done++;
        }
    }

    /** What was told of the days, when it was told and untold, and which lengths agree with it. */
    private static final class Ledgers {
        private static final int MOST_LEDGERS = 30;
        private static final int LATEST_DAY = 400;
        private static final int MOST_ROWS = 50000;
        private static final int MOST_ASKED = 5;
        /** Days that the asked months can have, and one. */
        private static final int DAYS_ROOM = MOST_ASKED * LONGEST + 1;
        private static final int STILL_TOLD = -1;
        private static final int FREE = -1;
        private static final int TORN = -2;

        private final int[] nth;
        private final int[] stamp;
        private final int[] toldAt;
        private final int[] untoldAt;
        int count;
        /** What each day must be: a stamp, FREE, or TORN between two of them. */
        private final int[] needed;
        private int lastNeeded;
        private int asked;
        /** [i][s]: how many rows of the months from the i-th on agree, if s days are ahead of them. */
        private final int[][] behind;
        /** [i][s]: 1 if lengths of the first i months that agree have s days together. */
        private final int[][] reached;

        Ledgers() {
            nth = new int[MOST_LEDGERS];
            stamp = new int[MOST_LEDGERS];
            toldAt = new int[MOST_LEDGERS];
            untoldAt = new int[MOST_LEDGERS];
            needed = new int[LATEST_DAY + 1];
            behind = new int[MOST_ASKED + 1][DAYS_ROOM];
            reached = new int[MOST_ASKED + 1][DAYS_ROOM];
        }

        private static int stampOf(int month, int day) {
            return month * LENGTHS + day;
        }

        int write(int n, int month, int day, int time) {
            if (n < 0 || n > LATEST_DAY || day < 1 || day > LONGEST || count >= MOST_LEDGERS) {
                return NONE;
            }
            nth[count] = n;
            stamp[count] = stampOf(month, day);
            toldAt[count] = time;
            untoldAt[count] = STILL_TOLD;
            count++;
            return count - 1;
        }

        boolean strike(int ledger, int time) {
            if (ledger < 0 || ledger >= count || ledger >= MOST_LEDGERS || untoldAt[ledger] != STILL_TOLD) {
                return false;
            }
            untoldAt[ledger] = time;
            return true;
        }

        boolean canAsk(int m) {
            return m >= 1 && m <= MOST_ASKED;
        }

        /** How many rows of m lengths agree with what was known at k; REFUSED if there are too many in all. */
        int rows(Republic republic, int m, int k) {
            asked = Math.max(0, Math.min(m, MOST_ASKED));
            int all = 1;
            for (int i = 0; i < asked; i++) {
                int month = monthAt(republic, i);
                all *= republic.mostOf(month) - republic.leastOf(month) + 1;
            }
            if (all > MOST_ROWS) {
                return REFUSED;
            }
            gather(k);
            countBehind(republic);
            return behind[0][0];
        }

        private static int monthAt(Republic republic, int i) {
            return republic.months > 0 ? Math.floorMod(i, republic.months) : NONE;
        }

        private void gather(int k) {
            lastNeeded = -1;
            for (int i = 0; i <= LATEST_DAY; i++) {
                needed[i] = FREE;
            }
            for (int i = 0; i < count && i < MOST_LEDGERS; i++) {
                boolean untold = untoldAt[i] != STILL_TOLD && untoldAt[i] <= k;
                if (toldAt[i] <= k && !untold) {
                    need(nth[i], stamp[i]);
                }
            }
        }

        private void need(int day, int what) {
            if (day >= 0 && day <= LATEST_DAY) {
                needed[day] = needed[day] == FREE || needed[day] == what ? what : TORN;
                lastNeeded = Math.max(lastNeeded, day);
            }
        }

        private boolean agrees(int day, int what) {
            return day < 0 || day > LATEST_DAY || needed[day] == FREE || needed[day] == what;
        }

        /** The greatest length, up to most, whose days all agree, if the month begins on that day. */
        private int longestAgreeing(int month, int first, int most) {
            for (int length = 1; length <= most; length++) {
                if (!agrees(first + length - 1, stampOf(month, length))) {
                    return length - 1;
                }
            }
            return most;
        }

        private void countBehind(Republic republic) {
            for (int s = 0; s < DAYS_ROOM; s++) {
                behind[asked][s] = s > lastNeeded ? 1 : 0;
            }
            for (int i = asked - 1; i >= 0; i--) {
                int month = monthAt(republic, i);
                for (int s = 0; s <= i * LONGEST; s++) {
                    int most = longestAgreeing(month, s, republic.mostOf(month));
                    int sum = 0;
                    for (int length = republic.leastOf(month); length <= most; length++) {
                        sum += behind[i + 1][s + length];
                    }
                    behind[i][s] = sum;
                }
            }
        }

        private void markReached(Republic republic, int months) {
            for (int i = 0; i <= months; i++) {
                for (int s = 0; s < DAYS_ROOM; s++) {
                    reached[i][s] = 0;
                }
            }
            reached[0][0] = 1;
            for (int i = 0; i < months; i++) {
                int month = monthAt(republic, i);
                for (int s = 0; s <= i * LONGEST; s++) {
                    int most = reached[i][s] == 0 ? -1 : longestAgreeing(month, s, republic.mostOf(month));
                    for (int length = republic.leastOf(month); length <= most; length++) {
                        reached[i + 1][s + length] = 1;
                    }
                }
            }
        }

        /** The least or the most of the i-th length, by the rows last counted; NONE if there are none. */
        int knownLength(Republic republic, int i, boolean most) {
            if (i < 0 || i >= asked) {
                return NONE;
            }
            markReached(republic, i);
            int best = NONE;
            int month = monthAt(republic, i);
            for (int s = 0; s <= i * LONGEST; s++) {
                int longest = reached[i][s] == 0 ? -1 : longestAgreeing(month, s, republic.mostOf(month));
                for (int length = republic.leastOf(month); length <= longest; length++) {
                    if (behind[i + 1][s + length] > 0
                            && (best == NONE || (most ? length > best : length < best))) {
                        best = length;
                    }
                }
            }
            return best;
        }
    }
}
