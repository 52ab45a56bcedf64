/** The boundary cases of the forty promises: what is too small, too large, empty, full, refused, or asked without months. */
public final class CallEdgesTest {
    private static final int NONE = Edges.NONE;
    private static final int GAP = Edges.GAP;
    private static final int MIN = Edges.MIN;
    private static final int MAX = Edges.MAX;

    private static final String TWO = "month m from 2 to 4;month n from 0 to 3;person p votes 2 wish days;person q votes 1;"
        + "due d by p to q pays 5 on 3 of m;due e by q to p pays 7 on 2 of n late;sun 5 and 1 of 3;week 3;";
    /** Nobody votes for a month here, as there is none. */
    private static final String NO_MONTHS = "person p votes 2 wish days;person q votes 1;sun 5 and 1 of 3;law days;week 3;";

    private CallEdgesTest() {
    }

    public static void main(String[] args) {
        Edges.runAll(CallEdgesTest.class);
    }

    private static void due(String call, int got, int want) {
        Edges.due(call, got, want);
    }

    private static void due(String call, boolean got, boolean want) {
        Edges.due(call, got, want);
    }

    private static JuneVote made(String text) {
        return Typed.republic(text);
    }

    private static JuneVote two() {
        return made(TWO);
    }

    private static JuneVote noMonths() {
        return made(NO_MONTHS);
    }

    /** Numbers that are none of 0 .. most. */
    private static int[] beside(int most) {
        return new int[] {-1, most + 1, -2, most + 2, MIN, MAX, 1 << 16, 1 << 30, MIN + most, GAP};
    }

    // ---- 1: "An empty REPUBLIC."

    private static void nothing(JuneVote x) {
        for (int what = 0; what < 14; what++) {
            due("about " + what, x.about(what), what == 6 ? NONE : 0);
        }
        due("counted", x.counted(), NONE);
        due("may", x.may(0), NONE);
        due("length", x.length(0), NONE);
        due("date", x.date(0, 0), NONE);
        due("number", x.number(0, 0, 1), NONE);
        due("lies", x.lies(0), NONE);
        due("undo", x.undo(), false);
        due("redo", x.redo(), false);
        due("untell", x.untell(0), false);
    }

    static void promise1TheConstants() {
        due("NONE", JuneVote.NONE, -1);
        due("GAP", JuneVote.GAP, -1000000);
    }

    static void promise1NothingIsThere() {
        nothing(new JuneVote());
    }

    static void promise1NobodyAndNoDueIsThere() {
        JuneVote x = new JuneVote();
        due("person", x.person(0, 0), GAP);
        due("due", x.due(0, 0), NONE);
        due("worth", x.worth(0, 0), GAP);
        due("votes", x.votes(0), NONE);
        due("endow", x.endow(0, 1), NONE);
        due("forgive", x.forgive(0), NONE);
        due("span", x.span(0, 0), -2);
        due("net", x.net(0, 0), GAP);
    }

    static void promise1NoBoxIsFull() {
        JuneVote x = new JuneVote();
        for (int box = -1; box < 4; box++) {
            due("back " + box, x.back(box), NONE);
        }
    }

    static void promise1EachObjectByItself() {
        JuneVote x = two();
        x.run(9);
        x.later(9);
        x.feed(0, 0, 0, 0, 0);
        nothing(new JuneVote());
    }

    // ---- 2: "Twenty bytes come behind those on the TAPE, of each number the highest first"

    static void promise2TheHighestByteFirst() {
        JuneVote x = new JuneVote();
        // "month m from 0 to 1;"
        due("feed", x.feed(0x6D6F6E74, 0x68206D20, 0x66726F6D, 0x20302074, 0x6F20313B), 20);
        due("republic", x.republic(), 1);
    }

    static void promise2BytesOfNumbersBelow0() {
        JuneVote x = new JuneVote();
        // Blanks, and a byte 255 at one place.
        int blanks = 0x20202020;
        x.feed(blanks, blanks, blanks, blanks, blanks);
        x.feed(blanks, 0x2020FF20, blanks, blanks, blanks);
        due("republic", x.republic(), NONE);
        due("no token", x.fault(0), 1);
        due("place", x.fault(1), 26);
        x.feed(-1, blanks, blanks, blanks, blanks);
        x.republic();
        due("place", x.fault(1), 0);
        x.feed(blanks, blanks, blanks, blanks, 0x202020A0);
        x.republic();
        due("place", x.fault(1), 19);
    }

    static void promise2BehindThoseOnTheTape() {
        JuneVote x = new JuneVote();
        due("20", x.feed(0, 0, 0, 0, 0), 20);
        due("40", x.feed(0, 0, 0, 0, 0), 40);
        due("end", x.end(7), 7);
        due("27", x.feed(0, 0, 0, 0, 0), 27);
        due("end", x.end(0), 0);
        due("20", x.feed(0, 0, 0, 0, 0), 20);
    }

    private static JuneVote full() {
        JuneVote x = new JuneVote();
        int blanks = 0x20202020;
        for (int i = 1; i <= 85; i++) {
            due("feed " + i, x.feed(blanks, blanks, blanks, blanks, blanks), 20 * i);
        }
        return x;
    }

    static void promise2Just1700() {
        JuneVote x = full();
        due("bytes", x.about(11), 1700);
        due("republic", x.republic(), 0);
    }

    static void promise2MoreThan1700() {
        JuneVote x = full();
        due("one feed more", x.feed(-1, -1, -1, -1, -1), NONE);
        due("nothing came", x.about(11), 1700);
        due("nothing came", x.republic(), 0);
    }

    static void promise2MoreThan1700ByOne() {
        JuneVote x = full();
        x.end(1681);
        due("1701", x.feed(-1, -1, -1, -1, -1), NONE);
        due("nothing came", x.about(11), 1681);
        x.end(1680);
        due("1700", x.feed(-1, -1, -1, -1, -1), 1700);
    }

    static void promise2RefusedBytesAreNotThere() {
        JuneVote x = full();
        x.end(1690);
        x.feed(-1, -1, -1, -1, -1);
        due("end", x.end(1691), NONE);
        due("all are blanks", x.republic(), 0);
    }

    // ---- 3: "The TAPE has its first n bytes: n; NONE, doing nothing, if it has not so many, or n is below 0."

    static void promise3EndOfAll() {
        JuneVote x = new JuneVote();
        due("0 of none", x.end(0), 0);
        x.feed(0, 0, 0, 0, 0);
        due("20 of 20", x.end(20), 20);
        due("0 of 20", x.end(0), 0);
        due("none", x.about(11), 0);
    }

    static void promise3NotSoMany() {
        JuneVote x = new JuneVote();
        due("1 of none", x.end(1), NONE);
        x.feed(0, 0, 0, 0, 0);
        due("21 of 20", x.end(21), NONE);
        due("most", x.end(MAX), NONE);
        due("nothing done", x.about(11), 20);
    }

    static void promise3Below0() {
        JuneVote x = new JuneVote();
        x.feed(0, 0, 0, 0, 0);
        due("-1", x.end(-1), NONE);
        due("least", x.end(MIN), NONE);
        due("nothing done", x.about(11), 20);
    }

    static void promise3WhatIsCutIsGone() {
        JuneVote x = new JuneVote();
        Typed.feed(x, "law 1;x");
        x.end(6);
        due("7", x.end(7), NONE);
        due("republic", x.republic(), 0);
        due("fault", x.fault(0), 0);
    }

    // ---- 4: "The TAPE (empty then) is the REPUBLIC (no MONTH was, ...); NONE: a FAULT (the TAPE is empty then, too ..."

    /** An object in which all sorts of things are kept; then its tape has that text. */
    private static JuneVote used(String text) {
        JuneVote x = two();
        x.later(7);
        x.ledger(0, 0, 1);
        x.run(3);
        x.endow(0, 5);
        x.forgive(1);
        x.image(0);
        x.image(2);
        x.undo();
        x.rest(0);
        Typed.feed(x, text);
        return x;
    }

    private static final String ANOTHER = "month o from 1 to 1;month p from 1 to 1;month q from 1 to 1;person r votes 4;"
        + "person s votes 4;due f by r to s pays 1 on 1 of o;due g by r to s pays 1 on 1 of o;";

    static void promise4HowManyMonths() {
        due("three", used(ANOTHER).republic(), 3);
        due("none", used("person r votes 1;").republic(), 0);
        due("none", used("").republic(), 0);
    }

    static void promise4TheTapeIsEmptyThen() {
        JuneVote x = used(ANOTHER);
        x.republic();
        due("bytes", x.about(11), 0);
        due("an empty one", x.republic(), 0);
        due("months", x.about(0), 0);
    }

    static void promise4NoMonthWas() {
        JuneVote x = used(ANOTHER);
        x.republic();
        due("months that were", x.about(3), 0);
        due("days that were", x.about(4), 0);
        due("year", x.about(5), 0);
        due("month", x.about(6), 0);
        due("length", x.length(0), NONE);
        due("have", x.person(1, 1), 0);
        due("paid", x.due(0, 0), 0);
        due("drift", x.drift(0), 0);
    }

    static void promise4VotesAndDuesAreAsTold() {
        JuneVote x = used(ANOTHER);
        x.republic();
        due("votes", x.person(0, 0), 4);
        due("not forgiven", x.due(1, 2), 0);
    }

    static void promise4DuesAreNewThen() {
        JuneVote x = used(TWO);
        x.decree(0);
        x.forgive(1);
        due("lapsed and forgiven", x.due(1, 1) * 10 + x.due(1, 2), 11);
        x.republic();
        for (int what = 0; what < 3; what++) {
            due("due 0 " + what, x.due(0, what), 0);
            due("due 1 " + what, x.due(1, what), 0);
        }
        due("votes", x.person(0, 0), 2);
    }

    static void promise4WhatWasToldAheadIsGone() {
        JuneVote x = made("month m from 9 to 9;month n from 9 to 9;person p votes 3 wish days;person q votes 1 wish gets;"
            + "law days = 9;due d by p to q pays 1 on 1 of m late;sun 9 and 1 of 2;count mean;week 2 broken;");
        // Twice, as what the last but one told must be gone, too.
        for (int times = 0; times < 2; times++) {
            Typed.feed(x, "month m from 0 to 9;person q votes 2 wish not days - 8;person r votes 2;");
            due("republic", x.republic(), 1);
            due("units", x.about(12), 2);
            due("no law", x.may(0), 1);
            due("no wish of the second", x.worth(1, 9), 0);
            due("a wish of the first", x.worth(0, 8) * 10 + x.worth(0, 7), 10);
            due("most of like ones, no mean", x.counted(), 0);
            due("no dues", x.about(2), 0);
            x.decree(9);
            due("no sun", x.drift(0) * 10 + x.drift(1), -209);
            due("no week of 2", x.date(2, 3), 2);
            x.decree(1);
            due("no broken one", x.date(9, 3), 2);
        }
    }

    static void promise4ALateDueToldAheadIsGone() {
        JuneVote x = made(TWO);
        for (int times = 0; times < 2; times++) {
            Typed.feed(x, "month m from 0 to 9;person p votes 1;person q votes 1;due d by q to p pays 1 on 2 of m;"
                + "due e by q to p pays 1 on 2 of m;");
            x.republic();
            x.decree(1);
            due("the first lapsed", x.due(0, 1), 1);
            due("the second lapsed", x.due(1, 1), 1);
        }
    }

    static void promise4AgainAndAgain() {
        // Each formula has room, however many were told ahead.
        JuneVote x = new JuneVote();
        String sum = "wish 1" + "+days".repeat(29) + ";";
        for (int times = 0; times < 30; times++) {
            Typed.feed(x, "month m from 0 to 9;person p votes 1 " + sum + "person q votes 1 " + sum);
            due("republic", x.republic(), 1);
            due("worth", x.worth(1, 3), 88);
        }
    }

    static void promise4NoActsAreKept() {
        JuneVote x = used(ANOTHER);
        x.republic();
        due("undone", x.about(7), 0);
        due("redone", x.about(8), 0);
        due("undo", x.undo(), false);
        due("redo", x.redo(), false);
    }

    static void promise4LedgersAreNone() {
        JuneVote x = used(ANOTHER);
        x.republic();
        due("ledgers", x.about(9), 0);
        due("untell", x.untell(0), false);
        due("from 0 again", x.ledger(0, 0, 1), 0);
    }

    static void promise4NothingLiesThere() {
        JuneVote x = used(ANOTHER);
        x.republic();
        due("numbers", x.about(13), 0);
        due("lies", x.lies(0), NONE);
    }

    static void promise4BoxesAreEmpty() {
        JuneVote x = used(ANOTHER);
        x.republic();
        for (int box = 0; box < 3; box++) {
            due("back " + box, x.back(box), NONE);
        }
    }

    static void promise4TheTimeStays() {
        JuneVote x = used(ANOTHER);
        x.republic();
        due("time", x.about(10), 7);
    }

    private static final String FAULTY = ANOTHER + "sun 187 and 0 of 1;";

    static void promise4FaultEmptiesTheTape() {
        JuneVote x = used(FAULTY);
        due("republic", x.republic(), NONE);
        due("bytes", x.about(11), 0);
        due("end", x.end(1), NONE);
    }

    static void promise4FaultLeavesTheRepublic() {
        JuneVote x = used(FAULTY);
        x.republic();
        due("months", x.about(0), 2);
        due("people", x.about(1), 2);
        due("dues", x.about(2), 2);
        due("units", x.about(12), 1);
        due("wish", x.worth(0, 3), 3);
        due("votes", x.votes(0), 3);
        due("week", x.date(3, 3), 0);
        due("drift: 11 less 8", x.drift(0) * 10 + x.drift(1), 31);
    }

    static void promise4FaultLeavesTheCalendar() {
        JuneVote x = used(FAULTY);
        x.republic();
        due("months that were", x.about(3), 3);
        due("length", x.length(1), 3);
        due("votes", x.person(0, 0), 5);
        due("forgiven: taken back", x.due(1, 2), 0);
    }

    static void promise4FaultLeavesActsAndBoxes() {
        JuneVote x = used(FAULTY);
        x.republic();
        due("undone", x.about(7), 2);
        due("redone", x.about(8), 1);
        due("redo", x.redo(), true);
        due("back 0", x.back(0), 3);
        due("back 1", x.back(1), NONE);
        due("back 2", x.back(2), 3);
    }

    static void promise4FaultLeavesLedgersAndTheTime() {
        JuneVote x = used(FAULTY);
        x.republic();
        due("ledgers", x.about(9), 1);
        due("time", x.about(10), 7);
        due("untell", x.untell(0), true);
    }

    static void promise4FaultLeavesWhatLies() {
        JuneVote x = used(FAULTY);
        x.republic();
        due("numbers", x.about(13), 2);
        due("first", x.lies(0), 3);
    }

    static void promise4FaultInAnEmptyRepublic() {
        JuneVote x = new JuneVote();
        Typed.feed(x, FAULTY);
        due("republic", x.republic(), NONE);
        nothing(x);
    }

    static void promise4GoodBehindAFault() {
        JuneVote x = used(FAULTY);
        x.republic();
        Typed.feed(x, ANOTHER);
        due("republic", x.republic(), 3);
        due("people", x.about(1), 2);
        due("dues", x.about(2), 2);
        due("sun as if not told", x.drift(1), 1);
    }

    // ---- 5: "Of the latest republic() what 0: its FAULT (0: without; ahead of any, too), 1: its place (NONE)."

    static void promise5AheadOfAny() {
        JuneVote x = new JuneVote();
        due("fault", x.fault(0), 0);
        due("place", x.fault(1), NONE);
        Typed.feed(x, "x");
        due("ahead of republic()", x.fault(0), 0);
    }

    static void promise5Without() {
        JuneVote x = two();
        due("fault", x.fault(0), 0);
        due("place", x.fault(1), NONE);
    }

    static void promise5OfTheLatest() {
        JuneVote x = used(FAULTY);
        x.republic();
        due("fault", x.fault(0), 4);
        due("place", x.fault(1), ANOTHER.length() + 4);
        due("again", x.fault(0), 4);
        Typed.feed(x, "law");
        due("till the next", x.fault(0), 4);
        x.republic();
        due("fault", x.fault(0), 2);
        due("place", x.fault(1), 3);
        Typed.feed(x, "law 1;");
        x.republic();
        due("without", x.fault(0), 0);
        due("without", x.fault(1), NONE);
    }

    static void promise5PlaceAt0() {
        JuneVote x = new JuneVote();
        Typed.feed(x, "!");
        x.republic();
        due("fault", x.fault(0), 1);
        due("place", x.fault(1), 0);
    }

    static void promise5AnotherWhat() {
        JuneVote x = used(FAULTY);
        x.republic();
        for (int what : beside(1)) {
            due("fault " + what, x.fault(what), NONE);
        }
    }

    // ---- 6, 7: "GAP if there is none such, or for another what", "NONE if there is none such, or for another what"

    static void promise6NoneSuch() {
        JuneVote x = two();
        for (int person : beside(1)) {
            due("votes of " + person, x.person(person, 0), GAP);
            due("what has " + person, x.person(person, 1), GAP);
        }
    }

    static void promise6AnotherWhat() {
        JuneVote x = two();
        for (int what : beside(1)) {
            due("person what " + what, x.person(0, what), GAP);
        }
    }

    static void promise6WithoutMonths() {
        JuneVote x = noMonths();
        due("votes", x.person(1, 0), 1);
        due("have", x.person(1, 1), 0);
    }

    static void promise6HeMayHaveAsMuchAsNone() {
        JuneVote x = made("month m from 1 to 1;person p votes 1;person q votes 1;due d by p to q pays 1 on 1 of m;");
        x.run(1);
        due("have", x.person(0, 1), -1);
        due("have", x.person(1, 1), 1);
    }

    static void promise7NoneSuch() {
        JuneVote x = two();
        for (int due : beside(1)) {
            for (int what = 0; what < 3; what++) {
                due("due " + due + " " + what, x.due(due, what), NONE);
            }
        }
        due("without dues", noMonths().due(0, 0), NONE);
    }

    static void promise7AnotherWhat() {
        JuneVote x = two();
        for (int what : beside(2)) {
            due("due what " + what, x.due(0, what), NONE);
        }
    }

    static void promise7ForgivenIsStillThere() {
        JuneVote x = two();
        x.run(2);
        x.forgive(0);
        due("forgiven", x.due(0, 2), 1);
        due("paid ahead of it", x.due(0, 0), 1);
        due("lapsed", x.due(0, 1), 0);
    }

    // ---- 8, 9, 10: months, days, dates that were

    static void promise8NoneSuch() {
        JuneVote x = two();
        due("none yet", x.length(0), NONE);
        x.run(3);
        for (int i : beside(2)) {
            due("length " + i, x.length(i), NONE);
        }
        due("the last", x.length(2), 4);
    }

    static void promise8TakenBackWasNot() {
        JuneVote x = two();
        x.run(3);
        x.undo();
        due("the first", x.length(0), NONE);
    }

    static void promise8TheLastOf300() {
        JuneVote x = two();
        for (int i = 0; i < 5; i++) {
            x.run(60);
        }
        due("the last", x.length(299), 3);
        due("none behind", x.length(300), NONE);
    }

    static void promise8AMonthWithoutDays() {
        JuneVote x = two();
        x.decree(0);
        due("0, not NONE", x.length(0), 0);
    }

    static void promise9ItWasNot() {
        JuneVote x = two();
        due("none yet", x.date(0, 0), NONE);
        x.run(2);
        for (int n : beside(6)) {
            for (int what = 0; what < 4; what++) {
                due("date " + n + " " + what, x.date(n, what), NONE);
            }
        }
    }

    static void promise9TheLastDay() {
        JuneVote x = two();
        x.run(2);
        due("year", x.date(6, 0), 0);
        due("month", x.date(6, 1), 1);
        due("day", x.date(6, 2), 3);
        due("day of the week", x.date(6, 3), 0);
    }

    static void promise9AnotherWhat() {
        JuneVote x = two();
        x.run(2);
        for (int what : beside(3)) {
            due("date what " + what, x.date(0, what), NONE);
        }
    }

    static void promise9WeeksOneBehindTheOther() {
        JuneVote x = two();
        x.decree(4);
        x.decree(1);
        x.decree(2);
        int[] days = {0, 1, 2, 0, 1, 2, 0};
        for (int n = 0; n < days.length; n++) {
            due("day " + n, x.date(n, 3), days[n]);
        }
    }

    static void promise9WeeksBrokenEachMonthAnew() {
        JuneVote x = made(TWO.replace("week 3", "week 3 broken"));
        x.decree(4);
        x.decree(1);
        x.decree(2);
        int[] days = {0, 1, 2, 0, 0, 0, 1};
        for (int n = 0; n < days.length; n++) {
            due("day " + n, x.date(n, 3), days[n]);
        }
    }

    static void promise10ItWasNot() {
        JuneVote x = two();
        due("none yet", x.number(0, 0, 1), NONE);
        x.run(3);
        due("day 0", x.number(0, 0, 0), NONE);
        due("day 0 of the second month", x.number(0, 1, 0), NONE);
        due("day -1", x.number(0, 1, -1), NONE);
        due("the day behind the last", x.number(0, 0, 5), NONE);
        due("the last day", x.number(0, 0, 4), 3);
        due("month -1", x.number(1, -1, 1), NONE);
        due("month 2", x.number(0, 2, 1), NONE);
        due("year -1", x.number(-1, 0, 1), NONE);
        due("year -1", x.number(-1, 1, 1), NONE);
        due("to come", x.number(1, 1, 1), NONE);
        due("the latest month", x.number(1, 0, 4), 10);
    }

    static void promise10FarNumbers() {
        JuneVote x = two();
        x.run(3);
        for (int far : new int[] {MIN, MAX, 1 << 30, 1 << 31, (1 << 31) + 1, 301, GAP}) {
            due("year " + far, x.number(far, 0, 1), NONE);
            due("month " + far, x.number(0, far, 1), NONE);
            due("day " + far, x.number(0, 0, far), NONE);
        }
    }

    static void promise10WithoutMonths() {
        due("without", noMonths().number(0, 0, 1), NONE);
    }

    static void promise10TheLastOf300() {
        JuneVote x = made("month m from 1 to 1;");
        for (int i = 0; i < 5; i++) {
            x.run(60);
        }
        due("the last", x.number(299, 0, 1), 299);
        due("behind it", x.number(300, 0, 1), NONE);
    }

    // ---- 11: "the upper part (it may be below 0), 1: the lower part, in lowest terms; GAP for another what."

    static void promise11InLowestTerms() {
        JuneVote x = made("month m from 0 to 9;month n from 0 to 9;sun 5 and 2 of 4;");
        // 2 and 3 quarters a month.
        x.decree(2);
        due("upper", x.drift(0), -3);
        due("lower", x.drift(1), 4);
        x.decree(3);
        due("upper", x.drift(0), -1);
        due("lower", x.drift(1), 2);
    }

    static void promise11NoDrift() {
        JuneVote x = made("month m from 0 to 9;sun 5 and 2 of 4;");
        due("upper", x.drift(0), 0);
        due("lower", x.drift(1), 1);
        x.decree(5);
        x.decree(6);
        due("none again", x.drift(0), 0);
        due("of 1", x.drift(1), 1);
    }

    static void promise11WholeDays() {
        JuneVote x = made("month m from 0 to 9;sun 5 and 2 of 4;");
        x.decree(0);
        x.decree(0);
        due("below 0", x.drift(0), -11);
        due("of 1", x.drift(1), 1);
    }

    static void promise11FarOff() {
        JuneVote x = made("month m from 0 to 0;sun 186 and 98 of 99;");
        for (int i = 0; i < 5; i++) {
            x.run(60);
        }
        due("upper", x.drift(0), -(186 * 99 + 98) * 100);
        due("lower", x.drift(1), 33);
        JuneVote y = made("month m from 31 to 31;sun 0 and 0 of 1;");
        for (int i = 0; i < 5; i++) {
            y.run(60);
        }
        due("upper", y.drift(0), 9300);
    }

    static void promise11WithoutMonths() {
        due("upper", noMonths().drift(0), 0);
        due("lower", noMonths().drift(1), 1);
    }

    static void promise11AnotherWhat() {
        for (int what : beside(1)) {
            due("drift " + what, two().drift(what), GAP);
            due("without months " + what, noMonths().drift(what), GAP);
        }
    }

    // ---- 12 .. 15: "NONE without MONTHS", "GAP if one can't be, without MONTHS"

    static void promise12WithoutMonths() {
        due("may", noMonths().may(1), NONE);
        due("may", new JuneVote().may(0), NONE);
        due("may", noMonths().may(-1), NONE);
    }

    static void promise12NoLength() {
        JuneVote x = made("month m from 0 to 31;");
        for (int length : beside(31)) {
            due("may " + length, x.may(length), 0);
        }
        due("31", x.may(31), 1);
        due("0", x.may(0), 1);
    }

    static void promise12FarLengthsLikeThoseThatMay() {
        // Their last five bits are those of a length that may be.
        JuneVote x = made("month m from 2 to 2;");
        due("34", x.may(34), 0);
        due("-30", x.may(-30), 0);
        due("far", x.may(MIN + 2), 0);
    }

    static void promise13WhetherItMayBeOrNot() {
        JuneVote x = two();
        due("0", x.worth(0, 0), 0);
        due("31", x.worth(0, 31), 31);
    }

    static void promise13NoLength() {
        JuneVote x = two();
        for (int length : beside(31)) {
            due("worth of " + length, x.worth(0, length), GAP);
        }
    }

    static void promise13Nobody() {
        JuneVote x = two();
        for (int person : beside(1)) {
            due("worth to " + person, x.worth(person, 3), GAP);
        }
    }

    static void promise13WithoutMonths() {
        due("worth", noMonths().worth(0, 3), GAP);
    }

    static void promise14Nobody() {
        JuneVote x = two();
        for (int person : beside(1)) {
            due("votes of " + person, x.votes(person), NONE);
        }
    }

    static void promise14WithoutMonths() {
        due("votes", noMonths().votes(0), NONE);
    }

    static void promise14WithoutVotes() {
        JuneVote x = two();
        x.endow(0, 0);
        due("he votes all the same", x.votes(0), 4);
    }

    static void promise15WithoutMonths() {
        due("counted", noMonths().counted(), NONE);
    }

    static void promise15Of0Days() {
        due("0, not NONE", made("month m from 0 to 3;").counted(), 0);
    }

    // ---- 16: "So many MONTHS come (0 .. 60) ...; NONE, doing nothing, for another number, without MONTHS, or more than 300"

    static void promise16RunOf0To60() {
        JuneVote x = two();
        due("0", x.run(0), 0);
        due("an act", x.about(7), 1);
        due("60", x.run(60), 60);
        due("0", x.run(0), 60);
    }

    static void promise16AnotherNumber() {
        JuneVote x = two();
        x.run(1);
        x.undo();
        for (int n : beside(60)) {
            due("run " + n, x.run(n), NONE);
        }
        due("nothing done", x.about(3), 0);
        due("no act", x.about(7), 0);
        due("redo stays", x.about(8), 1);
    }

    static void promise16WithoutMonths() {
        JuneVote x = noMonths();
        due("run 0", x.run(0), NONE);
        due("run 1", x.run(1), NONE);
        due("no act", x.about(7), 0);
    }

    private static JuneVote of299() {
        JuneVote x = two();
        for (int i = 0; i < 4; i++) {
            x.run(60);
        }
        due("299", x.run(59), 299);
        return x;
    }

    static void promise16Just300() {
        JuneVote x = of299();
        due("run 1", x.run(1), 300);
        due("run 0", x.run(0), 300);
    }

    static void promise16MoreThan300() {
        JuneVote x = of299();
        due("run 2", x.run(2), NONE);
        due("run 60", x.run(60), NONE);
        due("nothing done", x.about(3), 299);
        due("acts", x.about(7), 5);
        x.run(1);
        due("run 1", x.run(1), NONE);
    }

    // ---- 17: "NONE, doing nothing, likewise, or for a length below 0, above 31"

    static void promise17DecreeOf0To31() {
        JuneVote x = two();
        due("0", x.decree(0), 1);
        due("31", x.decree(31), 2);
        for (int length : beside(31)) {
            due("decree " + length, x.decree(length), NONE);
        }
        due("nothing done", x.about(3), 2);
        due("acts", x.about(7), 2);
    }

    static void promise17WithoutMonths() {
        JuneVote x = noMonths();
        due("decree", x.decree(3), NONE);
        due("no act", x.about(7), 0);
    }

    static void promise17MoreThan300() {
        JuneVote x = of299();
        due("the last", x.decree(0), 300);
        due("one more", x.decree(0), NONE);
        due("nothing done", x.about(3), 300);
        due("acts", x.about(7), 6);
        x.undo();
        due("the last again", x.decree(7), 300);
    }

    // ---- 18, 19: "NONE, doing nothing, if there is none such", "NONE, doing nothing, if one can't be"

    static void promise18NoneSuch() {
        JuneVote x = two();
        for (int due : beside(1)) {
            due("forgive " + due, x.forgive(due), NONE);
        }
        due("no act", x.about(7), 0);
        due("without dues", noMonths().forgive(0), NONE);
    }

    static void promise18ForgivenAndToldAgain() {
        JuneVote x = two();
        due("forgiven", x.forgive(1), 1);
        due("told again", x.forgive(1), 0);
        due("two acts", x.about(7), 2);
        x.undo();
        due("forgiven", x.due(1, 2), 1);
        x.undo();
        due("not", x.due(1, 2), 0);
        x.redo();
        due("forgiven", x.due(1, 2), 1);
    }

    static void promise19HowManyHeHad() {
        JuneVote x = two();
        due("2", x.endow(0, 9), 2);
        due("9", x.endow(0, 0), 9);
        due("0", x.endow(0, 0), 0);
        due("three acts", x.about(7), 3);
        due("votes of the other", x.person(1, 0), 1);
    }

    static void promise19NobodyOrNoVotes() {
        JuneVote x = two();
        for (int person : beside(1)) {
            due("endow " + person, x.endow(person, 3), NONE);
        }
        for (int votes : beside(9)) {
            due("endow with " + votes, x.endow(0, votes), NONE);
        }
        due("no act", x.about(7), 0);
        due("nothing done", x.person(0, 0), 2);
    }

    static void promise19WithoutMonths() {
        JuneVote x = noMonths();
        due("endow", x.endow(0, 3), 2);
        due("an act", x.about(7), 1);
        due("undo", x.undo(), true);
        due("votes", x.person(0, 0), 2);
        due("redo", x.redo(), true);
        due("votes", x.person(0, 0), 3);
    }

    // ---- 20, 21: "false if there is none"

    static void promise20ThereIsNone() {
        JuneVote x = two();
        due("none yet", x.undo(), false);
        due("nothing to redo", x.about(8), 0);
        x.decree(1);
        due("one", x.undo(), true);
        due("none left", x.undo(), false);
        due("one to redo", x.about(8), 1);
    }

    static void promise20OfARunOf0() {
        JuneVote x = two();
        x.run(0);
        due("undo", x.undo(), true);
        due("undo", x.undo(), false);
    }

    static void promise20OfDuesPaidAndLapsed() {
        JuneVote x = two();
        x.decree(2);
        x.decree(0);
        x.run(1);
        x.forgive(0);
        x.forgive(1);
        x.run(2);
        for (int i = 0; i < 6; i++) {
            x.undo();
        }
        for (int d = 0; d < 2; d++) {
            for (int what = 0; what < 3; what++) {
                due("due " + d + " " + what, x.due(d, what), 0);
            }
            due("have " + d, x.person(d, 1), 0);
        }
    }

    static void promise21ThereIsNone() {
        JuneVote x = two();
        due("none yet", x.redo(), false);
        x.decree(1);
        due("none was taken back", x.redo(), false);
        x.undo();
        due("one", x.redo(), true);
        due("none left", x.redo(), false);
        due("one to undo", x.about(7), 1);
    }

    static void promise21TheSameComesAgain() {
        JuneVote x = two();
        x.endow(0, 0);
        x.run(3);
        x.undo();
        x.undo();
        // With his votes months were longer.
        x.redo();
        x.redo();
        due("lengths", x.length(0) * 100 + x.length(1) * 10 + x.length(2), 202);
    }

    // ---- 22, 23, 24: "NONE if one can't be (a length that MAY not be, too)", "NONE if none can", "or for another what"

    static void promise22NoSet() {
        JuneVote x = two();
        for (int set : beside(3)) {
            due("set " + set, x.turned(set, 3), NONE);
        }
        due("all", x.turned(3, 3), 1);
        due("nobody is there", made("month m from 1 to 2;").turned(1, 1), NONE);
    }

    static void promise22NoLength() {
        JuneVote x = two();
        for (int length : beside(31)) {
            due("turned for " + length, x.turned(3, length), NONE);
        }
        due("below from", x.turned(3, 1), NONE);
        due("above to", x.turned(3, 5), NONE);
    }

    static void promise22WithoutMonths() {
        due("turned", noMonths().turned(3, 0), NONE);
        due("turned", noMonths().turned(0, 0), NONE);
    }

    static void promise23NoneCan() {
        JuneVote x = two();
        x.endow(0, 0);
        x.endow(1, 0);
        due("without votes", x.least(3), NONE);
        due("but the least that may be", x.least(2), 0);
    }

    static void promise23NoLength() {
        JuneVote x = two();
        for (int length : beside(31)) {
            due("least for " + length, x.least(length), NONE);
        }
        due("below from", x.least(1), NONE);
        due("above to", x.least(5), NONE);
    }

    static void promise23WithoutMonths() {
        due("least", noMonths().least(0), NONE);
    }

    static void promise24AnotherWhat() {
        JuneVote x = two();
        for (int what : beside(1)) {
            due("bribe what " + what, x.bribe(3, what), NONE);
        }
        due("sum", x.bribe(3, 0), 1);
        due("set", x.bribe(3, 1), 1);
    }

    static void promise24NoneCan() {
        JuneVote x = two();
        x.endow(0, 0);
        x.endow(1, 0);
        due("sum", x.bribe(3, 0), NONE);
        due("set", x.bribe(3, 1), NONE);
    }

    static void promise24NoLength() {
        JuneVote x = two();
        for (int length : beside(31)) {
            due("bribe for " + length, x.bribe(length, 0), NONE);
            due("bribe for " + length, x.bribe(length, 1), NONE);
        }
        due("below from", x.bribe(1, 0), NONE);
        due("above to", x.bribe(5, 1), NONE);
    }

    static void promise24WithoutMonths() {
        due("bribe", noMonths().bribe(0, 0), NONE);
        due("bribe", noMonths().bribe(0, 1), NONE);
    }

    // ---- 25, 26: what lies there then

    static void promise25AnotherWhat() {
        JuneVote x = two();
        for (int what : beside(1)) {
            x.rest(0);
            due("two lie", x.about(13), 2);
            due("rest " + what, x.rest(what), NONE);
            due("nothing lies", x.about(13), 0);
        }
    }

    static void promise25WithoutMonths() {
        JuneVote x = noMonths();
        due("turns", x.rest(0), NONE);
        due("counted", x.rest(1), NONE);
        due("nothing lies", x.about(13), 0);
    }

    static void promise25WhatEachVotesForLies() {
        JuneVote x = two();
        due("counted", x.rest(1), 4);
        due("of each", x.about(13), 2);
        due("p", x.lies(0), 4);
        due("q", x.lies(1), 2);
        due("none behind", x.lies(2), NONE);
    }

    static void promise25NobodysVotesLie() {
        JuneVote x = made("month m from 1 to 2;");
        due("turns", x.rest(0), 1);
        due("counted", x.rest(1), 1);
        due("nothing lies", x.about(13), 0);
    }

    static void promise26NoNumberOfMonths() {
        JuneVote x = two();
        for (int n : new int[] {0, -1, 5, 6, MIN, MAX}) {
            x.plan(0, 1);
            due("plan for " + n, x.plan(0, n), GAP);
            due("nothing lies", x.about(13), 0);
        }
    }

    static void promise26Nobody() {
        JuneVote x = two();
        for (int person : beside(1)) {
            x.plan(0, 2);
            due("two lie", x.about(13), 2);
            due("plan of " + person, x.plan(person, 2), GAP);
            due("nothing lies", x.about(13), 0);
        }
    }

    static void promise26WithoutMonths() {
        JuneVote x = noMonths();
        due("plan", x.plan(0, 1), GAP);
        due("nothing lies", x.about(13), 0);
    }

    static void promise26Spent() {
        JuneVote x = made("month m from 0 to 31;person p votes 1 wish days;");
        due("1056 rows", x.plan(0, 2), 62);
        due("two lie", x.about(13), 2);
        due("33824 rows", x.plan(0, 3), GAP - 1);
        due("nothing lies", x.about(13), 0);
    }

    // ---- 27: "-2 if there is none such (a forgiven one, too), or for another what"

    static void promise27NoneSuch() {
        JuneVote x = two();
        for (int due : beside(1)) {
            due("span of " + due, x.span(due, 0), -2);
        }
        due("without dues", noMonths().span(0, 2), -2);
    }

    static void promise27AForgivenOne() {
        JuneVote x = two();
        x.forgive(0);
        for (int what = 0; what < 3; what++) {
            due("span what " + what, x.span(0, what), -2);
        }
        due("the other", x.span(1, 2), 1);
        x.forgive(0);
        due("told again", x.span(0, 0), 3);
    }

    static void promise27AnotherWhat() {
        JuneVote x = two();
        for (int what : beside(2)) {
            due("span what " + what, x.span(0, what), -2);
        }
    }

    static void promise27ItCantBePaid() {
        JuneVote x = made(TWO.replace("on 3 of m", "on 5 of m"));
        due("least", x.span(0, 0), NONE);
        due("most", x.span(0, 1), NONE);
        due("lapse", x.span(0, 2), 1);
    }

    // ---- 28: "NONE if behind none; -2 if one can't be (w 0 .. 99), without MONTHS"

    static void promise28NoNumberOfMonths() {
        JuneVote x = two();
        for (int n : new int[] {0, -1, 121, 122, MIN, MAX}) {
            due("counted " + n, x.skew(n, 1, false), -2);
            due("repair " + n, x.skew(n, 1, true), -2);
        }
    }

    static void promise28NoWidth() {
        JuneVote x = two();
        for (int w : beside(99)) {
            due("counted " + w, x.skew(9, w, false), -2);
            due("repair " + w, x.skew(9, w, true), -2);
        }
        due("0", x.skew(9, 0, false), 1);
        due("99", x.skew(9, 99, false), NONE);
    }

    static void promise28WithoutMonths() {
        due("counted", noMonths().skew(1, 1, false), -2);
        due("repair", noMonths().skew(1, 1, true), -2);
    }

    // ---- 29: "NONE if none does, without MONTHS, or for another what"

    static void promise29NoneDoes() {
        JuneVote x = made("month m from 0 to 31;person p votes 1 wish not (days - year);");
        due("earlier", x.again(0), NONE);
        due("later", x.again(1), NONE);
    }

    static void promise29WithoutMonths() {
        due("earlier", noMonths().again(0), NONE);
        due("later", noMonths().again(1), NONE);
    }

    static void promise29AnotherWhat() {
        JuneVote x = two();
        for (int what : beside(1)) {
            due("again " + what, x.again(what), NONE);
        }
        due("later", x.again(1), 1);
    }

    // ---- 30: "(for 0, 1 anyone, nobody too); GAP if one can't be, without MONTHS"

    static void promise30AnyoneForDaysAndLapses() {
        JuneVote x = two();
        for (int person : beside(1)) {
            due("days", x.ahead(2, 0, person), 7);
            due("lapses", x.ahead(2, 1, person), 0);
        }
        due("nobody is there", made("month m from 3 to 4;").ahead(2, 0, 0), 6);
    }

    static void promise30NobodyHas() {
        JuneVote x = two();
        for (int person : beside(1)) {
            due("have", x.ahead(2, 2, person), GAP);
        }
        due("have", x.ahead(2, 2, 0), 2);
    }

    static void promise30AnotherWhat() {
        JuneVote x = two();
        for (int what : beside(2)) {
            due("ahead what " + what, x.ahead(2, what, 0), GAP);
        }
    }

    static void promise30NoNumberOfMonths() {
        JuneVote x = two();
        for (int n : beside(60)) {
            for (int what = 0; what < 3; what++) {
                due("ahead by " + n, x.ahead(n, what, 0), GAP);
            }
        }
        due("60", x.ahead(60, 0, 0), 210);
        due("0", x.ahead(0, 0, 0), 0);
    }

    static void promise30WithoutMonths() {
        for (int what = 0; what < 3; what++) {
            due("ahead what " + what, noMonths().ahead(0, what, 0), GAP);
        }
    }

    // ---- 31: "GAP if one can't be"

    static void promise31NoSet() {
        JuneVote x = two();
        for (int set : beside(3)) {
            due("net of " + set, x.net(0, set), GAP);
        }
        due("all", x.net(0, 3), 2);
        due("no dues are there", noMonths().net(0, 1), GAP);
    }

    static void promise31OfTwelveDues() {
        StringBuilder text = new StringBuilder("month m from 0 to 9;person p votes 1;person q votes 1;");
        for (char name = 'a'; name < 'm'; name++) {
            text.append("due ").append(name).append(" by p to q pays 99 on 1 of m;");
        }
        JuneVote x = made(text.toString());
        due("all", x.net(1, 4095), 1188);
        due("the twelfth", x.net(0, 2048), -99);
        due("a thirteenth", x.net(0, 4096), GAP);
    }

    static void promise31Nobody() {
        JuneVote x = two();
        for (int person : beside(1)) {
            due("net for " + person, x.net(person, 1), GAP);
            due("net for " + person, x.net(person, 0), GAP);
        }
    }

    static void promise31WithoutMonths() {
        due("of no dues", noMonths().net(0, 0), 0);
        due("nobody", new JuneVote().net(0, 0), GAP);
    }

    // ---- 32: "The i-th number of what lies there; NONE if there is none such."

    static void promise32NoneSuch() {
        JuneVote x = two();
        due("nothing yet", x.lies(0), NONE);
        x.plan(0, 4);
        for (int i : beside(3)) {
            due("lies " + i, x.lies(i), NONE);
        }
        due("the last", x.lies(3), 3);
    }

    static void promise32FewerThanLiedBefore() {
        JuneVote x = two();
        x.plan(0, 4);
        x.rest(0);
        due("two", x.about(13), 2);
        due("the third", x.lies(2), NONE);
        x.plan(0, 1);
        due("the second", x.lies(1), NONE);
    }

    static void promise32ItLiesOn() {
        JuneVote x = two();
        x.plan(0, 2);
        x.run(1);
        x.undo();
        x.image(0);
        x.back(0);
        x.counted();
        x.ledger(0, 0, 1);
        x.later(1);
        due("numbers", x.about(13), 2);
        due("first", x.lies(0), 4);
        due("second", x.lies(1), 3);
    }

    // ---- 33, 34: "NONE, doing nothing, if one can't be, or there are 30", "false if it is so already, or there is none such"

    static void promise33OneCantBe() {
        JuneVote x = two();
        for (int n : beside(400)) {
            due("day " + n, x.ledger(n, 0, 1), NONE);
        }
        for (int month : beside(1)) {
            due("month " + month, x.ledger(0, month, 1), NONE);
        }
        for (int day : new int[] {0, -1, 32, 33, MIN, MAX}) {
            due("day of a month " + day, x.ledger(0, 0, day), NONE);
        }
        due("nothing done", x.about(9), 0);
    }

    static void promise33WithoutMonths() {
        due("ledger", noMonths().ledger(0, 0, 1), NONE);
        due("none", noMonths().about(9), 0);
    }

    static void promise33ThereAre30() {
        JuneVote x = two();
        for (int i = 0; i < 30; i++) {
            due("number", x.ledger(400, 1, 31), i);
        }
        due("one more", x.ledger(0, 0, 1), NONE);
        due("thirty", x.about(9), 30);
    }

    static void promise34NoneSuch() {
        JuneVote x = two();
        due("none yet", x.untell(0), false);
        x.ledger(0, 0, 1);
        x.ledger(0, 0, 1);
        for (int ledger : beside(1)) {
            due("untell " + ledger, x.untell(ledger), false);
        }
        due("the last", x.untell(1), true);
    }

    static void promise34SoAlready() {
        JuneVote x = two();
        x.ledger(1, 0, 5);
        x.later(2);
        due("untell", x.untell(0), true);
        due("at once", x.untell(0), false);
        x.later(2);
        due("later", x.untell(0), false);
        // Had it been untold anew, it would count at 3.
        due("as at first", x.lengths(1, 3), 3);
        due("ahead of it", x.lengths(1, 1), 0);
    }

    // ---- 35: "So much later (0 .. 1000): the TIME; NONE, doing nothing, for another number, or above 100,000"

    static void promise35LaterBy0To1000() {
        JuneVote x = new JuneVote();
        due("0", x.later(0), 0);
        due("1000", x.later(1000), 1000);
        due("0", x.later(0), 1000);
    }

    static void promise35AnotherNumber() {
        JuneVote x = new JuneVote();
        x.later(5);
        for (int by : beside(1000)) {
            due("later " + by, x.later(by), NONE);
        }
        due("nothing done", x.about(10), 5);
    }

    static void promise35Above100000() {
        JuneVote x = new JuneVote();
        for (int i = 1; i < 100; i++) {
            x.later(1000);
        }
        x.later(1);
        due("100,001", x.later(1000), NONE);
        due("nothing done", x.about(10), 99001);
        due("100,000", x.later(999), 100000);
        due("one more", x.later(1), NONE);
        due("0", x.later(0), 100000);
    }

    // ---- 36, 37: "-2 if SPENT; NONE if m can't be, without MONTHS", "NONE if there are none, or one can't be"

    static void promise36NoNumberOfMonths() {
        JuneVote x = two();
        for (int m : new int[] {0, -1, 6, 7, MIN, MAX}) {
            due("lengths " + m, x.lengths(m, 0), NONE);
        }
        due("1", x.lengths(1, 0), 3);
        due("5: more than the text's", x.lengths(5, 0), 3 * 4 * 3 * 4 * 3);
    }

    static void promise36WithoutMonths() {
        due("lengths", noMonths().lengths(1, 0), NONE);
    }

    static void promise36NoRows() {
        JuneVote x = two();
        x.ledger(0, 1, 1);
        due("0, not NONE", x.lengths(2, 0), 0);
    }

    static void promise37ThereAreNone() {
        JuneVote x = two();
        x.ledger(0, 1, 1);
        due("least", x.known(2, 0, false, 0), NONE);
        due("most", x.known(2, 1, true, 0), NONE);
    }

    static void promise37OneCantBe() {
        JuneVote x = two();
        for (int m : new int[] {0, -1, 6, 7, MIN, MAX}) {
            due("known of " + m, x.known(m, 0, true, 0), NONE);
        }
        for (int i : beside(2)) {
            due("known " + i, x.known(3, i, true, 0), NONE);
        }
        due("the last", x.known(3, 2, true, 0), 4);
        due("the last", x.known(3, 2, false, 0), 2);
    }

    static void promise37WithoutMonths() {
        due("known", noMonths().known(1, 0, true, 0), NONE);
    }

    static void promise37OneCantBeThoughItIsSpent() {
        JuneVote x = made("month m from 0 to 31;");
        due("the fifth of four", x.known(4, 4, true, 0), NONE);
        due("ahead of the first", x.known(4, -1, true, 0), NONE);
        due("of six", x.known(6, 0, true, 0), NONE);
    }

    static void promise37Spent() {
        JuneVote x = made("month m from 0 to 31;");
        due("three", x.known(3, 2, true, 0), 31);
        due("four", x.known(4, 2, true, 0), -2);
        due("four", x.known(4, 2, false, 0), -2);
    }

    // ---- 38, 39: "NONE if there is none such", "NONE, doing nothing, if nothing was"

    static void promise38NoneSuch() {
        JuneVote x = two();
        for (int box : beside(2)) {
            due("image " + box, x.image(box), NONE);
        }
        due("box 2", x.image(2), 0);
    }

    static void promise38WithoutMonths() {
        JuneVote x = noMonths();
        due("image", x.image(0), 0);
        x.endow(0, 7);
        due("back", x.back(0), 0);
        due("votes", x.person(0, 0), 2);
    }

    static void promise38NoAct() {
        JuneVote x = two();
        x.run(1);
        x.undo();
        x.image(0);
        due("undone", x.about(7), 0);
        due("redone", x.about(8), 1);
    }

    static void promise38ABoxKeepsTheLatest() {
        JuneVote x = two();
        x.image(1);
        x.run(5);
        due("five", x.image(1), 5);
        x.undo();
        due("five", x.back(1), 5);
    }

    static void promise39NothingWasKept() {
        JuneVote x = two();
        x.run(5);
        x.undo();
        x.run(2);
        x.undo();
        x.image(1);
        for (int box : new int[] {0, 2, 3, -1, MIN, MAX}) {
            due("back " + box, x.back(box), NONE);
        }
        due("acts stay", x.about(8), 1);
        due("redo", x.redo(), true);
    }

    static void promise39NoActsAreKeptThen() {
        JuneVote x = two();
        x.run(1);
        x.image(0);
        x.run(1);
        x.run(1);
        x.undo();
        due("back", x.back(0), 1);
        due("undone", x.about(7), 0);
        due("redone", x.about(8), 0);
        due("undo", x.undo(), false);
        due("redo", x.redo(), false);
    }

    static void promise39AllIsAsItWasKept() {
        JuneVote x = two();
        x.run(3);
        x.endow(0, 7);
        x.forgive(1);
        x.image(0);
        x.run(9);
        x.endow(0, 0);
        x.forgive(1);
        x.forgive(0);
        due("months", x.back(0), 3);
        due("votes", x.person(0, 0), 7);
        due("have", x.person(0, 1), -3);
        due("forgiven", x.due(1, 2) * 10 + x.due(0, 2), 10);
        due("paid", x.due(0, 0), 2);
        due("days", x.about(4), 11);
        due("no month behind", x.length(3), NONE);
    }

    static void promise39AgainAndAgain() {
        JuneVote x = two();
        x.run(3);
        x.image(2);
        x.decree(31);
        due("back", x.back(2), 3);
        x.decree(30);
        due("gone on from", x.length(3), 30);
        due("back again", x.back(2), 3);
        due("no fourth", x.length(3), NONE);
    }

    static void promise39ToMoreMonths() {
        JuneVote x = two();
        x.run(60);
        x.image(0);
        x.undo();
        x.decree(31);
        due("back", x.back(0), 60);
        due("the first as it was", x.length(0), 4);
        due("the last", x.length(59), 3);
    }

    // ---- 40: "NONE for another what."

    static void promise40AnotherWhat() {
        JuneVote x = two();
        for (int what : beside(13)) {
            due("about " + what, x.about(what), NONE);
        }
    }

    static void promise40WithoutMonths() {
        JuneVote x = noMonths();
        due("month", x.about(6), NONE);
        due("year", x.about(5), 0);
        due("people", x.about(1), 2);
        due("units", x.about(12), 2);
    }

    static void promise40AtTheBounds() {
        JuneVote x = of299();
        x.run(1);
        due("months that were", x.about(3), 300);
        due("days that were", x.about(4), 1050);
        due("year", x.about(5), 150);
        due("month", x.about(6), 0);
    }
}
