/** The boundary cases of sections 2 to 4: months, dues, formulas, what is counted, acts; what is asked; ledgers. */
public final class TermEdgesTest {
    private static final int NONE = Edges.NONE;
    private static final int GAP = Edges.GAP;
    private static final int MIN = Edges.MIN;
    private static final int MAX = Edges.MAX;

    private static final String PEOPLE = "person p votes 1;person q votes 1;";
    private static final String DUES = "month m from 0 to 31;" + PEOPLE
        + "due d by p to q pays 5 on 3 of m;due e by q to p pays 7 on 3 of m late;";

    private TermEdgesTest() {
    }

    public static void main(String[] args) {
        Edges.runAll(TermEdgesTest.class);
    }

    private static void due(String call, int got, int want) {
        Edges.due(call, got, want);
    }

    private static void due(String call, boolean got, boolean want) {
        Edges.due(call, got, want);
    }

    private static void mayBe(String when, JuneVote x, String want) {
        Edges.mayBe(when, x, want);
    }

    private static JuneVote made(String text) {
        return Typed.republic(text);
    }

    // ---- "YEARS (from 0) have all MONTHS; DAYS of a MONTH are numbered from 1, all DAYS from the beginning on from 0"

    static void section2YearsFrom0() {
        JuneVote x = made("month m from 1 to 1;month n from 1 to 1;month o from 1 to 1;");
        for (int i = 0; i < 7; i++) {
            due("year behind " + i, x.about(5), i / 3);
            due("month behind " + i, x.about(6), i % 3);
            x.run(1);
            due("year of day " + i, x.date(i, 0), i / 3);
            due("month of day " + i, x.date(i, 1), i % 3);
        }
    }

    static void section2YearsOfOneMonth() {
        JuneVote x = made("month m from 1 to 1;");
        x.run(3);
        due("year", x.about(5), 3);
        due("month", x.about(6), 0);
    }

    static void section2DaysOfAMonthFrom1() {
        JuneVote x = made("month m from 3 to 3;");
        x.run(2);
        due("first", x.date(0, 2), 1);
        due("last", x.date(2, 2), 3);
        due("first of the second", x.date(3, 2), 1);
        due("day 0", x.number(0, 0, 0), NONE);
        due("day 0 of the second", x.number(1, 0, 0), NONE);
    }

    static void section2AllDaysFrom0() {
        JuneVote x = made("month m from 3 to 3;");
        x.run(2);
        due("first", x.number(0, 0, 1), 0);
        due("last", x.number(1, 0, 3), 5);
        due("no sixth", x.date(6, 0), NONE);
        due("days", x.about(4), 6);
    }

    static void section2MonthsWithoutDays() {
        JuneVote x = made("month m from 0 to 31;");
        x.decree(0);
        x.decree(0);
        x.decree(2);
        x.decree(0);
        due("the first day is of the third", x.date(0, 0), 2);
        due("the second, too", x.date(1, 0), 2);
        due("no more", x.date(2, 0), NONE);
        due("none in the first", x.number(0, 0, 1), NONE);
        due("none in the last", x.number(3, 0, 1), NONE);
        due("day 0", x.number(2, 0, 1), 0);
    }

    // ---- "A DUE is paid each YEAR on its day, if the MONTH has it; else it LAPSES, but a late one is paid on the last"

    static void section2DueOnTheLastDayOfItsMonth() {
        JuneVote x = made(DUES);
        x.decree(3);
        due("paid", x.due(0, 0), 1);
        due("not lapsed", x.due(0, 1), 0);
    }

    static void section2DueBehindTheLastDayLapses() {
        JuneVote x = made(DUES);
        x.decree(2);
        due("not paid", x.due(0, 0), 0);
        due("lapsed", x.due(0, 1), 1);
    }

    static void section2LateDueOnTheLastDay() {
        JuneVote x = made(DUES);
        x.decree(2);
        x.decree(1);
        due("paid", x.due(1, 0), 2);
        due("not lapsed", x.due(1, 1), 0);
        due("have", x.person(0, 1), 14);
    }

    static void section2LateDueWithoutALastDay() {
        JuneVote x = made(DUES);
        x.decree(0);
        due("not paid", x.due(1, 0), 0);
        due("lapsed", x.due(1, 1), 1);
        due("have", x.person(0, 1), 0);
    }

    static void section2LateDueOnItsDayIfTheMonthHasIt() {
        JuneVote x = made(DUES.replace("from 0", "from 5"));
        due("at the least", x.span(1, 0), 3);
        due("at the most", x.span(1, 1), 3);
        x.decree(5);
        due("paid once", x.due(1, 0), 1);
    }

    static void section2DueInItsMonthAlone() {
        JuneVote x = made("month n from 9 to 9;" + DUES);
        x.decree(0);
        due("neither", x.due(0, 0) + x.due(0, 1) + x.due(1, 0) + x.due(1, 1), 0);
        x.decree(9);
        due("paid", x.due(0, 0) + x.due(1, 0), 2);
    }

    static void section2DueOfTheFirstAndOfTheLastDay() {
        JuneVote x = made("month m from 0 to 31;" + PEOPLE
            + "due d by p to q pays 1 on 1 of m;due e by p to q pays 99 on 31 of m;");
        x.decree(1);
        due("one day", x.person(1, 1), 1);
        x.decree(30);
        due("thirty", x.person(1, 1), 2);
        x.decree(31);
        due("all", x.person(1, 1), 102);
        due("lapsed", x.due(1, 1), 2);
    }

    static void section2LessThanNothing() {
        JuneVote x = made(DUES.replace("pays 7", "pays 1"));
        x.decree(3);
        x.decree(3);
        due("less than nothing", x.person(0, 1), -8);
        due("more", x.person(1, 1), 8);
    }

    static void section2NothingAtFirst() {
        JuneVote x = made(DUES);
        due("p", x.person(0, 1), 0);
        due("q", x.person(1, 1), 0);
    }

    // ---- "DRIFT behind a MONTH ... (a fraction; in e: cut down to a whole one, below 0, too)"

    private static JuneVote drifting(String sun) {
        return made("month m from 0 to 31;month n from 0 to 31;person p votes 1 wish drift;sun " + sun + ";");
    }

    static void section2DriftCutDown() {
        // 2 and 3 quarters a month.
        JuneVote x = drifting("5 and 1 of 2");
        due("3 quarters too few", x.worth(0, 2), -1);
        due("1 quarter too many", x.worth(0, 3), 0);
        due("1 and 3 quarters too few", x.worth(0, 1), -2);
        due("1 and 1 quarter too many", x.worth(0, 4), 1);
    }

    static void section2DriftOfWholeDaysIsNotCut() {
        JuneVote x = drifting("8 and 0 of 1");
        due("none", x.worth(0, 4), 0);
        due("one too few", x.worth(0, 3), -1);
        due("one too many", x.worth(0, 5), 1);
        due("all", x.worth(0, 0), -4);
    }

    static void section2DriftBehindAYear() {
        JuneVote x = drifting("5 and 98 of 99");
        x.decree(0);
        x.decree(0);
        due("a year's days and a bit, cut down", x.drift(0), -(5 * 99 + 98));
        due("of parts", x.drift(1), 99);
        due("in a formula", x.worth(0, 0), -9);
        due("in a formula", x.worth(0, 8), -1);
        due("in a formula", x.worth(0, 9), 0);
    }

    static void section2DriftAtFirst() {
        JuneVote x = drifting("5 and 1 of 2");
        due("upper", x.drift(0), 0);
        due("lower", x.drift(1), 1);
    }

    // ---- "e is asked for a length (days) of the coming MONTH: gets, owes: what one would get, would pay in it; ... have"

    private static JuneVote flows() {
        return made("month m from 0 to 31;month n from 0 to 31;person p votes 1 wish gets;person q votes 1 wish owes;"
            + "person r votes 1;person s votes 1 wish gets;person t votes 1 wish owes;due a by t to p pays 3 on 5 of m;"
            + "due b by t to p pays 4 on 5 of m late;due c by q to s pays 9 on 31 of m;due d by q to s pays 50 on 1 of n;");
    }

    static void section2GetsOnItsDay() {
        JuneVote x = flows();
        due("the day ahead: the late one alone", x.worth(0, 4), 4);
        due("its day: both", x.worth(0, 5), 7);
        due("the longest", x.worth(0, 31), 7);
        due("one day", x.worth(0, 1), 4);
        due("no day", x.worth(0, 0), 0);
    }

    static void section2OwesOnItsDay() {
        JuneVote x = flows();
        due("no day", x.worth(4, 0), 0);
        due("one day", x.worth(4, 1), 4);
        due("its day: both", x.worth(4, 5), 7);
        due("30 days", x.worth(1, 30), 0);
        due("31 days", x.worth(1, 31), 9);
        due("who gets it", x.worth(3, 31), 9);
    }

    static void section2GetsAndOwesInTheComingMonthAlone() {
        JuneVote x = flows();
        due("ahead of m", x.worth(3, 1), 0);
        x.decree(0);
        due("ahead of n", x.worth(3, 1), 50);
        due("ahead of n", x.worth(1, 1), 50);
        due("no more of m", x.worth(0, 31), 0);
        due("no more of m", x.worth(4, 31), 0);
    }

    static void section2GetsOnlyOfWhatIsNotForgiven() {
        JuneVote x = flows();
        x.forgive(1);
        due("gets", x.worth(0, 31), 3);
        due("owes", x.worth(4, 31), 3);
        x.forgive(1);
        due("gets", x.worth(0, 31), 7);
    }

    static void section2YearMonthAndHaveAreOfNow() {
        JuneVote x = made("month m from 0 to 9;month n from 0 to 9;person p votes 1 wish year;person q votes 1 wish month;"
            + "person r votes 1 wish have;due a by p to r pays 9 on 1 of m;");
        due("year 0", x.worth(0, 9), 0);
        due("month 0", x.worth(1, 9), 0);
        due("have 0, though it would bring 9", x.worth(2, 9), 0);
        x.decree(1);
        due("year 0", x.worth(0, 9), 0);
        due("month 1", x.worth(1, 9), 1);
        due("have 9", x.worth(2, 0), 9);
        x.decree(1);
        due("year 1", x.worth(0, 9), 1);
        due("month 0", x.worth(1, 9), 0);
    }

    static void section2WhatBindsMore() {
        due("or less than and", value("1 or 0 and 0"), 1);
        due("or less than and", value("0 and 0 or 1"), 1);
        due("and less than not", value("not 1 and 0"), 0);
        due("not less than =", value("not 1 = 0"), 1);
        due("not less than +", value("not 1 - 1"), 1);
        due("= less than +", value("1 + 1 = 2"), 1);
        due("+ less than *", value("1 + 2 * 3"), 7);
        due("- from the left", value("9 - 3 - 2"), 4);
        due("/ from the left", value("9 / 3 * 2"), 6);
        due("% from the left", value("9 % 5 % 3"), 1);
        due("( e ) first", value("(1 or 0) and 0"), 0);
    }

    // ---- "in the law gets, owes, have are 0"

    static void section2LawGetsIs0() {
        mayBe("gets", made(DUES.replace("31", "4") + "law gets = 0 and days > 2;"), "3 4");
    }

    static void section2LawOwesIs0() {
        mayBe("owes", made(DUES.replace("31", "4") + "law owes = 0 and days > 2;"), "3 4");
    }

    static void section2LawHaveIs0() {
        JuneVote x = made(DUES.replace("31", "4") + "law have = 0 and days > 2;");
        x.decree(3);
        mayBe("have", x, "3 4");
    }

    static void section2LawOfTheFactsThatAreNot0() {
        JuneVote x = made("month m from 0 to 4;month n from 0 to 4;sun 4 and 0 of 1;"
            + "law year * 100 + month * 10 + drift = 0 - 1 or drift = 10 or drift = 101;");
        // Two days a month.
        mayBe("drift alone", x, "1");
        x.decree(2);
        mayBe("for none: drift is 2 at the most", x, "0 1 2 3 4");
        x.decree(12);
        mayBe("drift", x, "2");
    }

    // ---- "(ints, wrapping; / cut, % its rest, both by 0: 0; relations, and, or, not are 1 or 0, of what is not 0.)"

    private static int value(String formula) {
        return made("month m from 0 to 31;person p votes 1 wish " + formula + ";").worth(0, 5);
    }

    static void section2WrappingSum() {
        due("2 to the 31st", value("1024*1024*1024+1024*1024*1024"), MIN);
        due("one below the least", value("1024*1024*1024*2-1"), MAX);
        due("one above the most", value("(1024*1024*1024*2-1)+1"), MIN);
    }

    static void section2WrappingProduct() {
        due("product", value("9999*9999*9999"), 9999 * 9999 * 9999);
        due("2 to the 32nd", value("1024*1024*1024*4"), 0);
        due("the least by -1", value("(1024*1024*1024*2)*(0-1)"), MIN);
    }

    static void section2DivisionIsCut() {
        due("7/2", value("7/2"), 3);
        due("-7/2", value("(0-7)/2"), -3);
        due("7/-2", value("7/(0-2)"), -3);
        due("-7/-2", value("(0-7)/(0-2)"), 3);
        due("1/2", value("1/2"), 0);
        due("-1/2", value("(0-1)/2"), 0);
    }

    static void section2RestOfDivision() {
        due("7%3", value("7%3"), 1);
        due("-7%3", value("(0-7)%3"), -1);
        due("7%-3", value("7%(0-3)"), 1);
        due("-7%-3", value("(0-7)%(0-3)"), -1);
        due("6%3", value("6%3"), 0);
    }

    static void section2DivisionBy0() {
        due("7/0", value("7/0"), 0);
        due("0/0", value("0/0"), 0);
        due("-7/0", value("(0-7)/(days-5)"), 0);
    }

    static void section2RestBy0() {
        due("7%0", value("7%0"), 0);
        due("0%0", value("0%0"), 0);
        due("-7%0", value("(0-7)%(days-5)"), 0);
    }

    static void section2TheLeastIntByMinus1() {
        due("by", value("1024*1024*1024*2/(0-1)"), MIN);
        due("rest", value("1024*1024*1024*2%(0-1)"), 0);
    }

    static void section2RelationsAre1Or0() {
        due("4<5", value("4<5"), 1);
        due("5<5", value("5<5"), 0);
        due("6<5", value("6<5"), 0);
        due("4>5", value("4>5"), 0);
        due("5>5", value("5>5"), 0);
        due("6>5", value("6>5"), 1);
        due("4=5", value("4=5"), 0);
        due("5=5", value("5=5"), 1);
    }

    static void section2RelationsOfFarNumbers() {
        // Their difference would wrap.
        due("least<most", value("1024*1024*1024*2 < 1024*1024*1024*2-1"), 1);
        due("least>most", value("1024*1024*1024*2 > 1024*1024*1024*2-1"), 0);
    }

    static void section2NotIs1Or0() {
        due("not 0", value("not 0"), 1);
        due("not 1", value("not 1"), 0);
        due("not 7", value("not 7"), 0);
        due("not -1", value("not 0-1"), 0);
        due("not not 7", value("not not 7"), 1);
    }

    static void section2AndIs1Or0() {
        due("2 and 4", value("2 and 4"), 1);
        due("-1 and 1", value("0-1 and 1"), 1);
        due("2 and 0", value("2 and 0"), 0);
        due("0 and 2", value("0 and 2"), 0);
        due("0 and 0", value("0 and 0"), 0);
    }

    static void section2OrIs1Or0() {
        due("2 or 4", value("2 or 4"), 1);
        due("0 or -1", value("0 or 0-1"), 1);
        due("2 or 0", value("2 or 0"), 1);
        due("0 or 0", value("0 or 0"), 0);
    }

    // ---- "A length MAY BE, if it is from .. to, and the law is not 0; all from .. to, if for none the law is not 0"

    static void section2MayBeFromTo() {
        mayBe("from .. to", made("month m from 2 to 5;"), "2 3 4 5");
        mayBe("one", made("month m from 7 to 7;"), "7");
        mayBe("none but 0", made("month m from 0 to 0;"), "0");
        mayBe("31", made("month m from 30 to 31;"), "30 31");
        due("all 32", made("month m from 0 to 31;").lengths(1, 0), 32);
    }

    static void section2MayBeByTheLaw() {
        mayBe("of 1", made("month m from 2 to 5;law days > 3;"), "4 5");
        mayBe("of what is below 0", made("month m from 2 to 5;law days - 4;"), "2 3 5");
        mayBe("just one", made("month m from 2 to 5;law days = 5;"), "5");
        mayBe("beside from .. to", made("month m from 2 to 5;law days < 3 or days > 5;"), "2");
    }

    static void section2ForNoneTheLawIsNot0() {
        mayBe("for none", made("month m from 2 to 5;law 0;"), "2 3 4 5");
        mayBe("for none from .. to", made("month m from 2 to 5;law days > 5;"), "2 3 4 5");
    }

    static void section2LawAskedAnewForEachMonth() {
        JuneVote x = made("month m from 2 to 3;month n from 2 to 3;law days = 3 and month = 1;");
        mayBe("for none", x, "2 3");
        x.run(1);
        mayBe("for one", x, "3");
    }

    // ---- "WORTH: what comes of the wish (0 without). One VOTES for the length that MAY BE of most WORTH; of like ones"

    static void section2WorthWithoutAWish() {
        JuneVote x = made("month m from 2 to 5;person p votes 1;person q votes 1 wish days;person r votes 1;law days;");
        due("ahead of one with a wish", x.worth(0, 4), 0);
        due("behind one with a wish", x.worth(2, 4), 0);
        due("votes", x.votes(2), 2);
    }

    static void section2VotesOfLikeOnesTheLeast() {
        JuneVote x = made("month m from 0 to 31;person p votes 1 wish days = 9 or days = 4 or days = 30;");
        due("of three", x.votes(0), 4);
    }

    static void section2VotesForWhatIsBelow0() {
        JuneVote x = made("month m from 3 to 31;person p votes 1 wish 0 - 9999 * 9999 * 20 - days;");
        due("far below", x.votes(0), 3);
    }

    static void section2VotesForWhatMayBeAlone() {
        JuneVote x = made("month m from 2 to 9;person p votes 1 wish days;law days < 7;");
        due("not 9", x.votes(0), 6);
        due("not 31", x.worth(0, 31), 31);
    }

    static void section2VotesForTheLongest() {
        due("31", made("month m from 0 to 31;person p votes 1 wish days;").votes(0), 31);
        due("0", made("month m from 0 to 31;person p votes 1 wish 0 - days;").votes(0), 0);
    }

    // ---- "COUNTED"

    /** People by their votes and the length that each votes for. */
    private static JuneVote house(String way, int... votesAndLengths) {
        StringBuilder text = new StringBuilder("month m from 0 to 31;count " + way + ";");
        for (int i = 0; i + 1 < votesAndLengths.length; i += 2) {
            text.append("person ").append((char) ('a' + i)).append(" votes ").append(votesAndLengths[i])
                .append(" wish days = ").append(votesAndLengths[i + 1]).append(';');
        }
        return made(text.toString());
    }

    static void section2MostVotes() {
        due("one of them", house("most", 3, 8, 2, 3).counted(), 8);
        due("votes together", house("most", 3, 8, 2, 3, 2, 3).counted(), 3);
        due("the longest", house("most", 1, 31).counted(), 31);
    }

    static void section2MostOfLikeOnesTheLeast() {
        due("of two", house("most", 2, 8, 2, 3).counted(), 3);
        due("of two", house("most", 2, 3, 2, 8).counted(), 3);
        due("of three", house("most", 1, 8, 2, 5, 2, 7, 1, 8).counted(), 5);
    }

    static void section2MiddleOfJustHalf() {
        due("just half", house("middle", 2, 3, 2, 8).counted(), 3);
        due("just half of more", house("middle", 1, 31, 2, 5, 1, 30).counted(), 5);
    }

    static void section2MiddleOfLessThanHalf() {
        due("less than half", house("middle", 2, 3, 3, 8).counted(), 8);
        due("by one", house("middle", 4, 3, 1, 4, 5, 8).counted(), 4);
        due("the last", house("middle", 4, 3, 5, 31).counted(), 31);
    }

    static void section2MiddleOfMoreThanHalf() {
        due("more than half", house("middle", 3, 0, 2, 8).counted(), 0);
    }

    static void section2MeanIsCut() {
        due("11 by 2", house("mean", 1, 3, 1, 8).counted(), 5);
        due("14 by 5", house("mean", 4, 3, 1, 2).counted(), 2);
        due("31 by 1", house("mean", 9, 31).counted(), 31);
        due("a whole one", house("mean", 1, 3, 1, 9).counted(), 6);
    }

    static void section2MeanThatMayNotBe() {
        JuneVote x = made("month m from 0 to 31;count mean;law not days = 5;person p votes 1 wish days = 3;"
            + "person q votes 1 wish days = 8;");
        due("may 5", x.may(5), 0);
        due("counted", x.counted(), 5);
        x.run(1);
        due("it comes", x.length(0), 5);
    }

    static void section2AllHaveNoVotes() {
        for (String way : new String[] {"most", "middle", "mean"}) {
            JuneVote x = made("month m from 2 to 31;count " + way + ";person p votes 0 wish days;person q votes 0;law days > 4;");
            due(way, x.counted(), 5);
        }
    }

    static void section2NobodyHasVotes() {
        for (String way : new String[] {"most", "middle", "mean"}) {
            due(way, made("month m from 2 to 31;count " + way + ";law days > 4;").counted(), 5);
            due(way, made("month m from 2 to 31;count " + way + ";").counted(), 2);
        }
    }

    static void section2OneWithoutVotesIsNotCounted() {
        due("most", house("most", 0, 8, 1, 9).counted(), 9);
        due("middle", house("middle", 0, 8, 1, 9).counted(), 9);
        due("mean", house("mean", 0, 8, 1, 9).counted(), 9);
    }

    // ---- "ACTS", "UNDO", "REDO"

    static void section2DecreeWhateverMayBe() {
        JuneVote x = made("month m from 3 to 4;law days = 4;");
        due("0", x.decree(0), 1);
        due("31", x.decree(31), 2);
        due("length", x.length(0), 0);
        due("length", x.length(1), 31);
    }

    static void section2DecreeOf0To31() {
        JuneVote x = made("month m from 3 to 4;");
        due("-1", x.decree(-1), NONE);
        due("32", x.decree(32), NONE);
        due("none came", x.about(3), 0);
    }

    static void section2ForgivenIsNone() {
        JuneVote x = made(DUES.replace("p votes 1", "p votes 1 wish gets * 100 + owes"));
        x.forgive(0);
        x.forgive(1);
        due("neither gets nor owes", x.worth(0, 9), 0);
        due("none lapses", x.ahead(9, 1, 0), 0);
        x.decree(9);
        x.decree(0);
        due("none was paid", x.due(0, 0) + x.due(1, 0), 0);
        due("none lapsed", x.due(0, 1) + x.due(1, 1), 0);
        due("nothing moved", x.person(0, 1), 0);
    }

    static void section2ForgivenIsToldAgain() {
        JuneVote x = made(DUES);
        due("forgiven", x.forgive(0), 1);
        x.decree(9);
        due("told again", x.forgive(0), 0);
        x.decree(9);
        due("paid once", x.due(0, 0), 1);
        due("forgiven again", x.forgive(0), 1);
    }

    static void section2VotesOf0To9() {
        JuneVote x = made(DUES);
        due("0", x.endow(0, 0), 1);
        due("9", x.endow(0, 9), 0);
        due("10", x.endow(0, 10), NONE);
        due("-1", x.endow(0, -1), NONE);
        due("as they were", x.person(0, 0), 9);
    }

    static void section2UndoTheLatestThatWasNot() {
        JuneVote x = made(DUES);
        x.decree(1);
        x.decree(2);
        x.decree(3);
        x.undo();
        x.undo();
        due("one", x.about(3), 1);
        x.decree(4);
        x.undo();
        x.undo();
        due("none", x.about(3), 0);
        due("no more", x.undo(), false);
    }

    static void section2RedoWhatWasTakenBackLast() {
        JuneVote x = made(DUES);
        x.decree(1);
        x.decree(2);
        x.undo();
        x.undo();
        x.redo();
        due("the first", x.length(0), 1);
        due("it alone", x.about(3), 1);
        x.redo();
        due("the second", x.length(1), 2);
        due("no more", x.redo(), false);
    }

    static void section2RedoTillAnotherAct() {
        for (int act = 0; act < 4; act++) {
            JuneVote x = made(DUES);
            x.decree(1);
            x.decree(2);
            x.undo();
            act(x, act);
            due("redo behind act " + act, x.redo(), false);
            due("redone", x.about(8), 0);
            due("undone", x.about(7), 2);
        }
    }

    private static void act(JuneVote x, int which) {
        switch (which) {
            case 0:
                x.run(0);
                break;
            case 1:
                x.decree(0);
                break;
            case 2:
                x.forgive(0);
                break;
            default:
                x.endow(0, 1);
                break;
        }
    }

    static void section2WhatIsRefusedIsNoAct() {
        JuneVote x = made(DUES);
        x.decree(1);
        x.undo();
        x.run(61);
        x.decree(32);
        x.forgive(2);
        x.endow(0, 10);
        x.endow(2, 1);
        due("redone", x.about(8), 1);
        due("undone", x.about(7), 0);
        due("redo", x.redo(), true);
    }

    static void section2ARunIsOneAct() {
        JuneVote x = made(DUES);
        x.run(60);
        due("one", x.about(7), 1);
        x.undo();
        due("all 60", x.about(3), 0);
        due("have", x.person(0, 1), 0);
        x.redo();
        due("all 60", x.about(3), 60);
    }

    static void section2FortyActsAreKept() {
        JuneVote x = made(DUES);
        for (int i = 1; i <= 41; i++) {
            x.decree(1);
            due("kept behind " + i, x.about(7), Math.min(i, 40));
        }
        for (int i = 0; i < 40; i++) {
            due("undo " + i, x.undo(), true);
        }
        due("the oldest is gone", x.undo(), false);
        due("it stays done", x.about(3), 1);
        for (int i = 0; i < 40; i++) {
            due("redo " + i, x.redo(), true);
        }
        due("no more", x.redo(), false);
        due("all are done", x.about(3), 41);
    }

    static void section2TheOldestGo() {
        JuneVote x = made(DUES);
        for (int i = 0; i < 50; i++) {
            x.endow(0, i % 10);
        }
        for (int i = 0; i < 40; i++) {
            x.undo();
        }
        // Behind the tenth act his votes were 9.
        due("votes behind the tenth", x.person(0, 0), 9);
        x.redo();
        due("votes behind the eleventh", x.person(0, 0), 0);
    }

    /** What an act of each sort changes, as a text. */
    private static String kept(JuneVote x) {
        return x.about(3) + " " + x.about(4) + " " + x.person(0, 0) + " " + x.person(1, 0) + " " + x.person(0, 1) + " "
            + x.due(0, 0) + " " + x.due(0, 1) + " " + x.due(0, 2) + " " + x.due(1, 2);
    }

    static void section2TheOldestOfAllSortsGo() {
        JuneVote x = made(DUES);
        String[] states = new String[61];
        states[0] = kept(x);
        for (int i = 1; i <= 60; i++) {
            switch (i % 7) {
                case 0:
                    x.forgive(i % 2);
                    break;
                case 1:
                case 2:
                    x.endow(i % 2, i % 10);
                    break;
                case 3:
                    x.run(i % 5);
                    break;
                default:
                    x.decree(i % 4);
                    break;
            }
            states[i] = kept(x);
        }
        for (int i = 59; i >= 20; i--) {
            due("undo of " + i, x.undo(), true);
            due("as it was behind " + i, states[i].equals(kept(x)), true);
        }
        due("the oldest are gone", x.undo(), false);
        for (int i = 21; i <= 60; i++) {
            due("redo of " + i, x.redo(), true);
            due("as it was behind " + i, states[i].equals(kept(x)), true);
        }
        due("no more", x.redo(), false);
    }

    static void section2FortyKeptWithThoseTakenBack() {
        JuneVote x = made(DUES);
        for (int i = 0; i < 40; i++) {
            x.decree(1);
        }
        for (int i = 0; i < 10; i++) {
            x.undo();
        }
        due("undone", x.about(7), 30);
        due("redone", x.about(8), 10);
        x.decree(2);
        due("undone", x.about(7), 31);
        due("redone", x.about(8), 0);
    }

    // ---- section 3: "(Below all is asked from what is now, and nothing is done.)"

    private static String state(JuneVote x) {
        StringBuilder text = new StringBuilder();
        for (int what = 0; what < 13; what++) {
            text.append(x.about(what)).append(' ');
        }
        for (int i = 0; i < 2; i++) {
            text.append(x.person(i, 0)).append(' ').append(x.person(i, 1)).append(' ').append(x.due(i, 0)).append(' ')
                .append(x.due(i, 1)).append(' ').append(x.due(i, 2)).append(' ').append(x.votes(i)).append(' ');
        }
        return text.append(x.drift(0)).append(' ').append(x.drift(1)).append(' ').append(x.counted()).append(' ')
            .append(x.length(x.about(3) - 1)).append(' ').append(x.length(x.about(3))).append(Edges.may(x)).toString();
    }

    static void section3NothingIsDone() {
        JuneVote x = made(DUES.replace("votes 1", "votes 2 wish have - days * gets") + "law days < 9 or year = 1;");
        x.decree(2);
        x.decree(3);
        x.undo();
        x.forgive(1);
        x.decree(4);
        x.undo();
        String before = state(x);
        int sum = x.turned(3, 4) + x.least(5) + x.bribe(3, 0) + x.bribe(4, 1) + x.rest(0) + x.rest(1) + x.plan(0, 3)
            + x.plan(1, 4) + x.span(0, 0) + x.skew(120, 5, false) + x.skew(120, 5, true) + x.again(0) + x.ahead(60, 2, 0)
            + x.ahead(60, 0, 0) + x.ahead(60, 1, 0) + x.net(0, 3) + x.lengths(3, 0) + x.known(3, 1, true, 0);
        due("state stays (" + sum + ")", before.equals(state(x)), true);
    }

    // ---- "TURNED", "LEAST SET", "BRIBE"

    static void section3TurnedByTheEmptySet() {
        JuneVote x = house("most", 3, 8, 2, 3);
        due("as it is", x.turned(0, 8), 1);
        due("another", x.turned(0, 3), 0);
        JuneVote nobody = made("month m from 3 to 4;");
        due("nobody", nobody.turned(0, 3), 1);
        due("nobody", nobody.turned(0, 4), 0);
    }

    static void section3TurnedByAll() {
        JuneVote x = house("middle", 3, 8, 2, 3, 1, 0, 9, 31, 9, 30);
        for (int length = 0; length < 32; length++) {
            due("all for " + length, x.turned(31, length), 1);
        }
    }

    static void section3TurnedAllOthersAsTheyDo() {
        JuneVote x = house("most", 3, 8, 2, 3, 2, 4);
        due("one more for 3", x.turned(4, 3), 1);
        due("one more for 8", x.turned(4, 8), 1);
        due("one less for 8, two for 9", x.turned(4, 9), 0);
        due("two for 9", x.turned(6, 9), 1);
    }

    static void section3TurnedByOneWithoutVotes() {
        JuneVote x = house("most", 0, 8, 2, 3);
        due("he can't", x.turned(1, 8), 0);
        due("he can, as it is so", x.turned(1, 3), 1);
    }

    static void section3TurnedForWhatMayNotBe() {
        JuneVote x = made("month m from 2 to 5;law days > 3;person p votes 1;");
        due("by the law", x.turned(1, 3), NONE);
        due("below", x.turned(1, 1), NONE);
        due("above", x.turned(1, 6), NONE);
        due("it may", x.turned(1, 4), 1);
    }

    /** a and b together, or c alone, turn it for 2. */
    private static JuneVote ofThree(String a, String b, String c) {
        return made("month m from 0 to 5;person a votes 3 wish (days = 0) * " + a + ";person b votes 3 wish (days = 4) * " + b
            + ";person c votes 5 wish (days = 1) * " + c + ";");
    }

    static void section3LeastSetIsTheFewest() {
        JuneVote x = ofThree("9", "9", "9");
        due("a and b can", x.turned(3, 2), 1);
        due("c can", x.turned(4, 2), 1);
        due("the fewest", x.least(2), 4);
    }

    static void section3LeastSetOfLikeOnesByBits() {
        JuneVote x = house("most", 1, 0, 3, 4, 3, 5);
        due("a can't", x.turned(1, 2), 0);
        due("b can", x.turned(2, 2), 1);
        due("c can", x.turned(4, 2), 1);
        due("b", x.least(2), 2);
    }

    static void section3LeastSetIsEmpty() {
        due("as it is", house("most", 1, 0, 3, 4).least(4), 0);
        due("nobody", made("month m from 3 to 4;").least(3), 0);
    }

    static void section3NoLeastSet() {
        due("without votes", house("most", 0, 4, 0, 5).least(2), NONE);
        due("without votes, the least", house("most", 0, 4, 0, 5).least(0), 0);
        due("nobody", made("month m from 3 to 4;").least(4), NONE);
    }

    static void section3LeastSetOfAll() {
        due("all five", house("mean", 1, 0, 1, 0, 1, 0, 1, 0, 1, 0).least(31), 31);
    }

    static void section3BribeIsTheLeastSum() {
        JuneVote x = ofThree("10", "10", "21");
        due("a and b", x.bribe(2, 0), 20);
        due("a and b", x.bribe(2, 1), 3);
        JuneVote y = ofThree("10", "10", "19");
        due("c", y.bribe(2, 0), 19);
        due("c", y.bribe(2, 1), 4);
    }

    static void section3BribeOfLikeOnesTheLeastSet() {
        JuneVote x = ofThree("10", "10", "20");
        due("either", x.bribe(2, 0), 20);
        due("a and b are less as bits", x.bribe(2, 1), 3);
        JuneVote y = ofThree("0", "10", "9");
        due("c", y.bribe(2, 0), 9);
        due("a, who asks nothing, is not needed", y.bribe(2, 1), 4);
    }

    static void section3BribeOfWhoVotesSo() {
        JuneVote x = house("most", 1, 4, 3, 5);
        due("nobody is asked", x.bribe(5, 0), 0);
        due("nobody is asked", x.bribe(5, 1), 0);
        due("b alone, a votes so", x.bribe(4, 0), 1);
        due("b alone, a votes so", x.bribe(4, 1), 2);
    }

    static void section3BribeWraps() {
        JuneVote x = made("month m from 0 to 1;person p votes 1 wish 9999 * 9999 * 20 * (1 - days * 2);");
        due("below 0", x.bribe(1, 0), 9999 * 9999 * 20 * 2);
        JuneVote y = made("month m from 0 to 1;count middle;person p votes 1 wish 9999 * 9999 * 20 * (days = 0);"
            + "person q votes 1 wish 9999 * 9999 * 20 * (days = 0);person r votes 3 wish 5 * (days = 0);");
        due("r alone asks 5; with p and q less than nothing", y.bribe(1, 0), 9999 * 9999 * 20 * 2 + 5);
        due("all", y.bribe(1, 1), 7);
    }

    // ---- "REST"

    static void section3RestWithHisOwnIfItIsOneOfThese() {
        JuneVote x = house("most", 1, 8, 1, 3, 1, 4);
        due("one turn", x.rest(0), 1);
        due("a", x.lies(0), 8);
        due("b", x.lies(1), 3);
        due("c", x.lies(2), 4);
    }

    static void section3RestElseWithTheLeast() {
        JuneVote x = made("month m from 0 to 10;count mean;person p votes 1 wish 0 - (days - 4) * (days - 4);"
            + "person q votes 1 wish days;");
        // With 10 of q, p gets 5 by 0 or 1.
        due("turns", x.rest(0), 2);
        due("the least", x.lies(0), 0);
        due("his own", x.lies(1), 10);
        due("counted then", x.rest(1), 5);
    }

    static void section3RestAmongWhatMayBeAlone() {
        JuneVote x = made("month m from 0 to 10;law days > 1;count mean;"
            + "person p votes 1 wish 0 - (days - 4) * (days - 4);person q votes 1 wish days;");
        due("turns", x.rest(0), 2);
        due("not 0", x.lies(0), 2);
    }

    static void section3RestOfOneTurn() {
        due("nobody", made("month m from 3 to 10;").rest(0), 1);
        due("one alone", house("most", 1, 8).rest(0), 1);
    }

    private static final String FORTY = "month m from 0 to 31; count mean; person p votes 3 wish (days*3+1)%25;"
        + "person q votes 9 wish (days*20+37)%33; person r votes 9 wish (days*days*25+days*10)%17;";
    private static final String FORTY_ONE = "month m from 0 to 27; count mean; person p votes 9 wish (days*days*6+days*38)%27;"
        + "person q votes 9 wish (days*days*7+days*32)%57; person r votes 8 wish (days*17+36)%39;";

    static void section3RestBehindFortyTurns() {
        JuneVote x = made(FORTY);
        due("turns", x.rest(0), 40);
        due("all lie", x.about(13), 3);
    }

    static void section3RestBehindMoreThanForty() {
        JuneVote x = made(FORTY_ONE);
        due("turns", x.rest(0), NONE);
        due("counted then", x.rest(1), NONE);
        due("nothing lies", x.about(13), 0);
    }

    // ---- "PLAN of one for n MONTHS (1 .. 4)"

    static void section3PlanFor1To4() {
        JuneVote x = made("month m from 1 to 3;person p votes 1 wish days;");
        due("0", x.plan(0, 0), GAP);
        due("1", x.plan(0, 1), 3);
        due("one lies", x.about(13), 1);
        due("4", x.plan(0, 4), 12);
        due("four lie", x.about(13), 4);
        due("5", x.plan(0, 5), GAP);
        due("1 again", x.plan(0, 1), 3);
        due("it alone lies", x.about(13), 1);
    }

    static void section3PlanOfEachByHimself() {
        JuneVote x = made("month m from 1 to 3;person p votes 1 wish days;person q votes 1 wish 0 - days;person r votes 1;");
        due("p", x.plan(0, 2), 6);
        due("q", x.plan(1, 2), -2);
        due("q's", x.lies(0) * 10 + x.lies(1), 11);
        due("r", x.plan(2, 2), 0);
    }

    static void section3PlanOfLikeOnesTheFirstRow() {
        JuneVote x = made("month m from 1 to 3;person p votes 1;");
        due("all alike", x.plan(0, 3), 0);
        due("the first", x.lies(0) * 100 + x.lies(1) * 10 + x.lies(2), 111);
        JuneVote y = made("month m from 0 to 3;sun 2 and 0 of 1;person p votes 1 wish drift = 1;");
        // Drift 1 behind both: 3 and then 2.
        due("both", y.plan(0, 2), 2);
        due("the one row", y.lies(0) * 10 + y.lies(1), 32);
        JuneVote z = made("month m from 0 to 3;sun 2 and 0 of 1;person p votes 1 wish drift = 1 and year = 1;");
        due("the second", z.plan(0, 2), 1);
        due("the first of 23, 32", z.lies(0) * 10 + z.lies(1), 23);
    }

    static void section3PlanOfWhatMayBe() {
        JuneVote x = made("month m from 0 to 9;law days = year + 2;person p votes 1 wish days;");
        due("2, 3, 4", x.plan(0, 3), 9);
        JuneVote y = made("month m from 0 to 9;law days < 5;person p votes 1 wish days;");
        due("4, 4", y.plan(0, 2), 8);
    }

    static void section3PlanEachAsItIsByThen() {
        JuneVote x = made("month m from 1 to 3;person p votes 1 wish have * days;person q votes 1;"
            + "due d by q to p pays 1 on 3 of m;");
        due("3 brings 1, then 3 times 1", x.plan(0, 2), 3);
        due("3, 3", x.lies(0) * 10 + x.lies(1), 33);
    }

    static void section3PlanBelow0() {
        JuneVote x = made("month m from 2 to 3;person p votes 1 wish 0 - days;");
        due("all below 0", x.plan(0, 4), -8);
        JuneVote y = made("month m from 2 to 3;person p votes 1 wish 0 - days - 1024*1024*1024;");
        due("wrapping", y.plan(0, 2), MIN + MAX - 1024 * 1024 * 1024 - 1024 * 1024 * 1024 - 3);
    }

    private static final String SPENDING = "person p votes 1 wish days;month a from 0 to 31;month b from 1 to 24;"
        + "month c from 1 to ";

    static void section3PlanOf20000Rows() {
        // 32, 32 * 24 and 32 * 24 * 25 rows.
        JuneVote x = made(SPENDING + "25;");
        due("20,000", x.plan(0, 3), 31 + 24 + 25);
        due("c", x.lies(2), 25);
        due("once more", x.plan(0, 3), 31 + 24 + 25);
        JuneVote y = made(SPENDING + "25;law 1;");
        due("by a law", y.plan(0, 3), 31 + 24 + 25);
        due("by a law, once more", y.plan(0, 3), 31 + 24 + 25);
        due("20,000 by a law for none", made(SPENDING + "25;law 0;").plan(0, 3), 31 + 24 + 25);
    }

    static void section3PlanOf20001Rows() {
        String one = "month o from 5 to 5;";
        due("20,001", made(one + SPENDING + "25;").plan(0, 4), GAP - 1);
        due("20,001 by a law", made(one + SPENDING + "25;law 1;").plan(0, 4), GAP - 1);
        JuneVote x = made(one + SPENDING + "25;");
        due("the first three of them", x.plan(0, 3), 5 + 31 + 24);
        due("all again", x.plan(0, 4), GAP - 1);
        due("nothing lies", x.about(13), 0);
    }

    static void section3PlanOfRowsThatMayBe() {
        // As many from .. to, but one length less may be.
        due("by the law", made(SPENDING + "26;law days > 1;").plan(0, 3), 31 + 24 + 26);
        due("without", made(SPENDING + "26;").plan(0, 3), GAP - 1);
    }

    // ---- "SPAN of a DUE"

    private static JuneVote spans(int from, int to, String late) {
        return made("month m from " + from + " to " + to + ";month n from 2 to 4;" + PEOPLE
            + "due d by p to q pays 1 on 3 of m" + late + ";");
    }

    private static void span(String when, JuneVote x, int least, int most, int lapse) {
        due(when + ", at the least", x.span(0, 0), least);
        due(when + ", at the most", x.span(0, 1), most);
        due(when + ", can lapse", x.span(0, 2), lapse);
    }

    static void section3SpanOfADayThatIsThere() {
        span("from its day on", spans(3, 9, ""), 3, 3, 0);
        span("late, too", spans(3, 9, " late"), 3, 3, 0);
    }

    static void section3SpanOfADayThatMayLack() {
        span("from the day ahead on", spans(2, 3, ""), 3, 3, 1);
        span("from 0 on", spans(0, 3, ""), 3, 3, 1);
    }

    static void section3SpanOfADayThatIsNotThere() {
        span("never", spans(0, 2, ""), NONE, NONE, 1);
        span("never", spans(2, 2, ""), NONE, NONE, 1);
    }

    static void section3SpanOfALateDue() {
        span("from 2", spans(2, 2, " late"), 2, 2, 0);
        span("from 1", spans(1, 9, " late"), 1, 3, 0);
        span("from 0: the soonest is day 1", spans(0, 9, " late"), 1, 3, 1);
        span("from 0 to 1", spans(0, 1, " late"), 1, 1, 1);
        span("never", spans(0, 0, " late"), NONE, NONE, 1);
    }

    static void section3SpanBehindOtherMonths() {
        JuneVote x = spans(3, 9, "");
        x.decree(0);
        span("behind n", x, 5, 7, 0);
        x.decree(31);
        span("its own month again", x, 3, 3, 0);
    }

    static void section3SpanOfAnyLengthWhateverTheLaw() {
        JuneVote x = made("month n from 2 to 4;month m from 0 to 9;law days = 3;" + PEOPLE
            + "due d by p to q pays 1 on 3 of m;");
        span("from .. to alone", x, 5, 7, 1);
    }

    static void section3SpanOverAYear() {
        JuneVote x = made("month a from 1 to 2;month b from 10 to 20;month c from 3 to 7;month d from 0 to 9;" + PEOPLE
            + "due d by p to q pays 1 on 1 of a;");
        x.decree(1);
        span("b, c, d", x, 14, 37, 0);
    }

    // ---- "SKEW for n MONTHS (1 .. 120)"

    static void section3SkewJustWOff() {
        JuneVote x = made("month m from 6 to 6;sun 4 and 0 of 1;");
        due("2 is not more than 2", x.skew(1, 2, false), NONE);
        due("4 is", x.skew(120, 2, false), 2);
        due("2 is more than 1", x.skew(120, 1, false), 1);
        due("198 is more than 197 at most 99", x.skew(120, 99, false), 50);
    }

    static void section3SkewOnEitherSide() {
        JuneVote x = made("month m from 2 to 2;sun 4 and 0 of 1;");
        due("-2 is not more than 2", x.skew(1, 2, false), NONE);
        due("-4 is", x.skew(120, 2, false), 2);
        due("-2 is more than 1", x.skew(120, 1, false), 1);
        due("by repair", x.skew(120, 2, true), 2);
    }

    static void section3SkewOfAFraction() {
        JuneVote x = made("month m from 6 to 6;sun 5 and 1 of 2;");
        due("a half is more than 0", x.skew(120, 0, false), 1);
        due("one and a half is more than 1", x.skew(120, 1, false), 3);
    }

    static void section3SkewOfNone() {
        due("never", made("month m from 4 to 4;sun 4 and 0 of 1;").skew(120, 0, false), NONE);
        JuneVote x = made("month m from 6 to 6;sun 4 and 0 of 1;");
        due("in 49 months it is 98", x.skew(49, 99, false), NONE);
        due("in 50 months it is 100", x.skew(50, 99, false), 50);
    }

    static void section3SkewIsNotAskedOfNow() {
        JuneVote x = made("month m from 0 to 9;sun 4 and 0 of 1;person p votes 1 wish days = 0;");
        x.decree(9);
        due("5 too many now, 1 behind the first", x.skew(120, 4, false), 3);
    }

    static void section3SkewFor1To120() {
        JuneVote x = made("month m from 5 to 5;sun 4 and 95 of 99;");
        due("0", x.skew(0, 1, false), -2);
        due("1", x.skew(1, 1, false), NONE);
        due("120: 4 and 84 of 99", x.skew(120, 4, false), 100);
        due("120: not more than 4 by then", x.skew(99, 4, false), NONE);
        due("121", x.skew(121, 1, false), -2);
    }

    static void section3SkewBehindTheLastOf120() {
        // 1 of 24 a month: 5 behind 120.
        JuneVote x = made("month m from 5 to 5;sun 4 and 23 of 24;");
        due("5 is not more than 5", x.skew(120, 5, false), NONE);
        due("more than 4 from 97 on", x.skew(120, 4, false), 97);
        JuneVote y = made("month m from 5 to 5;sun 4 and 95 of 96;");
        due("1 and 24 of 96 is behind 120", y.skew(120, 1, false), 97);
        due("1 is behind 96", y.skew(96, 1, false), NONE);
    }

    static void section3RepairNotBelow0() {
        JuneVote x = made("month m from 0 to 9;sun 4 and 0 of 1;");
        due("just 0 each time", x.skew(120, 0, true), NONE);
        JuneVote y = made("month m from 0 to 9;sun 4 and 1 of 4;");
        // 5, 4, 4, 4: 3 quarters, a half, a quarter, none.
        due("never a day", y.skew(120, 0, true), 1);
        due("never more than one", y.skew(120, 1, true), NONE);
    }

    static void section3RepairByTheLeastThatMayBe() {
        JuneVote x = made("month m from 0 to 9;sun 4 and 0 of 1;law days > 5;");
        due("6 each time", x.skew(120, 3, true), 2);
    }

    static void section3RepairElseByTheGreatest() {
        JuneVote x = made("month m from 0 to 3;sun 4 and 0 of 1;");
        due("3 each time", x.skew(120, 9, true), 10);
        JuneVote y = made("month m from 0 to 3;sun 4 and 0 of 1;law days < 3;");
        due("2 each time", y.skew(120, 9, true), 5);
        JuneVote z = made("month m from 0 to 0;sun 4 and 0 of 1;");
        due("0 each time", z.skew(120, 9, true), 3);
    }

    static void section3RepairOfWhatWas() {
        JuneVote x = made("month m from 0 to 9;sun 4 and 0 of 1;");
        x.decree(0);
        due("8 at once", x.skew(120, 0, true), NONE);
        x.decree(31);
        // 23 too many: 19, 15, 11, 7, 3, and then none.
        due("0 till it is so", x.skew(120, 18, true), 1);
        due("0 till it is so", x.skew(120, 19, true), NONE);
    }

    // ---- "AGAIN: ... the first YEAR from the next one on that begins (0: that one), up to 30"

    private static JuneVote growing() {
        // 0 to 31, and then always 0.
        return made("month m from 0 to 31;person p votes 1 wish not (days - year);");
    }

    static void section3AgainUpToYear30() {
        JuneVote x = growing();
        x.run(3);
        // 3 .. 31 are the years 0 .. 28; 29 and 30 are of 0.
        due("earlier", x.again(0), 29);
        due("later", x.again(1), 30);
    }

    static void section3AgainBehindYear30() {
        JuneVote x = growing();
        x.run(2);
        due("the second 0 is year 31", x.again(0), NONE);
        due("the second 0 is year 31", x.again(1), NONE);
    }

    static void section3AgainAtOnce() {
        JuneVote x = made("month m from 3 to 4;month n from 2 to 2;");
        due("earlier", x.again(0), 0);
        due("later", x.again(1), 1);
    }

    static void section3AgainFromTheNextYearThatBegins() {
        // 0 is unlike all others in its second month.
        JuneVote x = made("month m from 1 to 1;month n from 0 to 9;person p votes 1 wish days = 5 and year = 0;");
        due("5, 0, 0", x.again(0) * 10 + x.again(1), 12);
        x.run(1);
        due("the year that runs is none of these", x.again(0) * 10 + x.again(1), 1);
        x.run(1);
        due("0, 0", x.again(0) * 10 + x.again(1), 1);
    }

    static void section3AgainAllMonthsOfAYear() {
        JuneVote x = made("month m from 1 to 1;month n from 0 to 9;month o from 2 to 2;"
            + "person p votes 1 wish days = (year + 2) % 3;");
        due("every third", x.again(0) * 10 + x.again(1), 3);
    }

    static void section3AgainTheFirstSuch() {
        // 0, 1, 2, 3, 4, 5, 6, 4, ...
        JuneVote x = made("month m from 0 to 31;person p votes 1 wish (not (days - year)) + (year > 6) * (days = 4) * 2;");
        due("earlier", x.again(0), 4);
        due("later", x.again(1), 7);
    }

    // ---- "AHEAD by n MONTHS (0 .. 60)"

    static void section3AheadBy0() {
        JuneVote x = made(DUES);
        x.decree(2);
        due("days", x.ahead(0, 0, 0), 2);
        due("lapses", x.ahead(0, 1, 0), 0);
        due("have", x.ahead(0, 2, 0), 7);
    }

    static void section3AheadBy60() {
        JuneVote x = made(DUES.replace("q votes 1", "q votes 1 wish days = 1"));
        x.endow(0, 0);
        x.decree(2);
        due("days", x.ahead(60, 0, 0), 62);
        due("lapses on the way alone", x.ahead(60, 1, 0), 60);
        due("have", x.ahead(60, 2, 0), 61 * 7);
        due("61", x.ahead(61, 0, 0), GAP);
        due("-1", x.ahead(-1, 0, 0), GAP);
    }

    static void section3AheadLapsesAskedFirst() {
        JuneVote x = made(DUES.replace("from 0 to 31", "from 1 to 2"));
        x.decree(0);
        due("lapses", x.ahead(7, 1, 0), 7);
        due("of now", x.due(0, 1), 1);
        JuneVote y = made(DUES.replace("from 0 to 31", "from 1 to 2"));
        due("have", y.ahead(7, 2, 0), 49);
    }

    static void section3AheadBehind300Months() {
        JuneVote x = made("month m from 1 to 1;month n from 1 to 1;month o from 1 to 1;month p from 1 to 1;"
            + "month q from 1 to 1;month r from 1 to 1;");
        for (int i = 0; i < 5; i++) {
            x.run(60);
        }
        due("months", x.about(3), 300);
        due("days", x.ahead(60, 0, 0), 360);
        due("again", x.again(1), 1);
        due("skew: 29 too few each month", x.skew(120, 99, false), 1);
        x.undo();
        x.run(59);
        due("months", x.about(3), 299);
        due("again, by a year that is not begun", x.again(1), 1);
    }

    // ---- "NET of a set of DUES: what one gets less what he pays by all of them, each once"

    static void section3NetOfNoDues() {
        due("the empty set", made(DUES).net(0, 0), 0);
        due("the empty set of no dues", made("person p votes 1;").net(0, 0), 0);
    }

    static void section3NetOfAll() {
        JuneVote x = made(DUES);
        due("p", x.net(0, 3), 2);
        due("q", x.net(1, 3), -2);
        due("p pays", x.net(0, 1), -5);
        due("p gets", x.net(0, 2), 7);
    }

    static void section3NetEachOnce() {
        JuneVote x = made(DUES);
        x.run(9);
        due("however often it was paid", x.net(0, 2), 7);
    }

    // ---- section 4: "LEDGERS, 30 at most, are TOLD at a TIME (0 at first), UNTOLD at a later one or the same"

    private static JuneVote ledgers() {
        return made("month m from 1 to 3;month n from 0 to 2;");
    }

    static void section4ThirtyLedgers() {
        JuneVote x = ledgers();
        for (int i = 0; i < 30; i++) {
            due("ledger " + i, x.ledger(0, 0, 1), i);
        }
        due("one more", x.ledger(0, 0, 1), NONE);
        due("thirty", x.about(9), 30);
        x.untell(0);
        due("one more all the same", x.ledger(0, 0, 1), NONE);
    }

    static void section4TheThirtiethCounts() {
        JuneVote x = ledgers();
        for (int i = 0; i < 29; i++) {
            x.ledger(0, 0, 1);
        }
        due("all can be", x.lengths(1, 0), 3);
        x.ledger(0, 1, 1);
        due("the last can't", x.lengths(1, 0), 0);
        due("untell", x.untell(29), true);
        due("all can be", x.lengths(1, 0), 3);
    }

    static void section4Time0AtFirst() {
        JuneVote x = ledgers();
        due("time", x.about(10), 0);
        x.ledger(1, 0, 2);
        due("at 0", x.lengths(1, 0), 2);
        due("ahead of 0", x.lengths(1, -1), 3);
    }

    static void section4UntoldAtTheSameTime() {
        JuneVote x = ledgers();
        x.later(5);
        x.ledger(1, 0, 2);
        due("untell", x.untell(0), true);
        due("it never counts", x.lengths(1, 5), 3);
        due("ahead of it", x.lengths(1, 4), 3);
        due("behind it", x.lengths(1, 6), 3);
    }

    static void section4ToldAtKOrBefore() {
        JuneVote x = ledgers();
        x.later(5);
        x.ledger(1, 0, 2);
        due("at 4", x.lengths(1, 4), 3);
        due("at 5", x.lengths(1, 5), 2);
        due("at 6", x.lengths(1, 6), 2);
        due("far on", x.lengths(1, MAX), 2);
        due("far back", x.lengths(1, MIN), 3);
    }

    static void section4NotUntoldAtKOrBefore() {
        JuneVote x = ledgers();
        x.ledger(1, 0, 2);
        x.later(5);
        x.untell(0);
        due("at 4", x.lengths(1, 4), 2);
        due("at 5", x.lengths(1, 5), 3);
        due("at 6", x.lengths(1, 6), 3);
        due("far on", x.lengths(1, MAX), 3);
    }

    static void section4DaysOf0To400() {
        JuneVote x = ledgers();
        due("-1", x.ledger(-1, 0, 1), NONE);
        due("401", x.ledger(401, 0, 1), NONE);
        due("0", x.ledger(0, 0, 1), 0);
        due("400", x.ledger(400, 0, 1), 1);
    }

    static void section4DaysOfAMonthOf1To31() {
        JuneVote x = ledgers();
        due("0", x.ledger(0, 0, 0), NONE);
        due("32", x.ledger(0, 0, 32), NONE);
        due("1", x.ledger(0, 0, 1), 0);
        due("31, though the month is shorter", x.ledger(0, 0, 31), 1);
    }

    static void section4LedgersOfAMonthThatIsThere() {
        JuneVote x = ledgers();
        due("-1", x.ledger(0, -1, 1), NONE);
        due("2", x.ledger(0, 2, 1), NONE);
        due("1", x.ledger(0, 1, 1), 0);
    }

    static void section4FirstDayAndDayBehindTheLast() {
        JuneVote x = ledgers();
        x.ledger(2, 0, 3);
        due("a third day: of 3 alone", x.lengths(1, 0), 1);
        x.ledger(3, 1, 1);
        due("a fourth day: of the second month", x.lengths(2, 0), 2);
        due("days behind them: not so", x.lengths(1, 0), 0);
    }

    static void section4DaysBehindThem() {
        JuneVote x = ledgers();
        x.ledger(400, 0, 1);
        due("far behind", x.lengths(5, 0), 0);
        JuneVote y = made("month m from 31 to 31;");
        y.ledger(154, 0, 31);
        due("the last of five months", y.lengths(5, 0), 1);
        y.ledger(155, 0, 1);
        due("the first behind them", y.lengths(5, 0), 0);
    }

    static void section4MonthsWithoutDays() {
        JuneVote x = made("month m from 0 to 1;month n from 0 to 1;");
        x.ledger(0, 1, 1);
        // 0 1; with more months also 0 0 0 1 and what is behind them.
        due("two", x.lengths(2, 0), 1);
        due("four", x.lengths(4, 0), 4 + 1);
        due("least of the second", x.known(4, 1, false, 0), 0);
        due("most of the first", x.known(4, 0, true, 0), 0);
    }

    static void section4FirstMonthsOf1To5() {
        JuneVote x = ledgers();
        due("0", x.lengths(0, 0), NONE);
        due("1", x.lengths(1, 0), 3);
        due("5", x.lengths(5, 0), 243);
        due("6", x.lengths(6, 0), NONE);
        due("-1", x.lengths(-1, 0), NONE);
    }

    static void section4TwoOfOneDay() {
        JuneVote x = ledgers();
        x.ledger(1, 0, 2);
        x.ledger(1, 0, 2);
        due("they say the same", x.lengths(1, 0), 2);
        x.ledger(1, 1, 1);
        due("they don't", x.lengths(2, 0), 0);
        x.untell(0);
        due("one of them untold", x.lengths(2, 0), 0);
        x.untell(1);
        due("both untold", x.lengths(2, 0), 2);
    }

    static void section4AskedAnewEachTime() {
        JuneVote x = ledgers();
        due("free", x.known(2, 1, false, 0), 0);
        due("free", x.known(2, 1, true, 0), 2);
        x.later(1);
        // The second day was the first of n: m had one.
        x.ledger(1, 1, 1);
        due("one at least", x.known(2, 1, false, 1), 1);
        due("m had one", x.known(2, 0, true, 1), 1);
        due("as known ahead of it", x.known(2, 1, false, 0), 0);
    }

    static void section4FiveLongMonths() {
        JuneVote x = made("month m from 29 to 31;");
        for (int i = 0; i < 5; i++) {
            due("least of " + i, x.known(5, i, false, 0), 29);
            due("most of " + i, x.known(5, i, true, 0), 31);
        }
        x.ledger(154, 0, 31);
        for (int i = 0; i < 5; i++) {
            due("all are of 31: " + i, x.known(5, i, false, 0), 31);
        }
        due("one row", x.lengths(5, 0), 1);
    }

    static void section4Of50000Rows() {
        JuneVote x = made("month a from 0 to 24;month b from 1 to 20;month c from 0 to 9;month d from 22 to 31;");
        due("50,000", x.lengths(4, 0), 50000);
        due("the most", x.known(4, 3, true, 0), 31);
        due("the least", x.known(4, 1, false, 0), 1);
    }

    static void section4OfMoreThan50000Rows() {
        // 3 * 23 * 25 * 29 are 50,025: there are no rows between.
        JuneVote x = made("month a from 0 to 2;month b from 9 to 31;month c from 0 to 24;month d from 3 to 31;");
        due("50,025", x.lengths(4, 0), -2);
        due("spent", x.known(4, 0, false, 0), -2);
        due("three", x.lengths(3, 0), 3 * 23 * 25);
        x.ledger(0, 1, 1);
        due("spent, however few are so", x.lengths(4, 0), -2);
    }

    static void section4WhateverMayBeAndWas() {
        JuneVote x = made("month m from 1 to 3;law days = 2;");
        x.decree(31);
        due("from .. to", x.lengths(1, 0), 3);
        due("the first months all the same", x.known(1, 0, true, 0), 3);
    }
}
