/** At least one test of each promise of the document, by its number: ordinary calls, edges, and wrong ones. */
public final class PromiseTest {
    private static final int NONE = -1;
    private static final int GAP = -1000000;
    private static final int MAX = Integer.MAX_VALUE;
    private static final int MIN = Integer.MIN_VALUE;

    private static final String TWO = "month jan from 2 to 4; month feb from 0 to 3;"
        + "person a votes 2 wish days; person b votes 1;"
        + "due x by a to b pays 5 on 3 of jan; due y by b to a pays 7 on 2 of feb late; sun 5 and 1 of 3; week 3";

    private static int promise;
    private static int asked;
    private static int wrong;

    private PromiseTest() {
    }

    private static void due(String call, int got, int want) {
        asked++;
        if (got != want) {
            wrong++;
            System.out.println("promise " + promise + ": " + call + " answered " + got + ", due is " + want);
        }
    }

    private static void due(String call, boolean got, boolean want) {
        due(call, got ? 1 : 0, want ? 1 : 0);
    }

    public static void main(String[] args) {
        aNewObject();
        feed();
        end();
        republic();
        fault();
        faultsOfTokens();
        faultsOfLines();
        faultsOfNumbersAndNames();
        faultsOfFormulas();
        person();
        dues();
        length();
        date();
        number();
        drift();
        may();
        worth();
        worthOfFacts();
        votes();
        counted();
        run();
        decree();
        forgive();
        endow();
        undo();
        redo();
        turned();
        least();
        bribe();
        rest();
        plan();
        span();
        skew();
        again();
        ahead();
        net();
        lies();
        ledger();
        untell();
        later();
        lengths();
        known();
        image();
        back();
        about();
        System.out.println(asked + " answers looked at, " + wrong + " not as due");
        if (wrong > 0) {
            System.exit(1);
        }
    }

    private static JuneVote two() {
        return Typed.republic(TWO + ";");
    }

    private static JuneVote made(String text) {
        return Typed.republic(text);
    }

    private static void aNewObject() {
        promise = 1;
        JuneVote x = new JuneVote();
        due("NONE", JuneVote.NONE, NONE);
        due("GAP", JuneVote.GAP, GAP);
        for (int what = 0; what < 14; what++) {
            due("about " + what, x.about(what), what == 6 ? NONE : 0);
        }
        due("fault 0", x.fault(0), 0);
        due("fault 1", x.fault(1), NONE);
        due("undo", x.undo(), false);
        due("redo", x.redo(), false);
        due("drift 0", x.drift(0), 0);
        due("drift 1", x.drift(1), 1);
        due("lies", x.lies(0), NONE);
        due("back", x.back(0), NONE);
        due("republic of nothing", x.republic(), 0);
    }

    private static void feed() {
        promise = 2;
        JuneVote x = new JuneVote();
        due("feed", x.feed(0x6D6F6E74, 0x68206D20, 0x66726F6D, 0x20302074, 0x6F20313B), 20);
        due("republic", x.republic(), 1);
        due("may 1", x.may(1), 1);
        for (int i = 1; i <= 85; i++) {
            due("feed " + i, x.feed(-1, 0x20202020, MIN, MAX, i), 20 * i);
        }
        due("feed beyond", x.feed(0, 0, 0, 0, 0), NONE);
        due("bytes", x.about(11), 1700);
        due("end", x.end(1681), 1681);
        due("feed beyond by one", x.feed(0, 0, 0, 0, 0), NONE);
        due("bytes", x.about(11), 1681);
        due("end", x.end(1680), 1680);
        due("feed to the last", x.feed(0, 0, 0, 0, 0), 1700);
        due("republic", x.republic(), NONE);
        due("fault", x.fault(1), 0);
    }

    private static void end() {
        promise = 3;
        JuneVote x = new JuneVote();
        due("end 0", x.end(0), 0);
        due("end 1", x.end(1), NONE);
        due("end -1", x.end(-1), NONE);
        Typed.feed(x, "month m from 0 to 1;");
        due("end 21", x.end(21), NONE);
        due("bytes", x.about(11), 20);
        due("end 20", x.end(20), 20);
        due("end 19", x.end(19), 19);
        due("end 20", x.end(20), NONE);
        due("end MIN", x.end(MIN), NONE);
        due("republic", x.republic(), NONE);
        due("place", x.fault(1), 19);
        Typed.feed(x, "month m from 0 to 1; law");
        due("end", x.end(20), 20);
        due("republic", x.republic(), 1);
    }

    private static void republic() {
        promise = 4;
        JuneVote x = two();
        due("months", x.about(0), 2);
        x.run(3);
        x.image(1);
        x.later(7);
        x.ledger(0, 0, 1);
        x.rest(0);
        Typed.feed(x, "month m from 1 to 2; monday");
        due("republic with a fault", x.republic(), NONE);
        due("tape", x.about(11), 0);
        due("all stays", x.about(3), 3);
        due("months stay", x.about(0), 2);
        due("acts stay", x.about(7), 1);
        due("ledgers stay", x.about(9), 1);
        due("what lies stays", x.about(13), 2);
        due("votes stay", x.person(0, 0), 2);
        due("box stays", x.back(1), 3);
        x.run(1);
        Typed.feed(x, "month m from 1 to 2; month n from 3 to 3; month o from 0 to 0;");
        due("republic", x.republic(), 3);
        due("tape", x.about(11), 0);
        due("no month was", x.about(3), 0);
        due("no day was", x.about(4), 0);
        due("no act", x.about(7), 0);
        due("no ledger", x.about(9), 0);
        due("nothing lies", x.about(13), 0);
        due("box is empty", x.back(1), NONE);
        due("time stays", x.about(10), 7);
        due("nobody", x.about(1), 0);
        due("no due", x.about(2), 0);
        due("empty republic", x.republic(), 0);
        due("no months", x.about(0), 0);
        forgets();
    }

    /** What a republic tells is nothing to the ones behind it. */
    private static void forgets() {
        JuneVote x = new JuneVote();
        for (int times = 0; times < 3; times++) {
            Typed.feed(x, "month m from 9 to 9; month n from 9 to 9; person p votes 3 wish days; person q votes 1 wish gets;"
                + "law days = 9; due d by p to q pays 1 on 1 of m late; sun 9 and 1 of 2; count mean; week 2 broken;");
            due("republic", x.republic(), 2);
            x.forgive(0);
            x.endow(0, 0);
            x.run(3);
            due("drift", x.drift(1), 4);
            Typed.feed(x, "month m from 0 to 9; person q votes 1 wish 0 - (days - 8) * (days - 8); person r votes 1;");
            due("republic", x.republic(), 1);
            due("units", x.about(12), 7);
            due("no law", x.may(0), 1);
            due("no dues", x.about(2), 0);
            due("no wish", x.worth(1, 9), 0);
            due("most", x.counted(), 0);
            due("votes", x.person(0, 0), 1);
            due("have", x.person(0, 1), 0);
            x.decree(9);
            due("no sun", x.drift(0), 9 - 30);
            due("week", x.date(8, 3), 1);
            x.decree(1);
            due("not broken", x.date(9, 3), 2);
            Typed.feed(x, "month m from 0 to 9; person p votes 1; person q votes 1; due d by q to p pays 1 on 2 of m;");
            due("republic", x.republic(), 1);
            due("not forgiven", x.due(0, 2), 0);
            due("not paid", x.due(0, 0), 0);
            due("not lapsed", x.due(0, 1), 0);
            x.decree(1);
            due("not late", x.due(0, 1), 1);
            x.decree(2);
            due("have", x.person(1, 1), -1);
        }
        // As many formulas as a run of calls can tell.
        JuneVote y = new JuneVote();
        String sum = "wish 1" + times("+days", 29) + ";";
        for (int times = 0; times < 24; times++) {
            Typed.feed(y, "month m from 0 to 9;person p votes 1 " + sum + "person q votes 1 " + sum);
            due("republic", y.republic(), 1);
            due("worth", y.worth(1, 3), 1 + 29 * 3);
        }
    }

    private static void fault() {
        promise = 5;
        JuneVote x = new JuneVote();
        due("fault 2", x.fault(2), NONE);
        due("fault -1", x.fault(-1), NONE);
        Typed.feed(x, "month m\nfrom 1 too 2;");
        x.republic();
        due("fault 0", x.fault(0), 2);
        due("fault 1", x.fault(1), 15);
        due("fault 0 again", x.fault(0), 2);
        due("fault 2", x.fault(2), NONE);
        Typed.feed(x, "month m from 1 to 2;");
        x.republic();
        due("fault 0", x.fault(0), 0);
        due("fault 1", x.fault(1), NONE);
    }

    private static void faulty(String text, int number, int place) {
        JuneVote x = new JuneVote();
        Typed.feed(x, text);
        due("republic: " + text, x.republic() == NONE, number != 0);
        due("fault 0: " + text, x.fault(0), number);
        due("fault 1: " + text, x.fault(1), number == 0 ? NONE : place);
    }

    private static void faultsOfTokens() {
        promise = 5;
        faulty("Month m from 1 to 2;", 1, 0);
        faulty("month\tm from 1 to 2;", 1, 5);
        faulty("month m from 1 to 2.", 1, 19);
        faulty("month abcdefgh from 1 to 2;", 0, NONE);
        faulty("month abcdefghi from 1 to 2;", 1, 6);
        faulty("month azaz from 1 to 2;", 0, NONE);
        faulty("month a{ from 1 to 2;", 1, 7);
        faulty("month ` from 1 to 2;", 1, 6);
        faulty("month m from / to 2;", 2, 13);
        faulty("month m from : to 2;", 1, 13);
        faulty("month m from 00001 to 2;", 1, 13);
        faulty("month m from 0001 to 2;", 0, NONE);
        faulty("month m from 1to 2;", 1, 13);
        faulty("month m from 1 to2;", 0, NONE);
        faulty("month m1 from 1 to 2;", 2, 7);
        faulty("month m from 1A to 2;", 1, 14);
        faulty("law 5x;", 1, 4);
        faulty("law\n1;week\n7broken;", 1, 11);
        faulty("law 1;week 7 \n broken ;\n", 0, NONE);
        faulty("law 1<2;", 0, NONE);
        faulty("\u00e9", 1, 0);
        faulty("  \n", 0, NONE);
        faulty("law 1 ! 2;", 1, 6);
        String facts = " days gets owes drift year month have ";
        for (String word : ("month from to person votes wish due by pays on of late sun and law count most middle mean "
            + "week broken or not days gets owes drift year have").split(" ")) {
            faulty("month " + word + " from 1 to 2;", 2, 6);
            if (!word.equals("not")) {
                faulty("law " + word + ";", facts.contains(" " + word + " ") ? 0 : 2, 4);
            }
        }
        // What stands wrong ahead of it comes first.
        faulty("law law 12345", 2, 4);
        faulty("law 1 1 12345", 2, 6);
    }

    private static void faultsOfLines() {
        promise = 5;
        faulty(";", 2, 0);
        faulty("m", 2, 0);
        faulty("month", 2, 5);
        faulty("month  ", 2, 7);
        faulty("month month from 1 to 2;", 2, 6);
        faulty("month not from 1 to 2;", 2, 6);
        faulty("month year from 1 to 2;", 2, 6);
        faulty("month unit from 1 to 2;", 0, NONE);
        faulty("month m from 1 to 2", 2, 19);
        faulty("month m from 1 to 2;;", 2, 20);
        faulty("month m to 1;", 2, 8);
        faulty("person p votes 1 wish;", 2, 21);
        faulty("person p votes 1 late;", 2, 17);
        faulty("person p votes;", 2, 14);
        faulty("count law;", 2, 6);
        faulty("count most most;", 2, 11);
        faulty("week broken;", 2, 5);
        faulty("sun 1 and 1;", 2, 11);
        StringBuilder months = new StringBuilder();
        for (char c = 'a'; c < 'g'; c++) {
            months.append("month ").append(c).append(" from 1 to 2;");
        }
        faulty(months.toString(), 0, NONE);
        faulty(months + " month", 2, months.length() + 1);
        StringBuilder people = new StringBuilder();
        for (char c = 'a'; c < 'f'; c++) {
            people.append("person ").append(c).append(" votes 9;");
        }
        faulty(people.toString(), 0, NONE);
        faulty(people + "person g votes 1;", 2, people.length());
        StringBuilder dues = new StringBuilder("month m from 0 to 1;person p votes 1;person q votes 1;");
        for (char c = 'a'; c < 'm'; c++) {
            dues.append("due ").append(c).append(" by p to q pays 1 on 1 of m;");
        }
        faulty(dues.toString(), 0, NONE);
        faulty(dues + "due n by p to q pays 1 on 1 of m;", 2, dues.length());
        faulty("sun 0 and 0 of 1;sun 0 and 0 of 1;", 2, 17);
        faulty("law 1;law 1;", 2, 6);
        faulty("count mean;count mean;", 2, 11);
        faulty("week 1;week 1;", 2, 7);
    }

    private static void faultsOfNumbersAndNames() {
        promise = 5;
        faulty("month m from 32 to 40;", 4, 13);
        faulty("month m from 31 to 31;", 0, NONE);
        faulty("month m from 5 to 4;", 4, 18);
        faulty("month m from 5 to 32;", 4, 18);
        faulty("person p votes 10;", 4, 15);
        faulty("sun 186 and 98 of 99;", 0, NONE);
        faulty("sun 187 and 98 of 99;", 4, 4);
        faulty("sun 1 and 100 of 99;", 4, 10);
        faulty("sun 1 and 99 of 99;", 4, 16);
        faulty("sun 1 and 3 of 3;", 4, 15);
        faulty("sun 1 and 0 of 0;", 4, 15);
        faulty("sun 1 and 0 of 100;", 4, 15);
        faulty("week 0;", 4, 5);
        faulty("week 9;", 0, NONE);
        faulty("week 10;", 4, 5);
        faulty("month m from 1 to 2;month m from 3 to 4;", 3, 26);
        faulty("month m from 1 to 2;person m votes 3;person n votes 3;due m by m to n pays 1 on 1 of m;", 0, NONE);
        faulty("person m votes 3;person m votes 3;", 3, 24);
        String ahead = "month m from 1 to 2;person p votes 3;person q votes 3;";
        int at = ahead.length();
        faulty(ahead + "due d by p to p pays 1 on 1 of m;", 3, at + 14);
        faulty(ahead + "due d by r to p pays 1 on 1 of m;", 5, at + 9);
        faulty(ahead + "due d by p to r pays 1 on 1 of m;", 5, at + 14);
        faulty(ahead + "due d by m to q pays 1 on 1 of m;", 5, at + 9);
        faulty(ahead + "due d by p to q pays 0 on 1 of m;", 4, at + 21);
        faulty(ahead + "due d by p to q pays 99 on 31 of m late;", 0, NONE);
        faulty(ahead + "due d by p to q pays 100 on 1 of m;", 4, at + 21);
        faulty(ahead + "due d by p to q pays 1 on 0 of m;", 4, at + 26);
        faulty(ahead + "due d by p to q pays 1 on 32 of m;", 4, at + 26);
        faulty(ahead + "due d by p to q pays 1 on 1 of p;", 5, at + 31);
        faulty(ahead + "due d by p to q pays 1 on 1 of m;due d by p to q pays 1 on 1 of m;", 3, at + 37);
        faulty("person p votes 1;due d by p to q pays 1 on 1 of m;person q votes 1;", 5, 31);
    }

    private static String times(String part, int n) {
        return part.repeat(n);
    }

    private static void faultsOfFormulas() {
        promise = 5;
        faulty("law ;", 2, 4);
        faulty("law a;", 2, 4);
        faulty("law (1;", 2, 6);
        faulty("law 1);", 2, 5);
        faulty("law ();", 2, 5);
        faulty("law 1 < 2 < 3;", 2, 10);
        faulty("law 1 + not 2;", 2, 8);
        faulty("law 1 < not 2;", 2, 8);
        faulty("law - 1;", 2, 4);
        faulty("law 1 and not 2 or not 3;", 0, NONE);
        faulty("law 1 and;", 2, 9);
        faulty("law 1<;", 2, 6);
        faulty("law 1+;", 2, 6);
        faulty("law 1%;", 2, 6);
        faulty("law 1 or;", 2, 8);
        faulty("law not;", 2, 7);
        faulty("law (not);", 2, 8);
        faulty("law 1<x;", 2, 6);
        faulty("law days gets;", 2, 9);
        faulty("law 1" + times("+1", 29) + ";", 0, NONE);
        faulty("law 1" + times("+1", 30) + ";", 2, 4 + 60);
        faulty("law (1" + times("+1", 28) + ");", 0, NONE);
        faulty("law (1" + times("+1", 29) + ");", 2, 5 + 58);
        faulty("law " + times("(1)+", 15) + "(1);", 2, 4 + 60);
        faulty("law " + times("(", 7) + "1" + times(")", 7) + ";", 0, NONE);
        faulty("law " + times("(", 8) + "1" + times(")", 8) + ";", 2, 4 + 7);
        faulty("law " + times("not ", 7) + "1;", 0, NONE);
        faulty("law " + times("not ", 8) + "1;", 2, 4 + 28);
        faulty("law " + times("not(", 3) + "not 1" + times(")", 3) + ";", 0, NONE);
        faulty("law " + times("not(", 4) + "1" + times(")", 4) + ";", 2, 4 + 15);
        faulty("law not 1 and " + times("(", 7) + "1" + times(")", 7) + ";", 0, NONE);
        String thirty = " votes 1 wish 1" + times("+1", 29) + ";";
        String ninety = "person p" + thirty + "person q" + thirty + "person r" + thirty;
        faulty(ninety, 0, NONE);
        faulty(ninety + "law year;", 2, ninety.length() + 4);
        faulty(ninety + "law (1);", 2, ninety.length() + 4);
        faulty(ninety + "law not 1;", 2, ninety.length() + 8);
    }

    private static void person() {
        promise = 6;
        JuneVote x = two();
        due("votes a", x.person(0, 0), 2);
        due("votes b", x.person(1, 0), 1);
        due("have a", x.person(0, 1), 0);
        x.run(1);
        due("have a", x.person(0, 1), -5);
        due("have b", x.person(1, 1), 5);
        x.run(1);
        due("have a", x.person(0, 1), 2);
        due("none such", x.person(2, 0), GAP);
        due("none such", x.person(-1, 0), GAP);
        due("another what", x.person(0, 2), GAP);
        due("another what", x.person(0, -1), GAP);
        due("none at all", new JuneVote().person(0, 0), GAP);
    }

    private static void dues() {
        promise = 7;
        JuneVote x = two();
        x.decree(3);
        x.decree(1);
        x.decree(2);
        x.decree(0);
        due("x paid", x.due(0, 0), 1);
        due("x lapsed", x.due(0, 1), 1);
        due("y paid late", x.due(1, 0), 1);
        due("y lapsed", x.due(1, 1), 1);
        due("forgiven", x.due(1, 2), 0);
        x.forgive(1);
        due("forgiven", x.due(1, 2), 1);
        x.decree(0);
        x.decree(0);
        due("x lapsed", x.due(0, 1), 2);
        due("y is none", x.due(1, 1), 1);
        due("have a", x.person(0, 1), 2);
        due("none such", x.due(2, 0), NONE);
        due("none such", x.due(-1, 0), NONE);
        due("another what", x.due(0, 3), NONE);
        due("another what", x.due(0, -1), NONE);
    }

    private static void length() {
        promise = 8;
        JuneVote x = two();
        due("none yet", x.length(0), NONE);
        x.run(1);
        x.decree(31);
        due("first", x.length(0), 4);
        due("second", x.length(1), 31);
        due("third", x.length(2), NONE);
        due("below", x.length(-1), NONE);
        due("far", x.length(MAX), NONE);
        x.undo();
        due("taken back", x.length(1), NONE);
    }

    private static void date() {
        promise = 9;
        JuneVote x = two();
        x.run(2);
        x.decree(2);
        x.decree(0);
        x.decree(1);
        int[][] dates = {{0, 0, 1, 0}, {0, 0, 2, 1}, {0, 0, 3, 2}, {0, 0, 4, 0}, {0, 1, 1, 1}, {0, 1, 2, 2},
            {0, 1, 3, 0}, {1, 0, 1, 1}, {1, 0, 2, 2}, {2, 0, 1, 0}};
        for (int n = 0; n < dates.length; n++) {
            for (int what = 0; what < 4; what++) {
                due("date " + n + " " + what, x.date(n, what), dates[n][what]);
            }
        }
        due("was not", x.date(10, 0), NONE);
        due("below", x.date(-1, 0), NONE);
        due("another what", x.date(0, 4), NONE);
        due("another what", x.date(0, -1), NONE);
        JuneVote y = made(TWO + " broken;");
        y.run(2);
        int[] broken = {0, 1, 2, 0, 0, 1, 2};
        for (int n = 0; n < broken.length; n++) {
            due("broken " + n, y.date(n, 3), broken[n]);
        }
        JuneVote z = made("month m from 9 to 9;");
        z.run(1);
        due("week of seven", z.date(8, 3), 1);
    }

    private static void number() {
        promise = 10;
        JuneVote x = two();
        x.run(2);
        x.decree(2);
        due("first", x.number(0, 0, 1), 0);
        due("feb 3", x.number(0, 1, 3), 6);
        due("feb 4", x.number(0, 1, 4), NONE);
        due("jan 1", x.number(1, 0, 1), 7);
        due("jan 2", x.number(1, 0, 2), 8);
        due("jan 3", x.number(1, 0, 3), NONE);
        due("to come", x.number(1, 1, 1), NONE);
        due("day 0", x.number(0, 0, 0), NONE);
        due("no month", x.number(0, 2, 1), NONE);
        due("no month", x.number(1, -1, 1), NONE);
        due("no year", x.number(-1, 0, 1), NONE);
        due("far", x.number(MAX, 1, MAX), NONE);
        due("far", x.number(1 << 31, 0, 1), NONE);
        due("none at all", new JuneVote().number(0, 0, 1), NONE);
    }

    private static void drift() {
        promise = 11;
        JuneVote x = two();
        int[] lengths = {4, 3, 2, 1, 3, 3};
        int[] upper = {4, 5, 1, -2, -1, 0};
        int[] lower = {3, 3, 1, 3, 3, 1};
        for (int i = 0; i < lengths.length; i++) {
            x.decree(lengths[i]);
            due("upper " + i, x.drift(0), upper[i]);
            due("lower " + i, x.drift(1), lower[i]);
        }
        due("another what", x.drift(2), GAP);
        due("another what", x.drift(-1), GAP);
        JuneVote y = made("month m from 29 to 31; month n from 1 to 30;");
        y.decree(31);
        due("a sun untold", y.drift(0), 1);
        y.decree(0);
        due("a sun untold", y.drift(0), -29);
        due("a sun untold", y.drift(1), 1);
        JuneVote z = made("sun 7 and 1 of 2;");
        due("without months", z.drift(0), 0);
        due("without months", z.drift(1), 1);
        JuneVote w = made("month a from 0 to 0; month b from 0 to 0; month c from 0 to 0; month d from 0 to 0;"
            + "month e from 0 to 0; month f from 0 to 0; sun 186 and 98 of 99;");
        w.run(1);
        due("of all parts", w.drift(0), -(186 * 99 + 98) / 2);
        due("of all parts", w.drift(1), 99 * 3);
    }

    private static void may() {
        promise = 12;
        due("without months", new JuneVote().may(0), NONE);
        JuneVote x = made("month m from 2 to 6; law days > 3;");
        int[] may = {0, 0, 0, 0, 1, 1, 1, 0};
        for (int l = 0; l < may.length; l++) {
            due("may " + l, x.may(l), may[l]);
        }
        due("below", x.may(-1), 0);
        due("above", x.may(36), 0);
        due("far", x.may(MIN), 0);
        JuneVote y = made("month m from 2 to 6; law gets + owes + have; person p votes 1; person q votes 1;"
            + "due d by p to q pays 1 on 1 of m;");
        y.run(1);
        due("for none", y.may(2), 1);
        due("for none", y.may(6), 1);
        due("beside", y.may(1), 0);
        JuneVote z = made("month m from 31 to 31; month n from 0 to 31; law month = 1 and days = 31 or year * 30 = days;");
        due("the longest", z.may(31), 1);
        z.run(1);
        due("the longest", z.may(31), 1);
        due("the least", z.may(0), 1);
        due("another", z.may(30), 0);
        z.run(2);
        due("by the year", z.may(30), 1);
        due("by the year", z.may(0), 0);
    }

    private static int value(String formula, int length) {
        return made("law 1;month m from 0 to 31;person p votes 1 wish " + formula + ";").worth(0, length);
    }

    private static void worth() {
        promise = 13;
        String[] formulas = {"7-2*3", "1-2-3", "8/2/2", "0-7/2", "(0-7)/2", "(0-7)%3", "7%(0-3)", "7/0", "7%0",
            "9999*9999*9999", "not 0", "not 9", "not not 9", "not 5<3", "not 1+2", "5 and 3", "5 and 0", "0 or 3",
            "0 or 0", "1 or 0 and 0", "(1 or 0) and 0", "2+3<6", "6<2+3", "3>3", "4>3", "3=3", "3=2+2", "(2<3)=1",
            "days", "days*days-days", "10-(days-3)", "2*3%4", "not 1 or 1", "0-1 < 0 and 1", "17", "9999",
            "(0-9999*9999*22)*9999/(0-1)"};
        int[] values = {1, -4, 2, -3, -3, -1, 1, 0, 0, 9999 * 9999 * 9999, 1, 0, 1, 1, 0, 1, 0, 1, 0, 1, 0, 1, 0, 0, 1,
            1, 0, 1, 5, 20, 8, 2, 1, 1, 17, 9999, (0 - 9999 * 9999 * 22) * 9999 / -1};
        for (int i = 0; i < formulas.length; i++) {
            due("worth of " + formulas[i], value(formulas[i], 5), values[i]);
        }
        // The least int can't be told; it comes of wrapping. By -1 it stays.
        String least = "1024*1024*1024*2";
        due("the least int", value(least, 0), MIN);
        due("by -1", value(least + "/(0-1)", 0), MIN);
        due("rest by -1", value(least + "%(0-1)", 0), 0);
        JuneVote x = made("month m from 3 to 4; person p votes 0 wish days; person q votes 0;");
        due("whether it may be or not", x.worth(0, 31), 31);
        due("whether it may be or not", x.worth(0, 0), 0);
        due("without a wish", x.worth(1, 3), 0);
        due("too long", x.worth(0, 32), GAP);
        due("below", x.worth(0, -1), GAP);
        due("nobody", x.worth(2, 3), GAP);
        due("nobody", x.worth(-1, 3), GAP);
        due("without months", made("person p votes 1 wish 3;").worth(0, 3), GAP);
    }

    private static void worthOfFacts() {
        promise = 13;
        JuneVote x = made("month m from 0 to 31; month n from 0 to 31; sun 11 and 1 of 2;"
            + "person p votes 1 wish gets * 100 + owes; person q votes 1 wish gets * 100 + owes;"
            + "person r votes 1 wish drift; person s votes 1 wish year * 10 + month; person t votes 1 wish have;"
            + "due a by p to q pays 3 on 5 of m; due b by p to q pays 4 on 7 of m late; due c by q to p pays 9 on 1 of m;"
            + "due d by p to t pays 50 on 1 of n;");
        due("p owes none", x.worth(0, 0), 0);
        due("p", x.worth(0, 4), 904);
        due("p", x.worth(0, 5), 907);
        due("q", x.worth(1, 4), 409);
        due("q", x.worth(1, 31), 709);
        x.forgive(1);
        due("q without the forgiven", x.worth(1, 31), 309);
        x.forgive(1);
        due("drift is cut down", x.worth(2, 5), -1);
        due("drift is cut down", x.worth(2, 6), 0);
        due("drift is cut down", x.worth(2, 0), -6);
        due("year, month", x.worth(3, 9), 0);
        due("have", x.worth(4, 9), 0);
        x.decree(5);
        due("another month", x.worth(0, 31), 50);
        due("year, month", x.worth(3, 9), 1);
        due("drift behind two", x.worth(2, 6), -1);
        due("drift behind two", x.worth(2, 7), 0);
        x.decree(1);
        due("have", x.worth(4, 9), 50);
        due("year, month", x.worth(3, 9), 10);
    }

    private static void votes() {
        promise = 14;
        JuneVote x = made("month m from 2 to 9; law days % 2 = 1; person p votes 1 wish days;"
            + "person q votes 1 wish 0 - (days - 6) * (days - 6); person r votes 0; person s votes 1 wish 0 - days;"
            + "person t votes 1 wish days < 6;");
        int[] votes = {9, 5, 3, 3, 3};
        for (int p = 0; p < votes.length; p++) {
            due("votes " + p, x.votes(p), votes[p]);
        }
        due("nobody", x.votes(5), NONE);
        due("nobody", x.votes(-1), NONE);
        due("without months", made("person p votes 1;").votes(0), NONE);
        JuneVote y = made("month m from 0 to 31; person p votes 1 wish 0 - days - 9999;");
        due("all below 0", y.votes(0), 0);
    }

    private static JuneVote three(String way, int a, int b, int c) {
        return made("month m from 1 to 9; person a votes " + a + " wish days = 8; person b votes " + b
            + " wish days = 3; person c votes " + c + " wish days = 4;" + way);
    }

    private static void counted() {
        promise = 15;
        due("most", three("", 3, 2, 2).counted(), 8);
        due("most of like", three("count most;", 2, 2, 2).counted(), 3);
        due("most of like", three("count most;", 2, 1, 2).counted(), 4);
        due("middle", three("count middle;", 3, 2, 2).counted(), 4);
        due("middle, just half", three("count middle;", 3, 3, 0).counted(), 3);
        due("middle, less than half", three("count middle;", 4, 3, 0).counted(), 8);
        due("mean", three("count mean;", 1, 1, 1).counted(), 5);
        due("mean, cut", three("count mean;", 2, 1, 1).counted(), 5);
        due("mean, cut", three("count mean;", 9, 0, 1).counted(), 7);
        due("without votes", three("count mean;", 0, 0, 0).counted(), 1);
        due("without votes", three("law days > 2;", 0, 0, 0).counted(), 3);
        due("nobody", made("month m from 3 to 9;").counted(), 3);
        due("without months", made("person p votes 3;").counted(), NONE);
        due("mean that may not be", three("count mean; law not days = 5;", 1, 1, 1).counted(), 5);
    }

    private static void run() {
        promise = 16;
        JuneVote x = two();
        due("run 0", x.run(0), 0);
        due("an act", x.about(7), 1);
        due("run 3", x.run(3), 3);
        due("an act", x.about(7), 2);
        due("lengths", x.length(0) * 100 + x.length(1) * 10 + x.length(2), 434);
        due("run 61", x.run(61), NONE);
        due("run -1", x.run(-1), NONE);
        due("run MIN", x.run(MIN), NONE);
        due("run MAX", x.run(MAX), NONE);
        due("nothing done", x.about(3), 3);
        due("run 60", x.run(60), 63);
        due("run 60", x.run(60), 123);
        due("run 60", x.run(60), 183);
        due("run 60", x.run(60), 243);
        due("run 58", x.run(58), NONE);
        due("run 57", x.run(57), 300);
        due("run 1", x.run(1), NONE);
        due("run 0", x.run(0), 300);
        due("days", x.about(4), 150 * 7);
        due("without months", new JuneVote().run(0), NONE);
        JuneVote y = made("month m from 0 to 9; person p votes 1 wish 0 - (days - year) * (days - year);");
        y.run(4);
        due("each as it is by then", y.length(3), 3);
    }

    private static void decree() {
        promise = 17;
        JuneVote x = two();
        due("decree 0", x.decree(0), 1);
        due("decree 31", x.decree(31), 2);
        due("decree 32", x.decree(32), NONE);
        due("decree -1", x.decree(-1), NONE);
        due("decree MIN", x.decree(MIN), NONE);
        due("acts", x.about(7), 2);
        due("length", x.length(1), 31);
        due("days", x.about(4), 31);
        due("a due was paid", x.due(1, 0), 1);
        due("without months", made("law 0;").decree(3), NONE);
        for (int i = 0; i < 4; i++) {
            x.run(60);
        }
        x.run(57);
        due("the last", x.decree(1), 300);
        due("more than 300", x.decree(1), NONE);
    }

    private static void forgive() {
        promise = 18;
        JuneVote x = two();
        due("forgive", x.forgive(0), 1);
        x.decree(3);
        due("nothing is paid", x.person(0, 1), 0);
        due("nothing is paid", x.due(0, 0), 0);
        due("nor lapses", x.due(0, 1), 0);
        due("told again", x.forgive(0), 0);
        x.decree(3);
        x.decree(3);
        due("paid", x.person(0, 1), 2);
        due("none such", x.forgive(2), NONE);
        due("none such", x.forgive(-1), NONE);
        due("acts", x.about(7), 5);
        due("none at all", new JuneVote().forgive(0), NONE);
    }

    private static void endow() {
        promise = 19;
        JuneVote x = two();
        due("endow", x.endow(1, 3), 1);
        due("votes", x.person(1, 0), 3);
        due("counted", x.counted(), 2);
        due("endow alike", x.endow(1, 3), 3);
        due("endow 0", x.endow(1, 0), 3);
        due("endow 9", x.endow(0, 9), 2);
        due("acts", x.about(7), 4);
        due("endow 10", x.endow(0, 10), NONE);
        due("endow -1", x.endow(0, -1), NONE);
        due("nobody", x.endow(2, 1), NONE);
        due("nobody", x.endow(-1, 1), NONE);
        due("acts", x.about(7), 4);
        due("votes", x.person(0, 0), 9);
    }

    private static void undo() {
        promise = 20;
        JuneVote x = two();
        due("none", x.undo(), false);
        x.run(3);
        x.forgive(1);
        x.decree(0);
        x.endow(0, 7);
        due("undo", x.undo(), true);
        due("votes", x.person(0, 0), 2);
        due("undo", x.undo(), true);
        due("months", x.about(3), 3);
        due("undo", x.undo(), true);
        due("forgiven", x.due(1, 2), 0);
        due("have", x.person(0, 1), -3);
        due("undo all three", x.undo(), true);
        due("months", x.about(3), 0);
        due("days", x.about(4), 0);
        due("have", x.person(0, 1), 0);
        due("paid", x.due(0, 0), 0);
        due("none left", x.undo(), false);
        for (int i = 0; i < 45; i++) {
            x.endow(0, i % 10);
        }
        due("forty are kept", x.about(7), 40);
        for (int i = 0; i < 40; i++) {
            due("undo " + i, x.undo(), true);
        }
        due("the oldest are gone", x.undo(), false);
        due("votes", x.person(0, 0), 4);
        undoAllSorts();
    }

    private static void undoAllSorts() {
        JuneVote x = two();
        int[] sums = new int[61];
        sums[0] = state(x);
        for (int i = 1; i <= 60; i++) {
            switch (i % 7) {
                case 0:
                    x.forgive(i % 2);
                    break;
                case 1:
                case 2:
                    x.endow(i % 2, i % 10);
                    break;
                case 3:
                    x.run(i % 5);
                    break;
                default:
                    x.decree(i % 4);
                    break;
            }
            sums[i] = state(x);
        }
        for (int i = 59; i >= 20; i--) {
            due("undo of " + i, x.undo(), true);
            due("state " + i, state(x), sums[i]);
        }
        due("forty are kept", x.undo(), false);
        for (int i = 21; i <= 60; i++) {
            due("redo of " + i, x.redo(), true);
            due("state " + i, state(x), sums[i]);
        }
        due("none left", x.redo(), false);
    }

    private static int state(JuneVote x) {
        int sum = x.about(3) * 31 + x.about(4) * 37;
        for (int i = 0; i < 2; i++) {
            sum = sum * 41 + x.person(i, 0) * 7 + x.person(i, 1);
            sum = sum * 43 + x.due(i, 0) * 5 + x.due(i, 1) * 3 + x.due(i, 2);
        }
        return sum;
    }

    private static void redo() {
        promise = 21;
        JuneVote x = two();
        due("none", x.redo(), false);
        x.run(3);
        x.forgive(1);
        x.decree(0);
        x.endow(0, 7);
        for (int i = 0; i < 4; i++) {
            x.undo();
        }
        due("redone", x.about(8), 4);
        due("redo", x.redo(), true);
        due("months", x.about(3), 3);
        due("have", x.person(0, 1), -3);
        due("redo", x.redo(), true);
        due("forgiven", x.due(1, 2), 1);
        due("redo", x.redo(), true);
        due("length", x.length(3), 0);
        due("redo", x.redo(), true);
        due("votes", x.person(0, 0), 7);
        due("none left", x.redo(), false);
        x.undo();
        x.undo();
        due("wrong calls leave it", x.decree(99), NONE);
        due("undone", x.about(8), 2);
        x.forgive(0);
        due("another act", x.redo(), false);
        due("can be undone", x.about(7), 3);
    }

    private static void turned() {
        promise = 22;
        JuneVote x = three("", 3, 2, 2);
        due("as they do", x.turned(0, 8), 1);
        due("not alone", x.turned(0, 3), 0);
        due("a", x.turned(1, 3), 1);
        due("b", x.turned(2, 4), 1);
        due("b and c", x.turned(6, 9), 1);
        due("c for another", x.turned(4, 9), 0);
        due("all", x.turned(7, 9), 1);
        due("may not be", x.turned(7, 10), NONE);
        due("may not be", x.turned(7, 0), NONE);
        due("no set", x.turned(8, 3), NONE);
        due("no set", x.turned(-1, 3), NONE);
        due("without months", made("person p votes 1;").turned(0, 0), NONE);
        JuneVote y = made("month m from 0 to 3;");
        due("nobody", y.turned(0, 0), 1);
        due("nobody", y.turned(0, 1), 0);
        due("nobody", y.turned(1, 0), NONE);
    }

    private static void least() {
        promise = 23;
        JuneVote x = three("", 3, 2, 2);
        due("none is needed", x.least(8), 0);
        due("a alone", x.least(3), 1);
        due("a or b", x.least(4), 1);
        JuneVote y = three("", 9, 4, 6);
        due("the one who has most", y.least(4), 1);
        JuneVote z = three("count mean;", 0, 2, 2);
        due("the greatest mean", z.least(9), 6);
        due("by the mean both", z.least(5), 6);
        due("of like ones", z.least(4), 2);
        due("may not be", x.least(10), NONE);
        due("may not be", x.least(-1), NONE);
        due("none can", three("", 0, 0, 0).least(2), NONE);
        due("without months", new JuneVote().least(0), NONE);
    }

    private static void bribe() {
        promise = 24;
        String wishes = "month m from 1 to 9; person a votes 1 wish days * 5; person b votes 1 wish days * 3;"
            + "person c votes 1 wish 0 - days; count ";
        JuneVote x = made(wishes + "most;");
        due("as it is", x.bribe(9, 0), 0);
        due("as it is", x.bribe(9, 1), 0);
        due("c and b", x.bribe(1, 0), 24);
        due("c votes so", x.bribe(1, 1), 2);
        due("two of them", x.bribe(4, 0), 15 + 3);
        due("two of them", x.bribe(4, 1), 6);
        due("another what", x.bribe(9, 2), NONE);
        due("another what", x.bribe(9, -1), NONE);
        due("may not be", x.bribe(10, 0), NONE);
        due("none can", three("", 0, 0, 0).bribe(2, 0), NONE);
        due("none can", three("", 0, 0, 0).bribe(2, 1), NONE);
        due("without months", new JuneVote().bribe(0, 0), NONE);
        JuneVote y = made("month m from 0 to 1; person p votes 1 wish 9999 * 9999 * 20 * (1 - days * 2);");
        due("wrapping", y.bribe(1, 0), 9999 * 9999 * 20 * 2);
        // Three who ask nothing: the least set as bits, though all sets of two do it.
        JuneVote z = made("month m from 0 to 1; person p votes 1; person q votes 2; person r votes 2;");
        due("of like ones", z.bribe(1, 1), 3);
        due("of like ones", z.bribe(1, 0), 0);
    }

    private static void rest() {
        promise = 25;
        JuneVote x = made("month m from 0 to 10; count mean; person p votes 1 wish 0 - (days - 4) * (days - 4);"
            + "person q votes 1 wish days;");
        due("turns", x.rest(0), 2);
        due("p lies", x.lies(0), 0);
        due("q lies", x.lies(1), 10);
        due("how many lie", x.about(13), 2);
        due("counted then", x.rest(1), 5);
        due("nothing is done", x.votes(0), 4);
        due("counted now", x.counted(), 7);
        due("another what", x.rest(2), NONE);
        due("nothing lies", x.about(13), 0);
        JuneVote y = made("month m from 0 to 10; count mean; person p votes 1 wish days % 2;"
            + "person q votes 1 wish not days % 2;");
        due("never", y.rest(0), NONE);
        due("nothing lies", y.about(13), 0);
        due("never", y.rest(1), NONE);
        JuneVote z = three("", 1, 1, 1);
        due("own, as none can do better", z.rest(0), 1);
        due("own", z.lies(0) * 100 + z.lies(1) * 10 + z.lies(2), 834);
        JuneVote v = made("month m from 0 to 31; count mean; person p votes 3 wish (days*3+1)%25;"
            + "person q votes 9 wish (days*20+37)%33; person r votes 9 wish (days*days*25+days*10)%17;");
        due("forty turns", v.rest(0), 40);
        JuneVote w = made("month m from 0 to 27; count mean; person p votes 9 wish (days*days*6+days*38)%27;"
            + "person q votes 9 wish (days*days*7+days*32)%57; person r votes 8 wish (days*17+36)%39;");
        due("one more", w.rest(0), NONE);
        due("nobody", made("month m from 3 to 10;").rest(0), 1);
        due("nobody", made("month m from 3 to 10;").rest(1), 3);
        due("without months", new JuneVote().rest(0), NONE);
    }

    private static void plan() {
        promise = 26;
        String flows = "month m from 1 to 4; person p votes 1 wish gets * 10 - days; person q votes 1 wish have * days;"
            + "due d by q to p pays 1 on 3 of m; due e by p to q pays 2 on 2 of m;";
        JuneVote x = made(flows);
        due("p for one", x.plan(0, 1), 7);
        due("what lies", x.lies(0), 3);
        due("p for four", x.plan(0, 4), 28);
        due("what lies", x.lies(3), 3);
        due("how many lie", x.about(13), 4);
        due("none behind", x.lies(4), NONE);
        // q: 2 days bring him 2, more of them 1; twice he gathers, then he takes the longest.
        due("q for four", x.plan(1, 4), 2 * 2 + 4 * 4 + 5 * 4);
        due("what lies", x.lies(0) * 1000 + x.lies(1) * 100 + x.lies(2) * 10 + x.lies(3), 2244);
        due("of like ones the first", x.plan(1, 1), 0);
        due("of like ones the first", x.lies(0), 1);
        due("nothing is done", x.about(3), 0);
        due("0", x.plan(0, 0), GAP);
        due("nothing lies", x.about(13), 0);
        due("5", x.plan(0, 5), GAP);
        due("nobody", x.plan(2, 1), GAP);
        due("nobody", x.plan(-1, 1), GAP);
        due("without months", made("person p votes 1;").plan(0, 1), GAP);
        String months = "person p votes 1 wish days; month a from 0 to 31; month b from 1 to 24; month c from 1 to ";
        due("20,000 rows", made(months + "25;").plan(0, 3), 31 + 24 + 25);
        JuneVote y = made(months + "26;");
        y.plan(0, 1);
        due("more rows", y.plan(0, 3), GAP - 1);
        due("nothing lies", y.about(13), 0);
        y.decree(3);
        due("more rows, by another month", y.plan(0, 4), GAP - 1);
        due("b, c, a", y.plan(0, 3), GAP - 1);
        due("b, c", y.plan(0, 2), 24 + 26);
        due("by the law", made(months + "26; law days > 1;").plan(0, 3), 31 + 24 + 26);
        String four = "month a from 5 to 5; month b from 0 to 31; month c from 1 to 24; month d from 1 to 25;"
            + "person p votes 1 wish days;";
        due("20,001 rows", made(four).plan(0, 4), GAP - 1);
        due("20,001 rows by a law", made(four + "law 1;").plan(0, 4), GAP - 1);
        JuneVote v = made(months + "25; law 1;");
        due("20,000 rows by a law", v.plan(0, 3), 31 + 24 + 25);
        due("20,000 rows once more", v.plan(0, 3), 31 + 24 + 25);
        JuneVote w = made("month m from 1 to 2; person p votes 1 wish 1024 * 1024 * 1023 * days;");
        due("wrapping", w.plan(0, 2), 1024 * 1024 * 1023 * 2);
    }

    private static void span() {
        promise = 27;
        String text = "month a from 2 to 5; month b from 0 to 3; month c from 4 to 4; person p votes 1; person q votes 1;"
            + "due u by p to q pays 1 on 3 of a; due v by p to q pays 1 on 3 of a late; due w by p to q pays 1 on 4 of b;"
            + "due x by p to q pays 1 on 4 of b late; due y by p to q pays 1 on 4 of c;";
        JuneVote x = made(text);
        int[][] spans = {{3, 3, 1}, {2, 3, 0}, {-1, -1, 1}, {3, 8, 1}, {6, 12, 0}};
        int[][] later = {{7, 10, 1}, {6, 10, 0}, {-1, -1, 1}, {1, 3, 1}, {4, 7, 0}};
        for (int d = 0; d < 5; d++) {
            for (int what = 0; what < 3; what++) {
                due("span " + d + " " + what, x.span(d, what), spans[d][what]);
            }
        }
        x.decree(31);
        for (int d = 0; d < 5; d++) {
            for (int what = 0; what < 3; what++) {
                due("later span " + d + " " + what, x.span(d, what), later[d][what]);
            }
        }
        due("none such", x.span(5, 0), -2);
        due("none such", x.span(-1, 0), -2);
        due("another what", x.span(0, 3), -2);
        due("another what", x.span(0, -1), -2);
        x.forgive(2);
        due("forgiven", x.span(2, 0), -2);
        due("none at all", new JuneVote().span(0, 0), -2);
    }

    private static void skew() {
        promise = 28;
        JuneVote x = made("month m from 0 to 9; sun 4 and 1 of 2; person p votes 1 wish days < 7;");
        // Of like ones the least is 0: 4 and a half are lost each month.
        due("counted", x.skew(120, 0, false), 1);
        due("counted", x.skew(120, 4, false), 1);
        due("counted", x.skew(120, 9, false), 3);
        due("counted, too few", x.skew(2, 9, false), NONE);
        due("repair", x.skew(120, 1, true), NONE);
        due("repair", x.skew(120, 0, true), 1);
        JuneVote y = made("month m from 6 to 9; sun 4 and 0 of 1;");
        due("too long", y.skew(120, 3, true), 2);
        due("just as much", y.skew(120, 2, true), 2);
        JuneVote z = made("month m from 0 to 3; sun 4 and 0 of 1; law days < 3;");
        due("too short: the greatest that may be", z.skew(120, 9, true), 5);
        due("nothing is done", z.about(3), 0);
        due("just no drift", made("month m from 0 to 9; sun 4 and 0 of 1;").skew(120, 0, true), NONE);
        due("n 0", x.skew(0, 1, true), -2);
        due("n 121", x.skew(121, 1, true), -2);
        due("w -1", x.skew(1, -1, true), -2);
        due("w 100", x.skew(1, 100, false), -2);
        due("w 99", x.skew(1, 99, false), NONE);
        due("without months", new JuneVote().skew(1, 1, false), -2);
    }

    private static void again() {
        promise = 29;
        JuneVote x = made("month m from 0 to 9; month n from 1 to 1;"
            + "person p votes 1 wish not (days - (year + 3) % 4);");
        due("earlier", x.again(0), 0);
        due("later", x.again(1), 4);
        x.run(1);
        due("from the next one on", x.again(1), 4);
        JuneVote y = made("month m from 0 to 31; person p votes 1 wish not (days - year);");
        // 0 to 31, and then always 0.
        due("none does", y.again(0), NONE);
        y.run(1);
        due("1 to 31 are 31 years", y.again(1), NONE);
        y.run(1);
        due("2 to 31, and the second 0 is too late", y.again(1), NONE);
        y.run(1);
        due("3 to 31, and two of 0", y.again(0), 29);
        due("3 to 31, and two of 0", y.again(1), 30);
        JuneVote w = made("month m from 0 to 2; month n from 1 to 5;"
            + "person p votes 1 wish (not month) * days * (days < year + 1) + month * days * (year = 1);");
        due("0 1, 1 5, 2 1, 2 1", w.again(0) * 10 + w.again(1), 23);
        w.run(1);
        due("from 1 5 on", w.again(0) * 10 + w.again(1), 12);
        w.run(1);
        due("from 1 5 on", w.again(0) * 10 + w.again(1), 12);
        JuneVote z = made("month m from 0 to 31; person p votes 1 wish (not (days - year)) + (year > 6) * (days = 4) * 2;");
        due("the first such", z.again(0), 4);
        due("the first such", z.again(1), 7);
        due("another what", z.again(2), NONE);
        due("another what", z.again(-1), NONE);
        due("nothing is done", z.about(3), 0);
        due("without months", new JuneVote().again(0), NONE);
    }

    private static void ahead() {
        promise = 30;
        JuneVote x = two();
        x.decree(2);
        due("now", x.ahead(0, 0, 0), 2);
        due("days", x.ahead(3, 0, -7), 2 + 3 + 4 + 3);
        due("no lapses", x.ahead(60, 1, 99), 0);
        due("have", x.ahead(3, 2, 0), 7 - 5 + 7);
        due("have", x.ahead(0, 2, 1), 0);
        x.endow(0, 0);
        // b votes for the least: 2 days, no day.
        due("days", x.ahead(60, 0, 0), 2 + 30 * 2);
        due("lapses on the way", x.ahead(60, 1, 0), 60);
        due("nothing is done", x.due(0, 1), 1);
        due("have", x.ahead(60, 2, 0), 0);
        due("nobody", x.ahead(1, 2, 2), GAP);
        due("nobody", x.ahead(1, 2, -1), GAP);
        due("-1", x.ahead(-1, 0, 0), GAP);
        due("61", x.ahead(61, 0, 0), GAP);
        due("another what", x.ahead(1, 3, 0), GAP);
        due("another what", x.ahead(1, -1, 0), GAP);
        due("without months", new JuneVote().ahead(0, 0, 0), GAP);
        due("without people", made("month m from 3 to 4;").ahead(2, 0, 0), 6);
    }

    private static void net() {
        promise = 31;
        JuneVote x = made("month m from 1 to 2; person p votes 1; person q votes 1; person r votes 1;"
            + "due a by p to q pays 5 on 1 of m; due b by q to r pays 5 on 31 of m; due c by r to p pays 4 on 1 of m;");
        due("p of all", x.net(0, 7), -1);
        due("q of all", x.net(1, 7), 0);
        due("r of all", x.net(2, 7), 1);
        due("p of b", x.net(0, 2), 0);
        due("p of c", x.net(0, 4), 4);
        due("of none", x.net(0, 0), 0);
        due("no set", x.net(0, 8), GAP);
        due("no set", x.net(0, -1), GAP);
        due("nobody", x.net(3, 1), GAP);
        due("nobody", x.net(-1, 1), GAP);
        x.forgive(0);
        due("a forgiven one, too", x.net(0, 7), -1);
        due("a forgiven one alone", x.net(0, 1), -5);
        due("who gets by a forgiven one", x.net(1, 1), 5);
        due("who has no part in it", x.net(2, 1), 0);
        x.run(2);
        due("whatever was paid", x.net(0, 5), -1);
        x.forgive(0);
        due("told again", x.net(0, 1), -5);
    }

    private static void lies() {
        promise = 32;
        JuneVote x = two();
        due("nothing", x.lies(0), NONE);
        x.plan(0, 3);
        due("first", x.lies(0), 4);
        due("second", x.lies(1), 3);
        due("third", x.lies(2), 4);
        due("fourth", x.lies(3), NONE);
        due("below", x.lies(-1), NONE);
        due("far", x.lies(MIN), NONE);
        x.rest(0);
        due("first", x.lies(0), 4);
        due("second", x.lies(1), 2);
        due("third", x.lies(2), NONE);
        x.run(3);
        x.undo();
        due("it lies on", x.lies(1), 2);
        x.plan(7, 1);
        due("nothing", x.lies(0), NONE);
    }

    private static void ledger() {
        promise = 33;
        JuneVote x = two();
        due("first", x.ledger(0, 0, 1), 0);
        due("second", x.ledger(400, 1, 31), 1);
        due("day -1", x.ledger(-1, 0, 1), NONE);
        due("day 401", x.ledger(401, 0, 1), NONE);
        due("no month", x.ledger(0, 2, 1), NONE);
        due("no month", x.ledger(0, -1, 1), NONE);
        due("day 0", x.ledger(0, 0, 0), NONE);
        due("day 32", x.ledger(0, 0, 32), NONE);
        due("two are", x.about(9), 2);
        for (int i = 2; i < 30; i++) {
            due("ledger " + i, x.ledger(i, 0, 1), i);
        }
        due("there are 30", x.ledger(0, 0, 1), NONE);
        x.untell(3);
        due("untold ones are, too", x.ledger(0, 0, 1), NONE);
        due("thirty are", x.about(9), 30);
        due("without months", new JuneVote().ledger(0, 0, 1), NONE);
    }

    private static void untell() {
        promise = 34;
        JuneVote x = two();
        due("none such", x.untell(0), false);
        x.ledger(0, 0, 2);
        due("-1", x.untell(-1), false);
        due("1", x.untell(1), false);
        due("rows", x.lengths(1, 0), 0);
        due("untell", x.untell(0), true);
        due("rows", x.lengths(1, 0), 3);
        due("already", x.untell(0), false);
        x.later(5);
        due("already", x.untell(0), false);
    }

    private static void later() {
        promise = 35;
        JuneVote x = new JuneVote();
        due("0", x.later(0), 0);
        due("3", x.later(3), 3);
        due("1001", x.later(1001), NONE);
        due("-1", x.later(-1), NONE);
        due("MAX", x.later(MAX), NONE);
        due("time", x.about(10), 3);
        int time = 3;
        for (int i = 0; i < 99; i++) {
            time += 1000;
            due("1000", x.later(1000), time);
        }
        due("above", x.later(998), NONE);
        due("to the last", x.later(997), 100000);
        due("none more", x.later(1), NONE);
        due("0", x.later(0), 100000);
    }

    private static void lengths() {
        promise = 36;
        JuneVote x = two();
        due("m 0", x.lengths(0, 0), NONE);
        due("m 6", x.lengths(6, 0), NONE);
        due("free", x.lengths(3, 0), 3 * 4 * 3);
        x.later(10);
        x.ledger(5, 0, 1);
        // Jan and feb of 5 days together: 2 and 3, 3 and 2, 4 and 1.
        due("known", x.lengths(3, 10), 3 * 3);
        due("not known yet", x.lengths(3, 9), 36);
        due("too few months", x.lengths(2, 10), 0);
        x.ledger(2, 0, 3);
        due("two of them", x.lengths(3, 10), 2 * 3);
        x.later(1);
        x.untell(0);
        due("as known then", x.lengths(3, 10), 2 * 3);
        due("as known now", x.lengths(3, 11), 2 * 4 * 3);
        x.ledger(2, 1, 1);
        due("torn", x.lengths(3, 11), 0);
        due("as known then", x.lengths(3, 10), 6);
        due("before all", x.lengths(3, MIN), 36);
        due("far", x.lengths(3, MAX), 0);
        due("without months", new JuneVote().lengths(1, 0), NONE);
        String months = "month a from 0 to 24; month b from 1 to 20; month c from 0 to 9; month d from 22 to ";
        due("50,000 rows", made(months + "31;").lengths(4, 0), 50000);
        due("more rows", made("month e from 0 to 1;" + months + "31;").lengths(5, 0), -2);
        JuneVote y = made("month m from 0 to 31;");
        y.ledger(200, 0, 1);
        due("days behind them", y.lengths(2, 0), 0);
        due("spent all the same", y.lengths(4, 0), -2);
        due("fewer", y.lengths(3, 0), 0);
    }

    private static void known() {
        promise = 37;
        JuneVote x = two();
        x.ledger(5, 0, 1);
        int[] least = {2, 1, 2};
        int[] most = {4, 3, 4};
        for (int i = 0; i < 3; i++) {
            due("least " + i, x.known(3, i, false, 0), least[i]);
            due("most " + i, x.known(3, i, true, 0), most[i]);
        }
        x.later(1);
        x.ledger(2, 0, 3);
        due("least jan", x.known(3, 0, false, 1), 3);
        due("most feb", x.known(3, 1, true, 1), 2);
        due("as known then", x.known(3, 1, true, 0), 3);
        x.ledger(4, 1, 1);
        due("least jan", x.known(3, 0, false, 1), 4);
        due("least feb", x.known(3, 1, false, 1), 1);
        due("most feb", x.known(3, 1, true, 1), 1);
        x.ledger(4, 1, 2);
        due("there are none", x.known(3, 0, false, 1), NONE);
        due("no such i", x.known(3, 3, false, 0), NONE);
        due("no such i", x.known(3, -1, false, 0), NONE);
        due("m 0", x.known(0, 0, false, 0), NONE);
        due("m 6", x.known(6, 0, false, 0), NONE);
        due("without months", new JuneVote().known(1, 0, true, 0), NONE);
        due("spent", made("month m from 0 to 31;").known(4, 0, true, 0), -2);
    }

    private static void image() {
        promise = 38;
        JuneVote x = two();
        due("box 0", x.image(0), 0);
        x.run(3);
        due("box 2", x.image(2), 3);
        due("box 0 anew", x.image(0), 3);
        due("no such box", x.image(3), NONE);
        due("no such box", x.image(-1), NONE);
        due("no act", x.about(7), 1);
        x.undo();
        x.image(1);
        due("redo stays", x.about(8), 1);
        due("back", x.back(0), 3);
    }

    private static void back() {
        promise = 39;
        JuneVote x = two();
        x.run(3);
        x.endow(1, 5);
        x.forgive(0);
        x.image(1);
        x.forgive(0);
        x.endow(1, 6);
        x.decree(31);
        x.later(3);
        x.ledger(1, 1, 1);
        x.rest(0);
        due("no such box", x.back(3), NONE);
        due("no such box", x.back(-1), NONE);
        due("empty box", x.back(0), NONE);
        due("nothing done", x.about(7), 6);
        due("back", x.back(1), 3);
        due("months", x.about(3), 3);
        due("days", x.about(4), 11);
        due("votes", x.person(1, 0), 5);
        due("have", x.person(1, 1), 3);
        due("paid", x.due(0, 0), 2);
        due("forgiven", x.due(0, 2), 1);
        due("no acts", x.about(7) + x.about(8), 0);
        due("time stays", x.about(10), 3);
        due("ledgers stay", x.about(9), 1);
        due("what lies stays", x.about(13), 2);
        x.decree(2);
        due("gone on from", x.undo(), true);
        due("no further", x.undo(), false);
        due("back again", x.back(1), 3);
    }

    private static void about() {
        promise = 40;
        JuneVote x = two();
        x.run(2);
        x.run(1);
        x.undo();
        x.decree(2);
        x.decree(3);
        x.decree(1);
        x.undo();
        x.ledger(0, 0, 1);
        x.later(8);
        x.plan(0, 1);
        x.feed(0, 0, 0, 0, 0);
        int[] about = {2, 2, 2, 4, 12, 2, 0, 3, 1, 1, 8, 20, 1, 1};
        for (int what = 0; what < about.length; what++) {
            due("about " + what, x.about(what), about[what]);
        }
        due("another what", x.about(14), NONE);
        due("another what", x.about(-1), NONE);
        due("units", made("law (1 + days) or not 2;").about(12), 4);
        due("year without months", new JuneVote().about(5), 0);
        due("month without months", new JuneVote().about(6), NONE);
        JuneVote people = made("person a votes 1; sun 5 and 1 of 2;");
        due("year of people alone", people.about(5), 0);
        due("month of people alone", people.about(6), NONE);
        due("forgiven dues count", forgivenOf(two()).about(2), 2);
    }

    private static JuneVote forgivenOf(JuneVote x) {
        x.forgive(0);
        return x;
    }
}
