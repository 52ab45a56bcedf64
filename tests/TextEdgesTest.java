/** The boundary cases of section 1: a text, its tokens, its lines and their bounds, its faults. */
public final class TextEdgesTest {
    private static final String[] KEPT = ("month from to person votes wish due by pays on of late sun and law count most "
        + "middle mean week broken or not days gets owes drift year have").split(" ");
    private static final String AHEAD = "month m from 1 to 2;person p votes 3;person q votes 3;";
    private static final int AT = AHEAD.length();
    /** One formula of thirty units. */
    private static final String THIRTY = "1" + "+1".repeat(29);

    private TextEdgesTest() {
    }

    public static void main(String[] args) {
        Edges.runAll(TextEdgesTest.class);
    }

    private static void due(String call, int got, int want) {
        Edges.due(call, got, want);
    }

    private static void fault(String text, int number, int place) {
        Edges.fault(text, number, place);
    }

    private static void good(String text) {
        Edges.good(text);
    }

    // ---- "a text of at most 1,700 bytes (empty at first): republic = {line}"

    private static String padded(String head, int size, String tail) {
        return head + " ".repeat(size - head.length() - tail.length()) + tail;
    }

    static void section1TextOf1700Bytes() {
        String text = padded("month m from 1 to 2", 1700, ";");
        good(text);
        due("months", Typed.republic(text).about(0), 1);
    }

    static void section1TextOf1700BytesIsReadToItsLast() {
        fault(padded("month m from 1 to 2;", 1700, "x"), 2, 1699);
        fault(padded("month m from 1 to 2;", 1700, "!"), 1, 1699);
        fault(padded("law 1 +", 1700, ""), 2, 1700);
    }

    static void section1TextOfTokensOfOneByteAlone() {
        fault("law " + "(".repeat(1696), 2, 11);
        fault(";".repeat(1700), 2, 0);
    }

    static void section1EmptyAtFirst() {
        JuneVote x = new JuneVote();
        for (int what = 0; what < 3; what++) {
            due("about " + what, x.about(what), 0);
        }
        due("units", x.about(12), 0);
    }

    static void section1EmptyText() {
        JuneVote x = Typed.republic(AHEAD);
        due("republic", x.republic(), 0);
        due("fault", x.fault(0), 0);
        due("months", x.about(0), 0);
        due("people", x.about(1), 0);
    }

    static void section1TextOfBlanksAlone() {
        good("  \n ");
        good(" ".repeat(1700));
    }

    static void section1LinesInAnyOrder() {
        good("week 9;count most;law 1;sun 0 and 0 of 1;person p votes 1;month m from 0 to 0;person q votes 0;"
            + "due d by p to q pays 1 on 1 of m;month n from 31 to 31;");
    }

    // ---- "TOKENS: words (a .. z, 8 at most), N (1 to 4 digits), signs"

    static void section1WordOf8Letters() {
        good("month abcdefgh from 1 to 2;");
        good("month zzzzzzzz from 1 to 2;");
    }

    static void section1WordOf9Letters() {
        fault("month abcdefghi from 1 to 2;", 1, 6);
        fault("abcdefghi", 1, 0);
        fault("month m from 1 to 2; personabc p votes 1;", 1, 21);
    }

    static void section1LongWordsAreNotCutTo8() {
        // If they were, the second would be told already (3).
        fault("month abcdefgh from 1 to 2;month abcdefghi from 1 to 2;", 1, 33);
    }

    static void section1WordsThatDifferInOneLetter() {
        good("month aaaaaaaa from 1 to 2;month aaaaaaab from 1 to 2;month baaaaaaa from 1 to 2;month aaaaaaa from 1 to 2;");
        good("month a from 1 to 2;month aa from 1 to 2;month z from 1 to 2;month az from 1 to 2;month za from 1 to 2;");
    }

    static void section1NumberOf4Digits() {
        good("month m from 0000 to 0031;");
        due("worth", Typed.republic("month m from 0 to 1;person p votes 1 wish 9999;").worth(0, 0), 9999);
        due("worth", Typed.republic("month m from 0 to 1;person p votes 1 wish 0100;").worth(0, 0), 100);
    }

    static void section1NumberOf1Digit() {
        due("worth", Typed.republic("month m from 0 to 1;person p votes 1 wish 0;").worth(0, 0), 0);
        due("worth", Typed.republic("month m from 0 to 1;person p votes 1 wish 9;").worth(0, 0), 9);
    }

    static void section1NumberOf5Digits() {
        fault("law 10000;", 1, 4);
        fault("law 00001;", 1, 4);
        fault("month m from 00001 to 2;", 1, 13);
        fault("law 1" + "0".repeat(1600) + ";", 1, 4);
    }

    static void section1EveryByteAtALinesBegin() {
        for (int sign = 0; sign < 256; sign++) {
            boolean blank = sign == 32 || sign == 10;
            boolean token = sign >= 'a' && sign <= 'z' || sign >= '0' && sign <= '9' || ";()<>=+-*/%".indexOf(sign) >= 0;
            fault(Character.toString((char) sign), blank ? 0 : token ? 2 : 1, 0);
        }
    }

    static void section1EveryByteWithinALine() {
        // Where a month's name should stand: a letter alone is good there.
        for (int sign = 0; sign < 256; sign++) {
            boolean blank = sign == 32 || sign == 10;
            boolean letter = sign >= 'a' && sign <= 'z';
            boolean token = sign >= '0' && sign <= '9' || ";()<>=+-*/%".indexOf(sign) >= 0;
            fault("month " + (char) sign + " from 1 to 2;", letter ? 0 : blank || token ? 2 : 1, blank ? 8 : 6);
        }
    }

    // ---- "blanks (32, 10) part them or not"

    static void section1BlanksNeedNotPart() {
        good("law(1<2)and not(3);week7;count\nmean\n;");
        good("law((days+1)*2=year)or(month<have);");
    }

    static void section1ManyBlanksPartToo() {
        good("\n\n month \n m  from\n\n0 to   1 ; \n");
        fault("law 1 2;", 2, 6);
        fault("month m m from 1 to 2;", 2, 8);
    }

    static void section1NoOtherByteIsABlank() {
        fault("month\tm from 1 to 2;", 1, 5);
        fault("month m from 1 to 2;\r\n", 1, 20);
        fault("month\u00a0m from 1 to 2;", 1, 5);
        fault("law 1;\u0000", 1, 6);
    }

    // ---- "each is as long as can be; no letter directly behind an N"

    static void section1EachIsAsLongAsCanBe() {
        good("month fromage from 1 to 2;");
        good("month tom from 1 to 2;");
        fault("monthm from 1 to 2;", 2, 0);
        fault("month m fromm 1 to 2;", 2, 8);
        fault("law notdays;", 2, 4);
        fault("law daysdays;", 2, 4);
        due("one number", Typed.republic("month m from 12 to 31;").counted(), 12);
        due("one unit", Typed.republic("law 1234;").about(12), 1);
    }

    static void section1ABlankEndsAToken() {
        fault("law 1 2;", 2, 6);
        fault("mon th m from 1 to 2;", 2, 0);
        fault("law 12 34;", 2, 7);
    }

    static void section1LetterBehindANumber() {
        fault("month m from 1to 2;", 1, 13);
        fault("law 1234a;", 1, 4);
        fault("law 1and 1;", 1, 4);
        fault("law 1z;", 1, 4);
        fault("1a", 1, 0);
    }

    static void section1LetterBehindALongNumber() {
        fault("law 12345a;", 1, 4);
    }

    static void section1LetterPartedFromANumber() {
        good("law 1 and 1;");
        good("law 1\nand 1;");
        good("law(1)and 1;");
    }

    static void section1NumberBehindALetter() {
        good("week9;");
        fault("month m1 from 1 to 2;", 2, 7);
    }

    static void section1NoLetterBehindANumberButAnotherByte() {
        fault("law 1A;", 1, 5);
        fault("law 1{;", 1, 5);
        fault("law 1`;", 1, 5);
    }

    // ---- "Words that stand for themselves here are no NAMES"

    static void section1KeptWordsAreNoNamesOfMonths() {
        for (String word : KEPT) {
            fault("month " + word + " from 1 to 2;", 2, 6);
        }
    }

    static void section1KeptWordsAreNoNamesOfPeople() {
        for (String word : KEPT) {
            fault("person " + word + " votes 1;", 2, 7);
        }
    }

    static void section1KeptWordsAreNoNamesOfDues() {
        for (String word : KEPT) {
            fault(AHEAD + "due " + word + " by p to q pays 1 on 1 of m;", 2, AT + 4);
            fault(AHEAD + "due d by " + word + " to q pays 1 on 1 of m;", 2, AT + 9);
            fault(AHEAD + "due d by p to " + word + " pays 1 on 1 of m;", 2, AT + 14);
            fault(AHEAD + "due d by p to q pays 1 on 1 of " + word + ";", 2, AT + 31);
        }
    }

    static void section1OtherWordsAreNames() {
        for (String word : "line e both one sum term unit name n republic either fault daysx xdays mont onth".split(" ")) {
            good("month " + word + " from 1 to 2;");
            good("person " + word + " votes 1;");
        }
    }

    static void section1NoNameStandsInAFormula() {
        fault("person p votes 1;law p;", 2, 21);
        fault("month m from 1 to 2;law m;", 2, 24);
    }

    // ---- "At most 6 MONTHS (from, to: 0 .. 31, to not below from)"

    private static String months(int n) {
        StringBuilder text = new StringBuilder();
        for (int i = 0; i < n; i++) {
            text.append("month ").append((char) ('a' + i)).append(" from 1 to 2;");
        }
        return text.toString();
    }

    static void section1SixMonths() {
        good(months(6));
        due("months", Typed.republic(months(6)).about(0), 6);
    }

    static void section1SeventhMonth() {
        String six = months(6);
        fault(six + "month g from 1 to 2;", 2, six.length());
        fault(six + " month", 2, six.length() + 1);
        fault(six + "month a from 99 to 2;", 2, six.length());
    }

    static void section1MonthFrom0To31() {
        good("month m from 0 to 31;");
        fault("month m from 32 to 31;", 4, 13);
        fault("month m from 0 to 32;", 4, 18);
        fault("month m from 31 to 32;", 4, 19);
        fault("month m from 9999 to 9999;", 4, 13);
    }

    static void section1ToNotBelowFrom() {
        good("month m from 0 to 0;");
        good("month m from 7 to 7;");
        good("month m from 31 to 31;");
        fault("month m from 7 to 6;", 4, 18);
        fault("month m from 1 to 0;", 4, 18);
    }

    // ---- "5 PEOPLE (votes 0 .. 9)"

    private static String people(int n) {
        StringBuilder text = new StringBuilder();
        for (int i = 0; i < n; i++) {
            text.append("person ").append((char) ('a' + i)).append(" votes ").append(i).append(';');
        }
        return text.toString();
    }

    static void section1FivePeople() {
        good(people(5));
        JuneVote x = Typed.republic(people(5));
        due("people", x.about(1), 5);
        due("votes of the fifth", x.person(4, 0), 4);
    }

    static void section1SixthPerson() {
        fault(people(6), 2, people(5).length());
        fault(people(5) + "\nperson", 2, people(5).length() + 1);
    }

    static void section1VotesOf0To9() {
        good("person p votes 0;");
        good("person p votes 9;");
        fault("person p votes 10;", 4, 15);
        due("none", Typed.republic("person p votes 0;").person(0, 0), 0);
        due("nine", Typed.republic("person p votes 9;").person(0, 0), 9);
    }

    static void section1WishIsNotNeeded() {
        good("person p votes 1;");
        good("person p votes 1 wish 0;");
        fault("person p votes 1 wish;", 2, 21);
        fault("person p votes 1 days;", 2, 17);
    }

    // ---- "12 DUES (by and to two unlike PEOPLE told ahead; 1 .. 99 on a day 1 .. 31 of a MONTH told ahead)"

    private static String dues(int n) {
        StringBuilder text = new StringBuilder(AHEAD);
        for (int i = 0; i < n; i++) {
            text.append("due ").append((char) ('a' + i)).append(" by p to q pays ").append(i + 1).append(" on 1 of m;");
        }
        return text.toString();
    }

    static void section1TwelveDues() {
        good(dues(12));
        JuneVote x = Typed.republic(dues(12));
        due("dues", x.about(2), 12);
        due("the twelfth", x.net(1, 1 << 11), 12);
    }

    static void section1ThirteenthDue() {
        fault(dues(13), 2, dues(12).length());
        fault(dues(12) + " due", 2, dues(12).length() + 1);
    }

    static void section1DueByAndToUnlike() {
        fault(AHEAD + "due d by p to p pays 1 on 1 of m;", 3, AT + 14);
        fault(AHEAD + "due d by q to q pays 1 on 1 of m;", 3, AT + 14);
        good(AHEAD + "due d by q to p pays 1 on 1 of m;");
    }

    static void section1DueByPeopleToldAhead() {
        fault("month m from 1 to 2;due d by p to q pays 1 on 1 of m;person p votes 3;person q votes 3;", 5, 29);
        fault("month m from 1 to 2;person p votes 3;due d by p to q pays 1 on 1 of m;person q votes 3;", 5, 51);
        fault("month m from 1 to 2;person p votes 3;due d by q to p pays 1 on 1 of m;person q votes 3;", 5, 46);
    }

    static void section1DueOfAMonthToldAhead() {
        String people = "person p votes 3;person q votes 3;";
        fault(people + "due d by p to q pays 1 on 1 of m;month m from 1 to 2;", 5, people.length() + 31);
    }

    static void section1DueOf1To99() {
        good(AHEAD + "due d by p to q pays 1 on 1 of m;");
        good(AHEAD + "due d by p to q pays 99 on 1 of m;");
        fault(AHEAD + "due d by p to q pays 0 on 1 of m;", 4, AT + 21);
        fault(AHEAD + "due d by p to q pays 100 on 1 of m;", 4, AT + 21);
    }

    static void section1DueOnADayOf1To31() {
        good(AHEAD + "due d by p to q pays 1 on 31 of m;");
        fault(AHEAD + "due d by p to q pays 1 on 0 of m;", 4, AT + 26);
        fault(AHEAD + "due d by p to q pays 1 on 32 of m;", 4, AT + 26);
    }

    static void section1LateIsNotNeeded() {
        good(AHEAD + "due d by p to q pays 1 on 1 of m late;");
        fault(AHEAD + "due d by p to q pays 1 on 1 of m late late;", 2, AT + 38);
    }

    // ---- "numbered as told, each sort by itself"

    static void section1NumberedAsTold() {
        JuneVote x = Typed.republic("person z votes 7;month n from 3 to 3;person a votes 8;month b from 4 to 4;"
            + "due y by z to a pays 5 on 1 of b;due c by a to z pays 6 on 1 of n;");
        due("person 0", x.person(0, 0), 7);
        due("person 1", x.person(1, 0), 8);
        due("month 0", x.counted(), 3);
        due("due 0", x.net(1, 1), 5);
        due("due 1", x.net(0, 2), 6);
        x.run(1);
        due("month 1", x.counted(), 4);
        due("due 1 was in month 0", x.due(1, 0), 1);
    }

    static void section1OneNameInEachSort() {
        good("month x from 1 to 2;person x votes 3;person y votes 3;due x by x to y pays 1 on 1 of x;");
    }

    // ---- "sun (whole days 0 .. 186, and N of N: 0 .. 99 of 1 .. 99, the first less than the second)"

    static void section1SunOf0To186() {
        good("sun 0 and 0 of 1;");
        good("sun 186 and 0 of 1;");
        fault("sun 187 and 0 of 1;", 4, 4);
    }

    static void section1SunsFirstOf0To99() {
        good("sun 1 and 98 of 99;");
        fault("sun 1 and 100 of 99;", 4, 10);
        // 99 can be, but with none of 1 .. 99.
        fault("sun 1 and 99 of 99;", 4, 16);
    }

    static void section1SunsSecondOf1To99() {
        good("sun 1 and 0 of 99;");
        fault("sun 1 and 0 of 0;", 4, 15);
        fault("sun 1 and 0 of 100;", 4, 15);
    }

    static void section1SunsFirstLessThanItsSecond() {
        good("sun 1 and 1 of 2;");
        fault("sun 1 and 2 of 2;", 4, 15);
        fault("sun 1 and 3 of 2;", 4, 15);
        fault("sun 1 and 1 of 1;", 4, 15);
    }

    static void section1SunNotTold() {
        JuneVote one = Typed.republic("month m from 30 to 30;");
        one.run(1);
        due("one month of 30", one.drift(0), 0);
        JuneVote six = Typed.republic(months(6).replace("from 1 to 2", "from 29 to 29"));
        six.run(6);
        due("six months of 29", six.drift(0), -6);
        due("no parts", six.drift(1), 1);
    }

    static void section1SunOfNoDays() {
        JuneVote x = Typed.republic("month m from 1 to 1;sun 0 and 0 of 1;");
        x.run(2);
        due("each day is too many", x.drift(0), 2);
    }

    // ---- "law, count (most), week (1 .. 9; 7) once each"

    static void section1OnceEach() {
        fault("sun 0 and 0 of 1;sun 0 and 0 of 1;", 2, 17);
        fault("law 1;law 1;", 2, 6);
        fault("count mean;count mean;", 2, 11);
        fault("week 1;week 1;", 2, 7);
        fault("week 1;law 1;count most;sun 1 and 0 of 1;week", 2, 41);
    }

    static void section1CountNotTold() {
        String text = "month m from 0 to 9;person p votes 3 wish days;person q votes 2;";
        due("most, not told", Typed.republic(text).counted(), 9);
        due("most", Typed.republic(text + "count most;").counted(), 9);
        due("mean", Typed.republic(text + "count mean;").counted(), 5);
    }

    static void section1CountOfAnotherWord() {
        fault("count;", 2, 5);
        fault("count late;", 2, 6);
        fault("count x;", 2, 6);
        fault("count 1;", 2, 6);
    }

    static void section1WeekNotTold() {
        JuneVote x = Typed.republic("month m from 15 to 15;");
        x.run(1);
        due("day 6", x.date(6, 3), 6);
        due("day 7", x.date(7, 3), 0);
        due("day 14", x.date(14, 3), 0);
    }

    static void section1WeekOf1To9() {
        good("week 1;");
        good("week 9;");
        fault("week 0;", 4, 5);
        fault("week 10;", 4, 5);
        JuneVote x = Typed.republic("month m from 15 to 15;week 1;");
        x.run(1);
        due("of one day", x.date(13, 3), 0);
        JuneVote y = Typed.republic("month m from 15 to 15;week 9;");
        y.run(1);
        due("of nine days", y.date(8, 3), 8);
        due("of nine days", y.date(9, 3), 0);
    }

    static void section1BrokenIsNotNeeded() {
        good("week 7 broken;");
        fault("week 7 late;", 2, 7);
        fault("week broken;", 2, 5);
    }

    // ---- "90 units in all, 30 in one e"

    private static String ninety() {
        return "person p votes 1 wish " + THIRTY + ";person q votes 1 wish " + THIRTY + ";person r votes 1 wish " + THIRTY
            + ";";
    }

    static void section1NinetyUnits() {
        good(ninety());
        due("units", Typed.republic(ninety()).about(12), 90);
    }

    static void section1NinetyFirstUnit() {
        int size = ninety().length();
        fault(ninety() + "law 1;", 2, size + 4);
        fault(ninety() + "law days;", 2, size + 4);
        fault(ninety() + "law (1);", 2, size + 4);
        fault(ninety() + "law not 1;", 2, size + 8);
        fault(ninety().replace("1;person q", "(1);person q"), 2, ninety().indexOf(THIRTY) + 59);
    }

    static void section1NinetyUnitsWithParentheses() {
        // 29 and one ( e ) are thirty: the last of the ninety is within the last ( e ).
        String text = ninety().substring(0, ninety().length() - 3) + ";law (1);";
        fault(text, 2, text.length() - 3);
        due("just ninety", Typed.republic(ninety().substring(0, ninety().length() - 3) + ";law 1;").about(12), 90);
    }

    static void section1ThirtyUnitsInOne() {
        good("law " + THIRTY + ";");
        good("law (1" + "+1".repeat(28) + ");");
        good("person p votes 1 wish " + THIRTY + ";law " + THIRTY + ";");
    }

    static void section1ThirtyFirstUnitInOne() {
        fault("law " + THIRTY + "+1;", 2, 4 + 60);
        fault("law " + THIRTY + " and days;", 2, 4 + 64);
        fault("law " + THIRTY + "<(1);", 2, 4 + 60);
        fault("law (1" + "+1".repeat(29) + ");", 2, 5 + 58);
        fault("law " + "(1)+".repeat(15) + "(1);", 2, 4 + 60);
    }

    static void section1NotIsNoUnit() {
        due("one unit", Typed.republic("law not not not 1;").about(12), 1);
        good("law not not " + THIRTY + ";");
    }

    static void section1ParenthesesAreUnits() {
        due("two units", Typed.republic("law (1);").about(12), 2);
        due("eight units", Typed.republic("law (((((((1)))))));").about(12), 8);
    }

    // ---- "a unit ( e ), or a one behind not, within 6 others at most"

    private static String around(String open, int n, String close) {
        return "law " + open.repeat(n) + "1" + close.repeat(n) + ";";
    }

    static void section1ParenthesesWithinSixOthers() {
        good(around("(", 7, ")"));
        fault(around("(", 8, ")"), 2, 4 + 7);
        fault(around("(", 20, ")"), 2, 4 + 7);
    }

    static void section1OneBehindNotWithinSixOthers() {
        good(around("not ", 7, ""));
        fault(around("not ", 8, ""), 2, 4 + 28);
    }

    static void section1NotsAndParenthesesWithinSixOthers() {
        good("law not(not(not(not 1)));");
        fault("law not(not(not(not(1))));", 2, 4 + 15);
        fault("law (((((((not 1)))))));", 2, 4 + 7);
        fault("law not not not not not not not (1);", 2, 4 + 28);
        good("law ((((((not 1))))));");
    }

    static void section1SideBySideIsNotWithin() {
        good("law " + "(1)+".repeat(14) + "(1);");
        good("law not 1" + " and not 1".repeat(20) + ";");
        good("law not (((((1))))) and (((((((1)))))));");
        good("law ((((((1)+(1)+(1)))))) and not not not not not not not 1;");
    }

    static void section1PlainUnitWithinSeven() {
        good("law (((((((days<1)))))));");
        good("law not not not not not not not days<1;");
    }

    static void section1DeepWithinAWish() {
        good("person p votes 1 wish (((((((1)))))));");
        fault("person p votes 1 wish ((((((((1))))))));", 2, 22 + 7);
    }

    // ---- "FAULTS, the first by its place (bytes from 0; the end: the text's length), at one place the least"

    static void section1TheFirstFaultByItsPlace() {
        fault("month m from 32 to 5x;", 4, 13);
        fault("month m from 5 to 4;month m from 1 to 2;", 4, 18);
        fault("month m from 1 to 2;month m from 32 to 2;", 3, 26);
        fault("! x", 1, 0);
        fault("x !", 2, 0);
        fault("law law 12345;", 2, 4);
        fault("law 1;law 1;!", 2, 6);
    }

    static void section1FaultAtTheEnd() {
        fault("month", 2, 5);
        fault("month  \n", 2, 8);
        fault("month m from 1 to 2", 2, 19);
        fault("law (1", 2, 6);
        fault("law 1 +", 2, 7);
        fault("law not", 2, 7);
        fault("person p votes 1 wish", 2, 21);
        fault(AHEAD + "due d by p to q pays 1 on 1 of", 2, AT + 30);
        fault("sun 1 and 1 of", 2, 14);
        fault("week 7 broken", 2, 13);
    }

    static void section1AtOnePlaceTheLeast() {
        // No token, and none could stand there either.
        fault("12345;", 1, 0);
        fault("abcdefghi;", 1, 0);
        fault("law !;", 1, 4);
        fault("month m from 1 to 99999;", 1, 18);
        fault(ninety() + "law 12345;", 1, ninety().length() + 4);
        fault(months(6) + "monthmonth;", 1, months(6).length());
        // What can't stand there, and is a number that could not be or a name that nothing has.
        fault("month 99 from 1 to 2;", 2, 6);
        fault("week x;", 2, 5);
        fault(AHEAD + "due d by 99 to q pays 1 on 1 of m;", 2, AT + 9);
    }

    static void section1ANameToldAlready() {
        fault("month m from 1 to 2;month m from 1 to 2;", 3, 26);
        fault("person p votes 1;person q votes 1;person p votes 1;", 3, 41);
        fault(dues(12).replace("due l", "due a"), 3, dues(12).indexOf("due l") + 4);
    }

    static void section1ANameThatNothingHas() {
        fault(AHEAD + "due d by m to q pays 1 on 1 of m;", 5, AT + 9);
        fault(AHEAD + "due d by p to m pays 1 on 1 of m;", 5, AT + 14);
        fault(AHEAD + "due d by p to q pays 1 on 1 of p;", 5, AT + 31);
        fault(AHEAD + "due d by d to q pays 1 on 1 of m;", 5, AT + 9);
    }

    static void section1EveryLineCutAnywhere() {
        String[] lines = {"month n from 1 to 2 ;", "person r votes 1 wish days ;", "due d by p to q pays 1 on 1 of m late ;",
            "sun 1 and 1 of 2 ;", "law not ( 1 < days ) ;", "count middle ;", "week 7 broken ;"};
        for (String line : lines) {
            String[] tokens = line.split(" ");
            StringBuilder text = new StringBuilder(AHEAD);
            for (int i = 0; i < tokens.length; i++) {
                // Up to here all can stand; the end behind it can't, and what is no token never can.
                text.append(tokens[i]).append(' ');
                if (i < tokens.length - 1) {
                    fault(text.toString(), 2, text.length());
                    fault(text + "!", 1, text.length());
                }
            }
            good(text.toString());
        }
    }

    static void section1FormulasThatEndAnywhere() {
        fault("law ;", 2, 4);
        fault("law ();", 2, 5);
        fault("law 1);", 2, 5);
        fault("law (1;", 2, 6);
        fault("law 1+;", 2, 6);
        fault("law 1<;", 2, 6);
        fault("law 1 and;", 2, 9);
        fault("law not;", 2, 7);
        fault("law -1;", 2, 4);
        fault("law 1<2<3;", 2, 7);
        fault("law 1=2>3;", 2, 7);
        fault("law 1+not 2;", 2, 6);
        fault("law 1<not 2;", 2, 6);
        fault("law 1*not 2;", 2, 6);
    }
}
