import java.math.BigInteger;
import java.util.ArrayDeque;
import java.util.ArrayList;
import java.util.Arrays;
import java.util.Deque;
import java.util.HashSet;
import java.util.List;
import java.util.Set;
import java.util.function.IntPredicate;

/**
 * What the document says, in its plainest and slowest form: all is worked out anew from the months that were,
 * rows are all gone through, acts are undone by states that are kept whole. The tests hold JuneVote against it.
 */
final class Model {
    static final int NONE = -1;
    static final int GAP = -1000000;

    // ---- the text

    static final class Fault extends RuntimeException {
        final int number;
        final int place;

        Fault(int number, int place) {
            super(null, null, false, false);
            this.number = number;
            this.place = place;
        }
    }

    record Token(char sort, String text, int place) {
        boolean is(String what) {
            return (sort == 'w' || sort == 's') && text.equals(what);
        }
    }

    static final Set<String> KEPT = new HashSet<>(Arrays.asList(("month from to person votes wish due by pays on of late "
        + "sun and law count most middle mean week broken or not days gets owes drift year have").split(" ")));
    static final Set<String> FACTS = new HashSet<>(
        Arrays.asList("days", "gets", "owes", "drift", "year", "month", "have"));

    /** A node: a number, a fact, "not" with one part, or a joint with two. */
    record Node(String what, int number, Node left, Node right) {
    }

    record Month(String name, int from, int to) {
    }

    record Person(String name, int votes, Node wish) {
    }

    record Due(String name, int by, int to, int pays, int day, int month, boolean late) {
        int dayPaid(int length) {
            return length >= day ? day : late && length > 0 ? length : 0;
        }
    }

    static final class Republic {
        final List<Month> months = new ArrayList<>();
        final List<Person> people = new ArrayList<>();
        final List<Due> dues = new ArrayList<>();
        int[] sun;
        Node law;
        String count;
        int week;
        boolean broken;
        int units;

        BigInteger sunUpper() {
            return sun == null ? BigInteger.valueOf(30L * months.size())
                : BigInteger.valueOf((long) sun[0] * sun[2] + sun[1]);
        }

        BigInteger sunLower() {
            return BigInteger.valueOf(sun == null ? 1 : sun[2]);
        }
    }

    static final class Parse {
        final String text;
        final Republic made = new Republic();
        int at;
        Token token;
        int unitsHere;

        Parse(String text) {
            this.text = text;
            next();
        }

        private boolean in(int i, char from, char to) {
            return i < text.length() && text.charAt(i) >= from && text.charAt(i) <= to;
        }

        void next() {
            while (at < text.length() && (text.charAt(at) == ' ' || text.charAt(at) == '\n')) {
                at++;
            }
            int from = at;
            if (at == text.length()) {
                token = new Token('e', "", from);
                return;
            }
            if (in(at, 'a', 'z')) {
                while (in(at, 'a', 'z')) {
                    at++;
                }
                token = new Token(at - from > 8 ? '?' : 'w', text.substring(from, at), from);
            } else if (in(at, '0', '9')) {
                while (in(at, '0', '9')) {
                    at++;
                }
                token = new Token(at - from > 4 || in(at, 'a', 'z') ? '?' : 'n', text.substring(from, at), from);
            } else {
                at++;
                String sign = text.substring(from, at);
                token = new Token(";()<>=+-*/%".contains(sign) ? 's' : '?', sign, from);
            }
        }

        Fault fault(int number) {
            return new Fault(token.sort == '?' ? 1 : number, token.place);
        }

        void want(String what) {
            if (!token.is(what)) {
                throw fault(2);
            }
            next();
        }

        boolean takes(String what) {
            if (!token.is(what)) {
                return false;
            }
            next();
            return true;
        }

        int number(IntPredicate good) {
            if (token.sort != 'n') {
                throw fault(2);
            }
            int value = Integer.parseInt(token.text);
            if (!good.test(value)) {
                throw fault(4);
            }
            next();
            return value;
        }

        int number(int from, int to) {
            return number(v -> v >= from && v <= to);
        }

        String name(List<String> told) {
            if (token.sort != 'w' || KEPT.contains(token.text)) {
                throw fault(2);
            }
            if (told.contains(token.text)) {
                throw fault(3);
            }
            String name = token.text;
            next();
            return name;
        }

        int known(List<String> told) {
            if (token.sort != 'w' || KEPT.contains(token.text)) {
                throw fault(2);
            }
            int i = told.indexOf(token.text);
            if (i < 0) {
                throw fault(5);
            }
            next();
            return i;
        }

        List<String> monthNames() {
            List<String> names = new ArrayList<>();
            made.months.forEach(m -> names.add(m.name));
            return names;
        }

        List<String> personNames() {
            List<String> names = new ArrayList<>();
            made.people.forEach(p -> names.add(p.name));
            return names;
        }

        List<String> dueNames() {
            List<String> names = new ArrayList<>();
            made.dues.forEach(d -> names.add(d.name));
            return names;
        }

        Republic whole() {
            while (token.sort != 'e') {
                line();
                want(";");
            }
            if (made.count == null) {
                made.count = "most";
            }
            if (made.week == 0) {
                made.week = 7;
            }
            return made;
        }

        void line() {
            Token first = token;
            boolean tooMany = first.is("month") && made.months.size() == 6
                || first.is("person") && made.people.size() == 5 || first.is("due") && made.dues.size() == 12
                || first.is("sun") && made.sun != null || first.is("law") && made.law != null
                || first.is("count") && made.count != null || first.is("week") && made.week != 0;
            if (tooMany) {
                throw fault(2);
            }
            if (takes("month")) {
                String name = name(monthNames());
                want("from");
                int from = number(0, 31);
                want("to");
                made.months.add(new Month(name, from, number(v -> v >= from && v <= 31)));
            } else if (takes("person")) {
                String name = name(personNames());
                want("votes");
                int votes = number(0, 9);
                made.people.add(new Person(name, votes, takes("wish") ? formula() : null));
            } else if (takes("due")) {
                due();
            } else if (takes("sun")) {
                int whole = number(0, 186);
                want("and");
                int upper = number(0, 99);
                want("of");
                made.sun = new int[] {whole, upper, number(v -> v >= 1 && v <= 99 && upper < v)};
            } else if (takes("law")) {
                made.law = formula();
            } else if (takes("count")) {
                String way = token.text;
                if (!takes("most") && !takes("middle") && !takes("mean")) {
                    throw fault(2);
                }
                made.count = way;
            } else if (takes("week")) {
                made.week = number(1, 9);
                made.broken = takes("broken");
            } else {
                throw fault(2);
            }
        }

        void due() {
            String name = name(dueNames());
            want("by");
            int by = known(personNames());
            want("to");
            if (token.sort == 'w' && token.text.equals(made.people.get(by).name)) {
                throw fault(3);
            }
            int to = known(personNames());
            want("pays");
            int pays = number(1, 99);
            want("on");
            int day = number(1, 31);
            want("of");
            int month = known(monthNames());
            made.dues.add(new Due(name, by, to, pays, day, month, takes("late")));
        }

        Node formula() {
            unitsHere = 0;
            return either(0);
        }

        Node either(int around) {
            Node left = both(around);
            while (takes("or")) {
                left = new Node("or", 0, left, both(around));
            }
            return left;
        }

        Node both(int around) {
            Node left = one(around);
            while (takes("and")) {
                left = new Node("and", 0, left, one(around));
            }
            return left;
        }

        Node one(int around) {
            if (token.is("not")) {
                if (around == 7) {
                    throw fault(2);
                }
                next();
                return new Node("not", 0, one(around + 1), null);
            }
            Node left = sum(around);
            for (String relation : new String[] {"<", ">", "="}) {
                if (takes(relation)) {
                    return new Node(relation, 0, left, sum(around));
                }
            }
            return left;
        }

        Node sum(int around) {
            Node left = term(around);
            while (token.is("+") || token.is("-")) {
                String sign = token.text;
                next();
                left = new Node(sign, 0, left, term(around));
            }
            return left;
        }

        Node term(int around) {
            Node left = unit(around);
            while (token.is("*") || token.is("/") || token.is("%")) {
                String sign = token.text;
                next();
                left = new Node(sign, 0, left, unit(around));
            }
            return left;
        }

        Node unit(int around) {
            boolean fact = token.sort == 'w' && FACTS.contains(token.text);
            if (!fact && token.sort != 'n' && !token.is("(")) {
                throw fault(2);
            }
            made.units++;
            unitsHere++;
            if (made.units > 90 || unitsHere > 30 || token.is("(") && around == 7) {
                throw fault(2);
            }
            if (takes("(")) {
                Node inner = either(around + 1);
                want(")");
                return inner;
            }
            Node node = new Node(fact ? token.text : "N", fact ? 0 : Integer.parseInt(token.text), null, null);
            next();
            return node;
        }
    }

    // ---- the calendar

    /** A month that was: its length, and of each due whether it was one then. */
    record Was(int length, boolean[] forgiven) {
    }

    static final class State {
        final List<Was> months = new ArrayList<>();
        int[] votes = new int[0];
        boolean[] forgiven = new boolean[0];

        State copy() {
            State s = new State();
            s.months.addAll(months);
            s.votes = votes.clone();
            s.forgiven = forgiven.clone();
            return s;
        }

        State with(int length) {
            State s = copy();
            s.months.add(new Was(length, forgiven.clone()));
            return s;
        }
    }

    record Ledger(int n, int month, int day, int told, int[] untold) {
    }

    String tape = "";
    Republic rep = new Republic();
    State st = new State();
    final Deque<State> past = new ArrayDeque<>();
    final Deque<State> future = new ArrayDeque<>();
    State[] boxes = new State[3];
    List<Ledger> ledgers = new ArrayList<>();
    List<Integer> lying = new ArrayList<>();
    int time;
    int faultNumber;
    int faultPlace = NONE;

    int months() {
        return rep.months.size();
    }

    int people() {
        return rep.people.size();
    }

    int dues() {
        return rep.dues.size();
    }

    boolean person(int p) {
        return p >= 0 && p < people();
    }

    int days(State s) {
        return s.months.stream().mapToInt(Was::length).sum();
    }

    int monthOf(State s) {
        return s.months.size() % months();
    }

    int yearOf(State s) {
        return s.months.size() / months();
    }

    /** Paid (1) or lapsed (-1) in that month that was, 0 if not due there. */
    int fate(State s, int i, int due) {
        Due d = rep.dues.get(due);
        if (i % months() != d.month || s.months.get(i).forgiven[due]) {
            return 0;
        }
        return d.dayPaid(s.months.get(i).length) > 0 ? 1 : -1;
    }

    int howOften(State s, int due, int fate) {
        int sum = 0;
        for (int i = 0; i < s.months.size(); i++) {
            if (fate(s, i, due) == fate) {
                sum++;
            }
        }
        return sum;
    }

    int have(State s, int p) {
        int sum = 0;
        for (int d = 0; d < dues(); d++) {
            Due due = rep.dues.get(d);
            int sign = due.to == p ? 1 : due.by == p ? -1 : 0;
            if (sign != 0) {
                sum += sign * due.pays * howOften(s, d, 1);
            }
        }
        return sum;
    }

    BigInteger driftLower() {
        return rep.sunLower().multiply(BigInteger.valueOf(Math.max(1, months())));
    }

    BigInteger driftUpper(State s) {
        return BigInteger.valueOf(days(s)).multiply(driftLower())
            .subtract(rep.sunUpper().multiply(BigInteger.valueOf(s.months.size())));
    }

    int driftFloor(State s) {
        BigInteger[] parts = driftUpper(s).divideAndRemainder(driftLower());
        return parts[0].intValue() - (parts[1].signum() < 0 ? 1 : 0);
    }

    int value(Node n, State s, int p, int length) {
        if (n == null) {
            return 0;
        }
        switch (n.what) {
            case "N":
                return n.number;
            case "days":
                return length;
            case "gets":
            case "owes":
                return flow(s, p, length, n.what.equals("gets"));
            case "drift":
                return driftFloor(s.with(length));
            case "year":
                return yearOf(s);
            case "month":
                return monthOf(s);
            case "have":
                return p < 0 ? 0 : have(s, p);
            case "not":
                return value(n.left, s, p, length) == 0 ? 1 : 0;
            default:
                return joined(n.what, value(n.left, s, p, length), value(n.right, s, p, length));
        }
    }

    static int joined(String sign, int a, int b) {
        boolean both = a != 0 && b != 0;
        return switch (sign) {
            case "+" -> a + b;
            case "-" -> a - b;
            case "*" -> a * b;
            case "/" -> b == 0 ? 0 : a / b;
            case "%" -> b == 0 ? 0 : a % b;
            case "<" -> a < b ? 1 : 0;
            case ">" -> a > b ? 1 : 0;
            case "=" -> a == b ? 1 : 0;
            case "and" -> both ? 1 : 0;
            default -> a != 0 || b != 0 ? 1 : 0;
        };
    }

    int flow(State s, int p, int length, boolean gets) {
        int sum = 0;
        for (int d = 0; d < dues() && p >= 0; d++) {
            Due due = rep.dues.get(d);
            if (!s.forgiven[d] && due.month == monthOf(s) && due.dayPaid(length) > 0 && (gets ? due.to : due.by) == p) {
                sum += due.pays;
            }
        }
        return sum;
    }

    List<Integer> mayBe(State s) {
        Month m = rep.months.get(monthOf(s));
        List<Integer> all = new ArrayList<>();
        List<Integer> lawful = new ArrayList<>();
        for (int l = m.from; l <= m.to; l++) {
            all.add(l);
            if (rep.law == null || value(rep.law, s, -1, l) != 0) {
                lawful.add(l);
            }
        }
        return lawful.isEmpty() ? all : lawful;
    }

    int worthOf(State s, int p, int l) {
        return value(rep.people.get(p).wish, s, p, l);
    }

    int vote(State s, int p) {
        int best = -1;
        int worth = 0;
        for (int l : mayBe(s)) {
            int w = worthOf(s, p, l);
            if (best < 0 || w > worth) {
                best = l;
                worth = w;
            }
        }
        return best;
    }

    int[] ballots(State s) {
        int[] ballots = new int[people()];
        for (int p = 0; p < people(); p++) {
            ballots[p] = vote(s, p);
        }
        return ballots;
    }

    /** All single votes in a row: what is counted can be read off it. */
    int outcome(State s, int[] ballots) {
        List<Integer> single = new ArrayList<>();
        for (int p = 0; p < people(); p++) {
            for (int i = 0; i < s.votes[p]; i++) {
                single.add(ballots[p]);
            }
        }
        single.sort(null);
        if (single.isEmpty()) {
            return mayBe(s).get(0);
        }
        if (rep.count.equals("mean")) {
            return single.stream().mapToInt(v -> v).sum() / single.size();
        }
        if (rep.count.equals("middle")) {
            return single.get((single.size() + 1) / 2 - 1);
        }
        int best = single.get(0);
        for (int l : single) {
            if (java.util.Collections.frequency(single, l) > java.util.Collections.frequency(single, best)) {
                best = l;
            }
        }
        return best;
    }

    int result(State s) {
        return outcome(s, ballots(s));
    }

    State gone(State s, int n) {
        State t = s;
        for (int i = 0; i < n; i++) {
            t = t.with(result(t));
        }
        return t;
    }

    // ---- the calls

    int feed(int a, int b, int c, int d, int e) {
        if (tape.length() + 20 > 1700) {
            return NONE;
        }
        StringBuilder more = new StringBuilder();
        for (int n : new int[] {a, b, c, d, e}) {
            for (int shift = 24; shift >= 0; shift -= 8) {
                more.append((char) (n >> shift & 255));
            }
        }
        tape += more;
        return tape.length();
    }

    int end(int n) {
        if (n < 0 || n > tape.length()) {
            return NONE;
        }
        tape = tape.substring(0, n);
        return n;
    }

    int republic() {
        String text = tape;
        tape = "";
        try {
            rep = new Parse(text).whole();
        } catch (Fault f) {
            faultNumber = f.number;
            faultPlace = f.place;
            return NONE;
        }
        faultNumber = 0;
        faultPlace = NONE;
        st = new State();
        st.votes = rep.people.stream().mapToInt(Person::votes).toArray();
        st.forgiven = new boolean[dues()];
        past.clear();
        future.clear();
        boxes = new State[3];
        ledgers = new ArrayList<>();
        lying = new ArrayList<>();
        return months();
    }

    int fault(int what) {
        return what == 0 ? faultNumber : what == 1 ? faultPlace : NONE;
    }

    int person(int p, int what) {
        return !person(p) || what < 0 || what > 1 ? GAP : what == 0 ? st.votes[p] : have(st, p);
    }

    int due(int d, int what) {
        if (d < 0 || d >= dues() || what < 0 || what > 2) {
            return NONE;
        }
        return what == 2 ? (st.forgiven[d] ? 1 : 0) : howOften(st, d, what == 0 ? 1 : -1);
    }

    int length(int i) {
        return i >= 0 && i < st.months.size() ? st.months.get(i).length : NONE;
    }

    /** Year, month, day, day of the week of all days that were. */
    List<int[]> dates() {
        List<int[]> all = new ArrayList<>();
        for (int i = 0; i < st.months.size(); i++) {
            for (int d = 1; d <= st.months.get(i).length; d++) {
                int week = (rep.broken ? d - 1 : all.size()) % rep.week;
                all.add(new int[] {i / months(), i % months(), d, week});
            }
        }
        return all;
    }

    int date(int n, int what) {
        List<int[]> all = dates();
        return n < 0 || n >= all.size() || what < 0 || what > 3 ? NONE : all.get(n)[what];
    }

    int number(int year, int month, int day) {
        List<int[]> all = dates();
        for (int n = 0; n < all.size(); n++) {
            int[] d = all.get(n);
            if (d[0] == year && d[1] == month && d[2] == day) {
                return n;
            }
        }
        return NONE;
    }

    int drift(int what) {
        BigInteger upper = driftUpper(st);
        BigInteger common = upper.gcd(driftLower());
        return what == 0 ? upper.divide(common).intValue() : what == 1 ? driftLower().divide(common).intValue() : GAP;
    }

    int may(int l) {
        return months() == 0 ? NONE : mayBe(st).contains(l) ? 1 : 0;
    }

    int worth(int p, int l) {
        return months() == 0 || !person(p) || l < 0 || l > 31 ? GAP : worthOf(st, p, l);
    }

    int votes(int p) {
        return months() == 0 || !person(p) ? NONE : vote(st, p);
    }

    int counted() {
        return months() == 0 ? NONE : result(st);
    }

    void act(State then) {
        past.addLast(st);
        if (past.size() > 40) {
            past.removeFirst();
        }
        future.clear();
        st = then;
    }

    int run(int n) {
        if (n < 0 || n > 60 || months() == 0 || st.months.size() + n > 300) {
            return NONE;
        }
        act(gone(st, n));
        return st.months.size();
    }

    int decree(int l) {
        if (l < 0 || l > 31 || months() == 0 || st.months.size() >= 300) {
            return NONE;
        }
        act(st.with(l));
        return st.months.size();
    }

    int forgive(int d) {
        if (d < 0 || d >= dues()) {
            return NONE;
        }
        State then = st.copy();
        then.forgiven[d] = !then.forgiven[d];
        act(then);
        return st.forgiven[d] ? 1 : 0;
    }

    int endow(int p, int votes) {
        if (!person(p) || votes < 0 || votes > 9) {
            return NONE;
        }
        State then = st.copy();
        then.votes[p] = votes;
        int had = st.votes[p];
        act(then);
        return had;
    }

    boolean undo() {
        if (past.isEmpty()) {
            return false;
        }
        future.addLast(st);
        st = past.removeLast();
        return true;
    }

    boolean redo() {
        if (future.isEmpty()) {
            return false;
        }
        past.addLast(st);
        st = future.removeLast();
        return true;
    }

    boolean canTurn(int set, int l) {
        int[] ballots = ballots(st);
        for (int p = 0; p < people(); p++) {
            if ((set >> p & 1) == 1) {
                ballots[p] = l;
            }
        }
        return outcome(st, ballots) == l;
    }

    int turned(int set, int l) {
        if (months() == 0 || set < 0 || set >= 1 << people() || !mayBe(st).contains(l)) {
            return NONE;
        }
        return canTurn(set, l) ? 1 : 0;
    }

    List<Integer> turning(int l) {
        List<Integer> sets = new ArrayList<>();
        if (months() > 0 && mayBe(st).contains(l)) {
            for (int set = 0; set < 1 << people(); set++) {
                if (canTurn(set, l)) {
                    sets.add(set);
                }
            }
        }
        return sets;
    }

    int least(int l) {
        List<Integer> sets = turning(l);
        for (int size = 0; size <= 5; size++) {
            for (int set : sets) {
                if (Integer.bitCount(set) == size) {
                    return set;
                }
            }
        }
        return NONE;
    }

    int asked(int set, int l) {
        int sum = 0;
        for (int p = 0; p < people(); p++) {
            if ((set >> p & 1) == 1) {
                sum += worthOf(st, p, vote(st, p)) - worthOf(st, p, l);
            }
        }
        return sum;
    }

    int bribe(int l, int what) {
        List<Integer> sets = turning(l);
        if (sets.isEmpty() || what < 0 || what > 1) {
            return NONE;
        }
        int min = sets.stream().mapToInt(set -> asked(set, l)).min().getAsInt();
        return what == 0 ? min : sets.stream().filter(set -> asked(set, l) == min).findFirst().get();
    }

    int rest(int what) {
        lying = new ArrayList<>();
        if (months() == 0 || what < 0 || what > 1) {
            return NONE;
        }
        int[] ballots = ballots(st);
        for (int turn = 1; turn <= 40; turn++) {
            int[] before = ballots.clone();
            for (int p = 0; p < people(); p++) {
                ballots[p] = bestBallot(ballots, p);
            }
            if (Arrays.equals(before, ballots)) {
                for (int b : ballots) {
                    lying.add(b);
                }
                return what == 0 ? turn : outcome(st, ballots);
            }
        }
        return NONE;
    }

    private int bestBallot(int[] ballots, int p) {
        List<Integer> best = new ArrayList<>();
        int most = 0;
        for (int l : mayBe(st)) {
            int[] other = ballots.clone();
            other[p] = l;
            int w = worthOf(st, p, outcome(st, other));
            if (best.isEmpty() || w > most) {
                best.clear();
                most = w;
            }
            if (w == most) {
                best.add(l);
            }
        }
        return best.contains(ballots[p]) ? ballots[p] : best.get(0);
    }

    private int rows;
    private List<Integer> bestRow;
    private int bestSum;

    int plan(int p, int n) {
        lying = new ArrayList<>();
        if (months() == 0 || !person(p) || n < 1 || n > 4) {
            return GAP;
        }
        rows = 0;
        bestRow = null;
        planOn(st, p, n, new ArrayList<>(), 0);
        if (rows > 20000) {
            return GAP - 1;
        }
        lying = bestRow;
        return bestSum;
    }

    private void planOn(State s, int p, int n, List<Integer> row, int sum) {
        if (row.size() == n) {
            if (bestRow == null || sum > bestSum) {
                bestRow = new ArrayList<>(row);
                bestSum = sum;
            }
            return;
        }
        for (int l : mayBe(s)) {
            rows++;
            if (rows > 20000) {
                return;
            }
            row.add(l);
            planOn(s.with(l), p, n, row, sum + worthOf(s, p, l));
            row.remove(row.size() - 1);
        }
    }

    int span(int d, int what) {
        if (d < 0 || d >= dues() || st.forgiven[d] || what < 0 || what > 2) {
            return -2;
        }
        Due due = rep.dues.get(d);
        int least = 0;
        int most = 0;
        int i = st.months.size();
        for (; i % months() != due.month; i++) {
            least += rep.months.get(i % months()).from;
            most += rep.months.get(i % months()).to;
        }
        int first = NONE;
        int last = NONE;
        int lapses = 0;
        for (int l = rep.months.get(due.month).from; l <= rep.months.get(due.month).to; l++) {
            int day = due.dayPaid(l);
            if (day == 0) {
                lapses = 1;
            } else {
                first = first == NONE ? least + day : Math.min(first, least + day);
                last = Math.max(last, most + day);
            }
        }
        return what == 0 ? first : what == 1 ? last : lapses;
    }

    int skew(int n, int w, boolean repair) {
        if (months() == 0 || n < 1 || n > 120 || w < 0 || w > 99) {
            return -2;
        }
        State s = st;
        for (int i = 1; i <= n; i++) {
            s = s.with(repair ? repaired(s) : result(s));
            if (driftUpper(s).abs().compareTo(driftLower().multiply(BigInteger.valueOf(w))) > 0) {
                return i;
            }
        }
        return NONE;
    }

    private int repaired(State s) {
        List<Integer> may = mayBe(s);
        for (int l : may) {
            if (driftUpper(s.with(l)).signum() >= 0) {
                return l;
            }
        }
        return may.get(may.size() - 1);
    }

    int again(int what) {
        if (months() == 0 || what < 0 || what > 1) {
            return NONE;
        }
        State s = st;
        while (monthOf(s) != 0) {
            s = s.with(result(s));
        }
        int first = s.months.size();
        List<List<Integer>> years = new ArrayList<>();
        for (int year = 0; year <= 30; year++) {
            s = gone(s, months());
            List<Integer> lengths = new ArrayList<>();
            for (int i = first + year * months(); i < s.months.size(); i++) {
                lengths.add(s.months.get(i).length);
            }
            int earlier = years.indexOf(lengths);
            if (earlier >= 0) {
                return what == 0 ? earlier : year;
            }
            years.add(lengths);
        }
        return NONE;
    }

    int ahead(int n, int what, int p) {
        if (months() == 0 || n < 0 || n > 60 || what < 0 || what > 2 || what == 2 && !person(p)) {
            return GAP;
        }
        State s = gone(st, n);
        if (what == 0) {
            return days(s);
        }
        if (what == 2) {
            return have(s, p);
        }
        int sum = 0;
        for (int d = 0; d < dues(); d++) {
            sum += howOften(s, d, -1) - howOften(st, d, -1);
        }
        return sum;
    }

    int net(int p, int set) {
        if (!person(p) || set < 0 || set >= 1 << dues()) {
            return GAP;
        }
        int sum = 0;
        for (int d = 0; d < dues(); d++) {
            Due due = rep.dues.get(d);
            if ((set >> d & 1) == 1) {
                sum += due.to == p ? due.pays : due.by == p ? -due.pays : 0;
            }
        }
        return sum;
    }

    int lies(int i) {
        return i >= 0 && i < lying.size() ? lying.get(i) : NONE;
    }

    int ledger(int n, int month, int day) {
        if (n < 0 || n > 400 || month < 0 || month >= months() || day < 1 || day > 31 || ledgers.size() == 30) {
            return NONE;
        }
        ledgers.add(new Ledger(n, month, day, time, new int[] {Integer.MAX_VALUE}));
        return ledgers.size() - 1;
    }

    boolean untell(int i) {
        if (i < 0 || i >= ledgers.size() || ledgers.get(i).untold[0] != Integer.MAX_VALUE) {
            return false;
        }
        ledgers.get(i).untold[0] = time;
        return true;
    }

    int later(int by) {
        if (by < 0 || by > 1000 || time + by > 100000) {
            return NONE;
        }
        time += by;
        return time;
    }

    /** All rows that agree; null if there are too many in all. */
    List<int[]> agreeing(int m, int k) {
        long all = 1;
        for (int i = 0; i < m; i++) {
            Month month = rep.months.get(i % months());
            all *= month.to - month.from + 1;
        }
        if (all > 50000) {
            return null;
        }
        List<int[]> good = new ArrayList<>();
        rowsOn(new int[m], 0, k, good);
        return good;
    }

    private void rowsOn(int[] row, int depth, int k, List<int[]> good) {
        if (depth == row.length) {
            if (ledgers.stream().allMatch(l -> l.told > k || l.untold[0] != Integer.MAX_VALUE && l.untold[0] <= k
                    || holds(row, l))) {
                good.add(row.clone());
            }
            return;
        }
        Month month = rep.months.get(depth % months());
        for (int l = month.from; l <= month.to; l++) {
            row[depth] = l;
            rowsOn(row, depth + 1, k, good);
        }
    }

    private boolean holds(int[] row, Ledger l) {
        int left = l.n;
        for (int i = 0; i < row.length; i++) {
            if (left < row[i]) {
                return i % months() == l.month && left + 1 == l.day;
            }
            left -= row[i];
        }
        return false;
    }

    int lengths(int m, int k) {
        if (months() == 0 || m < 1 || m > 5) {
            return NONE;
        }
        List<int[]> good = agreeing(m, k);
        return good == null ? -2 : good.size();
    }

    int known(int m, int i, boolean most, int k) {
        if (months() == 0 || m < 1 || m > 5 || i < 0 || i >= m) {
            return NONE;
        }
        List<int[]> good = agreeing(m, k);
        if (good == null) {
            return -2;
        }
        int best = NONE;
        for (int[] row : good) {
            best = best == NONE ? row[i] : most ? Math.max(best, row[i]) : Math.min(best, row[i]);
        }
        return best;
    }

    int image(int box) {
        if (box < 0 || box > 2) {
            return NONE;
        }
        boxes[box] = st.copy();
        return st.months.size();
    }

    int back(int box) {
        if (box < 0 || box > 2 || boxes[box] == null) {
            return NONE;
        }
        st = boxes[box].copy();
        past.clear();
        future.clear();
        return st.months.size();
    }

    int about(int what) {
        return switch (what) {
            case 0 -> months();
            case 1 -> people();
            case 2 -> dues();
            case 3 -> st.months.size();
            case 4 -> days(st);
            case 5 -> months() == 0 ? 0 : yearOf(st);
            case 6 -> months() == 0 ? NONE : monthOf(st);
            case 7 -> past.size();
            case 8 -> future.size();
            case 9 -> ledgers.size();
            case 10 -> time;
            case 11 -> tape.length();
            case 12 -> rep.units;
            case 13 -> lying.size();
            default -> NONE;
        };
    }
}
