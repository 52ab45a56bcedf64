import com.sun.management.ThreadMXBean;
import java.lang.management.ManagementFactory;

/** A run's calls live in one room: an object makes all its rows at once, and its calls make nothing more. */
public final class RoomTest {
    private static final long MOST_BYTES_NEW = 120_000;
    private static final long MOST_BYTES_OF_CALLS = 2_000;

    private RoomTest() {
    }

    private static final String TEXT = "month m from 0 to 3; month n from 1 to 4; person p votes 2 wish gets - owes + drift;"
        + "person q votes 1 wish have * days % 7; due d by p to q pays 3 on 2 of m late; law days > year % 3; count mean;";

    public static void main(String[] args) {
        ThreadMXBean beans = (ThreadMXBean) ManagementFactory.getThreadMXBean();
        long self = Thread.currentThread().getId();
        useAll(Typed.republic(TEXT));
        long before = beans.getThreadAllocatedBytes(self);
        JuneVote x = new JuneVote();
        long made = beans.getThreadAllocatedBytes(self) - before;
        Typed.feed(x, TEXT);
        before = beans.getThreadAllocatedBytes(self);
        int sum = x.republic();
        sum += useAll(x);
        long used = beans.getThreadAllocatedBytes(self) - before;
        System.out.println(made + " bytes for a new object, " + used + " for its calls (their answers' sum: " + sum + ")");
        if (made > MOST_BYTES_NEW || used > MOST_BYTES_OF_CALLS) {
            System.exit(1);
        }
    }

    private static int useAll(JuneVote x) {
        int sum = 0;
        for (int i = 0; i < 12; i++) {
            sum += x.run(2) + x.decree(i % 5) + x.forgive(0) + x.endow(1, i % 9) + x.image(i % 3) + x.ledger(i, 0, 1)
                + x.later(1) + x.counted() + x.votes(0) + x.worth(1, 3) + x.may(2) + x.turned(3, 2) + x.least(2)
                + x.bribe(2, 0) + x.rest(0) + x.plan(0, 4) + x.span(0, 0) + x.skew(120, 9, true) + x.skew(120, 99, false)
                + x.again(0) + x.ahead(60, 1, 0) + x.net(0, 1) + x.lies(0) + x.lengths(5, i) + x.known(5, 2, true, i)
                + x.date(9, 3) + x.number(1, 0, 1) + x.drift(0) + x.about(4) + x.due(0, 1) + x.person(0, 1) + x.length(3);
            sum += (x.undo() ? 1 : 0) + (x.redo() ? 1 : 0) + (x.untell(i) ? 1 : 0) + (i % 4 == 3 ? x.back(i % 3) : 0);
        }
        return sum;
    }
}
