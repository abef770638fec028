import java.lang.management.ManagementFactory;
import java.util.Random;

/**
 * All calls of a run live in one room that is never swept: a new object is to be small, and no call
 * behind it is to make anything.
 */
public final class RoomTest {
    private static final long MOST_NEW = 200_000;
    // The measuring itself makes a little now and then.
    private static final long MOST_LATER = 20_000;

    private static long answers = 0;

    private static long made() {
        com.sun.management.ThreadMXBean bean = (com.sun.management.ThreadMXBean) ManagementFactory.getThreadMXBean();
        return bean.getThreadAllocatedBytes(Thread.currentThread().getId());
    }

    public static void main(String[] args) {
        Texts texts = new Texts(new Random(1));
        int[][] fed = new int[40][];
        for (int i = 0; i < fed.length; i++) {
            fed[i] = Texts.numbers(i % 5 == 0 ? texts.spoiled() : texts.contest(), 0);
        }
        play(new HoldOuts(), fed);
        long before = made();
        HoldOuts x = new HoldOuts();
        long behind = made();
        play(x, fed);
        long later = made();
        System.out.println("room: a new object takes " + (behind - before) + " bytes, its calls " + (later - behind));
        if (behind - before > MOST_NEW || later - behind > MOST_LATER) {
            System.out.println("room: WRONG");
            System.exit(1);
        }
    }

    private static void play(HoldOuts x, int[][] fed) {
        for (int[] n : fed) {
            answers += x.feed(n[0], n[1], n[2], n[3], n[4]) + x.contest(20) + x.fault();
        }
        int[] classic = Texts.numbers("win worth-mine;tie 2", 0);
        for (int i = 0; i < 8; i++) {
            answers += x.feed(classic[0], classic[1], classic[2], classic[3], classic[4]) + x.contest(15);
        }
        for (int i = 0; i < 12; i++) {
            x.player(0, 20 + i, 7);
            x.player(1, 18, 7);
            x.sure(0, 2);
            x.answer(1);
            x.sort(i % 2, i, 500);
            answers += x.rests(0) + x.rest(0, 0, 3) + x.mean(0, 0, 0, false) + x.lost(0, 0) + x.wrong(0, 0)
                + x.least(0) + x.offer(0, 0, 0) + x.edge(0, 0) + x.deal(0, 0, 0) + x.part(0, 0, 0) + x.worth(0, 0)
                + x.best(0, 0) + x.judge(0) + x.sorted(0, 0, 0) + x.three(0, 0) + x.idle(0) + x.days(0, 5, 5, 400, 1)
                + x.leave(0, 50, 400) + x.learn(0, 500, 0, 0) + x.cycle(0, 0, 0, 0) + x.run(0, 1, 1000, 0)
                + x.count(1) + x.gets(0, 0, 1, 2) + x.way(0);
        }
        answers += x.forget();
    }
}
