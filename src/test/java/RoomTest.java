import java.lang.management.ManagementFactory;

/** A run of 512 dear calls stays far within the one room that all of a run's objects share. */
public final class RoomTest {
    // 7.3 million elements of four bytes would be some 29 million; a run is to take a small part of that.
    private static final long MOST_BYTES = 1000000;

    private static void feed(ManyPlaces x, String s) {
        for (int at = 0; at < s.length(); at += 20) {
            int[] w = new int[5];
            for (int i = 0; i < 20 && at + i < s.length(); i++) {
                w[i / 4] |= s.charAt(at + i) << (24 - 8 * (i % 4));
            }
            x.feed(w[0], w[1], w[2], w[3], w[4]);
        }
    }

    private static long allocated() {
        return ((com.sun.management.ThreadMXBean) ManagementFactory.getThreadMXBean())
            .getThreadAllocatedBytes(Thread.currentThread().getId());
    }

    private static void dear(ManyPlaces x, int call) {
        switch (call % 13) {
            case 0: x.least(0, 0, 4); break;
            case 1: x.least(1, 0, 2); break;
            case 2: x.twice(2, 0, 4); break;
            case 3: x.better(0, -1); break;
            case 4: x.leastDay(2, 0, 4); break;
            case 5: x.barred(0, 1, 1); break;
            case 6: x.ask(1, call % 50); break;
            case 7: x.parts(1, call, call); break;
            case 8: x.led(1, call, -1); break;
            case 9: x.on(1, call, 1); break;
            case 10: x.daily(2, 5, 1); break;
            case 11: feed(x, "a=1"); x.text(); break;
            default: x.fault(); break;
        }
    }

    public static void main(String[] args) {
        allocated();
        long before = allocated();
        ManyPlaces x = new ManyPlaces();
        feed(x, "a=$0;b=a*$1;c=b+a;d=c*#1;?d{#1=c;!d};!a+b+c");
        x.text();
        feed(x, "a=$0;b=a*2;c=b+a;d=c*3;e=a+d;f=e+b;g=f;h=g+a;a=h+c;b=a+e;c=b;d=c+a;e=d+b;f=e;#0=f;!#0+h");
        x.text();
        feed(x, "a=$0+$1;b=a*$2;?b{c=a};!a+b+c");
        x.text();
        for (int p = 0; p < 4; p++) {
            x.work(0, p, 7 * p + 1);
            for (int q = 0; q < 4; q++) {
                x.word(0, p, q, 5 * p + q);
            }
        }
        for (int i = 0; i < 8; i++) {
            x.put(0, i, i % 4);
            x.secret(i, i % 4);
            x.lay(i, i - 2);
            x.day(i + 1);
        }
        for (int call = 0; call < 430; call++) {
            dear(x, call);
        }
        long taken = allocated() - before;
        System.out.println("a run of dear calls took " + taken + " bytes");
        if (taken > MOST_BYTES) {
            System.exit(1);
        }
    }
}
