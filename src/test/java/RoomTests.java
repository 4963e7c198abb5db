import com.sun.management.ThreadMXBean;
import java.lang.management.ManagementFactory;

/** The room that the dearest runs of 512 calls take. An element takes a byte or more, an object 16 or more, so bytes bound both. */
public final class RoomTests {
    // A run has room for 7.3 million elements and 600,000 objects, which several objects of JobText may share.
    private static final long MOST = 1000000;
    private static int wrong = 0;

    public static void main(String[] args) {
        if (!(ManagementFactory.getThreadMXBean() instanceof ThreadMXBean bean) || !bean.isThreadAllocatedMemorySupported()) {
            System.out.println("this machine does not tell what a run takes");
            return;
        }
        // The first round loads the classes, which is not the runs' own.
        for (int round = 0; round < 2; round++) {
            wrong = 0;
            for (int run = 0; run < 6; run++) {
                long before = bean.getThreadAllocatedBytes(Thread.currentThread().getId());
                dearest(run);
                long taken = bean.getThreadAllocatedBytes(Thread.currentThread().getId()) - before;
                if (taken > MOST) {
                    wrong++;
                    System.out.println("run " + run + " takes " + taken + " bytes, more than " + MOST);
                }
            }
        }
        System.out.println(wrong == 0 ? "all runs have room" : wrong + " runs take too much");
        if (wrong != 0) {
            System.exit(1);
        }
    }

    private static void dearest(int run) {
        switch (run) {
            case 0: rounds(511, 0, false); break;
            case 1: rounds(256, 0x0A0A0A0A0A0A0A0AL, false); break;
            case 2: rounds(170, 0x2F2F4A204A4F4220L, true); break;
            case 3: again("//J JOB\n// SET A=ABCDEFGHIJKLMNOPQRSTUVWXYZ1234\n//P PROC\n// EXEC PGM=A,&A,&A,&A,&A,&A,&A,&A,&A,&A\n// PEND\n", "// EXEC P,&A,&A,&A,&A,&A,&A,&A,&A,&A\n"); break;
            case 4: again("//J JOB\n", "// SET A=,B=,C=,D=,E=,F=,G=,H=,I=,J=\n"); break;
            default: again("//J JOB\n//P PROC\n// EXEC PGM=A\n//D DD\n// PEND\n// EXEC P\n//D DD\n", "// DD ,,,,,,,,,1\n");
        }
    }

    /** Rounds of sign, read and perhaps expand. */
    private static void rounds(int n, long signs, boolean expanding) {
        JobText x = new JobText();
        for (int i = 0; i < n; i++) {
            if (signs != 0) {
                x.sign(signs);
            }
            x.read();
            if (expanding) {
                x.expand();
            }
        }
    }

    /** A text of 3000 signs, read and expanded as often as calls are left. */
    private static void again(String head, String line) {
        JobText x = new JobText();
        TextTest.load(x, head + line.repeat(3000 / line.length()));
        x.read();
        for (int call = 378; call <= 512; call++) {
            x.expand();
        }
    }
}
