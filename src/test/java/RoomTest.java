import java.lang.management.ManagementFactory;

/** What calls make: a run of 512 of the dearest ones must stay far inside the room of 7.3 million elements. */
public final class RoomTest {
    private static final Check CHECK = new Check();
    private static final com.sun.management.ThreadMXBean BYTES =
            (com.sun.management.ThreadMXBean) ManagementFactory.getThreadMXBean();
    private static final int CALLS = 512;
    /** 7.3 million elements, if each one had but a byte; and it is but a quarter of these that a run may take. */
    private static final long MOST_BYTES = 7_300_000L / 4;

    private static Object kept;

    private static long bytesOf(int times, Check.Call call) {
        kept = call.answer();
        long before = BYTES.getThreadAllocatedBytes(Thread.currentThread().getId());
        for (int i = 0; i < times; i++) {
            kept = call.answer();
        }
        return BYTES.getThreadAllocatedBytes(Thread.currentThread().getId()) - before;
    }

    private static void small(String what, Check.Call call) {
        long bytes = bytesOf(CALLS, call);
        CHECK.is(what + " makes " + bytes + " bytes", bytes <= MOST_BYTES, true);
    }

    public static void main(String[] args) {
        Downhill hill = Check.ruled("cbxy>bcxcxcxcxx", "cax>x", "bbbbbbbx>bbbbbbx", "cxx>x", "bebx>ebeebebeebx");
        for (int slot = 0; slot < 6; slot++) {
            Check.keep(hill, slot, "cbbbbacabbba");
        }
        hill.number(0, 2);
        for (int span = 2; span <= 20; span++) {
            hill.power(0, 0);
        }
        hill.make(1, 0, 0, 0);
        hill.fall(1, 3);
        small("term", () -> hill.term(0));
        small("tell", () -> hill.tell(1));
        small("pair", () -> hill.pair(0));
        small("ring", () -> hill.ring(0));
        small("ends", () -> hill.ends(0));
        small("row", hill::row);
        small("stuck", hill::stuck);
        small("differ", () -> hill.differ(0, 1, 3));
        small("longest", () -> hill.longest(0));
        small("reduct", () -> hill.reduct(0, 2));
        small("loop", () -> hill.loop(2));
        small("game", () -> hill.game(1, 3, 3));
        small("isSound", hill::isSound);
        small("digest", hill::digest);
        small("say", () -> hill.say(8, 0, 8, 1, -1, -1));
        small("put", () -> hill.put(0, 5, 1, 2));
        small("make", () -> hill.make(2, 2, 1, 3));
        long bytes = bytesOf(10, Downhill::new) / 10;
        CHECK.is("a new object makes " + bytes + " bytes", bytes <= 7_300_000L / 40, true);
        CHECK.end("room");
    }
}
