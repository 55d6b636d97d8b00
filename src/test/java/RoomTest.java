import java.lang.management.ManagementFactory;

/** What calls make: a run of 512 of the dearest ones must stay inside the room of 7.3 million elements. */
public final class RoomTest {
    private static final Check CHECK = new Check();
    private static final com.sun.management.ThreadMXBean BYTES =
            (com.sun.management.ThreadMXBean) ManagementFactory.getThreadMXBean();
    /** With those that set the hill up these are not more than the 512 for which it is good. */
    private static final int CALLS = 400;
    /** An element counts as an int. */
    private static final long ROOM = 7_300_000L * 4;
    private static final long MOST_BYTES = ROOM * CALLS / 512;

    private static Object kept;

    private static void small(String what, Sentences.Asked call) {
        Downhill hill = full();
        kept = call.of(hill);
        long before = bytes();
        for (int i = 0; i < CALLS; i++) {
            kept = call.of(hill);
        }
        long bytes = bytes() - before;
        CHECK.is(what + " makes " + bytes + " bytes", bytes <= MOST_BYTES, true);
    }

    private static long bytes() {
        return BYTES.getThreadAllocatedBytes(Thread.currentThread().getId());
    }

    private static Downhill full() {
        Downhill hill = Check.ruled("cbxy>bcxcxcxcxx", "cax>x", "bbbbbbbx>bbbbbbx", "cxx>x", "bebx>ebeebebeebx");
        for (int slot = 0; slot < 6; slot++) {
            Check.keep(hill, slot, "cbbbbacabbba");
        }
        hill.number(0, 2);
        for (int span = 2; span <= 20; span++) {
            hill.power(0, 0);
        }
        hill.make(1, 0, 0, 0);
        hill.fall(1, 3);
        return hill;
    }

    public static void main(String[] args) {
        small("term", hill -> hill.term(0));
        small("tell", hill -> hill.tell(1));
        small("pair", hill -> hill.pair(0));
        small("ring", hill -> hill.ring(0));
        small("ends", hill -> hill.ends(0));
        small("row", Downhill::row);
        small("stuck", Downhill::stuck);
        small("differ", hill -> hill.differ(0, 1, 3));
        small("longest", hill -> hill.longest(0));
        small("reduct", hill -> hill.reduct(0, 2));
        small("loop", hill -> hill.loop(2));
        small("game", hill -> hill.game(1, 3, 3));
        small("isSound", Downhill::isSound);
        small("digest", Downhill::digest);
        small("say", hill -> hill.say(8, 0, 8, 1, -1, -1));
        small("put", hill -> hill.put(0, 5, 1, 2));
        small("make", hill -> hill.make(2, 2, 1, 3));
        kept = new Downhill();
        long before = bytes();
        for (int i = 0; i < 10; i++) {
            kept = new Downhill();
        }
        long bytes = (bytes() - before) / 10;
        CHECK.is("a new object makes " + bytes + " bytes", bytes <= ROOM / 40, true);
        CHECK.end("room");
    }
}
