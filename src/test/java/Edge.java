import java.util.function.Consumer;
import java.util.function.Supplier;

/**
 * What the tests of boundary cases share. Each line names its promise; no net is asked more than the
 * 512 times for which the document says what it answers.
 */
final class Edge {
    private Edge() {
    }

    static void is(int promise, String what, long got, long due) {
        Check.is("promise " + promise + ": " + what, got, due);
    }

    static void is(int promise, String what, boolean got, boolean due) {
        Check.is("promise " + promise + ": " + what, got, due);
    }

    static void is(int promise, String what, String got, String due) {
        Check.is("promise " + promise + ": " + what, got, due);
    }

    /**
     * Numbers out of a range: those beside it, those that a shift or a narrower type would wrap into
     * it, and the farthest.
     */
    static int[] beyond(int least, int most) {
        return new int[] {least - 1, most + 1, least - 32, most + 32, least + 256, most - 256,
            least + 65536, most - 65536, Integer.MIN_VALUE, Integer.MAX_VALUE};
    }

    /**
     * Makes two nets alike and lets one refuse a call: it must throw exactly this kind, by itself,
     * and answer all that comes behind it as the other one does, which was not called.
     */
    static void refused(int promise, String what, Class<?> kind, Supplier<BulletinNet> maker,
            Consumer<BulletinNet> call) {
        BulletinNet called = maker.get();
        String got = "nothing";
        try {
            call.accept(called);
        } catch (RuntimeException e) {
            got = Check.thrown(e);
        }
        is(promise, what + " throws", got, kind.getName());
        is(promise, "the answers behind " + what, Probe.of(called), Probe.of(maker.get()));
    }
}
