import java.util.List;

/** Calls that have to be refused, or that ask alone: the bureau behind them is as one on which they were not made. */
final class Refusal {
    interface Asking {
        void ask(EchoBureau bureau);
    }

    interface AskingOf {
        void ask(EchoBureau bureau, int number);
    }

    interface AskingOfTwo {
        void ask(EchoBureau bureau, int hall, int surface);
    }

    private static final int[] NEVER = {Integer.MIN_VALUE, -65536, -256, -1, 256, 65536, Integer.MAX_VALUE};

    private Refusal() {
    }

    /** The call throws just this exception, and no later call shows that it was made. */
    static void due(String call, Class<? extends RuntimeException> due, Bureaus.Making making, Asking asking) {
        unchanged(call, making, b -> Check.thrown(call, due, () -> asking.ask(b)));
    }

    /** No later call shows that the call was made. Two bureaus, as one is used for a limited number of calls. */
    static void unchanged(String call, Bureaus.Making making, Asking asking) {
        EchoBureau asked = making.make();
        asking.ask(asked);
        same(call, Later.asked(asked), Later.asked(making.make()));
        EchoBureau changed = making.make();
        asking.ask(changed);
        same(call, Later.changed(changed), Later.changed(making.make()));
    }

    private static void same(String call, List<String> got, List<String> due) {
        Check.equal("later calls behind " + call, got.size(), due.size());
        for (int i = 0; i < got.size() && i < due.size(); i++) {
            if (!got.get(i).equals(due.get(i))) {
                Check.report("behind " + call + " there is " + got.get(i) + ", due is " + due.get(i));
                return;
            }
        }
    }

    static void argument(String call, Bureaus.Making making, Asking asking) {
        due(call, Check.ARGUMENT, making, asking);
    }

    /** An argument next to its range on both sides, and far out. */
    static void outside(String call, int least, int greatest, Bureaus.Making making, AskingOf asking) {
        int[] outside = {least - 1, greatest + 1, Integer.MIN_VALUE, Integer.MAX_VALUE};
        for (int number : outside) {
            due(call + " of " + number, Check.ARGUMENT, making, b -> asking.ask(b, number));
        }
    }

    /** Halls that are not there, in a bureau without halls, in one with some and in a full one. */
    static void noSuchHall(String call, AskingOf asking) {
        noSuch(call + " of the hall ", Bureaus::empty, new int[] {0, 1, 7, 8}, asking);
        noSuch(call + " of the hall ", Bureaus::some, new int[] {3, 4, 7, 8}, asking);
        noSuch(call + " of the hall ", Bureaus::full, new int[] {8, 9}, asking);
    }

    /** Standards that are not there, in a bureau without standards, in one with some and in a full one. */
    static void noSuchStandard(String call, AskingOf asking) {
        noSuch(call + " of the standard ", Refusal::withoutStandards, new int[] {0, 1, 4, 5}, asking);
        noSuch(call + " of the standard ", Bureaus::some, new int[] {2, 3, 4, 5}, asking);
        noSuch(call + " of the standard ", Bureaus::full, new int[] {5, 6, 7}, asking);
    }

    /** Surfaces that are not there: of a hall without any, with some, and with all that can be. */
    static void noSuchSurface(String call, AskingOfTwo asking) {
        String of = call + " of the surface ";
        noSuch(of, Bureaus::some, new int[] {2, 3, 5, 6}, (b, number) -> asking.ask(b, 0, number));
        noSuch(of, Bureaus::some, new int[] {0, 1, 5, 6}, (b, number) -> asking.ask(b, 1, number));
        noSuch(of, Bureaus::some, new int[] {6, 7}, (b, number) -> asking.ask(b, 2, number));
        noSuch(of, Bureaus::full, new int[] {6, 7}, (b, number) -> asking.ask(b, 7, number));
    }

    private static EchoBureau withoutStandards() {
        return Bureaus.ofOneSurface(10, 20, 30);
    }

    private static void noSuch(String call, Bureaus.Making making, int[] behind, AskingOf asking) {
        for (int number : behind) {
            due(call + number, Check.INDEX, making, b -> asking.ask(b, number));
        }
        for (int number : NEVER) {
            due(call + number, Check.INDEX, making, b -> asking.ask(b, number));
        }
    }
}
