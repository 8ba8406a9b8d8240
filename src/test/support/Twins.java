import java.util.function.Consumer;
import java.util.function.Predicate;
import java.util.function.ToIntFunction;

/**
 * Two seas that are told the same, but for calls that are due to be refused: one sea alone gets those.
 * As long as both answer alike, the refused calls changed nothing, nor anything that shows only later.
 */
final class Twins {
    private static final int MOST_LOTS = 4;
    private final Check check;
    private final String name;
    private final HerringSea asked = new HerringSea();
    private final HerringSea spared = new HerringSea();

    Twins(Check check, String name) {
        this.check = check;
        this.name = name;
    }

    Twins both(Consumer<HerringSea> calls) {
        calls.accept(asked);
        calls.accept(spared);
        return this;
    }

    Twins isFalse(String call, Predicate<HerringSea> refused) {
        check.due(name + ": " + call, refused.test(asked), false);
        return this;
    }

    Twins isNone(String call, ToIntFunction<HerringSea> refused) {
        check.due(name + ": " + call, refused.applyAsInt(asked), -1);
        return this;
    }

    Twins is(String call, int want, ToIntFunction<HerringSea> harmless) {
        check.due(name + ": " + call, harmless.applyAsInt(asked), want);
        return this;
    }

    /** Both answer every question alike; of many lots the last ones, to stay below 512 calls. */
    Twins alike() {
        for (int what = 0; what <= 11; what++) {
            same("count " + what, asked.count(what), spared.count(what));
        }
        for (int cell = 0; cell < 36; cell++) {
            same("cell " + cell, asked.cell(cell, 0), spared.cell(cell, 0));
            same("open " + cell, asked.cell(cell, 1), spared.cell(cell, 1));
        }
        int boats = spared.count(1);
        for (int boat = 0; boat < boats; boat++) {
            for (int what = 0; what < 8; what++) {
                same("told " + boat + " " + what, asked.told(boat, what), spared.told(boat, what));
                same("coins " + boat + " " + what, asked.coins(boat, what), spared.coins(boat, what));
            }
        }
        int lots = spared.count(3);
        for (int lot = Math.max(0, lots - MOST_LOTS); lot < lots; lot++) {
            for (int what = 0; what <= 10; what++) {
                same("lot " + lot + " " + what, asked.lot(lot, what), spared.lot(lot, what));
            }
            same("branded " + lot, asked.branded(lot), spared.branded(lot));
        }
        same("fault", asked.fault(), spared.fault());
        return this;
    }

    private void same(String call, int got, int want) {
        check.due(name + ": behind a refused call " + call, got, want);
    }
}
