import java.util.function.Consumer;
import java.util.function.Supplier;

/** Offices for the tests, and the texts that are fed to them and read from them. */
final class Offices {
    private Offices() {
    }

    static LampLeaseOffice with(int ships, int... levels) {
        LampLeaseOffice office = new LampLeaseOffice();
        for (int ship = 0; ship < ships; ship++) {
            office.addShip();
        }
        for (int level : levels) {
            office.addLamp(level);
        }
        return office;
    }

    static LampLeaseOffice withOil(int oil, int ships, int... levels) {
        LampLeaseOffice office = with(ships, levels);
        for (int left = oil; left > 0; left -= 200) {
            office.addOil(Math.min(left, 200));
        }
        return office;
    }

    /**
     * Three ships, four lamps of which three are leased, two requests, a refused renewal, fines, an
     * output, an error position, a failed command and a saved state; the input buffer is empty.
     */
    static LampLeaseOffice idle() {
        LampLeaseOffice office = withOil(9, 3, 3, 1, 2, 1);
        office.lease(0, 0, 5);
        office.lease(1, 1, 24);
        office.lease(2, 2, 24);
        office.requestRenewal(2, 24);
        office.passHours(1);
        office.requestRenewal(2, 3);
        office.passHours(1);
        office.save();
        office.addOil(7);
        office.requestRenewal(2, 1);
        office.requestRenewal(0, 4);
        output(office);
        run(office, "ship;lamq 1");
        run(office, "oil 1;drop 3");
        run(office, "oil 2");
        return office;
    }

    /** As idle(), with an unfinished text in the input buffer. */
    static LampLeaseOffice busy() {
        LampLeaseOffice office = idle();
        feed(office, "oil 5;drop");
        return office;
    }

    /** Makes the office of busy() and goes on with it. */
    static Supplier<LampLeaseOffice> busyAnd(Consumer<LampLeaseOffice> more) {
        return () -> {
            LampLeaseOffice office = busy();
            more.accept(office);
            return office;
        };
    }

    static void feed(LampLeaseOffice office, String text) {
        for (char sign : text.toCharArray()) {
            office.feed(sign);
        }
    }

    static Object run(LampLeaseOffice office, String text) {
        feed(office, text);
        return Check.outcome(office::runCommands);
    }

    static String output(LampLeaseOffice office) {
        office.writeLamps();
        return writtenOutput(office);
    }

    /** The output as it stands, without writing it anew. */
    static String writtenOutput(LampLeaseOffice office) {
        StringBuilder signs = new StringBuilder();
        Object sign = Check.outcome(() -> office.outputChar(0));
        while (sign instanceof Character) {
            signs.append(sign);
            sign = Check.outcome(() -> office.outputChar(signs.length()));
        }
        return signs.toString();
    }
}
