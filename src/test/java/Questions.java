import java.util.List;
import java.util.function.BiFunction;
import java.util.function.Function;

/** The methods of the face that only answer, by what they ask for. */
final class Questions {
    record Plain(String name, Function<LampLeaseOffice, Object> ask) {
    }

    record At(String name, BiFunction<LampLeaseOffice, Integer, Object> ask) {
    }

    static final List<Plain> OF_OFFICE = List.of(
            new Plain("hour", LampLeaseOffice::hour),
            new Plain("shipCount", LampLeaseOffice::shipCount),
            new Plain("lampCount", LampLeaseOffice::lampCount),
            new Plain("leasedLamps", LampLeaseOffice::leasedLamps),
            new Plain("oil", LampLeaseOffice::oil),
            new Plain("consumption", LampLeaseOffice::consumption),
            new Plain("hoursOfOil", LampLeaseOffice::hoursOfOil),
            new Plain("hoursOfOilByEnds", LampLeaseOffice::hoursOfOilByEnds),
            new Plain("brightNext", LampLeaseOffice::brightNext),
            new Plain("mostBright", LampLeaseOffice::mostBright),
            new Plain("mostBrightBySums", LampLeaseOffice::mostBrightBySums),
            new Plain("requestCount", LampLeaseOffice::requestCount),
            new Plain("refusedRenewals", LampLeaseOffice::refusedRenewals),
            new Plain("officeCoins", LampLeaseOffice::officeCoins),
            new Plain("meanCoins", LampLeaseOffice::meanCoins),
            new Plain("leasedShare", LampLeaseOffice::leasedShare),
            new Plain("isConsistent", LampLeaseOffice::isConsistent),
            new Plain("undoCount", LampLeaseOffice::undoCount));

    static final List<Plain> OF_TEXTS = List.of(
            new Plain("errorPosition", LampLeaseOffice::errorPosition),
            new Plain("failedCommand", LampLeaseOffice::failedCommand),
            new Plain("failureReason", LampLeaseOffice::failureReason),
            new Plain("output", Offices::writtenOutput));

    static final List<At> OF_SHIPS = List.of(
            new At("coins", LampLeaseOffice::coins),
            new At("finesPaid", LampLeaseOffice::finesPaid),
            new At("darkHours", LampLeaseOffice::darkHours),
            new At("demand", LampLeaseOffice::demand),
            new At("leasesOf", LampLeaseOffice::leasesOf),
            new At("share", LampLeaseOffice::share),
            new At("shareByRank", LampLeaseOffice::shareByRank));

    static final List<At> OF_LAMPS = List.of(
            new At("level", LampLeaseOffice::level),
            new At("isLeased", LampLeaseOffice::isLeased),
            new At("brightHours", LampLeaseOffice::brightHours),
            new At("wasBright", LampLeaseOffice::wasBright));

    static final List<At> OF_LEASES = List.of(
            new At("lessee", LampLeaseOffice::lessee),
            new At("endHour", LampLeaseOffice::endHour));

    static final List<At> OF_REQUESTS = List.of(
            new At("requestedLamp", LampLeaseOffice::requestedLamp),
            new At("requestedHours", LampLeaseOffice::requestedHours));

    static final At SHIP_BY_FINES = new At("shipByFines", LampLeaseOffice::shipByFines);
    static final At LAMP_BY_END = new At("lampByEnd", LampLeaseOffice::lampByEnd);

    private Questions() {
    }

    /** Everything that undo, save and restore concern, as far as the face tells it. */
    static String state(LampLeaseOffice office) {
        StringBuilder answers = new StringBuilder();
        tell(answers, office, OF_OFFICE);
        for (int ship = 0; ship < office.shipCount(); ship++) {
            tell(answers, office, ship, OF_SHIPS);
            tell(answers, office, ship, List.of(SHIP_BY_FINES));
        }
        for (int lamp = 0; lamp < office.lampCount(); lamp++) {
            tell(answers, office, lamp, OF_LAMPS);
            tell(answers, office, lamp, OF_LEASES);
            tell(answers, office, lamp, List.of(LAMP_BY_END));
        }
        for (int position = 0; position < office.requestCount(); position++) {
            tell(answers, office, position, OF_REQUESTS);
        }
        return answers.toString();
    }

    /** What neither is undone nor restored, but for the input buffer, which no method shows. */
    static String texts(LampLeaseOffice office) {
        StringBuilder answers = new StringBuilder();
        tell(answers, office, OF_TEXTS);
        return answers.toString();
    }

    private static void tell(StringBuilder answers, LampLeaseOffice office, List<Plain> questions) {
        for (Plain question : questions) {
            answers.append(question.name).append(' ');
            answers.append(Check.outcome(() -> question.ask.apply(office))).append("; ");
        }
    }

    private static void tell(StringBuilder answers, LampLeaseOffice office, int index,
            List<At> questions) {
        for (At question : questions) {
            answers.append(question.name).append('(').append(index).append(") ");
            answers.append(Check.outcome(() -> question.ask.apply(office, index))).append("; ");
        }
    }
}
