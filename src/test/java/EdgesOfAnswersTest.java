import java.util.Arrays;
import java.util.function.Supplier;

/**
 * Promises 9 to 20, 33 to 42, 48 and 49 at their edges: for each sentence of the document that
 * names an edge, a test of its own.
 */
final class EdgesOfAnswersTest {
    private static final int[] FAR = {-1, Integer.MIN_VALUE, Integer.MAX_VALUE};

    public static void main(String[] args) throws ReflectiveOperationException {
        Check.runAll(EdgesOfAnswersTest.class);
    }

    private static void refuseAt(Questions.At question, String exception, int index,
            Supplier<LampLeaseOffice> made) {
        Refusal.of(question.name() + " " + index, exception, made,
                office -> question.ask().apply(office, index));
    }

    private static void refuseOutside(Questions.At question, String exception, int count,
            Supplier<LampLeaseOffice> made) {
        refuseAt(question, exception, count, made);
        for (int index : FAR) {
            refuseAt(question, exception, index, made);
        }
    }

    private static void answersInside(Questions.At question, int count, LampLeaseOffice office) {
        for (int index = 0; index < count; index++) {
            int inside = index;
            Object answer = Check.outcome(() -> question.ask().apply(office, inside));
            Check.same(question.name() + " " + index + " answers " + answer, false,
                    answer instanceof String);
        }
    }

    // ---- promises 9, 10 and 16 ----

    static void aNewOfficeIsAtHour0() {
        Check.same("9 hour", 0, new LampLeaseOffice().hour());
    }

    static void shipsAreFrom0To6() {
        for (int ships = 0; ships <= 6; ships++) {
            Check.same("10 ships", ships, Offices.with(ships, 1, 1, 1).shipCount());
        }
    }

    static void lampsAreFrom0To8() {
        int[] levels = {1, 2, 3, 1, 2, 3, 1, 2};
        for (int lamps = 0; lamps <= 8; lamps++) {
            Check.same("16 lamps", lamps, Offices.with(2, Arrays.copyOf(levels, lamps)).lampCount());
        }
    }

    // ---- "if there is no such ship" ----

    static void aQuestionForNoShipIsRefused() {
        for (Questions.At question : Questions.OF_SHIPS) {
            refuseOutside(question, Due.INDEX, 3, Offices::busy);
        }
    }

    static void withoutShipsEveryQuestionForAShipIsRefused() {
        for (Questions.At question : Questions.OF_SHIPS) {
            refuseOutside(question, Due.INDEX, 0, () -> Offices.withOil(3, 0, 1, 2));
        }
    }

    static void aQuestionForTheShipBehindTheSixthIsRefused() {
        for (Questions.At question : Questions.OF_SHIPS) {
            refuseOutside(question, Due.INDEX, 6, () -> Offices.withOil(3, 6, 1, 2));
            answersInside(question, 6, Offices.withOil(3, 6, 1, 2));
        }
    }

    static void aQuestionForAShipThatIsUndoneIsRefused() {
        for (Questions.At question : Questions.OF_SHIPS) {
            refuseAt(question, Due.INDEX, 3, Offices.busyAnd(office -> {
                office.addShip();
                office.undo();
            }));
        }
    }

    // ---- "if there is no such lamp" ----

    static void aQuestionForNoLampIsRefused() {
        for (Questions.At question : Questions.OF_LAMPS) {
            refuseOutside(question, Due.INDEX, 4, Offices::busy);
        }
        for (Questions.At question : Questions.OF_LEASES) {
            refuseOutside(question, Due.INDEX, 4, Offices::busy);
        }
    }

    static void withoutLampsEveryQuestionForALampIsRefused() {
        for (Questions.At question : Questions.OF_LAMPS) {
            refuseOutside(question, Due.INDEX, 0, () -> Offices.with(6));
        }
        for (Questions.At question : Questions.OF_LEASES) {
            refuseOutside(question, Due.INDEX, 0, () -> Offices.with(6));
        }
    }

    static void aQuestionForTheLampBehindTheEighthIsRefused() {
        Supplier<LampLeaseOffice> made = () -> {
            LampLeaseOffice office = Offices.with(1, 1, 1, 1, 1, 1, 1, 1, 1);
            for (int lamp = 0; lamp < 8; lamp++) {
                office.lease(0, lamp, 2);
            }
            return office;
        };
        for (Questions.At question : Questions.OF_LAMPS) {
            refuseOutside(question, Due.INDEX, 8, made);
            answersInside(question, 8, made.get());
        }
        for (Questions.At question : Questions.OF_LEASES) {
            refuseOutside(question, Due.INDEX, 8, made);
            answersInside(question, 8, made.get());
        }
    }

    static void aQuestionForALampThatIsUndoneIsRefused() {
        for (Questions.At question : Questions.OF_LAMPS) {
            refuseAt(question, Due.INDEX, 4, Offices.busyAnd(office -> {
                office.addLamp(2);
                office.undo();
            }));
        }
    }

    // ---- promises 19 and 20: "if the lamp is not leased" ----

    static void aQuestionForALeaseOfALampThatIsNotLeasedIsRefused() {
        for (Questions.At question : Questions.OF_LEASES) {
            refuseAt(question, Due.MISSING, 3, Offices::busy);
        }
    }

    static void aQuestionForALeaseThatHasEndedIsRefused() {
        for (Questions.At question : Questions.OF_LEASES) {
            refuseAt(question, Due.MISSING, 1, Offices.busyAnd(office -> office.passHours(48)));
        }
    }

    static void aQuestionForALeaseThatIsGivenUpIsRefused() {
        for (Questions.At question : Questions.OF_LEASES) {
            refuseAt(question, Due.MISSING, 1, Offices.busyAnd(office -> office.giveUp(1)));
        }
    }

    // ---- promises 14 and 15 ----

    static void oneShipCanLeaseAllLamps() {
        LampLeaseOffice office = Offices.with(2, 3, 3, 3, 3, 3, 3, 3, 3);
        for (int lamp = 0; lamp < 8; lamp++) {
            office.lease(1, lamp, 1);
        }
        Check.same("14 demand", 24, office.demand(1));
        Check.same("15 leases", 8, office.leasesOf(1));
        Check.same("14 demand of the other", 0, office.demand(0));
        Check.same("15 leases of the other", 0, office.leasesOf(0));
    }

    // ---- promises 33 to 35: "if there is no such position" ----

    static void aQuestionForNoPositionIsRefused() {
        for (Questions.At question : Questions.OF_REQUESTS) {
            refuseOutside(question, Due.MISSING, 2, Offices::busy);
            answersInside(question, 2, Offices.busy());
        }
    }

    static void inAnEmptyQueueIsNoPosition() {
        for (Questions.At question : Questions.OF_REQUESTS) {
            refuseOutside(question, Due.MISSING, 0, LampLeaseOffice::new);
            refuseAt(question, Due.MISSING, 0, Offices.busyAnd(office -> office.passHours(1)));
        }
    }

    static void behindAFullQueueIsNoPosition() {
        Supplier<LampLeaseOffice> made = () -> {
            LampLeaseOffice office = Offices.with(1, 1, 1, 1, 1, 1, 1, 1, 1);
            for (int lamp = 0; lamp < 8; lamp++) {
                office.lease(0, lamp, 2);
                office.requestRenewal(lamp, 1);
            }
            return office;
        };
        for (Questions.At question : Questions.OF_REQUESTS) {
            refuseOutside(question, Due.MISSING, 8, made);
            answersInside(question, 8, made.get());
        }
    }

    static void thePositionOfARemovedRequestIsRefused() {
        for (Questions.At question : Questions.OF_REQUESTS) {
            refuseAt(question, Due.MISSING, 1, Offices.busyAnd(office -> office.giveUp(2)));
        }
    }

    // ---- promise 38 ----

    static void aRankBehindTheShipsIsRefused() {
        refuseOutside(Questions.SHIP_BY_FINES, Due.MISSING, 3, Offices::busy);
        refuseOutside(Questions.SHIP_BY_FINES, Due.MISSING, 6, () -> Offices.with(6));
        answersInside(Questions.SHIP_BY_FINES, 6, Offices.with(6));
    }

    static void withoutShipsThereIsNoRankOfFines() {
        refuseOutside(Questions.SHIP_BY_FINES, Due.MISSING, 0, () -> Offices.with(0, 1));
    }

    static void ofShipsWithEqualFinesTheOneWithFewerCoinsComesFirst() {
        LampLeaseOffice office = Offices.withOil(500, 3, 1, 1);
        office.lease(2, 0, 2);
        office.lease(1, 1, 1);
        Check.same("38 fewest coins", 2, office.shipByFines(0));
        Check.same("38 fewer coins", 1, office.shipByFines(1));
        Check.same("38 most coins", 0, office.shipByFines(2));
    }

    static void ofShipsWithEqualFinesAndCoinsTheLowerIndexComesFirst() {
        LampLeaseOffice office = Offices.with(6, 1, 1);
        for (int rank = 0; rank < 6; rank++) {
            Check.same("38 all equal", rank, office.shipByFines(rank));
        }
        office.lease(4, 0, 3);
        office.lease(2, 1, 3);
        office.passHours(1);
        int[] due = {2, 4, 0, 1, 3, 5};
        for (int rank = 0; rank < 6; rank++) {
            Check.same("38 two and four are fined", due[rank], office.shipByFines(rank));
        }
    }

    static void moreFinesComeBeforeFewerCoins() {
        LampLeaseOffice office = Offices.with(2, 1, 3);
        office.lease(1, 0, 1);
        office.passHours(1);
        office.lease(0, 1, 24);
        Check.same("38 fined, with more coins", 1, office.shipByFines(0));
        Check.same("38 with fewer coins", 0, office.shipByFines(1));
    }

    // ---- promise 39 ----

    static void aRankBehindTheLeasedLampsIsRefused() {
        refuseOutside(Questions.LAMP_BY_END, Due.MISSING, 3, Offices::busy);
        answersInside(Questions.LAMP_BY_END, 3, Offices.busy());
    }

    static void withoutLeasesThereIsNoRankOfEnds() {
        refuseOutside(Questions.LAMP_BY_END, Due.MISSING, 0, () -> Offices.with(1, 1, 2));
        refuseAt(Questions.LAMP_BY_END, Due.MISSING, 0, Offices.busyAnd(office -> office.passHours(48)));
    }

    static void allEightLampsHaveARank() {
        LampLeaseOffice office = Offices.with(1, 1, 1, 1, 1, 1, 1, 1, 1);
        for (int lamp = 0; lamp < 8; lamp++) {
            office.lease(0, lamp, 8 - lamp);
        }
        for (int rank = 0; rank < 8; rank++) {
            Check.same("39 rank " + rank, 7 - rank, office.lampByEnd(rank));
        }
        Check.due("39 rank 8", Due.MISSING, () -> office.lampByEnd(8));
    }

    static void ofLampsWithEqualEndsTheHigherLevelComesFirst() {
        LampLeaseOffice office = Offices.with(1, 1, 3, 2);
        for (int lamp = 0; lamp < 3; lamp++) {
            office.lease(0, lamp, 4);
        }
        Check.same("39 highest", 1, office.lampByEnd(0));
        Check.same("39 middle", 2, office.lampByEnd(1));
        Check.same("39 lowest", 0, office.lampByEnd(2));
    }

    static void ofLampsWithEqualEndsAndLevelsTheLowerIndexComesFirst() {
        LampLeaseOffice office = Offices.with(1, 2, 2, 2, 2);
        for (int lamp = 3; lamp >= 0; lamp--) {
            office.lease(0, lamp, 4);
        }
        for (int rank = 0; rank < 4; rank++) {
            Check.same("39 all equal", rank, office.lampByEnd(rank));
        }
    }

    static void anEarlierEndComesBeforeAHigherLevel() {
        LampLeaseOffice office = Offices.with(1, 3, 1);
        office.lease(0, 0, 5);
        office.lease(0, 1, 4);
        Check.same("39 earlier", 1, office.lampByEnd(0));
        Check.same("39 later", 0, office.lampByEnd(1));
    }

    // ---- promises 40 and 41 ----

    static void withoutShipsThereIsNoMean() {
        Refusal.of("40 no ships", Due.ARITHMETIC, () -> Offices.withOil(3, 0, 1),
                LampLeaseOffice::meanCoins);
        Refusal.of("40 no ships again", Due.ARITHMETIC, () -> {
            LampLeaseOffice office = Offices.with(1);
            office.undo();
            return office;
        }, LampLeaseOffice::meanCoins);
    }

    static void theMeanOfOneShipIsItsCoins() {
        LampLeaseOffice office = Offices.with(1, 1);
        office.lease(0, 0, 24);
        Check.same("40 one ship", 76.0, office.meanCoins());
    }

    static void theMeanCanBeAFraction() {
        LampLeaseOffice office = Offices.with(6, 1);
        office.lease(3, 0, 1);
        Check.same("40 six ships", 599.0 / 6.0, office.meanCoins());
    }

    static void theMeanCanBe0() {
        LampLeaseOffice office = Offices.with(1, 3, 2);
        office.lease(0, 0, 24);
        office.lease(0, 1, 14);
        Check.same("40 no coins", 0.0, office.meanCoins());
    }

    static void withoutLampsThereIsNoLeasedShare() {
        Refusal.of("41 no lamps", Due.ARITHMETIC, () -> Offices.withOil(3, 2),
                LampLeaseOffice::leasedShare);
    }

    static void theLeasedShareIsFrom0To1() {
        LampLeaseOffice office = Offices.with(1, 1, 1, 1, 1, 1, 1);
        for (int leased = 0; leased <= 6; leased++) {
            Check.same("41 " + leased + " of six", (float) leased / 6f, office.leasedShare());
            if (leased < 6) {
                office.lease(0, leased, 1);
            }
        }
    }

    // ---- promise 42 ----

    static void aNewOfficeIsConsistent() {
        Check.same("42 new", true, new LampLeaseOffice().isConsistent());
    }

    static void anOfficeWithoutDemandIsConsistent() {
        Check.same("42 no demand", true, Offices.withOil(500, 6, 1, 2, 3).isConsistent());
        Check.same("42 no ships", true, Offices.withOil(500, 0, 1, 2, 3).isConsistent());
        Check.same("42 no lamps", true, Offices.withOil(500, 6).isConsistent());
    }

    static void aFullOfficeIsConsistent() {
        LampLeaseOffice office = Offices.withOil(500, 6, 3, 3, 3, 3, 3, 3, 3, 3);
        for (int lamp = 0; lamp < 8; lamp++) {
            office.lease(lamp % 6, lamp, 4);
            office.requestRenewal(lamp, 24);
        }
        for (int hours = 0; hours < 30; hours++) {
            Check.same("42 hour " + hours, true, office.isConsistent());
            office.passHours(1);
        }
    }

    // ---- promises 48 and 49 ----

    static void theDescriptionOfNoLampsIsEmpty() {
        LampLeaseOffice office = Offices.with(2);
        Check.same("48 length", 0, office.writeLamps());
        Check.due("49 no character", Due.INDEX, () -> office.outputChar(0));
    }

    static void theExampleOfTheDocument() {
        LampLeaseOffice office = Offices.with(5, 3, 1, 2);
        office.lease(0, 0, 12);
        office.lease(4, 2, 5);
        office.requestRenewal(0, 1);
        Check.same("48 length", 15, office.writeLamps());
        Check.same("48 output", "3s0e12r 1 2s4e5", Offices.writtenOutput(office));
    }

    static void oneLampIsDescribedWithoutABlank() {
        Check.same("48 one lamp", "2", Offices.output(Offices.with(0, 2)));
    }

    static void theLastLampIsDescribedWithItsRequest() {
        LampLeaseOffice office = Offices.with(6, 1, 1, 1, 1, 1, 1, 1, 3);
        office.lease(5, 7, 2);
        office.requestRenewal(7, 9);
        Check.same("48 eight lamps", "1 1 1 1 1 1 1 3s5e2r", Offices.output(office));
        office.passHours(1);
        Check.same("48 renewed", "1 1 1 1 1 1 1 3s5e11", Offices.output(office));
        office.passHours(10);
        Check.same("48 ended", "1 1 1 1 1 1 1 3", Offices.output(office));
    }

    static void anEmptyDescriptionReplacesALongerOne() {
        LampLeaseOffice office = Offices.with(0, 2);
        office.writeLamps();
        office.undo();
        Check.same("48 length", 0, office.writeLamps());
        Check.same("48 output", "", Offices.writtenOutput(office));
    }

    static void theOutputStaysUntilItIsWrittenAnew() {
        LampLeaseOffice office = Offices.with(0, 2);
        office.writeLamps();
        office.addLamp(3);
        Check.same("49 as written", "2", Offices.writtenOutput(office));
        Check.same("48 length", 3, office.writeLamps());
        Check.same("49 written anew", "2 3", Offices.writtenOutput(office));
    }

    static void theOutputIsAtFirstEmpty() {
        Questions.At outputChar = new Questions.At("outputChar", LampLeaseOffice::outputChar);
        refuseOutside(outputChar, Due.INDEX, 0, () -> Offices.with(1, 1, 2));
    }

    static void aCharacterBehindTheOutputIsRefused() {
        Questions.At outputChar = new Questions.At("outputChar", LampLeaseOffice::outputChar);
        int length = Offices.writtenOutput(Offices.busy()).length();
        Check.same("49 there is an output", true, length > 0);
        refuseOutside(outputChar, Due.INDEX, length, Offices::busy);
        answersInside(outputChar, length, Offices.busy());
    }
}
