import java.util.function.Supplier;

/**
 * Promises 1 to 7 and the terms Ships, Lamps, Oil and Renewals at their edges: for each sentence
 * of the document that names an edge, a test of its own.
 */
final class EdgesOfChangesTest {
    public static void main(String[] args) throws ReflectiveOperationException {
        Check.runAll(EdgesOfChangesTest.class);
    }

    private static void fillWithShips(LampLeaseOffice office) {
        while (office.shipCount() < 6) {
            office.addShip();
        }
    }

    private static void fillWithLamps(LampLeaseOffice office) {
        while (office.lampCount() < 8) {
            office.addLamp(1);
        }
    }

    private static void fillWithOil(LampLeaseOffice office, int oil) {
        while (office.oil() < oil) {
            office.addOil(Math.min(oil - office.oil(), 200));
        }
    }

    // ---- promise 1 ----

    static void aNewOfficeHasNothing() {
        Check.same("1 state", "hour 0; shipCount 0; lampCount 0; leasedLamps 0; oil 0; "
                + "consumption 0; hoursOfOil NoSuchElementException; "
                + "hoursOfOilByEnds NoSuchElementException; brightNext 0; mostBright 0; "
                + "mostBrightBySums 0; requestCount 0; refusedRenewals 0; officeCoins 0; "
                + "meanCoins ArithmeticException; leasedShare ArithmeticException; "
                + "isConsistent true; undoCount 0; ", Questions.state(new LampLeaseOffice()));
    }

    static void aNewOfficeHasNoTexts() {
        LampLeaseOffice office = new LampLeaseOffice();
        Check.same("1 texts", "errorPosition NoSuchElementException; "
                + "failedCommand NoSuchElementException; failureReason NoSuchElementException; "
                + "output ; ", Questions.texts(office));
        Check.same("1 input buffer", 1, office.feed('x'));
    }

    static void twoOfficesShareNothing() {
        LampLeaseOffice other = new LampLeaseOffice();
        String before = Questions.state(other) + Questions.texts(other);
        Offices.busy();
        Check.same("1 other office", before, Questions.state(other) + Questions.texts(other));
        Check.same("1 other input buffer", 1, other.feed('x'));
    }

    // ---- promise 2 ----

    static void sixShipsExistAtMost() {
        LampLeaseOffice office = new LampLeaseOffice();
        for (int ship = 0; ship < 6; ship++) {
            Check.same("2 index", ship, office.addShip());
            Check.same("2 count", ship + 1, office.shipCount());
        }
    }

    static void aSeventhShipIsRefused() {
        Refusal.of("2 seventh ship", Due.STATE, Offices.busyAnd(EdgesOfChangesTest::fillWithShips),
                LampLeaseOffice::addShip);
    }

    static void aShipCanBeAddedAgainAfterTheSixthIsUndone() {
        LampLeaseOffice office = Offices.with(6);
        office.undo();
        Check.same("2 sixth ship again", 5, office.addShip());
        Check.due("2 seventh ship", Due.STATE, office::addShip);
    }

    static void aShipHasAtFirst100CoinsAndNoFines() {
        LampLeaseOffice office = Offices.busy();
        int ship = office.addShip();
        Check.same("2 coins", 100, office.coins(ship));
        Check.same("2 fines", 0, office.finesPaid(ship));
        Check.same("2 dark hours", 0, office.darkHours(ship));
    }

    static void aShipKeepsItsIndex() {
        LampLeaseOffice office = Offices.with(2, 1);
        office.lease(1, 0, 24);
        office.addShip();
        Check.same("2 the first ship", 100, office.coins(0));
        Check.same("2 the second ship", 76, office.coins(1));
        Check.same("2 the third ship", 100, office.coins(2));
    }

    // ---- promise 3 ----

    static void eightLampsExistAtMost() {
        LampLeaseOffice office = new LampLeaseOffice();
        for (int lamp = 0; lamp < 8; lamp++) {
            Check.same("3 index", lamp, office.addLamp(lamp % 3 + 1));
            Check.same("3 count", lamp + 1, office.lampCount());
        }
    }

    static void aNinthLampIsRefused() {
        for (int level = 1; level <= 3; level++) {
            int any = level;
            Refusal.of("3 ninth lamp", Due.STATE, Offices.busyAnd(EdgesOfChangesTest::fillWithLamps),
                    office -> office.addLamp(any));
        }
    }

    static void aLampCanBeAddedAgainAfterTheEighthIsUndone() {
        LampLeaseOffice office = Offices.with(0, 1, 1, 1, 1, 1, 1, 1, 1);
        office.undo();
        Check.same("3 eighth lamp again", 7, office.addLamp(3));
        Check.same("3 its level", 3, office.level(7));
        Check.due("3 ninth lamp", Due.STATE, () -> office.addLamp(1));
    }

    static void aLevelIsFrom1To3() {
        LampLeaseOffice office = Offices.with(0, 1, 2, 3);
        for (int lamp = 0; lamp < 3; lamp++) {
            Check.same("3 level", lamp + 1, office.level(lamp));
        }
    }

    static void aLevelTooSmallIsRefused() {
        for (int level : Due.below(1)) {
            Refusal.of("3 level " + level, Due.ARGUMENT, Offices::busy, office -> office.addLamp(level));
        }
    }

    static void aLevelTooLargeIsRefused() {
        for (int level : Due.above(3)) {
            Refusal.of("3 level " + level, Due.ARGUMENT, Offices::busy, office -> office.addLamp(level));
        }
    }

    static void aWrongLevelComesBeforeTooManyLamps() {
        for (int level : new int[] {0, 4}) {
            Refusal.of("3 level " + level, Due.ARGUMENT,
                    Offices.busyAnd(EdgesOfChangesTest::fillWithLamps),
                    office -> office.addLamp(level));
        }
    }

    static void aNewLampIsNotLeased() {
        LampLeaseOffice office = Offices.busy();
        int lamp = office.addLamp(2);
        Check.same("3 leased", false, office.isLeased(lamp));
        Check.due("3 lessee", Due.MISSING, () -> office.lessee(lamp));
        Check.same("3 bright hours", 0, office.brightHours(lamp));
        Check.same("3 bright", false, office.wasBright(lamp));
    }

    // ---- promise 4 ----

    static void oneUnitOfOilCanBeAdded() {
        Check.same("4 one unit", 1, new LampLeaseOffice().addOil(1));
    }

    static void twoHundredUnitsOfOilCanBeAdded() {
        Check.same("4 most units", 200, new LampLeaseOffice().addOil(200));
    }

    static void tooLittleOilIsRefused() {
        for (int units : Due.below(1)) {
            Refusal.of("4 units " + units, Due.ARGUMENT, Offices::busy, office -> office.addOil(units));
        }
    }

    static void tooMuchOilAtOnceIsRefused() {
        for (int units : Due.above(200)) {
            Refusal.of("4 units " + units, Due.ARGUMENT, Offices::busy, office -> office.addOil(units));
        }
    }

    static void thePoolHolds500Units() {
        LampLeaseOffice office = Offices.withOil(300, 0);
        Check.same("4 full", 500, office.addOil(200));
        Check.same("4 full pool", 500, office.oil());
        LampLeaseOffice other = Offices.withOil(499, 0);
        Check.same("4 full by one unit", 500, other.addOil(1));
    }

    static void aUnitOverTheBrimIsRefused() {
        Refusal.of("4 one too many", Due.STATE, Offices.busyAnd(office -> fillWithOil(office, 301)),
                office -> office.addOil(200));
        Refusal.of("4 two for one", Due.STATE, Offices.busyAnd(office -> fillWithOil(office, 499)),
                office -> office.addOil(2));
    }

    static void aFullPoolTakesNothing() {
        for (int units : new int[] {1, 200}) {
            Refusal.of("4 full", Due.STATE, Offices.busyAnd(office -> fillWithOil(office, 500)),
                    office -> office.addOil(units));
        }
    }

    static void aWrongAmountComesBeforeAFullPool() {
        for (int units : new int[] {0, 201, Integer.MAX_VALUE, Integer.MIN_VALUE}) {
            Refusal.of("4 units " + units, Due.ARGUMENT,
                    Offices.busyAnd(office -> fillWithOil(office, 500)), office -> office.addOil(units));
        }
    }

    // ---- promise 5 ----

    static void aLeaseLastsOneHourAtLeast() {
        LampLeaseOffice office = Offices.with(1, 3);
        Check.same("5 end", 1, office.lease(0, 0, 1));
        Check.same("5 price", 97, office.coins(0));
    }

    static void aLeaseLasts24HoursAtMost() {
        LampLeaseOffice office = Offices.with(1, 3);
        office.passHours(48);
        Check.same("5 end", 72, office.lease(0, 0, 24));
        Check.same("5 price", 28, office.coins(0));
    }

    static void aLeaseOfTooFewHoursIsRefused() {
        for (int hours : Due.below(1)) {
            Refusal.of("5 hours " + hours, Due.ARGUMENT, Offices::busy,
                    office -> office.lease(0, 3, hours));
        }
    }

    static void aLeaseOfTooManyHoursIsRefused() {
        for (int hours : Due.above(24)) {
            Refusal.of("5 hours " + hours, Due.ARGUMENT, Offices::busy,
                    office -> office.lease(0, 3, hours));
        }
    }

    static void theLastShipAndTheLastLampCanLease() {
        LampLeaseOffice office = Offices.with(6, 1, 1, 1, 1, 1, 1, 1, 1);
        Check.same("5 last of all", 2, office.lease(5, 7, 2));
        Check.same("5 lessee", 5, office.lessee(7));
    }

    static void aLeaseToNoShipIsRefused() {
        for (int ship : new int[] {-1, 3, 6, Integer.MIN_VALUE, Integer.MAX_VALUE}) {
            Refusal.of("5 ship " + ship, Due.INDEX, Offices::busy, office -> office.lease(ship, 3, 1));
        }
        for (int ship : new int[] {-1, 6}) {
            Refusal.of("5 ship " + ship + " of six", Due.INDEX,
                    Offices.busyAnd(EdgesOfChangesTest::fillWithShips),
                    office -> office.lease(ship, 3, 1));
        }
        Refusal.of("5 no ships", Due.INDEX, () -> Offices.with(0, 1), office -> office.lease(0, 0, 1));
    }

    static void aLeaseOfNoLampIsRefused() {
        for (int lamp : new int[] {-1, 4, 8, Integer.MIN_VALUE, Integer.MAX_VALUE}) {
            Refusal.of("5 lamp " + lamp, Due.INDEX, Offices::busy, office -> office.lease(0, lamp, 1));
        }
        for (int lamp : new int[] {-1, 8}) {
            Refusal.of("5 lamp " + lamp + " of eight", Due.INDEX,
                    Offices.busyAnd(EdgesOfChangesTest::fillWithLamps),
                    office -> office.lease(0, lamp, 1));
        }
        Refusal.of("5 no lamps", Due.INDEX, () -> Offices.with(1), office -> office.lease(0, 0, 1));
    }

    static void aLeaseOfALeasedLampIsRefused() {
        for (int ship = 0; ship < 3; ship++) {
            int any = ship;
            Refusal.of("5 leased, ship " + ship, Due.STATE, Offices::busy,
                    office -> office.lease(any, 1, 1));
        }
    }

    static void aLampWhoseLeaseHasEndedCanBeLeased() {
        LampLeaseOffice office = Offices.with(2, 1);
        office.lease(0, 0, 2);
        office.passHours(1);
        Check.due("5 in its last hour", Due.STATE, () -> office.lease(1, 0, 1));
        office.passHours(1);
        Check.same("5 after its end", 3, office.lease(1, 0, 1));
        Check.same("5 its new ship", 1, office.lessee(0));
    }

    static void aLampThatIsGivenUpCanBeLeased() {
        LampLeaseOffice office = Offices.with(2, 1);
        office.lease(0, 0, 20);
        office.giveUp(0);
        Check.same("5 given up", 5, office.lease(1, 0, 5));
        Check.same("5 its new ship", 1, office.lessee(0));
    }

    static void aShipCanPayItsLastCoins() {
        LampLeaseOffice office = Offices.with(1, 3, 2);
        office.lease(0, 0, 24);
        Check.same("5 exact", 14, office.lease(0, 1, 14));
        Check.same("5 coins", 0, office.coins(0));
        Check.same("5 the office", 100, office.officeCoins());
    }

    static void aLeaseThatCostsACoinTooManyIsRefused() {
        Supplier<LampLeaseOffice> made = () -> {
            LampLeaseOffice office = Offices.with(1, 3, 1, 3);
            office.lease(0, 0, 24);
            office.lease(0, 1, 2);
            return office;
        };
        Check.same("5 coins", 26, made.get().coins(0));
        Refusal.of("5 27 coins", Due.UNSUPPORTED, made, office -> office.lease(0, 2, 9));
    }

    static void aLeaseWithoutCoinsIsRefused() {
        Supplier<LampLeaseOffice> made = () -> {
            LampLeaseOffice office = Offices.with(1, 3, 2, 1);
            office.lease(0, 0, 24);
            office.lease(0, 1, 14);
            return office;
        };
        Check.same("5 coins", 0, made.get().coins(0));
        Refusal.of("5 no coins", Due.UNSUPPORTED, made, office -> office.lease(0, 2, 1));
    }

    static void ofALeaseTheFirstFaultIsThrown() {
        Supplier<LampLeaseOffice> made = () -> {
            LampLeaseOffice office = Offices.with(2, 3, 3);
            office.lease(0, 0, 24);
            return office;
        };
        Refusal.of("5 ship before hours", Due.INDEX, made, office -> office.lease(2, 1, 0));
        Refusal.of("5 lamp before hours", Due.INDEX, made, office -> office.lease(0, 2, 25));
        Refusal.of("5 ship before leased", Due.INDEX, made, office -> office.lease(-1, 0, 24));
        Refusal.of("5 hours before leased", Due.ARGUMENT, made, office -> office.lease(1, 0, 0));
        Refusal.of("5 hours before coins", Due.ARGUMENT, made, office -> office.lease(0, 1, 25));
        Refusal.of("5 leased before coins", Due.STATE, made, office -> office.lease(0, 0, 24));
    }

    // ---- promise 6 ----

    static void aRenewalIsOfOneHourAtLeast() {
        LampLeaseOffice office = Offices.busy();
        office.requestRenewal(1, 1);
        Check.same("6 hours", 1, office.requestedHours(2));
    }

    static void aRenewalIsOf24HoursAtMost() {
        LampLeaseOffice office = Offices.busy();
        office.requestRenewal(1, 24);
        Check.same("6 hours", 24, office.requestedHours(2));
    }

    static void aRenewalOfTooFewHoursIsRefused() {
        for (int hours : Due.below(1)) {
            Refusal.of("6 hours " + hours, Due.ARGUMENT, Offices::busy,
                    office -> office.requestRenewal(1, hours));
        }
    }

    static void aRenewalOfTooManyHoursIsRefused() {
        for (int hours : Due.above(24)) {
            Refusal.of("6 hours " + hours, Due.ARGUMENT, Offices::busy,
                    office -> office.requestRenewal(1, hours));
        }
    }

    static void aRenewalOfNoLampIsRefused() {
        for (int lamp : new int[] {-1, 4, 8, Integer.MIN_VALUE, Integer.MAX_VALUE}) {
            Refusal.of("6 lamp " + lamp, Due.INDEX, Offices::busy,
                    office -> office.requestRenewal(lamp, 1));
        }
        Refusal.of("6 no lamps", Due.INDEX, () -> Offices.with(1),
                office -> office.requestRenewal(0, 1));
        Refusal.of("6 lamp 8 of eight", Due.INDEX, Offices.busyAnd(EdgesOfChangesTest::fillWithLamps),
                office -> office.requestRenewal(8, 1));
    }

    static void aRenewalOfALampThatIsNotLeasedIsRefused() {
        Refusal.of("6 never leased", Due.MISSING, Offices::busy,
                office -> office.requestRenewal(3, 1));
        Refusal.of("6 ended", Due.MISSING, Offices.busyAnd(office -> office.passHours(48)),
                office -> office.requestRenewal(1, 1));
        Refusal.of("6 given up", Due.MISSING, Offices.busyAnd(office -> office.giveUp(0)),
                office -> office.requestRenewal(0, 1));
    }

    static void aSecondRequestForALampIsRefused() {
        Refusal.of("6 first of the queue", Due.STATE, Offices::busy,
                office -> office.requestRenewal(2, 1));
        Refusal.of("6 last of the queue", Due.STATE, Offices::busy,
                office -> office.requestRenewal(0, 24));
    }

    static void ofARequestTheFirstFaultIsThrown() {
        Refusal.of("6 lamp before hours", Due.INDEX, Offices::busy,
                office -> office.requestRenewal(4, 0));
        Refusal.of("6 hours before not leased", Due.ARGUMENT, Offices::busy,
                office -> office.requestRenewal(3, 25));
        Refusal.of("6 hours before requested", Due.ARGUMENT, Offices::busy,
                office -> office.requestRenewal(0, 0));
    }

    static void aRequestNeedsNoCoins() {
        LampLeaseOffice office = Offices.with(1, 3, 2);
        office.lease(0, 0, 24);
        office.lease(0, 1, 14);
        Check.same("6 no coins", 0, office.coins(0));
        Check.same("6 requested all the same", 0, office.requestRenewal(0, 24));
    }

    static void aRequestIsAddedAtTheEndOfTheQueue() {
        LampLeaseOffice office = Offices.busy();
        Check.same("6 position", 2, office.requestRenewal(1, 9));
        Check.same("6 lamp", 1, office.requestedLamp(2));
        Check.same("6 the first stays", 2, office.requestedLamp(0));
        Check.same("6 the second stays", 0, office.requestedLamp(1));
    }

    static void eightRequestsExistAtMost() {
        LampLeaseOffice office = Offices.with(1, 1, 1, 1, 1, 1, 1, 1, 1);
        for (int lamp = 0; lamp < 8; lamp++) {
            office.lease(0, lamp, 2);
        }
        for (int position = 0; position < 8; position++) {
            Check.same("6 position", position, office.requestRenewal(7 - position, position + 1));
        }
        Check.same("33 full queue", 8, office.requestCount());
        for (int position = 0; position < 8; position++) {
            Check.same("34 lamp", 7 - position, office.requestedLamp(position));
            Check.same("35 hours", position + 1, office.requestedHours(position));
            Check.due("6 one more", Due.STATE, () -> office.requestRenewal(0, 1));
        }
    }

    static void aNewRequestCanFollowAProcessedOne() {
        LampLeaseOffice office = Offices.with(1, 1);
        office.lease(0, 0, 2);
        office.requestRenewal(0, 1);
        office.passHours(1);
        Check.same("6 after the hour", 0, office.requestRenewal(0, 1));
    }

    // "A request is removed when the lease of its lamp ends or is given up."

    static void aRequestIsRemovedWhenItsLeaseEnds() {
        LampLeaseOffice office = Offices.with(1, 3, 3, 1);
        office.lease(0, 0, 24);
        office.lease(0, 1, 1);
        office.requestRenewal(1, 24);
        office.passHours(1);
        Check.same("6 ended", false, office.isLeased(1));
        Check.same("6 no request", 0, office.requestCount());
    }

    static void aRequestIsRemovedWhenItsLeaseIsGivenUp() {
        for (int given = 0; given < 3; given++) {
            LampLeaseOffice office = Offices.with(1, 1, 1, 1);
            for (int lamp = 0; lamp < 3; lamp++) {
                office.lease(0, lamp, 4);
                office.requestRenewal(lamp, lamp + 5);
            }
            office.giveUp(given);
            Check.same("7 one less", 2, office.requestCount());
            int first = given == 0 ? 1 : 0;
            int second = given == 2 ? 1 : 2;
            Check.same("7 first lamp", first, office.requestedLamp(0));
            Check.same("7 first hours", first + 5, office.requestedHours(0));
            Check.same("7 second lamp", second, office.requestedLamp(1));
            Check.same("7 second hours", second + 5, office.requestedHours(1));
            office.lease(0, given, 1);
            Check.same("6 requested anew, at the end", 2, office.requestRenewal(given, 1));
        }
    }

    static void theOnlyRequestIsRemovedWhenItsLeaseIsGivenUp() {
        LampLeaseOffice office = Offices.with(1, 1);
        office.lease(0, 0, 4);
        office.requestRenewal(0, 3);
        office.giveUp(0);
        Check.same("7 none", 0, office.requestCount());
        office.passHours(1);
        Check.same("7 nothing renewed", 96, office.coins(0));
        Check.same("7 nothing refused", 0, office.refusedRenewals());
    }

    // ---- promise 7 ----

    static void aLeaseGivenUpAtOnceWouldHaveLastedAllItsHours() {
        LampLeaseOffice office = Offices.with(1, 1);
        office.passHours(5);
        office.lease(0, 0, 24);
        Check.same("7 all hours", 24, office.giveUp(0));
    }

    static void aLeaseGivenUpInItsLastHourWouldHaveLastedOneHour() {
        LampLeaseOffice office = Offices.with(1, 1);
        office.lease(0, 0, 24);
        office.passHours(23);
        Check.same("7 one hour", 1, office.giveUp(0));
    }

    static void aRequestedRenewalDoesNotCountForTheHoursLeft() {
        LampLeaseOffice office = Offices.with(1, 1);
        office.lease(0, 0, 3);
        office.requestRenewal(0, 24);
        Check.same("7 without the renewal", 3, office.giveUp(0));
    }

    static void aRenewalThatIsPaidCountsForTheHoursLeft() {
        LampLeaseOffice office = Offices.with(1, 1);
        office.lease(0, 0, 3);
        office.requestRenewal(0, 24);
        office.passHours(1);
        Check.same("7 with the renewal", 26, office.giveUp(0));
    }

    static void nothingIsPaidBack() {
        LampLeaseOffice office = Offices.with(1, 3);
        office.lease(0, 0, 24);
        office.giveUp(0);
        Check.same("7 coins", 28, office.coins(0));
        Check.same("7 the office", 72, office.officeCoins());
    }

    static void givingUpNoLampIsRefused() {
        for (int lamp : new int[] {-1, 4, 8, Integer.MIN_VALUE, Integer.MAX_VALUE}) {
            Refusal.of("7 lamp " + lamp, Due.INDEX, Offices::busy, office -> office.giveUp(lamp));
        }
        Refusal.of("7 no lamps", Due.INDEX, () -> Offices.with(1), office -> office.giveUp(0));
        Refusal.of("7 lamp 8 of eight", Due.INDEX, Offices.busyAnd(EdgesOfChangesTest::fillWithLamps),
                office -> office.giveUp(8));
    }

    static void givingUpALampThatIsNotLeasedIsRefused() {
        Refusal.of("7 never leased", Due.MISSING, Offices::busy, office -> office.giveUp(3));
        Refusal.of("7 given up", Due.MISSING, Offices.busyAnd(office -> office.giveUp(1)),
                office -> office.giveUp(1));
        Refusal.of("7 ended", Due.MISSING, Offices.busyAnd(office -> office.passHours(48)),
                office -> office.giveUp(1));
    }
}
