/**
 * Promises 23 to 32 at their edges (how long the oil lasts, how many lamps can burn, the shares):
 * for each sentence of the document that names an edge, a test of its own.
 */
final class EdgesOfForecastsTest {
    public static void main(String[] args) throws ReflectiveOperationException {
        Check.runAll(EdgesOfForecastsTest.class);
    }

    private static void dueHours(String what, Object due, LampLeaseOffice office) {
        Check.due("26 " + what, due, office::hoursOfOil);
        Check.due("27 " + what, due, office::hoursOfOilByEnds);
    }

    private static void dueMost(String what, int due, LampLeaseOffice office) {
        Check.same("29 " + what, due, office.mostBright());
        Check.same("30 " + what, due, office.mostBrightBySums());
    }

    private static void dueShares(String what, LampLeaseOffice office, int... due) {
        int sum = 0;
        for (int ship = 0; ship < due.length; ship++) {
            Check.same("31 " + what + ", ship " + ship, due[ship], office.share(ship));
            Check.same("32 " + what + ", ship " + ship, due[ship], office.shareByRank(ship));
            sum += office.share(ship);
        }
        Check.same("42 " + what + ", the sum", office.consumption() > 0 ? office.oil() : 0, sum);
        Check.same("42 " + what, true, office.isConsistent());
    }

    /** Eight lamps of level 3, leased to six ships for so many hours, 16 at most. */
    private static LampLeaseOffice full(int oil, int hours) {
        LampLeaseOffice office = Offices.withOil(oil, 6, 3, 3, 3, 3, 3, 3, 3, 3);
        for (int lamp = 0; lamp < 8; lamp++) {
            office.lease(lamp % 6, lamp, hours);
        }
        return office;
    }

    /** As many ships as demands, each with leases of the levels that make up its demand. */
    private static LampLeaseOffice withDemands(int oil, int... demands) {
        LampLeaseOffice office = Offices.withOil(oil, demands.length);
        for (int ship = 0; ship < demands.length; ship++) {
            for (int left = demands[ship]; left > 0; left -= 3) {
                office.lease(ship, office.addLamp(Math.min(left, 3)), 4);
            }
            Check.same("14 demand", demands[ship], office.demand(ship));
        }
        return office;
    }

    // ---- promises 23 to 25 ----

    static void withoutLeasesNothingIsConsumed() {
        LampLeaseOffice office = Offices.withOil(500, 2, 3, 3);
        Check.same("23 leased lamps", 0, office.leasedLamps());
        Check.same("25 consumption", 0, office.consumption());
        office.passHours(48);
        Check.same("24 oil", 500, office.oil());
    }

    static void eightLampsOfLevel3ConsumeMost() {
        LampLeaseOffice office = full(0, 1);
        Check.same("23 leased lamps", 8, office.leasedLamps());
        Check.same("25 consumption if the pool had enough", 24, office.consumption());
        office.passHours(1);
        Check.same("23 after the ends", 0, office.leasedLamps());
        Check.same("25 after the ends", 0, office.consumption());
    }

    // ---- promises 26 and 27 ----

    static void withoutLeasesNoLampStaysDark() {
        dueHours("no lamps", Due.MISSING, new LampLeaseOffice());
        dueHours("no leases, no oil", Due.MISSING, Offices.with(1, 1));
        dueHours("no leases, oil", Due.MISSING, Offices.withOil(500, 1, 1));
        LampLeaseOffice ended = Offices.with(1, 1);
        ended.lease(0, 0, 1);
        ended.passHours(1);
        dueHours("an ended lease", Due.MISSING, ended);
        LampLeaseOffice given = Offices.with(1, 1);
        given.lease(0, 0, 9);
        given.giveUp(0);
        dueHours("a lease given up", Due.MISSING, given);
    }

    static void theRefusedForecastsChangeNothing() {
        Refusal.of("26 no lease", Due.MISSING, () -> Offices.withOil(5, 1, 1),
                LampLeaseOffice::hoursOfOil);
        Refusal.of("27 no lease", Due.MISSING, () -> Offices.withOil(5, 1, 1),
                LampLeaseOffice::hoursOfOilByEnds);
    }

    static void withoutOilALampStaysDarkAtOnce() {
        for (int level = 1; level <= 3; level++) {
            LampLeaseOffice office = Offices.with(1, level);
            office.lease(0, 0, 24);
            dueHours("no oil", 0, office);
        }
    }

    static void aUnitTooFewForTheFirstHourLastsNoHour() {
        dueHours("23 of 24 units", 0, full(23, 4));
        dueHours("24 of 24 units", 1, full(24, 4));
    }

    static void oneDarkLampEndsTheHoursThoughOthersAreBright() {
        LampLeaseOffice office = Offices.withOil(2, 1, 3, 1);
        office.lease(0, 0, 5);
        office.lease(0, 1, 5);
        dueHours("one dark lamp", 0, office);
        Check.same("28 the other one", 1, office.brightNext());
    }

    static void oilForAllHoursLastsForEver() {
        for (int hours : new int[] {1, 2, 24}) {
            LampLeaseOffice office = Offices.withOil(3 * hours, 1, 3);
            office.lease(0, 0, hours);
            dueHours("just enough", Due.MISSING, office);
        }
    }

    static void aUnitTooFewForTheLastHourLastsAllHoursButOne() {
        for (int hours : new int[] {1, 2, 24}) {
            LampLeaseOffice office = Offices.withOil(3 * hours - 1, 1, 3);
            office.lease(0, 0, hours);
            dueHours("a unit too few", hours - 1, office);
        }
    }

    static void aFullPoolCanBeTooLittle() {
        LampLeaseOffice office = Offices.withOil(500, 6, 3, 3, 3, 3, 3, 3, 3, 3);
        for (int lamp = 0; lamp < 6; lamp++) {
            office.lease(lamp, lamp, 24);
        }
        office.lease(0, 6, 9);
        office.lease(1, 7, 9);
        dueHours("486 units needed", Due.MISSING, office);
        for (int lamp = 2; lamp < 6; lamp++) {
            office.requestRenewal(lamp, 9);
        }
        office.passHours(1);
        office.addOil(24);
        Check.same("24 full", 500, office.oil());
        // Eight hours take 24 units each, 15 take 18, and three of the last nine take 12.
        dueHours("570 units needed", 26, office);
    }

    static void anEndMakesTheOilLastLonger() {
        // Two hours take 4 units each, then three take 1 each.
        for (int oil = 0; oil <= 12; oil++) {
            LampLeaseOffice office = Offices.withOil(oil, 1, 3, 1);
            office.lease(0, 0, 2);
            office.lease(0, 1, 5);
            Object due = oil >= 11 ? Due.MISSING : (Object) (oil < 8 ? oil / 4 : oil - 6);
            dueHours("with " + oil + " units", due, office);
        }
    }

    static void eightLeasesCanEndInEightHours() {
        LampLeaseOffice office = Offices.withOil(36, 6, 1, 1, 1, 1, 1, 1, 1, 1);
        for (int lamp = 0; lamp < 8; lamp++) {
            office.lease(0, lamp, lamp + 1);
        }
        // The hours take 8, 7, .. and 1 unit.
        dueHours("just enough", Due.MISSING, office);
        office.passHours(7);
        dueHours("the last hour", Due.MISSING, office);
        LampLeaseOffice less = Offices.withOil(35, 6, 1, 1, 1, 1, 1, 1, 1, 1);
        for (int lamp = 0; lamp < 8; lamp++) {
            less.lease(0, lamp, lamp + 1);
        }
        dueHours("a unit too few", 7, less);
    }

    static void theHoursCountFromNowOn() {
        LampLeaseOffice office = Offices.withOil(20, 1, 1);
        office.passHours(48);
        office.lease(0, 0, 24);
        dueHours("at first", 20, office);
        office.passHours(5);
        dueHours("later", 15, office);
        office.passHours(15);
        dueHours("no oil left", 0, office);
    }

    static void requestsDoNotCount() {
        LampLeaseOffice office = Offices.withOil(10, 1, 1);
        office.lease(0, 0, 10);
        office.requestRenewal(0, 24);
        dueHours("requested", Due.MISSING, office);
        office.passHours(1);
        dueHours("renewed", 9, office);
    }

    static void aRenewedLeaseCanOutlastADay() {
        LampLeaseOffice office = Offices.withOil(99, 1, 1);
        office.lease(0, 0, 24);
        for (int hours : new int[] {24, 24, 24, 4}) {
            office.requestRenewal(0, hours);
            office.passHours(1);
        }
        Check.same("20 end hour", 100, office.endHour(0));
        dueHours("95 of 96 units", 95, office);
        office.addOil(1);
        dueHours("96 units", Due.MISSING, office);
    }

    static void theForecastsChangeNothing() {
        LampLeaseOffice office = full(100, 7);
        String before = Questions.state(office);
        Check.same("26 to 32", before, Questions.state(office));
    }

    // ---- promise 28 ----

    static void withoutLeasesNoLampIsBright() {
        LampLeaseOffice office = Offices.withOil(500, 1, 1, 2, 3);
        Check.same("28 bright", 0, office.brightNext());
        dueMost("no lease", 0, office);
    }

    static void withoutOilNoLampIsBright() {
        LampLeaseOffice office = full(0, 1);
        Check.same("28 bright", 0, office.brightNext());
        dueMost("no oil", 0, office);
    }

    static void theNextBrightLampsAreThoseOfTheNextHour() {
        for (int oil = 0; oil <= 12; oil++) {
            LampLeaseOffice office = Offices.withOil(oil, 2, 3, 1, 2, 3, 2);
            for (int lamp = 0; lamp < 5; lamp++) {
                office.lease(lamp % 2, lamp, 1);
            }
            int next = office.brightNext();
            office.passHours(1);
            int bright = 0;
            for (int lamp = 0; lamp < 5; lamp++) {
                bright += office.brightHours(lamp);
            }
            Check.same("28 with " + oil + " units", bright, next);
        }
    }

    static void requestsDoNotChangeTheNextBrightLamps() {
        LampLeaseOffice office = Offices.withOil(4, 1, 3, 1, 2);
        for (int lamp = 0; lamp < 3; lamp++) {
            office.lease(0, lamp, 1);
        }
        Check.same("28 before", 2, office.brightNext());
        office.requestRenewal(2, 5);
        Check.same("28 with a request", 2, office.brightNext());
    }

    // ---- promises 29 and 30 ----

    static void levelsThatTogetherAreTheOilAreBright() {
        dueMost("23 of 24 units", 7, full(23, 1));
        dueMost("24 of 24 units", 8, full(24, 1));
        dueMost("25 units", 8, full(25, 1));
        dueMost("a full pool", 8, full(500, 1));
    }

    static void lampsOfLowerLevelsComeFirst() {
        // The sums of the levels 1, 1, 2, 2, 3 are 1, 2, 4, 6 and 9.
        int[] due = {0, 1, 2, 2, 3, 3, 4, 4, 4, 5, 5};
        for (int oil = 0; oil < due.length; oil++) {
            LampLeaseOffice office = Offices.withOil(oil, 1, 3, 2, 1, 2, 1);
            for (int lamp = 0; lamp < 5; lamp++) {
                office.lease(0, lamp, 1);
            }
            dueMost("with " + oil + " units", due[oil], office);
        }
    }

    static void lampsThatAreNotLeasedDoNotCount() {
        LampLeaseOffice office = Offices.withOil(6, 1, 1, 1, 3, 3);
        office.lease(0, 2, 1);
        office.lease(0, 3, 1);
        dueMost("two lamps", 2, office);
    }

    // ---- promises 31 and 32 ----

    static void withoutDemandAllSharesAre0() {
        dueShares("no lamps", Offices.withOil(500, 2), 0, 0);
        dueShares("no leases", Offices.withOil(7, 3, 1, 2, 3), 0, 0, 0);
    }

    static void withoutOilAllSharesAre0() {
        dueShares("no oil", withDemands(0, 1, 2, 3), 0, 0, 0);
    }

    static void theLeastDemandGetsAllOil() {
        dueShares("a demand of 1", withDemands(7, 0, 1, 0), 0, 7, 0);
        dueShares("a full pool", withDemands(500, 1), 500);
        dueShares("one unit", withDemands(1, 0, 1), 0, 1);
    }

    static void aShipWithoutDemandGetsNothing() {
        dueShares("one of three", withDemands(7, 0, 2, 0), 0, 7, 0);
        dueShares("two of three", withDemands(7, 0, 2, 2), 0, 4, 3);
    }

    static void aDivisionWithoutRemaindersLeavesNothing() {
        dueShares("no units left", withDemands(12, 1, 2, 3), 2, 4, 6);
        dueShares("all equal", withDemands(6, 1, 1, 1, 1, 1, 1), 1, 1, 1, 1, 1, 1);
    }

    static void theLargestRemainderComesFirst() {
        // 7, 14 and 21 by 6: the remainders are 1, 2 and 3.
        dueShares("one unit left", withDemands(7, 1, 2, 3), 1, 2, 4);
        // 11, 22 and 33 by 6: the remainders are 5, 4 and 3.
        dueShares("two units left", withDemands(11, 1, 2, 3), 2, 4, 5);
    }

    static void ofEqualRemaindersTheLowerIndexComesFirst() {
        for (int left = 0; left < 6; left++) {
            int[] due = new int[6];
            for (int ship = 0; ship < 6; ship++) {
                due[ship] = 2 + (ship < left ? 1 : 0);
            }
            dueShares(left + " units left", withDemands(12 + left, 1, 1, 1, 1, 1, 1), due);
        }
    }

    static void equalRemaindersBehindALargerOne() {
        // 8, 16, 16 and 8 by 6: the remainders are 2, 4, 4 and 2.
        dueShares("two units left", withDemands(8, 1, 2, 2, 1), 1, 3, 3, 1);
        // 5, 5, 10 and 10 by 6: the remainders are 5, 5, 4 and 4.
        dueShares("three units left", withDemands(5, 1, 1, 2, 2), 1, 1, 2, 1);
    }

    static void aUnitThatIsLeftGoesToOneShipOnly() {
        // 1, 1 and 6 by 8: the remainders are 1, 1 and 6.
        dueShares("one unit", withDemands(1, 1, 1, 6), 0, 0, 1);
    }

    static void aFullPoolIsDividedAmongSixShips() {
        // 3000 by 24 is 125, and 1500 by 24 is 62 with a remainder of 12.
        dueShares("full", full(500, 1), 125, 125, 63, 63, 62, 62);
        dueShares("all to one", withDemands(500, 0, 0, 0, 0, 0, 24), 0, 0, 0, 0, 0, 500);
    }

    static void theSharesAreOnlyComputed() {
        // The share of ship 1 would light its lamp, but the lamps of ship 0 burn first.
        LampLeaseOffice office = Offices.withOil(4, 2, 3, 1, 3);
        office.lease(0, 0, 2);
        office.lease(0, 1, 2);
        office.lease(1, 2, 2);
        dueShares("before the hour", office, 2, 2);
        office.passHours(1);
        Check.same("31 the oil of ship 0", 2, office.brightHours(0) + office.brightHours(1));
        Check.same("31 nothing for ship 1", 0, office.brightHours(2));
    }
}
