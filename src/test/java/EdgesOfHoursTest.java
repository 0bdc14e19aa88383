/**
 * The term Hours and promises 8, 9, 12, 13, 21, 22, 24, 36 and 37 at their edges: for each
 * sentence of the document that names an edge, a test of its own.
 */
final class EdgesOfHoursTest {
    public static void main(String[] args) throws ReflectiveOperationException {
        Check.runAll(EdgesOfHoursTest.class);
    }

    /** Two ships, of which ship 0 has so many coins, and lamps of the levels 1, 2, 3 and 1. */
    private static LampLeaseOffice withCoins(int coins, int oil) {
        LampLeaseOffice office = Offices.withOil(oil, 2, 1, 2, 3, 1);
        for (int left = 100 - coins; left > 0; left -= 24) {
            office.lease(0, 0, Math.min(left, 24));
            office.giveUp(0);
        }
        Check.same("11 coins", coins, office.coins(0));
        return office;
    }

    // ---- promise 8: its own edges ----

    static void oneHourCanPass() {
        LampLeaseOffice office = Offices.busy();
        office.passHours(1);
        Check.same("8 hour", 3, office.hour());
    }

    static void fortyEightHoursCanPassAtOnce() {
        LampLeaseOffice office = Offices.busy();
        office.passHours(48);
        Check.same("8 hour", 50, office.hour());
    }

    static void tooFewHoursAreRefused() {
        for (int hours : Due.below(1)) {
            Refusal.of("8 hours " + hours, Due.ARGUMENT, Offices::busy,
                    office -> office.passHours(hours));
        }
    }

    static void tooManyHoursAreRefused() {
        for (int hours : Due.above(48)) {
            Refusal.of("8 hours " + hours, Due.ARGUMENT, Offices::busy,
                    office -> office.passHours(hours));
        }
    }

    static void manyHoursAreAsManySingleHours() {
        for (int hours : new int[] {2, 7, 30, 48}) {
            LampLeaseOffice atOnce = Offices.busy();
            LampLeaseOffice singly = Offices.busy();
            int ended = 0;
            for (int hour = 0; hour < hours; hour++) {
                ended += singly.passHours(1);
            }
            Check.same("8 ended", ended, atOnce.passHours(hours));
            Check.same("8 state", Questions.state(singly), Questions.state(atOnce));
        }
    }

    static void anHourWithoutShipsAndLampsPasses() {
        LampLeaseOffice office = new LampLeaseOffice();
        Check.same("8 none ends", 0, office.passHours(48));
        Check.same("9 hour", 48, office.hour());
    }

    static void anHourWithoutLeasesCostsNothing() {
        LampLeaseOffice office = Offices.withOil(5, 6, 1, 2, 3);
        Check.same("8 none ends", 0, office.passHours(1));
        Check.same("8 coins", 100.0, office.meanCoins());
        Check.same("8 oil", 5, office.oil());
        Check.same("8 no dark hour", 0, office.darkHours(5));
    }

    static void allEightLeasesCanEndInOneHour() {
        LampLeaseOffice office = Offices.with(2, 1, 1, 1, 1, 1, 1, 1, 1);
        for (int lamp = 0; lamp < 8; lamp++) {
            office.lease(lamp % 2, lamp, 3);
        }
        Check.same("8 not yet", 0, office.passHours(2));
        Check.same("8 all", 8, office.passHours(1));
        Check.same("8 none is left", 0, office.leasedLamps());
        Check.same("8 no more", 0, office.passHours(1));
    }

    static void theLeasesThatEndInAllTheHoursCount() {
        LampLeaseOffice office = Offices.with(1, 1, 1, 1, 1);
        for (int lamp = 0; lamp < 4; lamp++) {
            office.lease(0, lamp, lamp + 1);
        }
        Check.same("8 the first three", 3, office.passHours(3));
        Check.same("8 the last", 1, office.passHours(3));
    }

    // ---- first, the requests ----

    static void aRenewalCanTakeTheLastCoins() {
        LampLeaseOffice office = withCoins(20, 500);
        office.lease(0, 1, 2);
        office.requestRenewal(1, 8);
        office.passHours(1);
        Check.same("8 coins", 0, office.coins(0));
        Check.same("8 end hour", 10, office.endHour(1));
        Check.same("36 none refused", 0, office.refusedRenewals());
        Check.same("37 the office", 100, office.officeCoins());
    }

    static void aRenewalThatCostsACoinTooManyIsRefused() {
        LampLeaseOffice office = withCoins(19, 500);
        office.lease(0, 1, 2);
        office.requestRenewal(1, 8);
        office.passHours(1);
        Check.same("8 coins", 15, office.coins(0));
        Check.same("8 end hour", 2, office.endHour(1));
        Check.same("36 refused", 1, office.refusedRenewals());
        Check.same("37 the office", 85, office.officeCoins());
    }

    static void aRenewalWithoutCoinsIsRefused() {
        LampLeaseOffice office = withCoins(3, 500);
        office.lease(0, 0, 3);
        office.requestRenewal(0, 1);
        office.passHours(1);
        Check.same("8 coins", 0, office.coins(0));
        Check.same("8 end hour", 3, office.endHour(0));
        Check.same("36 refused", 1, office.refusedRenewals());
    }

    static void theShipOfTheLeasePaysTheRenewal() {
        LampLeaseOffice office = withCoins(3, 500);
        office.lease(1, 2, 2);
        office.requestRenewal(2, 2);
        office.passHours(1);
        Check.same("8 the ship", 88, office.coins(1));
        Check.same("8 another ship", 3, office.coins(0));
    }

    static void theRequestsAreProcessedInTheOrderOfTheQueue() {
        LampLeaseOffice office = withCoins(20, 500);
        office.lease(0, 0, 5);
        office.lease(0, 1, 5);
        office.requestRenewal(1, 2);
        office.requestRenewal(0, 4);
        // Five coins are left: enough for either, not for both.
        office.passHours(1);
        Check.same("8 first", 7, office.endHour(1));
        Check.same("8 second", 5, office.endHour(0));
        Check.same("8 coins", 1, office.coins(0));
        LampLeaseOffice reverse = withCoins(20, 500);
        reverse.lease(0, 0, 5);
        reverse.lease(0, 1, 5);
        reverse.requestRenewal(0, 4);
        reverse.requestRenewal(1, 2);
        reverse.passHours(1);
        Check.same("8 first, the other way round", 9, reverse.endHour(0));
        Check.same("8 second, the other way round", 5, reverse.endHour(1));
    }

    static void aRequestBehindARefusedOneIsProcessed() {
        LampLeaseOffice office = withCoins(20, 500);
        office.lease(0, 1, 5);
        office.lease(0, 0, 5);
        office.requestRenewal(1, 3);
        office.requestRenewal(0, 5);
        office.passHours(1);
        Check.same("8 refused", 5, office.endHour(1));
        Check.same("8 paid", 10, office.endHour(0));
        Check.same("36 one refused", 1, office.refusedRenewals());
    }

    static void allRequestsAreRemovedEvenTheRefusedOnes() {
        LampLeaseOffice office = withCoins(20, 500);
        office.lease(0, 1, 5);
        office.lease(0, 0, 5);
        office.requestRenewal(1, 24);
        office.requestRenewal(0, 1);
        office.passHours(1);
        Check.same("8 all", 0, office.requestCount());
        Check.due("8 no position", Due.MISSING, () -> office.requestedLamp(0));
    }

    static void onlyTheFirstHourProcessesTheRequests() {
        LampLeaseOffice office = withCoins(20, 500);
        office.lease(0, 0, 5);
        office.lease(0, 1, 5);
        office.requestRenewal(0, 1);
        office.requestRenewal(1, 24);
        office.passHours(3);
        Check.same("8 paid once", 4, office.coins(0));
        Check.same("8 renewed once", 6, office.endHour(0));
        Check.same("36 refused once", 1, office.refusedRenewals());
    }

    static void aFullQueueIsProcessed() {
        LampLeaseOffice office = Offices.withOil(500, 2, 1, 1, 1, 1, 1, 1, 1, 1);
        for (int lamp = 0; lamp < 8; lamp++) {
            office.lease(lamp % 2, lamp, 1);
            office.requestRenewal(lamp, 23);
        }
        // A ship has 96 coins left, for its four renewals of 23 coins.
        Check.same("8 none ends", 0, office.passHours(1));
        Check.same("8 coins", 4, office.coins(0));
        Check.same("8 coins of the other", 4, office.coins(1));
        Check.same("8 the last", 24, office.endHour(7));
        Check.same("8 none is left", 0, office.requestCount());
    }

    static void aLeaseThatIsRenewedInItsLastHourGoesOn() {
        LampLeaseOffice office = withCoins(20, 500);
        office.lease(0, 0, 1);
        office.requestRenewal(0, 1);
        Check.same("8 goes on", 0, office.passHours(1));
        Check.same("8 one hour more", 2, office.endHour(0));
        Check.same("8 then ends", 1, office.passHours(1));
    }

    static void aLeaseWhoseRenewalIsRefusedInItsLastHourEnds() {
        LampLeaseOffice office = withCoins(1, 500);
        office.lease(0, 0, 1);
        office.requestRenewal(0, 1);
        Check.same("8 ends", 1, office.passHours(1));
        Check.same("8 not leased", false, office.isLeased(0));
    }

    // ---- second, the burning ----

    static void aLampOfTheLevelOfTheOilIsBright() {
        for (int level = 1; level <= 3; level++) {
            LampLeaseOffice office = Offices.withOil(level, 1, level);
            office.lease(0, 0, 2);
            office.passHours(1);
            Check.same("22 bright", true, office.wasBright(0));
            Check.same("24 empty pool", 0, office.oil());
            Check.same("21 one hour", 1, office.brightHours(0));
        }
    }

    static void aLampOfALevelOneGreaterThanTheOilIsDark() {
        for (int level = 1; level <= 3; level++) {
            LampLeaseOffice office = Offices.withOil(level - 1, 1, level);
            office.lease(0, 0, 2);
            office.passHours(1);
            Check.same("22 dark", false, office.wasBright(0));
            Check.same("24 it consumes nothing", level - 1, office.oil());
            Check.same("21 no hour", 0, office.brightHours(0));
        }
    }

    static void thePoolIsNeverLessThanEmpty() {
        LampLeaseOffice office = Offices.withOil(7, 2, 3, 3, 3);
        for (int lamp = 0; lamp < 3; lamp++) {
            office.lease(lamp % 2, lamp, 10);
        }
        office.passHours(1);
        Check.same("24 what no lamp can burn", 1, office.oil());
        office.passHours(5);
        Check.same("24 it stays", 1, office.oil());
    }

    static void aFullPoolBurns() {
        LampLeaseOffice office = Offices.withOil(500, 4, 3, 3, 3, 3, 3, 3, 3, 3);
        for (int lamp = 0; lamp < 8; lamp++) {
            office.lease(lamp % 4, lamp, 10);
        }
        office.passHours(1);
        Check.same("24 oil", 476, office.oil());
        Check.same("4 room again", 500, office.addOil(24));
    }

    static void aLaterLampCanBurnWhatADarkOneLeaves() {
        LampLeaseOffice office = Offices.withOil(3, 1, 1, 3, 2);
        for (int lamp = 0; lamp < 3; lamp++) {
            office.lease(0, lamp, 2);
        }
        office.passHours(1);
        Check.same("22 first", true, office.wasBright(0));
        Check.same("22 second", false, office.wasBright(1));
        Check.same("22 third", true, office.wasBright(2));
        Check.same("24 oil", 0, office.oil());
    }

    static void lampsBurnInTheOrderOfTheirIndicesNotOfTheirLeases() {
        LampLeaseOffice office = Offices.withOil(1, 2, 1, 1);
        office.lease(0, 1, 2);
        office.lease(1, 0, 2);
        office.passHours(1);
        Check.same("22 the lower index", true, office.wasBright(0));
        Check.same("22 the earlier lease", false, office.wasBright(1));
    }

    static void aLampThatIsNotLeasedConsumesNothing() {
        LampLeaseOffice office = Offices.withOil(9, 1, 3, 1, 3);
        office.lease(0, 1, 2);
        office.passHours(1);
        Check.same("24 oil", 8, office.oil());
        Check.same("22 before", false, office.wasBright(0));
        Check.same("22 behind", false, office.wasBright(2));
        Check.same("21 no hour", 0, office.brightHours(0) + office.brightHours(2));
    }

    static void aLampBurnsInTheLastHourOfItsLease() {
        LampLeaseOffice office = Offices.withOil(9, 1, 2);
        office.lease(0, 0, 3);
        office.passHours(3);
        Check.same("22 bright", true, office.wasBright(0));
        Check.same("21 all hours", 3, office.brightHours(0));
        Check.same("24 oil", 3, office.oil());
        office.passHours(1);
        Check.same("22 not after it", false, office.wasBright(0));
        Check.same("21 no hour more", 3, office.brightHours(0));
        Check.same("24 no oil more", 3, office.oil());
    }

    static void aLampThatIsGivenUpDoesNotBurn() {
        LampLeaseOffice office = Offices.withOil(9, 1, 2);
        office.lease(0, 0, 3);
        office.passHours(1);
        office.giveUp(0);
        Check.same("22 bright in the latest hour", true, office.wasBright(0));
        office.passHours(1);
        Check.same("22 no longer", false, office.wasBright(0));
        Check.same("24 oil", 7, office.oil());
    }

    // ---- promise 22: "false also if no hour has passed" ----

    static void noLampWasBrightBeforeTheFirstHour() {
        LampLeaseOffice office = Offices.withOil(9, 1, 1);
        Check.same("22 not leased", false, office.wasBright(0));
        office.lease(0, 0, 2);
        Check.same("22 leased", false, office.wasBright(0));
    }

    static void aLampThatIsAddedAfterAnHourWasNotBright() {
        LampLeaseOffice office = Offices.withOil(9, 1, 1);
        office.lease(0, 0, 2);
        office.passHours(1);
        office.addLamp(1);
        office.lease(0, 1, 2);
        Check.same("22 new lamp", false, office.wasBright(1));
    }

    static void onlyTheLatestHourTellsWhetherALampWasBright() {
        LampLeaseOffice office = Offices.withOil(1, 1, 1);
        office.lease(0, 0, 3);
        office.passHours(1);
        Check.same("22 bright", true, office.wasBright(0));
        office.passHours(1);
        Check.same("22 dark", false, office.wasBright(0));
        office.addOil(1);
        Check.same("22 still the latest hour", false, office.wasBright(0));
        office.passHours(1);
        Check.same("22 bright again", true, office.wasBright(0));
        Check.same("21 two hours", 2, office.brightHours(0));
    }

    // ---- third, the fines ----

    static void aShipWithOneBrightLampIsNotFined() {
        for (int bright = 0; bright < 3; bright++) {
            // The only lamp of level 1 is bright, the others are dark.
            int[] levels = {2, 2, 2};
            levels[bright] = 1;
            LampLeaseOffice office = Offices.withOil(1, 1, levels);
            for (int lamp = 0; lamp < 3; lamp++) {
                office.lease(0, lamp, 1);
            }
            office.passHours(1);
            Check.same("12 fines", 0, office.finesPaid(0));
            Check.same("13 dark hours", 0, office.darkHours(0));
            Check.same("11 coins", 95, office.coins(0));
        }
    }

    static void aShipWithoutABrightLampPaysForEachLamp() {
        for (int lamps = 1; lamps <= 8; lamps++) {
            LampLeaseOffice office = Offices.with(2, 1, 1, 1, 1, 1, 1, 1, 1);
            for (int lamp = 0; lamp < lamps; lamp++) {
                office.lease(0, lamp, 1);
            }
            office.passHours(1);
            Check.same("12 two coins a lamp", 2 * lamps, office.finesPaid(0));
            Check.same("13 one hour", 1, office.darkHours(0));
            Check.same("37 the office", 3 * lamps, office.officeCoins());
        }
    }

    static void aShipWithoutALeasedLampIsNotFined() {
        LampLeaseOffice office = Offices.with(2, 1, 1);
        office.lease(0, 0, 5);
        office.lease(1, 1, 5);
        office.giveUp(1);
        office.passHours(1);
        Check.same("12 no lease", 0, office.finesPaid(1));
        Check.same("13 no lease", 0, office.darkHours(1));
        Check.same("12 a lease", 2, office.finesPaid(0));
    }

    static void theBrightLampOfAnotherShipDoesNotHelp() {
        LampLeaseOffice office = Offices.withOil(1, 2, 1, 1);
        office.lease(0, 0, 1);
        office.lease(1, 1, 1);
        office.passHours(1);
        Check.same("12 the bright ship", 0, office.finesPaid(0));
        Check.same("12 the dark ship", 2, office.finesPaid(1));
    }

    static void aLampThatWasBrightBeforeDoesNotHelp() {
        LampLeaseOffice office = Offices.withOil(1, 1, 1, 1);
        office.lease(0, 0, 1);
        office.passHours(1);
        office.lease(0, 1, 1);
        office.passHours(1);
        Check.same("12 fined", 2, office.finesPaid(0));
        Check.same("13 dark hour", 1, office.darkHours(0));
    }

    static void aShipWithAsManyCoinsAsTheFinePaysIt() {
        LampLeaseOffice office = withCoins(3, 0);
        office.lease(0, 0, 1);
        office.passHours(1);
        Check.same("12 fine", 2, office.finesPaid(0));
        Check.same("11 coins", 0, office.coins(0));
    }

    static void aShipPaysNoMoreThanItHas() {
        LampLeaseOffice office = withCoins(2, 0);
        office.lease(0, 0, 1);
        office.passHours(1);
        Check.same("12 fine", 1, office.finesPaid(0));
        Check.same("11 coins", 0, office.coins(0));
        Check.same("37 the office", 100, office.officeCoins());
        LampLeaseOffice two = withCoins(5, 0);
        two.lease(0, 0, 1);
        two.lease(0, 3, 1);
        two.passHours(1);
        Check.same("12 fine of two lamps", 3, two.finesPaid(0));
        Check.same("11 coins after two lamps", 0, two.coins(0));
    }

    static void aDarkHourCountsEvenWithoutCoins() {
        LampLeaseOffice office = withCoins(2, 0);
        office.lease(0, 0, 2);
        office.passHours(1);
        Check.same("12 no fine", 0, office.finesPaid(0));
        Check.same("13 counted", 1, office.darkHours(0));
        office.passHours(1);
        Check.same("13 counted again", 2, office.darkHours(0));
        Check.same("11 coins", 0, office.coins(0));
        Check.same("37 the office", 100, office.officeCoins());
    }

    static void theRenewalIsPaidBeforeTheFine() {
        LampLeaseOffice office = withCoins(10, 0);
        office.lease(0, 0, 1);
        office.requestRenewal(0, 8);
        office.passHours(1);
        Check.same("8 renewed", 9, office.endHour(0));
        Check.same("12 the coin that is left", 1, office.finesPaid(0));
    }

    static void theFineIsPaidBeforeTheLeaseEnds() {
        LampLeaseOffice office = withCoins(100, 0);
        office.lease(0, 0, 1);
        Check.same("8 ends", 1, office.passHours(1));
        Check.same("12 fined", 2, office.finesPaid(0));
        Check.same("13 dark hour", 1, office.darkHours(0));
        office.passHours(1);
        Check.same("12 not after the end", 2, office.finesPaid(0));
    }

    // ---- fourth, the ends ----

    static void aLeaseEndsAtItsEndHour() {
        LampLeaseOffice office = Offices.with(1, 1);
        office.passHours(3);
        Check.same("5 end hour", 6, office.lease(0, 0, 3));
        Check.same("8 an hour before", 0, office.passHours(2));
        Check.same("18 still leased", true, office.isLeased(0));
        Check.same("8 at the hour", 1, office.passHours(1));
        Check.same("18 not leased", false, office.isLeased(0));
        Check.due("19 no lessee", Due.MISSING, () -> office.lessee(0));
    }

    static void aLeaseOfOneHourEndsAfterOneHour() {
        LampLeaseOffice office = Offices.with(1, 1);
        office.lease(0, 0, 1);
        Check.same("8 ends", 1, office.passHours(1));
    }

    static void aLeaseOf24HoursEndsAfter24Hours() {
        LampLeaseOffice office = Offices.with(1, 1);
        office.lease(0, 0, 24);
        Check.same("8 not yet", 0, office.passHours(23));
        Check.same("8 ends", 1, office.passHours(1));
    }

    static void aNewLeaseEndsAtItsOwnHour() {
        LampLeaseOffice office = Offices.with(2, 1);
        office.lease(0, 0, 2);
        office.giveUp(0);
        office.lease(1, 0, 4);
        Check.same("8 not at the old end", 0, office.passHours(3));
        Check.same("8 at the new end", 1, office.passHours(1));
    }
}
