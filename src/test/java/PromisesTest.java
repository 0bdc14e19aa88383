import java.lang.reflect.Field;

/** For each promise of the document: ordinary inputs, the edges, and wrong inputs. */
final class PromisesTest {
    private static final int[] NO_INDICES = {-1, 2, 6, 8, Integer.MIN_VALUE, Integer.MAX_VALUE};

    public static void main(String[] args) throws ReflectiveOperationException {
        promise1NewObject();
        promise2AddShip();
        promise3AddLamp();
        promise4AddOil();
        promise5Lease();
        promise5LeaseFaultOrder();
        promise6RequestRenewal();
        promise6RequestFaultOrder();
        promise7GiveUp();
        promise8PassHours();
        promise8OrderOfAnHour();
        promise8Renewals();
        promise9Hour();
        promise10And11ShipsAndCoins();
        promise12And13Fines();
        promise14And15DemandAndLeases();
        promise16And17Lamps();
        promise18To20Leases();
        promise21And22Brightness();
        promise23To25LeasedLampsOilConsumption();
        promise26And27HoursOfOil();
        promise28To30BrightLamps();
        promise31And32Shares();
        promise33To35Queue();
        promise36And37RefusedAndOfficeCoins();
        promise38ShipByFines();
        promise39LampByEnd();
        promise40And41Means();
        promise42Consistent();
        promise42Inconsistent();
        promise43Feed();
        promise44RunCommands();
        promise44EveryCommand();
        promise44NothingOfAnEarlierText();
        promise45ErrorPosition();
        promise46And47Failures();
        promise47Reasons();
        promise48And49Output();
        promise50And51Undo();
        promise51UndoOfEachCall();
        promise51UndoOfRows();
        promise51WhatUndoLeaves();
        promise52And53SaveAndRestore();
        Check.finish();
    }

    private static void promise1NewObject() {
        LampLeaseOffice office = new LampLeaseOffice();
        Check.same("1 ships", 0, office.shipCount());
        Check.same("1 lamps", 0, office.lampCount());
        Check.same("1 oil", 0, office.oil());
        Check.same("1 hour", 0, office.hour());
        Check.same("1 office coins", 0, office.officeCoins());
        Check.same("1 requests", 0, office.requestCount());
        Check.same("1 refused", 0, office.refusedRenewals());
        Check.same("1 undo", 0, office.undoCount());
    }

    private static void promise2AddShip() {
        LampLeaseOffice office = new LampLeaseOffice();
        for (int ship = 0; ship < 6; ship++) {
            Check.same("2 index", ship, office.addShip());
        }
        Check.due("2 seventh ship", Due.STATE, office::addShip);
        Check.same("2 ships after the refusal", 6, office.shipCount());
        Check.same("2 recorded calls after the refusal", 6, office.undoCount());
    }

    private static void promise3AddLamp() {
        LampLeaseOffice office = new LampLeaseOffice();
        for (int lamp = 0; lamp < 8; lamp++) {
            Check.same("3 index", lamp, office.addLamp(lamp % 3 + 1));
            Check.same("3 not leased", false, office.isLeased(lamp));
        }
        Check.due("3 ninth lamp", Due.STATE, () -> office.addLamp(1));
        Check.due("3 level 0 comes first", Due.ARGUMENT, () -> office.addLamp(0));
        Check.due("3 level 4 comes first", Due.ARGUMENT, () -> office.addLamp(4));
        Check.due("3 least level", Due.ARGUMENT, () -> office.addLamp(Integer.MIN_VALUE));
        Check.due("3 greatest level", Due.ARGUMENT, () -> office.addLamp(Integer.MAX_VALUE));
        Check.same("3 lamps after the refusals", 8, office.lampCount());
    }

    private static void promise4AddOil() {
        LampLeaseOffice office = new LampLeaseOffice();
        Check.due("4 no unit", Due.ARGUMENT, () -> office.addOil(0));
        Check.due("4 negative", Due.ARGUMENT, () -> office.addOil(-1));
        Check.due("4 too many units", Due.ARGUMENT, () -> office.addOil(201));
        Check.due("4 greatest number", Due.ARGUMENT, () -> office.addOil(Integer.MAX_VALUE));
        Check.due("4 least number", Due.ARGUMENT, () -> office.addOil(Integer.MIN_VALUE));
        Check.same("4 one unit", 1, office.addOil(1));
        Check.same("4 most units", 201, office.addOil(200));
        Check.same("4 more", 400, office.addOil(199));
        Check.due("4 over the brim", Due.STATE, () -> office.addOil(101));
        Check.same("4 oil after the refusal", 400, office.oil());
        Check.same("4 to the brim", 500, office.addOil(100));
        Check.due("4 full", Due.STATE, () -> office.addOil(1));
        Check.due("4 full, but the number is wrong", Due.ARGUMENT, () -> office.addOil(201));
    }

    private static void promise5Lease() {
        LampLeaseOffice office = Offices.with(2, 3, 2);
        office.passHours(5);
        Check.same("5 end hour", 15, office.lease(1, 0, 10));
        Check.same("5 price", 70, office.coins(1));
        Check.same("5 paid to the office", 30, office.officeCoins());
        Check.same("5 lessee", 1, office.lessee(0));
        Check.same("5 other ship", 100, office.coins(0));
        Check.same("5 longest lease", 29, office.lease(1, 1, 24));
        LampLeaseOffice poor = Offices.with(1, 2, 2, 1, 1, 1);
        poor.lease(0, 0, 24);
        poor.lease(0, 1, 24);
        Check.due("5 too dear", Due.UNSUPPORTED, () -> poor.lease(0, 2, 5));
        Check.same("5 not paid", 4, poor.coins(0));
        Check.same("5 not leased", false, poor.isLeased(2));
        Check.same("5 the last coins", 4, poor.lease(0, 2, 4));
        Check.same("5 poor", 0, poor.coins(0));
        Check.due("5 nothing left", Due.UNSUPPORTED, () -> poor.lease(0, 3, 1));
    }

    private static void promise5LeaseFaultOrder() {
        LampLeaseOffice office = Offices.with(2, 3, 3);
        for (int wrong : NO_INDICES) {
            Check.due("5 no ship", Due.INDEX, () -> office.lease(wrong, 0, 1));
            Check.due("5 no lamp", Due.INDEX, () -> office.lease(0, wrong, 1));
            Check.due("5 no ship before hours", Due.INDEX, () -> office.lease(wrong, 0, 0));
            Check.due("5 no lamp before hours", Due.INDEX, () -> office.lease(0, wrong, 25));
        }
        office.lease(0, 0, 24);
        for (int hours : new int[] {0, 25, -1, Integer.MIN_VALUE, Integer.MAX_VALUE}) {
            Check.due("5 hours before leased", Due.ARGUMENT, () -> office.lease(0, 0, hours));
            Check.due("5 hours", Due.ARGUMENT, () -> office.lease(0, 1, hours));
        }
        Check.due("5 leased before coins", Due.STATE, () -> office.lease(0, 0, 24));
        Check.due("5 leased to another", Due.STATE, () -> office.lease(1, 0, 1));
        Check.due("5 coins", Due.UNSUPPORTED, () -> office.lease(0, 1, 24));
        Check.same("5 nothing paid", 28, office.coins(0));
        Check.same("5 recorded", 5, office.undoCount());
    }

    private static void promise6RequestRenewal() {
        LampLeaseOffice office = Offices.with(1, 1, 1, 1);
        office.lease(0, 0, 1);
        office.lease(0, 1, 1);
        office.lease(0, 2, 1);
        Check.same("6 first position", 0, office.requestRenewal(2, 24));
        Check.same("6 second position", 1, office.requestRenewal(0, 1));
        Check.same("6 third position", 2, office.requestRenewal(1, 7));
        Check.same("6 nothing paid yet", 97, office.coins(0));
        Check.same("6 end hour not yet changed", 1, office.endHour(2));
        office.giveUp(0);
        office.lease(0, 0, 1);
        Check.same("6 at the end again", 2, office.requestRenewal(0, 3));
    }

    private static void promise6RequestFaultOrder() {
        LampLeaseOffice office = Offices.with(1, 1, 1);
        office.lease(0, 0, 3);
        office.requestRenewal(0, 1);
        for (int wrong : NO_INDICES) {
            Check.due("6 no lamp", Due.INDEX, () -> office.requestRenewal(wrong, 0));
        }
        for (int hours : new int[] {0, 25, -5, Integer.MIN_VALUE, Integer.MAX_VALUE}) {
            Check.due("6 hours before not leased", Due.ARGUMENT, () -> office.requestRenewal(1, hours));
            Check.due("6 hours before requested", Due.ARGUMENT, () -> office.requestRenewal(0, hours));
        }
        Check.due("6 not leased", Due.MISSING, () -> office.requestRenewal(1, 1));
        Check.due("6 requested", Due.STATE, () -> office.requestRenewal(0, 1));
        Check.same("6 requests", 1, office.requestCount());
    }

    private static void promise7GiveUp() {
        LampLeaseOffice office = Offices.with(1, 2, 1);
        office.lease(0, 0, 10);
        office.lease(0, 1, 5);
        office.requestRenewal(1, 2);
        office.passHours(3);
        office.requestRenewal(0, 2);
        office.requestRenewal(1, 3);
        int coins = office.coins(0);
        Check.same("7 hours left", 7, office.giveUp(0));
        Check.same("7 nothing paid back", coins, office.coins(0));
        Check.same("7 not leased", false, office.isLeased(0));
        Check.same("7 its request is removed", 1, office.requestCount());
        Check.same("7 the other request stays", 1, office.requestedLamp(0));
        Check.same("7 the hours of the other request", 3, office.requestedHours(0));
        Check.due("7 again", Due.MISSING, () -> office.giveUp(0));
        Check.same("7 renewed lease", 4, office.giveUp(1));
        for (int wrong : NO_INDICES) {
            Check.due("7 no lamp", Due.INDEX, () -> office.giveUp(wrong));
        }
    }

    private static void promise8PassHours() {
        LampLeaseOffice office = Offices.with(1, 1, 1, 1);
        for (int hours : new int[] {0, -1, 49, Integer.MIN_VALUE, Integer.MAX_VALUE}) {
            Check.due("8 hours", Due.ARGUMENT, () -> office.passHours(hours));
        }
        Check.same("8 hour after the refusals", 0, office.hour());
        office.lease(0, 0, 2);
        office.lease(0, 1, 2);
        office.lease(0, 2, 3);
        Check.same("8 no end", 0, office.passHours(1));
        Check.same("8 two ends", 2, office.passHours(1));
        Check.same("8 ended", false, office.isLeased(0));
        Check.same("8 not ended", true, office.isLeased(2));
        Check.same("8 one end in many hours", 1, office.passHours(48));
        Check.same("8 hour", 50, office.hour());
    }

    private static void promise8OrderOfAnHour() {
        // A renewal is paid before the fine is, so the fine finds fewer coins.
        LampLeaseOffice office = Offices.with(2, 3, 3, 1, 1);
        office.lease(0, 0, 24);
        office.lease(0, 1, 1);
        office.lease(1, 2, 1);
        office.requestRenewal(1, 8);
        office.addOil(1);
        Check.same("8 the renewal comes before the end", 1, office.passHours(1));
        Check.same("8 renewed", 9, office.endHour(1));
        Check.same("8 the fine is what is left", 0, office.coins(0));
        Check.same("8 the fine", 1, office.finesPaid(0));
        Check.same("8 the later lamp burns the oil", true, office.wasBright(2));
        Check.same("8 no fine with a bright lamp", 0, office.finesPaid(1));
        // The leases that end in an hour are fined in it.
        LampLeaseOffice dark = Offices.with(1, 1);
        dark.lease(0, 0, 1);
        Check.same("8 ends dark", 1, dark.passHours(1));
        Check.same("8 fined in its last hour", 2, dark.finesPaid(0));
        // Lamps burn in the order of their indices, not by level.
        LampLeaseOffice order = Offices.with(1, 3, 1, 2);
        order.lease(0, 0, 2);
        order.lease(0, 1, 2);
        order.lease(0, 2, 2);
        order.addOil(4);
        order.passHours(1);
        Check.same("8 first lamp", true, order.wasBright(0));
        Check.same("8 second lamp", true, order.wasBright(1));
        Check.same("8 third lamp", false, order.wasBright(2));
        Check.same("8 oil", 0, order.oil());
    }

    private static void promise8Renewals() {
        // The ship can pay one of the two renewals: the one requested first.
        LampLeaseOffice office = Offices.with(1, 3, 2);
        office.lease(0, 0, 24);
        office.lease(0, 1, 1);
        office.requestRenewal(1, 13);
        office.requestRenewal(0, 1);
        office.addOil(200);
        Check.same("8 nothing ends", 0, office.passHours(1));
        Check.same("8 paid", 0, office.coins(0));
        Check.same("8 the first is renewed", 14, office.endHour(1));
        Check.same("8 the second is not", 24, office.endHour(0));
        Check.same("8 refused", 1, office.refusedRenewals());
        Check.same("8 all requests are removed", 0, office.requestCount());
        Check.same("8 the office", 100, office.officeCoins());
        Check.same("8 not asked again", 2, office.passHours(24));
        Check.same("8 refused once", 1, office.refusedRenewals());
    }

    private static void promise9Hour() {
        LampLeaseOffice office = new LampLeaseOffice();
        office.passHours(1);
        Check.same("9 one hour", 1, office.hour());
        office.passHours(48);
        Check.same("9 more hours", 49, office.hour());
    }

    private static void promise10And11ShipsAndCoins() {
        LampLeaseOffice office = Offices.with(2, 1);
        Check.same("10 ships", 2, office.shipCount());
        Check.same("11 first coins", 100, office.coins(1));
        office.lease(1, 0, 9);
        Check.same("11 coins", 91, office.coins(1));
        Check.same("11 other coins", 100, office.coins(0));
        for (int wrong : NO_INDICES) {
            Check.due("11 no ship", Due.INDEX, () -> office.coins(wrong));
        }
    }

    private static void promise12And13Fines() {
        LampLeaseOffice office = Offices.with(2, 1, 1, 3, 3);
        Check.same("12 no fine", 0, office.finesPaid(0));
        Check.same("13 no dark hour", 0, office.darkHours(0));
        office.lease(0, 0, 2);
        office.lease(0, 1, 2);
        office.passHours(2);
        Check.same("12 two coins a lamp and hour", 8, office.finesPaid(0));
        Check.same("13 dark hours", 2, office.darkHours(0));
        Check.same("12 coins", 88, office.coins(0));
        office.passHours(3);
        Check.same("12 no lamp, no fine", 8, office.finesPaid(0));
        Check.same("13 no lamp, no dark hour", 2, office.darkHours(0));
        office.lease(1, 2, 24);
        office.lease(1, 3, 9);
        office.passHours(1);
        Check.same("12 not more than it has", 1, office.finesPaid(1));
        office.passHours(1);
        Check.same("12 nothing left to pay", 1, office.finesPaid(1));
        Check.same("13 counted without coins", 2, office.darkHours(1));
        for (int wrong : NO_INDICES) {
            Check.due("12 no ship", Due.INDEX, () -> office.finesPaid(wrong));
            Check.due("13 no ship", Due.INDEX, () -> office.darkHours(wrong));
        }
    }

    private static void promise14And15DemandAndLeases() {
        LampLeaseOffice office = Offices.with(2, 3, 2, 1);
        Check.same("14 no demand", 0, office.demand(0));
        Check.same("15 no leases", 0, office.leasesOf(0));
        office.lease(0, 0, 1);
        office.lease(0, 2, 2);
        office.lease(1, 1, 1);
        Check.same("14 demand", 4, office.demand(0));
        Check.same("15 leases", 2, office.leasesOf(0));
        Check.same("14 other demand", 2, office.demand(1));
        Check.same("15 other leases", 1, office.leasesOf(1));
        office.passHours(1);
        Check.same("14 demand after an end", 1, office.demand(0));
        Check.same("15 leases after an end", 1, office.leasesOf(0));
        for (int wrong : NO_INDICES) {
            Check.due("14 no ship", Due.INDEX, () -> office.demand(wrong));
            Check.due("15 no ship", Due.INDEX, () -> office.leasesOf(wrong));
        }
    }

    private static void promise16And17Lamps() {
        LampLeaseOffice office = Offices.with(0, 3, 1);
        Check.same("16 lamps", 2, office.lampCount());
        Check.same("17 level", 3, office.level(0));
        Check.same("17 other level", 1, office.level(1));
        for (int wrong : NO_INDICES) {
            Check.due("17 no lamp", Due.INDEX, () -> office.level(wrong));
        }
    }

    private static void promise18To20Leases() {
        LampLeaseOffice office = Offices.with(2, 3, 1);
        office.passHours(2);
        office.lease(1, 1, 4);
        Check.same("18 leased", true, office.isLeased(1));
        Check.same("18 not leased", false, office.isLeased(0));
        Check.same("19 lessee", 1, office.lessee(1));
        Check.same("20 end hour", 6, office.endHour(1));
        Check.due("19 not leased", Due.MISSING, () -> office.lessee(0));
        Check.due("20 not leased", Due.MISSING, () -> office.endHour(0));
        office.requestRenewal(1, 2);
        office.passHours(1);
        Check.same("20 renewed", 8, office.endHour(1));
        office.passHours(5);
        Check.due("19 ended", Due.MISSING, () -> office.lessee(1));
        Check.due("20 ended", Due.MISSING, () -> office.endHour(1));
        for (int wrong : NO_INDICES) {
            Check.due("18 no lamp", Due.INDEX, () -> office.isLeased(wrong));
            Check.due("19 no lamp", Due.INDEX, () -> office.lessee(wrong));
            Check.due("20 no lamp", Due.INDEX, () -> office.endHour(wrong));
        }
    }

    private static void promise21And22Brightness() {
        LampLeaseOffice office = Offices.with(1, 2, 1);
        Check.same("22 no hour yet", false, office.wasBright(0));
        office.addOil(5);
        office.lease(0, 0, 3);
        Check.same("22 still no hour", false, office.wasBright(0));
        office.passHours(2);
        Check.same("21 bright hours", 2, office.brightHours(0));
        Check.same("22 bright", true, office.wasBright(0));
        Check.same("22 not leased", false, office.wasBright(1));
        office.passHours(1);
        Check.same("21 no more oil", 2, office.brightHours(0));
        Check.same("22 dark", false, office.wasBright(0));
        office.lease(0, 1, 1);
        office.passHours(1);
        Check.same("22 bright in the hour of its end", true, office.wasBright(1));
        Check.same("22 the lamp has ended", false, office.isLeased(1));
        office.passHours(1);
        Check.same("22 not in the latest hour", false, office.wasBright(1));
        Check.same("21 kept after the end", 1, office.brightHours(1));
        for (int wrong : NO_INDICES) {
            Check.due("21 no lamp", Due.INDEX, () -> office.brightHours(wrong));
            Check.due("22 no lamp", Due.INDEX, () -> office.wasBright(wrong));
        }
    }

    private static void promise23To25LeasedLampsOilConsumption() {
        LampLeaseOffice office = Offices.with(2, 3, 2, 1);
        Check.same("23 none", 0, office.leasedLamps());
        Check.same("25 none", 0, office.consumption());
        office.lease(0, 0, 2);
        office.lease(1, 2, 1);
        Check.same("23 leased lamps", 2, office.leasedLamps());
        Check.same("25 consumption without oil", 4, office.consumption());
        office.addOil(10);
        Check.same("24 oil", 10, office.oil());
        office.passHours(1);
        Check.same("24 burnt oil", 6, office.oil());
        Check.same("23 after an end", 1, office.leasedLamps());
        Check.same("25 after an end", 3, office.consumption());
    }

    private static void dueHours(String what, Object due, LampLeaseOffice office) {
        Check.due("26 " + what, due, office::hoursOfOil);
        Check.due("27 " + what, due, office::hoursOfOilByEnds);
    }

    private static void promise26And27HoursOfOil() {
        LampLeaseOffice office = Offices.with(2, 3, 2, 1);
        dueHours("no lease", Due.MISSING, office);
        office.lease(0, 0, 4);
        dueHours("no oil", 0, office);
        office.addOil(2);
        dueHours("too little oil", 0, office);
        office.addOil(1);
        dueHours("one hour", 1, office);
        office.addOil(8);
        dueHours("an hour is missing", 3, office);
        office.addOil(1);
        dueHours("just enough", Due.MISSING, office);
        office.lease(1, 1, 6);
        office.lease(0, 2, 4);
        // Four hours would take 24 units, of which there are 12.
        dueHours("two hours", 2, office);
        office.addOil(14);
        dueHours("five hours", 5, office);
        office.requestRenewal(1, 24);
        dueHours("requests do not count", 5, office);
        office.addOil(2);
        dueHours("enough for all", Due.MISSING, office);
        office.passHours(2);
        dueHours("later, with the renewal", 4, office);
        LampLeaseOffice late = Offices.with(1, 1);
        late.passHours(48);
        late.addOil(20);
        late.lease(0, 0, 24);
        dueHours("counted from now on", 20, late);
    }

    private static void promise28To30BrightLamps() {
        LampLeaseOffice office = Offices.with(2, 3, 1, 2, 1, 3);
        office.addOil(4);
        Check.same("28 no lease", 0, office.brightNext());
        Check.same("29 no lease", 0, office.mostBright());
        Check.same("30 no lease", 0, office.mostBrightBySums());
        for (int lamp = 0; lamp < 4; lamp++) {
            office.lease(lamp % 2, lamp, 5);
        }
        Check.same("28 in the order of the indices", 2, office.brightNext());
        Check.same("29 lower levels first", 3, office.mostBright());
        Check.same("30 lower levels first", 3, office.mostBrightBySums());
        Check.same("28 nothing burns", 4, office.oil());
        office.addOil(2);
        Check.same("28 a later lamp fits", 3, office.brightNext());
        office.addOil(200);
        Check.same("28 all", 4, office.brightNext());
        Check.same("29 all", 4, office.mostBright());
        Check.same("30 all", 4, office.mostBrightBySums());
        LampLeaseOffice skipping = Offices.with(1, 3, 3, 1);
        for (int lamp = 0; lamp < 3; lamp++) {
            skipping.lease(0, lamp, 1);
        }
        Check.same("29 no oil", 0, skipping.mostBright());
        Check.same("30 no oil", 0, skipping.mostBrightBySums());
        skipping.addOil(4);
        Check.same("28 a dark lamp between", 2, skipping.brightNext());
        LampLeaseOffice full = Offices.with(6, 3, 3, 3, 3, 3, 3, 3, 3);
        for (int lamp = 0; lamp < 8; lamp++) {
            full.lease(lamp % 6, lamp, 1);
        }
        full.addOil(23);
        Check.same("29 one unit is missing", 7, full.mostBright());
        Check.same("30 one unit is missing", 7, full.mostBrightBySums());
        full.addOil(1);
        Check.same("29 all sums", 8, full.mostBright());
        Check.same("30 all sums", 8, full.mostBrightBySums());
    }

    private static void dueShares(String what, LampLeaseOffice office, int... due) {
        for (int ship = 0; ship < due.length; ship++) {
            Check.same("31 " + what + ", ship " + ship, due[ship], office.share(ship));
            Check.same("32 " + what + ", ship " + ship, due[ship], office.shareByRank(ship));
        }
    }

    private static void promise31And32Shares() {
        LampLeaseOffice office = Offices.with(4, 3, 2, 1, 1, 1);
        office.addOil(11);
        dueShares("no demand", office, 0, 0, 0, 0);
        office.lease(1, 0, 9);
        office.lease(2, 1, 9);
        office.lease(3, 2, 9);
        // 33 / 6, 22 / 6 and 11 / 6: the remainders are 3, 4 and 5.
        dueShares("two units left", office, 0, 5, 4, 2);
        office.addOil(2);
        // 39 / 6, 26 / 6 and 13 / 6: the remainders are 3, 2 and 1.
        dueShares("one unit left", office, 0, 7, 4, 2);
        LampLeaseOffice even = Offices.with(3, 1, 1, 1);
        for (int ship = 0; ship < 3; ship++) {
            even.lease(ship, 2 - ship, 3);
        }
        dueShares("no oil", even, 0, 0, 0);
        even.addOil(1);
        dueShares("equal remainders", even, 1, 0, 0);
        even.addOil(1);
        dueShares("equal remainders, two units", even, 1, 1, 0);
        even.addOil(1);
        dueShares("nothing left", even, 1, 1, 1);
        Check.same("31 only computed", 3, even.oil());
        LampLeaseOffice undone = Offices.with(2, 1, 1, 3);
        undone.lease(0, 0, 5);
        undone.lease(1, 1, 5);
        undone.addOil(3);
        undone.addShip();
        undone.lease(2, 2, 5);
        undone.addOil(1);
        // 4 / 5, 4 / 5 and 12 / 5: the remainders are 4, 4 and 2.
        dueShares("a third ship", undone, 1, 1, 2);
        undone.undo();
        undone.undo();
        undone.undo();
        dueShares("the third ship is undone", undone, 2, 1);
        LampLeaseOffice two = Offices.with(2, 1);
        for (int wrong : NO_INDICES) {
            Check.due("31 no ship", Due.INDEX, () -> two.share(wrong));
            Check.due("32 no ship", Due.INDEX, () -> two.shareByRank(wrong));
        }
    }

    private static void promise33To35Queue() {
        LampLeaseOffice office = Offices.with(1, 1, 1, 1);
        Check.due("34 empty", Due.MISSING, () -> office.requestedLamp(0));
        Check.due("35 empty", Due.MISSING, () -> office.requestedHours(0));
        for (int lamp = 0; lamp < 3; lamp++) {
            office.lease(0, lamp, 2);
        }
        office.requestRenewal(2, 5);
        office.requestRenewal(0, 24);
        office.requestRenewal(1, 1);
        Check.same("33 requests", 3, office.requestCount());
        Check.same("34 first", 2, office.requestedLamp(0));
        Check.same("35 first", 5, office.requestedHours(0));
        Check.same("34 last", 1, office.requestedLamp(2));
        Check.same("35 last", 1, office.requestedHours(2));
        office.giveUp(0);
        Check.same("33 one less", 2, office.requestCount());
        Check.same("34 moved up", 1, office.requestedLamp(1));
        Check.same("35 moved up", 1, office.requestedHours(1));
        for (int wrong : NO_INDICES) {
            Check.due("34 no position", Due.MISSING, () -> office.requestedLamp(wrong));
            Check.due("35 no position", Due.MISSING, () -> office.requestedHours(wrong));
        }
        office.passHours(1);
        Check.same("33 none after an hour", 0, office.requestCount());
    }

    private static void promise36And37RefusedAndOfficeCoins() {
        LampLeaseOffice office = Offices.with(1, 3, 1);
        office.lease(0, 0, 24);
        office.lease(0, 1, 24);
        Check.same("37 leases", 96, office.officeCoins());
        office.requestRenewal(0, 2);
        office.requestRenewal(1, 5);
        office.passHours(1);
        Check.same("36 both refused", 2, office.refusedRenewals());
        Check.same("37 a fine", 100, office.officeCoins());
        office.requestRenewal(1, 1);
        office.passHours(1);
        Check.same("36 one more", 3, office.refusedRenewals());
        LampLeaseOffice rich = Offices.with(1, 2);
        rich.lease(0, 0, 1);
        rich.requestRenewal(0, 3);
        rich.addOil(9);
        rich.passHours(1);
        Check.same("36 not refused", 0, rich.refusedRenewals());
        Check.same("37 a renewal", 8, rich.officeCoins());
        rich.giveUp(0);
        Check.same("37 nothing paid back", 8, rich.officeCoins());
    }

    private static void promise38ShipByFines() {
        LampLeaseOffice office = Offices.with(4, 1, 1, 1);
        Check.same("38 by index", 2, office.shipByFines(2));
        office.lease(3, 0, 1);
        office.passHours(1);
        office.lease(2, 0, 2);
        Check.same("38 most fines", 3, office.shipByFines(0));
        Check.same("38 fewer coins", 2, office.shipByFines(1));
        Check.same("38 lower index", 0, office.shipByFines(2));
        Check.same("38 last", 1, office.shipByFines(3));
        Check.due("38 no such rank", Due.MISSING, () -> office.shipByFines(4));
        Check.due("38 negative rank", Due.MISSING, () -> office.shipByFines(-1));
        Check.due("38 least rank", Due.MISSING, () -> office.shipByFines(Integer.MIN_VALUE));
        Check.due("38 greatest rank", Due.MISSING, () -> office.shipByFines(Integer.MAX_VALUE));
        Check.due("38 no ships", Due.MISSING, () -> new LampLeaseOffice().shipByFines(0));
    }

    private static void promise39LampByEnd() {
        LampLeaseOffice office = Offices.with(2, 1, 2, 3, 3, 1);
        Check.due("39 no lease", Due.MISSING, () -> office.lampByEnd(0));
        office.lease(0, 0, 5);
        office.lease(1, 1, 7);
        office.lease(0, 2, 7);
        office.lease(1, 3, 7);
        Check.same("39 first end", 0, office.lampByEnd(0));
        Check.same("39 higher level", 2, office.lampByEnd(1));
        Check.same("39 lower index", 3, office.lampByEnd(2));
        Check.same("39 last", 1, office.lampByEnd(3));
        Check.due("39 no such rank", Due.MISSING, () -> office.lampByEnd(4));
        Check.due("39 negative rank", Due.MISSING, () -> office.lampByEnd(-1));
        Check.due("39 least rank", Due.MISSING, () -> office.lampByEnd(Integer.MIN_VALUE));
        Check.due("39 greatest rank", Due.MISSING, () -> office.lampByEnd(Integer.MAX_VALUE));
        office.giveUp(0);
        Check.same("39 leased lamps only", 2, office.lampByEnd(0));
    }

    private static void promise40And41Means() {
        LampLeaseOffice office = Offices.with(3, 1, 1, 1);
        Check.due("40 no ships", Due.ARITHMETIC, () -> new LampLeaseOffice().meanCoins());
        Check.due("41 no lamps", Due.ARITHMETIC, () -> new LampLeaseOffice().leasedShare());
        Check.same("40 at first", 100.0, office.meanCoins());
        Check.same("41 at first", 0f, office.leasedShare());
        office.lease(0, 0, 1);
        Check.same("40 a fraction", 299.0 / 3.0, office.meanCoins());
        Check.same("41 a fraction", 1f / 3f, office.leasedShare());
        office.lease(1, 1, 1);
        office.lease(1, 2, 1);
        Check.same("40 three leases", 99.0, office.meanCoins());
        Check.same("41 all", 1f, office.leasedShare());
    }

    private static void promise42Consistent() {
        LampLeaseOffice office = Offices.with(3, 3, 2, 1);
        Check.same("42 new", true, new LampLeaseOffice().isConsistent());
        office.addOil(17);
        Check.same("42 without demand", true, office.isConsistent());
        for (int lamp = 0; lamp < 3; lamp++) {
            office.lease(lamp, lamp, 3 + lamp);
        }
        office.requestRenewal(0, 24);
        for (int hour = 0; hour < 6; hour++) {
            Check.same("42 hour " + hour, true, office.isConsistent());
            office.passHours(1);
        }
    }

    /** No call leads to a state that is not consistent, so this test breaks one itself. */
    private static void promise42Inconsistent() throws ReflectiveOperationException {
        LampLeaseOffice coins = Offices.with(2, 1);
        putInt(inside(coins, "state"), "officeCoins", 1);
        Check.same("42 a coin too many", false, coins.isConsistent());
        LampLeaseOffice requests = Offices.with(2, 1);
        requests.lease(0, 0, 1);
        requests.requestRenewal(0, 1);
        Check.same("42 a request", true, requests.isConsistent());
        lampRow(requests, "lessees")[0] = -1;
        Check.same("42 a request without a lease", false, requests.isConsistent());
        LampLeaseOffice shares = Offices.with(2, 1);
        shares.lease(0, 0, 1);
        shares.addOil(10);
        Check.same("42 shares", true, shares.isConsistent());
        lampRow(shares, "lessees")[0] = 5;
        Check.same("42 the demand of no ship", false, shares.isConsistent());
        LampLeaseOffice bright = Offices.with(2, 1);
        bright.lease(0, 0, 1);
        bright.addOil(10);
        lampRow(bright, "levels")[0] = 4;
        Check.same("42 a lamp that one way does not count", false, bright.isConsistent());
    }

    private static int[] lampRow(LampLeaseOffice office, String name)
            throws ReflectiveOperationException {
        return (int[]) inside(inside(inside(office, "state"), "lamps"), name);
    }

    private static Object inside(Object holder, String name) throws ReflectiveOperationException {
        Field field = holder.getClass().getDeclaredField(name);
        field.setAccessible(true);
        return field.get(holder);
    }

    private static void putInt(Object holder, String name, int number)
            throws ReflectiveOperationException {
        Field field = holder.getClass().getDeclaredField(name);
        field.setAccessible(true);
        field.setInt(holder, number);
    }

    private static void promise43Feed() {
        LampLeaseOffice office = new LampLeaseOffice();
        char[] signs = {'x', 0, '\uffff', ';', ' ', '\u20ac'};
        for (int length = 1; length <= 60; length++) {
            Check.same("43 length", length, office.feed(signs[length % signs.length]));
        }
        Check.due("43 full", Due.STATE, () -> office.feed('x'));
        Check.due("43 the text is malformed", Due.ARGUMENT, office::runCommands);
        Check.same("43 empty again", 1, office.feed('x'));
        Check.same("43 not recorded", 0, office.undoCount());
    }

    private static void promise44RunCommands() {
        LampLeaseOffice office = new LampLeaseOffice();
        Check.same("44 empty text", Due.ARGUMENT, Offices.run(office, ""));
        Check.same("44 one command", 1, Offices.run(office, "ship"));
        Check.same("44 buffer empty after a run", 1, office.feed('s'));
        Check.same("44 a text goes on", 2, Offices.run(office, "hip;lamp 2"));
        Check.same("44 malformed", Due.ARGUMENT, Offices.run(office, "ship;ship;shp"));
        Check.same("44 nothing of a malformed text", 2, office.shipCount());
        Check.same("44 buffer empty after malformed", 1, Offices.run(office, "wait"));
        Check.same("44 failed", Due.UNSUPPORTED, Offices.run(office, "oil 5;wait;lease 0 0 9;drop 5"));
        Check.same("44 the oil from before", 0, office.oil());
        Check.same("44 the hour from before", 1, office.hour());
        Check.same("44 the coins from before", 100, office.coins(0));
        Check.same("44 the lamp from before", false, office.isLeased(0));
        Check.same("44 buffer empty after a failure", 1, Offices.run(office, "wait"));
        Check.same("44 recorded runs", 4, office.undoCount());
        String most = "wait;wait;wait;wait;wait;wait;wait;wait;wait;wait;wait;wait";
        Check.same("44 most commands", 12, Offices.run(office, most));
        Check.same("44 most hours", 14, office.hour());
        Check.same("44 full buffer", Due.ARGUMENT, Offices.run(office, most + ";"));
        Check.same("44 error at the end", 60, office.errorPosition());
    }

    private static void promise44EveryCommand() {
        LampLeaseOffice office = new LampLeaseOffice();
        Check.same("44 all", 7, Offices.run(office,
                "ship;lamp 3;oil 123;lease 0 0 24;renew 0 08;wait;drop 0"));
        Check.same("44 ship", 1, office.shipCount());
        Check.same("44 lamp", 3, office.level(0));
        Check.same("44 oil", 120, office.oil());
        Check.same("44 lease and renewal", 4, office.coins(0));
        Check.same("44 wait", 1, office.hour());
        Check.same("44 drop", false, office.isLeased(0));
        Check.same("44 numbers", 4, Offices.run(office, "wait 48;wait 1;wait 09;oil 7"));
        Check.same("44 hours", 59, office.hour());
        Check.same("44 oil of one digit", 127, office.oil());
        Check.same("44 leading noughts", 3, Offices.run(office, "oil 007;oil 01;lease 0 0 01"));
        Check.same("44 more oil", 135, office.oil());
        Check.same("44 end hour", 60, office.endHour(0));
        LampLeaseOffice six = Offices.with(6, 1, 1, 1, 1, 1, 1, 1, 1);
        Check.same("44 the last indices", 2, Offices.run(six, "lease 5 7 2;renew 7 24"));
        Check.same("44 lessee", 5, six.lessee(7));
        Check.same("44 renewal", 24, six.requestedHours(0));
        Check.same("44 dropped", 1, Offices.run(six, "drop 7"));
    }

    private static void promise44NothingOfAnEarlierText() {
        LampLeaseOffice office = new LampLeaseOffice();
        Offices.run(office, "ship");
        Check.same("44 two letters", Due.ARGUMENT, Offices.run(office, "sh"));
        Check.same("45 two letters", 2, office.errorPosition());
        Offices.run(office, "ship");
        Check.same("44 three letters", Due.ARGUMENT, Offices.run(office, "shi"));
        Check.same("45 three letters", 3, office.errorPosition());
        Offices.run(office, "wait 23;ship");
        Check.same("44 without a number", 1, Offices.run(office, "wait"));
        Check.same("44 one hour more", 24, office.hour());
        Offices.run(office, "wait 16;ship");
        Check.same("44 one digit", 1, Offices.run(office, "wait 2"));
        Check.same("44 two hours more", 42, office.hour());
        Offices.run(office, "wait 1");
        Check.same("44 no digit", Due.ARGUMENT, Offices.run(office, "wait "));
        Check.same("45 no digit", 5, office.errorPosition());
    }

    private static void dueError(int position, String text) {
        LampLeaseOffice office = Offices.with(6, 1, 1, 1, 1, 1, 1, 1, 1);
        Check.same("45 " + text, Due.ARGUMENT, Offices.run(office, text));
        Check.same("45 position in " + text, position, office.errorPosition());
    }

    private static void promise45ErrorPosition() {
        Check.due("45 no text", Due.MISSING, () -> new LampLeaseOffice().errorPosition());
        dueError(0, "");
        dueError(0, "x");
        dueError(0, ";ship");
        dueError(0, " ship");
        dueError(0, "Ship");
        dueError(1, "sHip");
        dueError(1, "lx");
        dueError(1, "l");
        dueError(1, "lo");
        dueError(3, "lea 0");
        dueError(3, "lam");
        dueError(4, "lamp");
        dueError(4, "lamp;");
        dueError(4, "shipx");
        dueError(4, "ship 1");
        dueError(5, "ship;");
        dueError(5, "ship;;");
        dueError(5, "ship; ship");
        dueError(5, "lamp ");
        dueError(5, "lamp  1");
        dueError(6, "lamp 12");
        dueError(6, "lamp 1 ");
        dueError(3, "oil");
        dueError(4, "oil x");
        dueError(4, "oil -1");
        dueError(7, "oil 1234");
        dueError(6, "oil 12 ");
        dueError(5, "lease");
        dueError(5, "lease;ship");
        dueError(7, "lease 1");
        dueError(7, "lease 12 1 1");
        dueError(9, "lease 1 12 1");
        dueError(9, "lease 1 1");
        dueError(10, "lease 1 1 ");
        dueError(12, "lease 1 1 123");
        dueError(5, "renew");
        dueError(5, "renew;ship");
        dueError(7, "renew 1");
        dueError(7, "renew 12 1");
        dueError(10, "renew 1 123");
        dueError(4, "drop");
        dueError(4, "drop;ship");
        dueError(5, "drop ");
        dueError(6, "drop 12");
        dueError(5, "wait ");
        dueError(5, "wait ;");
        dueError(7, "wait 123");
        dueError(4, "waits");
        dueError(7, "wait 1;");
        dueError(5, "oil 1\u0663");
        dueError(0, "\u0173hip");
        LampLeaseOffice office = new LampLeaseOffice();
        Offices.run(office, "oil 1x");
        Offices.run(office, "ship");
        Offices.run(office, "drop 0");
        Check.same("45 of the latest malformed text", 5, office.errorPosition());
        Offices.run(office, "w");
        Check.same("45 of a later malformed text", 1, office.errorPosition());
        Check.due("46 malformed is no failure of w", 0, office::failedCommand);
    }

    private static void promise46And47Failures() {
        LampLeaseOffice office = new LampLeaseOffice();
        Check.due("46 none", Due.MISSING, office::failedCommand);
        Check.due("47 none", Due.MISSING, office::failureReason);
        Offices.run(office, "nonsense");
        Check.due("46 malformed is no failure", Due.MISSING, office::failedCommand);
        Check.due("47 malformed is no failure", Due.MISSING, office::failureReason);
        Offices.run(office, "ship;lamp 1;drop 0");
        Check.same("46 third", 2, office.failedCommand());
        Check.same("47 not leased", 'n', office.failureReason());
        Check.due("45 failed is not malformed", 0, office::errorPosition);
        Offices.run(office, "ship");
        Check.same("46 kept by a good run", 2, office.failedCommand());
        Offices.run(office, "lamp 9");
        Check.same("46 first", 0, office.failedCommand());
        Check.same("47 level", 'a', office.failureReason());
        Check.due("5 a failed call of a method", Due.INDEX, () -> office.lease(0, 0, 1));
        Check.same("46 not of a method", 0, office.failedCommand());
    }

    private static void dueReason(char reason, int command, String text) {
        LampLeaseOffice office = Offices.with(6, 3, 3, 1, 1, 1, 1, 1);
        office.addOil(200);
        office.addOil(200);
        office.lease(0, 0, 24);
        Check.same("47 " + text, Due.UNSUPPORTED, Offices.run(office, text));
        Check.same("46 command in " + text, command, office.failedCommand());
        Check.same("47 reason in " + text, reason, office.failureReason());
    }

    private static void promise47Reasons() {
        dueReason('s', 0, "ship");
        dueReason('s', 1, "lamp 1;lamp 1");
        dueReason('a', 0, "lamp 0");
        dueReason('a', 0, "lamp 4");
        dueReason('a', 0, "oil 0");
        dueReason('a', 0, "oil 201");
        dueReason('s', 0, "oil 101");
        dueReason('i', 0, "lease 6 1 1");
        dueReason('i', 0, "lease 0 7 1");
        dueReason('i', 0, "lease 9 9 0");
        dueReason('a', 0, "lease 0 0 0");
        dueReason('a', 0, "lease 0 0 25");
        dueReason('s', 0, "lease 0 0 24");
        dueReason('u', 0, "lease 0 1 24");
        dueReason('i', 0, "renew 7 0");
        dueReason('a', 0, "renew 1 0");
        dueReason('a', 0, "renew 0 25");
        dueReason('n', 0, "renew 1 1");
        dueReason('s', 1, "renew 0 1;renew 0 1");
        dueReason('i', 0, "drop 7");
        dueReason('n', 1, "drop 0;drop 0");
        dueReason('a', 0, "wait 0");
        dueReason('a', 2, "wait;wait;wait 49");
    }

    private static void promise48And49Output() {
        LampLeaseOffice office = Offices.with(3, 3, 1, 2);
        Check.due("49 at first", Due.INDEX, () -> office.outputChar(0));
        Check.same("48 not leased", "3 1 2", Offices.output(office));
        office.lease(0, 0, 12);
        office.lease(2, 2, 5);
        office.requestRenewal(0, 1);
        Check.same("49 not yet written", '1', office.outputChar(2));
        Check.same("48 length", 15, office.writeLamps());
        Check.same("48 the example", "3s0e12r 1 2s2e5", Offices.output(office));
        Check.due("49 behind the end", Due.INDEX, () -> office.outputChar(15));
        Check.due("49 negative", Due.INDEX, () -> office.outputChar(-1));
        Check.due("49 least", Due.INDEX, () -> office.outputChar(Integer.MIN_VALUE));
        Check.due("49 greatest", Due.INDEX, () -> office.outputChar(Integer.MAX_VALUE));
        for (int days = 0; days < 50; days++) {
            office.passHours(24);
        }
        office.lease(1, 1, 24);
        Check.same("48 late", "3 1s1e1224 2", Offices.output(office));
        Check.same("48 shorter than before", 12, office.writeLamps());
        Check.due("49 of the output before", Due.INDEX, () -> office.outputChar(12));
        Check.same("48 no lamps", "", Offices.output(new LampLeaseOffice()));
    }

    private static void promise50And51Undo() {
        LampLeaseOffice office = new LampLeaseOffice();
        Check.due("51 nothing yet", Due.STATE, office::undo);
        for (int calls = 1; calls <= 12; calls++) {
            office.addOil(calls);
            Check.same("50 after " + calls + " calls", Math.min(calls, 8), office.undoCount());
        }
        int oil = office.oil();
        for (int calls = 12; calls > 4; calls--) {
            Check.same("51 still to undo", calls - 5, office.undo());
            oil -= calls;
            Check.same("51 oil", oil, office.oil());
        }
        Check.due("51 no more", Due.STATE, office::undo);
        Check.same("51 the oldest calls stay", 10, office.oil());
        office.addOil(90);
        office.addOil(50);
        Check.same("50 again", 2, office.undoCount());
        Check.same("51 one of two", 1, office.undo());
        Check.same("51 the later is undone", 100, office.oil());
        Check.due("4 a refused call", Due.ARGUMENT, () -> office.addOil(0));
        Check.same("50 refused calls are not recorded", 1, office.undoCount());
        office.oil();
        office.save();
        office.writeLamps();
        Check.same("50 other calls are not recorded", 1, office.undoCount());
    }

    private static void promise51UndoOfEachCall() {
        LampLeaseOffice office = Offices.with(2, 2, 3);
        office.addOil(3);
        office.lease(1, 1, 4);
        office.requestRenewal(1, 2);
        office.giveUp(1);
        Check.same("51 a given up lease", 7, office.undo());
        Check.same("51 its lessee", 1, office.lessee(1));
        Check.same("51 its end hour", 4, office.endHour(1));
        Check.same("51 its request", 2, office.requestedHours(0));
        office.passHours(6);
        Check.same("51 passed hours", 7, office.undo());
        Check.same("51 the hour", 0, office.hour());
        Check.same("51 the oil", 3, office.oil());
        Check.same("51 the coins", 88, office.coins(1));
        Check.same("51 the fines", 0, office.finesPaid(1));
        Check.same("51 the dark hours", 0, office.darkHours(1));
        Check.same("51 the bright hours", 0, office.brightHours(1));
        Check.same("51 the brightness", false, office.wasBright(1));
        Check.same("51 the request", 1, office.requestCount());
        Check.same("51 the office", 12, office.officeCoins());
        office.undo();
        Check.same("51 a request", 0, office.requestCount());
        office.undo();
        Check.same("51 a lease", false, office.isLeased(1));
        Check.same("51 its price", 100, office.coins(1));
        office.undo();
        Check.same("51 added oil", 0, office.oil());
        office.undo();
        Check.same("51 an added lamp", 1, office.lampCount());
        office.undo();
        office.undo();
        Check.same("51 an added ship", 1, office.shipCount());
        Check.same("51 the index is free again", 1, office.addShip());
        Check.same("51 new coins", 100, office.coins(1));
    }

    private static void promise51UndoOfRows() {
        LampLeaseOffice office = Offices.with(1, 1, 2);
        office.addOil(1);
        office.lease(0, 0, 5);
        office.lease(0, 1, 5);
        office.requestRenewal(1, 4);
        office.requestRenewal(0, 6);
        office.giveUp(1);
        office.undo();
        Check.same("51 the first request", 1, office.requestedLamp(0));
        Check.same("51 its hours", 4, office.requestedHours(0));
        Check.same("51 the second request", 0, office.requestedLamp(1));
        Check.same("51 the hours of the second", 6, office.requestedHours(1));
        office.passHours(1);
        Check.same("22 bright", true, office.wasBright(0));
        office.passHours(1);
        Check.same("22 dark", false, office.wasBright(0));
        office.undo();
        Check.same("51 bright again", true, office.wasBright(0));
        office.undo();
        Check.same("51 dark again", false, office.wasBright(0));
        office.addLamp(1);
        office.save();
        office.undo();
        office.addLamp(3);
        office.restore();
        Check.same("53 the saved level", 1, office.level(2));
        LampLeaseOffice fined = Offices.with(0, 1);
        fined.addShip();
        fined.lease(0, 0, 1);
        fined.passHours(1);
        for (int call = 0; call < 3; call++) {
            fined.undo();
        }
        fined.addShip();
        Check.same("51 a new ship has paid nothing", 0, fined.finesPaid(0) + fined.darkHours(0));
        Check.same("51 a new ship has all its coins", 100, fined.coins(0));
    }

    private static void promise51WhatUndoLeaves() {
        LampLeaseOffice office = Offices.with(1, 1);
        Check.same("51 three commands", 3, Offices.run(office, "oil 9;lease 0 0 3;wait 2"));
        Check.same("50 one call", 3, office.undoCount());
        Offices.output(office);
        Offices.run(office, "oil 9x");
        Offices.run(office, "drop 8");
        office.feed('s');
        Check.same("51 a run", 2, office.undo());
        Check.same("51 all its commands", 0, office.oil() + office.hour() + office.leasedLamps());
        Check.same("51 the output stays", 's', office.outputChar(1));
        Check.same("51 the error position stays", 5, office.errorPosition());
        Check.same("51 the failed command stays", 0, office.failedCommand());
        Check.same("51 the reason stays", 'i', office.failureReason());
        Check.same("51 the input buffer stays", 2, office.feed('h'));
        LampLeaseOffice refusing = Offices.with(1, 3, 2);
        refusing.lease(0, 0, 24);
        refusing.lease(0, 1, 14);
        refusing.requestRenewal(0, 1);
        refusing.passHours(1);
        Check.same("36 refused", 1, refusing.refusedRenewals());
        refusing.undo();
        Check.same("51 the refusals", 0, refusing.refusedRenewals());
    }

    private static void promise52And53SaveAndRestore() {
        LampLeaseOffice office = Offices.with(1, 2, 1);
        Check.due("53 nothing saved", Due.STATE, office::restore);
        office.addOil(50);
        office.lease(0, 0, 5);
        office.requestRenewal(0, 3);
        Check.same("52 lamps", 2, office.save());
        office.passHours(20);
        office.addShip();
        office.addLamp(3);
        Offices.output(office);
        Offices.run(office, "oil x");
        Offices.run(office, "drop 1");
        office.feed('s');
        Check.same("53 lamps", 2, office.restore());
        Check.same("53 ships", 1, office.shipCount());
        Check.same("53 lamp", 2, office.lampCount());
        Check.same("53 oil", 50, office.oil());
        Check.same("53 hour", 0, office.hour());
        Check.same("53 coins", 90, office.coins(0));
        Check.same("53 lease", 5, office.endHour(0));
        Check.same("53 request", 3, office.requestedHours(0));
        Check.same("53 office", 10, office.officeCoins());
        Check.same("53 bright hours", 0, office.brightHours(0));
        Check.same("53 nothing to undo", 0, office.undoCount());
        Check.due("53 no undo", Due.STATE, office::undo);
        Check.same("53 the output stays", '1', office.outputChar(2));
        Check.same("53 the error position stays", 4, office.errorPosition());
        Check.same("53 the reason stays", 'n', office.failureReason());
        Check.same("53 the input buffer stays", 2, office.feed('h'));
        office.addLamp(1);
        Check.same("53 again", 2, office.restore());
        Check.same("53 kept", 2, office.lampCount());
        office.addLamp(1);
        Check.same("52 replaced", 3, office.save());
        office.undo();
        Check.same("52 not undone", 3, office.restore());
        Check.same("53 the later state", 3, office.lampCount());
    }
}
