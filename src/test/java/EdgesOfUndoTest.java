import java.util.ArrayList;
import java.util.List;
import java.util.function.Consumer;
import java.util.function.Function;

/**
 * The term Undo, promises 50 to 53, and the limit of 512 calls: for each sentence of the document
 * that names an edge, a test of its own.
 */
final class EdgesOfUndoTest {
    private static final List<Consumer<LampLeaseOffice>> RECORDED = List.of(
            LampLeaseOffice::addShip,
            office -> office.addLamp(2),
            office -> office.addOil(3),
            office -> office.lease(0, 3, 2),
            office -> office.requestRenewal(1, 2),
            office -> office.giveUp(0),
            office -> office.giveUp(1),
            office -> office.passHours(1),
            office -> office.passHours(48),
            office -> Offices.run(office, "wait"),
            office -> Offices.run(office, "ship;lamp 1;oil 9;lease 0 3 2;renew 1 9;wait 3;drop 1"));
    private static final List<Consumer<LampLeaseOffice>> REFUSED = List.of(
            office -> office.addLamp(0),
            office -> office.addOil(0),
            office -> office.lease(0, 0, 1),
            office -> office.requestRenewal(0, 1),
            office -> office.giveUp(3),
            office -> office.passHours(0),
            office -> Offices.run(office, "x"),
            office -> Offices.run(office, "ship;oil 0"));
    private static final List<Consumer<LampLeaseOffice>> NOT_RECORDED = List.of(
            Questions::state,
            Questions::texts,
            LampLeaseOffice::writeLamps,
            LampLeaseOffice::save,
            office -> office.feed('x'));

    public static void main(String[] args) throws ReflectiveOperationException {
        Check.runAll(EdgesOfUndoTest.class);
    }

    /** The same office as Offices.idle(), with no call to undo. */
    private static LampLeaseOffice unrecorded() {
        LampLeaseOffice office = Offices.idle();
        office.save();
        office.restore();
        return office;
    }

    private static LampLeaseOffice afterOil(int calls) {
        LampLeaseOffice office = new LampLeaseOffice();
        for (int call = 0; call < calls; call++) {
            office.addOil(1);
        }
        return office;
    }

    // ---- promise 50: from 0 to 8 ----

    static void aNewOfficeHasNoCallToUndo() {
        Check.same("50 new", 0, new LampLeaseOffice().undoCount());
    }

    static void atMostTheEightLatestCallsCanBeUndone() {
        for (int calls = 0; calls <= 30; calls++) {
            Check.same("50 after " + calls, Math.min(calls, 8), afterOil(calls).undoCount());
        }
    }

    static void everyRecordedCallCountsAsOne() {
        for (int at = 0; at < RECORDED.size(); at++) {
            LampLeaseOffice office = unrecorded();
            RECORDED.get(at).accept(office);
            Check.same("50 recorded call " + at, 1, office.undoCount());
        }
    }

    static void aRefusedCallDoesNotCount() {
        for (int at = 0; at < REFUSED.size(); at++) {
            LampLeaseOffice office = unrecorded();
            Consumer<LampLeaseOffice> refused = REFUSED.get(at);
            Check.outcome(() -> {
                refused.accept(office);
                return 0;
            });
            Check.same("50 refused call " + at, 0, office.undoCount());
        }
    }

    static void noOtherCallCounts() {
        for (int at = 0; at < NOT_RECORDED.size(); at++) {
            LampLeaseOffice office = unrecorded();
            office.addShip();
            NOT_RECORDED.get(at).accept(office);
            Check.same("50 other call " + at, 1, office.undoCount());
        }
    }

    static void aRunOfTwelveCommandsCountsAsOne() {
        LampLeaseOffice office = new LampLeaseOffice();
        Offices.run(office, "wait;wait;wait;wait;wait;wait;wait;wait;wait;wait;wait;wait");
        Check.same("50 one run", 1, office.undoCount());
        Check.same("51 undone at once", 0, office.undo());
        Check.same("9 hour", 0, office.hour());
    }

    // ---- promise 51 ----

    static void withoutACallToUndoUndoIsRefused() {
        Refusal.of("51 new", Due.STATE, LampLeaseOffice::new, LampLeaseOffice::undo);
        Refusal.of("51 nothing recorded", Due.STATE, EdgesOfUndoTest::unrecorded,
                LampLeaseOffice::undo);
    }

    static void afterTheLastCallIsUndoneUndoIsRefused() {
        Refusal.of("51 one call", Due.STATE, () -> {
            LampLeaseOffice office = unrecorded();
            office.addShip();
            office.undo();
            return office;
        }, LampLeaseOffice::undo);
    }

    static void aNinthUndoIsRefused() {
        Refusal.of("51 ninth", Due.STATE, () -> {
            LampLeaseOffice office = Offices.busy();
            for (int undo = 0; undo < 8; undo++) {
                office.undo();
            }
            return office;
        }, LampLeaseOffice::undo);
    }

    static void everyRecordedCallCanBeUndone() {
        for (int at = 0; at < RECORDED.size(); at++) {
            LampLeaseOffice office = unrecorded();
            String before = Questions.state(office);
            RECORDED.get(at).accept(office);
            Check.same("51 changed by call " + at, false, before.equals(Questions.state(office)));
            Check.same("51 none left", 0, office.undo());
            Check.same("51 recorded call " + at, before, Questions.state(office));
        }
    }

    static void theOldestCallsStayAsOftenAsTheRowComesRound() {
        for (int calls = 0; calls <= 40; calls++) {
            LampLeaseOffice office = afterOil(calls);
            int left = office.undoCount();
            while (left > 0) {
                left--;
                Check.same("51 still to undo", left, office.undo());
            }
            Check.same("51 after " + calls, Math.max(calls - 8, 0), office.oil());
        }
    }

    static void undoneCallsMakeRoomForNewOnes() {
        for (int calls = 0; calls <= 20; calls++) {
            for (int undone = 0; undone <= Math.min(calls, 8); undone++) {
                LampLeaseOffice office = afterOil(calls);
                List<Integer> before = new ArrayList<>();
                for (int oil = Math.max(calls - 8, 0); oil < calls; oil++) {
                    before.add(oil);
                }
                for (int undo = 0; undo < undone; undo++) {
                    office.undo();
                    before.remove(before.size() - 1);
                }
                for (int more = 0; more < 5; more++) {
                    before.add(office.oil());
                    office.addOil(7);
                }
                undoAll(office, before.subList(Math.max(before.size() - 8, 0), before.size()));
            }
        }
    }

    private static void undoAll(LampLeaseOffice office, List<Integer> oilBefore) {
        Check.same("50 calls", oilBefore.size(), office.undoCount());
        for (int left = oilBefore.size() - 1; left >= 0; left--) {
            Check.same("51 still to undo", left, office.undo());
            Check.same("51 oil", oilBefore.get(left), office.oil());
        }
        Check.due("51 no more", Due.STATE, office::undo);
    }

    static void eightDifferentCallsAreUndoneOneByOne() {
        int[] calls = {0, 1, 2, 3, 4, 5, 7, 9};
        for (int undos = 1; undos <= 8; undos++) {
            LampLeaseOffice before = Offices.idle();
            LampLeaseOffice office = Offices.idle();
            for (int call = 0; call < 8; call++) {
                RECORDED.get(calls[call]).accept(office);
                if (call < 8 - undos) {
                    RECORDED.get(calls[call]).accept(before);
                }
            }
            for (int undo = 1; undo <= undos; undo++) {
                Check.same("51 still to undo", 8 - undo, office.undo());
            }
            Check.same("51 undone " + undos, withoutUndoCount(Questions.state(before)),
                    withoutUndoCount(Questions.state(office)));
        }
    }

    private static String withoutUndoCount(String state) {
        return state.replaceAll("undoCount \\d; ", "");
    }

    static void anUndoneCallIsNotCarriedOutAgain() {
        LampLeaseOffice office = Offices.with(2, 1);
        office.lease(0, 0, 3);
        office.undo();
        Check.same("5 leased anew", 4, office.lease(1, 0, 4));
        Check.same("19 the later ship", 1, office.lessee(0));
        office.passHours(3);
        Check.same("8 not the undone end", true, office.isLeased(0));
    }

    static void aRefusedRenewalIsUndone() {
        LampLeaseOffice office = Offices.idle();
        office.passHours(1);
        office.requestRenewal(2, 24);
        office.passHours(1);
        Check.same("36 refused", 2, office.refusedRenewals());
        office.undo();
        Check.same("36 undone", 1, office.refusedRenewals());
    }

    static void aShipInPlaceOfAnUndoneOneHasPaidNothing() {
        LampLeaseOffice office = Offices.with(0, 1);
        Offices.run(office, "ship;lease 0 0 5;wait 3");
        Check.same("12 fined", 6, office.finesPaid(0));
        office.undo();
        office.addShip();
        Check.same("11 coins", 100, office.coins(0));
        Check.same("12 fines", 0, office.finesPaid(0));
        Check.same("13 dark hours", 0, office.darkHours(0));
    }

    static void aLampInPlaceOfAnUndoneOneWasNotBright() {
        LampLeaseOffice office = Offices.withOil(9, 1);
        Offices.run(office, "lamp 2;lease 0 0 5;renew 0 3;wait 3");
        Check.same("21 bright hours", 3, office.brightHours(0));
        office.undo();
        office.addLamp(3);
        Check.same("17 level", 3, office.level(0));
        Check.same("18 leased", false, office.isLeased(0));
        Check.same("21 no bright hour", 0, office.brightHours(0));
        Check.same("22 not bright", false, office.wasBright(0));
        office.undo();
        office.addLamp(1);
        office.lease(0, 0, 2);
        Check.same("6 no request", 0, office.requestRenewal(0, 1));
    }

    // ---- what is not part of the undone or saved state ----

    private static void keepsTheTexts(String what, Function<LampLeaseOffice, Object> back) {
        LampLeaseOffice office = Offices.idle();
        office.addOil(1);
        office.addLamp(2);
        office.writeLamps();
        Offices.run(office, "wait 3x");
        Offices.run(office, "oil 1;oil 2;oil 0");
        Offices.feed(office, "wait;shi");
        String before = Questions.texts(office);
        back.apply(office);
        Check.same(what + ", texts", before, Questions.texts(office));
        Check.same(what + ", error position", 6, office.errorPosition());
        Check.same(what + ", failed command", 2, office.failedCommand());
        Check.same(what + ", reason", 'a', office.failureReason());
        Check.same(what + ", input buffer", 9, office.feed('p'));
        Check.same(what + ", its text", 2, Check.outcome(office::runCommands));
    }

    static void undoKeepsTheTexts() {
        keepsTheTexts("51 once", LampLeaseOffice::undo);
        keepsTheTexts("51 often", office -> {
            while (office.undoCount() > 0) {
                office.undo();
            }
            return 0;
        });
    }

    static void restoreKeepsTheTexts() {
        keepsTheTexts("53", LampLeaseOffice::restore);
    }

    static void undoneRunsKeepTheInputBufferEmpty() {
        LampLeaseOffice office = new LampLeaseOffice();
        Offices.run(office, "ship");
        office.undo();
        Check.same("51 still empty", 1, office.feed('x'));
    }

    // ---- promise 52 ----

    static void anOfficeWithoutLampsCanBeSaved() {
        LampLeaseOffice office = new LampLeaseOffice();
        String before = Questions.state(office);
        Check.same("52 lamps", 0, office.save());
        Offices.run(office, "ship;lamp 3;oil 9;lease 0 0 5;renew 0 3;wait 2");
        Check.same("53 lamps", 0, office.restore());
        Check.same("53 as it was", before, Questions.state(office));
    }

    static void anOfficeWithEightLampsCanBeSaved() {
        LampLeaseOffice office = Offices.withOil(500, 6, 1, 2, 3, 1, 2, 3, 1, 2);
        for (int lamp = 0; lamp < 8; lamp++) {
            office.lease(lamp % 6, lamp, 9);
            office.requestRenewal(lamp, 2);
        }
        String before = withoutUndoCount(Questions.state(office));
        Check.same("52 lamps", 8, office.save());
        office.passHours(40);
        Check.same("53 lamps", 8, office.restore());
        Check.same("53 as it was", before, withoutUndoCount(Questions.state(office)));
    }

    static void savingChangesNothing() {
        LampLeaseOffice office = Offices.busy();
        String before = Questions.state(office) + Questions.texts(office);
        office.save();
        Check.same("52 state", before, Questions.state(office) + Questions.texts(office));
    }

    static void anEarlierSavedStateIsReplaced() {
        LampLeaseOffice office = new LampLeaseOffice();
        office.save();
        office.addLamp(1);
        Check.same("52 one lamp", 1, office.save());
        office.addLamp(1);
        Check.same("53 the later state", 1, office.restore());
        Check.same("16 lamps", 1, office.lampCount());
    }

    static void refusalsAndDarkAndBrightHoursAreSaved() {
        LampLeaseOffice office = Offices.idle();
        String before = withoutUndoCount(Questions.state(office));
        Check.same("36 a refused renewal", 1, office.refusedRenewals());
        Check.same("13 a dark hour", 1, office.darkHours(1));
        Check.same("21 bright hours", 2, office.brightHours(0));
        office.save();
        office.passHours(1);
        office.requestRenewal(2, 24);
        office.addOil(50);
        office.passHours(30);
        Check.same("36 refused again", 2, office.refusedRenewals());
        office.restore();
        Check.same("53 as it was", before, withoutUndoCount(Questions.state(office)));
    }

    // ---- promise 53 ----

    static void withoutASavedStateRestoreIsRefused() {
        Refusal.of("53 new", Due.STATE, LampLeaseOffice::new, LampLeaseOffice::restore);
        Refusal.of("53 nothing saved", Due.STATE, () -> {
            LampLeaseOffice office = Offices.withOil(5, 2, 1, 2);
            office.lease(1, 1, 3);
            Offices.feed(office, "shi");
            return office;
        }, LampLeaseOffice::restore);
    }

    static void theSavedStateIsKept() {
        LampLeaseOffice office = Offices.idle();
        office.restore();
        String saved = Questions.state(office);
        for (int time = 0; time < 2; time++) {
            Offices.run(office, "ship;lamp 3;oil 9;lease 0 3 5;renew 0 3;wait 9");
            Check.same("53 lamps", 4, office.restore());
            Check.same("53 as before", saved, Questions.state(office));
        }
        Check.same("53 twice in a row", 4, office.restore());
        Check.same("53 still as before", saved, Questions.state(office));
    }

    static void noCallCanBeUndoneAfterRestore() {
        LampLeaseOffice office = Offices.idle();
        Check.same("50 before", 8, office.undoCount());
        office.restore();
        Check.same("50 afterwards", 0, office.undoCount());
        Refusal.of("51 afterwards", Due.STATE, () -> {
            LampLeaseOffice restored = Offices.busy();
            restored.restore();
            return restored;
        }, LampLeaseOffice::undo);
    }

    static void callsAfterRestoreCanBeUndone() {
        for (int calls = 1; calls <= 12; calls++) {
            LampLeaseOffice office = Offices.idle();
            office.restore();
            String restored = withoutUndoCount(Questions.state(office));
            int oil = office.oil();
            for (int call = 0; call < calls; call++) {
                office.addOil(1);
            }
            for (int left = Math.min(calls, 8) - 1; left >= 0; left--) {
                Check.same("51 still to undo", left, office.undo());
            }
            Check.due("51 not beyond", Due.STATE, office::undo);
            Check.same("51 oil", oil + Math.max(calls - 8, 0), office.oil());
            if (calls <= 8) {
                Check.same("51 as restored", restored, withoutUndoCount(Questions.state(office)));
            }
        }
    }

    static void undoDoesNotUndoTheSaving() {
        LampLeaseOffice office = new LampLeaseOffice();
        office.addLamp(1);
        office.save();
        office.undo();
        Check.same("16 undone", 0, office.lampCount());
        Check.same("53 the saved lamp", 1, office.restore());
        Check.same("17 its level", 1, office.level(0));
    }

    static void aRestoredLampHasItsSavedLevel() {
        LampLeaseOffice office = new LampLeaseOffice();
        office.addLamp(1);
        office.save();
        office.undo();
        office.addLamp(3);
        office.restore();
        Check.same("17 level", 1, office.level(0));
    }

    // ---- "An object is used for at most 512 calls" ----

    static void the512thCallAnswersAsTheFirst() {
        LampLeaseOffice office = new LampLeaseOffice();
        for (int call = 0; call < 511; call++) {
            office.passHours(48);
        }
        Check.same("9 the 512th call", 511 * 48, office.hour());
    }

    static void a512thCallCanUndo() {
        LampLeaseOffice office = new LampLeaseOffice();
        for (int call = 0; call < 255; call++) {
            office.addOil(1);
            office.undo();
        }
        office.addOil(200);
        Check.same("51 the 512th call", 0, office.undo());
    }

    static void aLateHourIsWrittenInFull() {
        LampLeaseOffice office = Offices.with(1, 1);
        for (int call = 0; call < 490; call++) {
            office.passHours(48);
        }
        Check.same("5 late end", 23544, office.lease(0, 0, 24));
        Check.same("48 length", 9, office.writeLamps());
        Check.same("48 five digits", "1s0e23544", Offices.writtenOutput(office));
    }
}
