import java.util.function.Supplier;

/**
 * The term Commands and promises 43 to 47 at their edges: for each sentence of the document that
 * names an edge, a test of its own.
 */
final class EdgesOfTextsTest {
    /** Every command, with each number as short and as long as it may be, in texts to be cut. */
    private static final String[] TEXTS = {
        "ship;lamp 1;oil 1;lease 0 0 1;renew 0 1;drop 0;wait;wait 1", "oil 12;oil 123;wait 10;ship",
        "lamp 3;lease 0 0 24;renew 0 24;drop 0;lease 1 1 1;wait 48"};
    private static final String[] KEYWORDS = {"ship", "lamp", "oil", "lease", "renew", "drop", "wait"};
    private static final String TWELVE = "wait;wait;wait;wait;wait;wait;wait;wait;wait;wait;wait;wait";

    public static void main(String[] args) throws ReflectiveOperationException {
        Check.runAll(EdgesOfTextsTest.class);
    }

    private static LampLeaseOffice rich() {
        return Offices.withOil(100, 5, 1, 1, 1, 1, 1);
    }

    private static void malformedAt(int position, String text) {
        Refusal.ofText("44 <" + text + ">", Due.ARGUMENT, EdgesOfTextsTest::rich, text);
        LampLeaseOffice office = rich();
        Offices.run(office, text);
        Check.due("45 <" + text + ">", position, office::errorPosition);
    }

    private static void failedAt(int command, char reason, Supplier<LampLeaseOffice> made, String text) {
        Refusal.ofText("44 <" + text + ">", Due.UNSUPPORTED, made, text);
        LampLeaseOffice office = made.get();
        Offices.run(office, text);
        Check.due("46 <" + text + ">", command, office::failedCommand);
        Check.due("47 <" + text + ">", reason, office::failureReason);
    }

    private static void carriedOut(int commands, String text) {
        Check.same("44 <" + text + ">", commands, Offices.run(rich(), text));
    }

    // ---- promise 43 ----

    static void theInputBufferHolds60Characters() {
        LampLeaseOffice office = new LampLeaseOffice();
        for (int length = 1; length <= 60; length++) {
            Check.same("43 length", length, office.feed('s'));
        }
    }

    static void the61stCharacterIsRefused() {
        for (char sign : new char[] {';', ' ', '9', 's', 0, '\uffff'}) {
            Refusal.of("43 full", Due.STATE, () -> {
                LampLeaseOffice office = Offices.idle();
                // Sixty characters that are carried out as long as none is added.
                Offices.feed(office, "oil 1;oil 1;oil 1;oil 1;oil 1;oil 1;oil 1;oil 1;oil 1;oil 12");
                return office;
            }, office -> office.feed(sign));
        }
    }

    static void everyCharacterCanBeFed() {
        LampLeaseOffice office = new LampLeaseOffice();
        int length = 0;
        for (char sign : new char[] {0, 1, ' ', ';', 127, 128, 255, 256, '\ud800', '\uffff'}) {
            length++;
            Check.same("43 length", length, office.feed(sign));
        }
        Check.due("44 malformed", Due.ARGUMENT, office::runCommands);
        Check.same("45 at the first", 0, office.errorPosition());
    }

    static void feedingIsNotCarryingOut() {
        LampLeaseOffice office = Offices.idle();
        String before = Questions.state(office) + Questions.texts(office);
        Offices.feed(office, "ship;oil 5");
        Check.same("43 state", before, Questions.state(office) + Questions.texts(office));
    }

    // ---- promise 44: the input buffer is empty afterwards in all cases ----

    static void afterARunTheInputBufferIsEmpty() {
        LampLeaseOffice office = new LampLeaseOffice();
        Offices.run(office, "ship");
        Check.same("44 length", 1, office.feed('w'));
        Check.same("44 nothing of the earlier text", 1, Offices.run(office, "ait"));
        Check.same("44 one ship", 1, office.shipCount());
    }

    static void afterAMalformedTextTheInputBufferIsEmpty() {
        LampLeaseOffice office = new LampLeaseOffice();
        Offices.run(office, "ship;x");
        Check.same("44 length", 1, office.feed('w'));
        Check.same("44 nothing of the earlier text", 1, Offices.run(office, "ait"));
    }

    static void afterAFailedCommandTheInputBufferIsEmpty() {
        LampLeaseOffice office = new LampLeaseOffice();
        Offices.run(office, "ship;drop 0");
        Check.same("44 length", 1, office.feed('w'));
        Check.same("44 nothing of the earlier text", 1, Offices.run(office, "ait"));
    }

    static void afterAFullBufferThereIsRoomFor60() {
        LampLeaseOffice office = new LampLeaseOffice();
        Offices.run(office, TWELVE + ";");
        for (int length = 1; length <= 60; length++) {
            Check.same("43 length", length, office.feed('s'));
        }
        Check.due("43 full again", Due.STATE, () -> office.feed('s'));
    }

    // ---- "A text consists of one or more commands" ----

    static void anEmptyTextIsMalformed() {
        Refusal.ofText("44 empty", Due.ARGUMENT, Offices::idle, "");
        malformedAt(0, "");
    }

    static void aTextIsOneCommandAtLeast() {
        for (String text : new String[] {"ship", "lamp 1", "oil 1", "lease 0 0 1", "wait", "wait 1"}) {
            carriedOut(1, text);
        }
    }

    static void aTextCanHoldTwelveCommands() {
        LampLeaseOffice office = new LampLeaseOffice();
        Check.same("44 twelve", 12, Offices.run(office, TWELVE));
        Check.same("9 hours", 12, office.hour());
    }

    static void aTextOf60CharactersIsCarriedOut() {
        LampLeaseOffice office = new LampLeaseOffice();
        String text = "oil 1;oil 1;oil 1;oil 1;oil 1;oil 1;oil 1;oil 1;oil 1;oil 12";
        Check.same("44 its length", 60, text.length());
        Check.same("44 ten", 10, Offices.run(office, text));
        Check.same("24 oil", 21, office.oil());
    }

    static void aTextEndsWithACommandNotWithASemicolon() {
        malformedAt(5, "ship;");
        malformedAt(5, "wait;");
        malformedAt(7, "oil 12;");
        malformedAt(60, TWELVE + ";");
    }

    static void betweenTwoSemicolonsIsACommand() {
        malformedAt(0, ";");
        malformedAt(0, ";ship");
        malformedAt(5, "ship;;ship");
    }

    static void commandsAreSeparatedBySemicolonsAlone() {
        malformedAt(4, "ship ship");
        malformedAt(4, "ship,ship");
        malformedAt(5, "ship; ship");
        malformedAt(4, "ship ;ship");
        malformedAt(4, "shipship");
    }

    // ---- the error position ----

    static void aTextThatEndsTooEarlyErrsAtItsLength() {
        for (String text : TEXTS) {
            for (int length = 0; length <= text.length(); length++) {
                String begun = text.substring(0, length);
                if (!Model.TEXT.matcher(begun).matches()) {
                    malformedAt(length, begun);
                }
            }
        }
    }

    static void aFullBufferThatEndsTooEarlyErrsAt60() {
        for (String text : TEXTS) {
            for (int length = 0; length <= Math.min(36, text.length()); length++) {
                String begun = text.substring(0, length);
                if (!Model.TEXT.matcher(begun).matches()) {
                    malformedAt(60, commandsOfLength(60 - length) + begun);
                }
            }
        }
    }

    /** Commands, each with a semicolon behind it, that have so many characters, 24 at least. */
    private static String commandsOfLength(int length) {
        int ofSix = length % 5;
        return "oil 1;".repeat(ofSix) + "ship;".repeat((length - 6 * ofSix) / 5);
    }

    static void nothingOfAnEarlierTextIsRead() {
        for (String text : TEXTS) {
            for (int length = 0; length < text.length(); length++) {
                String begun = text.substring(0, length);
                Supplier<LampLeaseOffice> made = () -> {
                    LampLeaseOffice office = rich();
                    Offices.run(office, text);
                    return office;
                };
                if (!Model.TEXT.matcher(begun).matches()) {
                    LampLeaseOffice office = made.get();
                    Check.same("44 <" + begun + ">", Due.ARGUMENT, Offices.run(office, begun));
                    Check.due("45 <" + begun + ">", length, office::errorPosition);
                }
            }
        }
    }

    static void aCharacterThatCannotContinueErrsAtItsIndex() {
        for (String text : TEXTS) {
            for (int length = 0; length < text.length(); length++) {
                malformedAt(length, text.substring(0, length) + "X" + text.substring(length + 1));
                malformedAt(length, text.substring(0, length) + "\u0661");
            }
        }
    }

    static void keywordsAreComparedLetterByLetter() {
        for (String keyword : KEYWORDS) {
            for (int letter = 0; letter < keyword.length(); letter++) {
                char capital = Character.toUpperCase(keyword.charAt(letter));
                malformedAt(letter,
                        keyword.substring(0, letter) + capital + keyword.substring(letter + 1));
            }
            malformedAt(keyword.length(), keyword + "s 1");
        }
    }

    static void keywordsWithTheSameFirstLetterAreToldApart() {
        malformedAt(1, "l");
        malformedAt(1, "lx");
        malformedAt(2, "lae");
        malformedAt(2, "lem");
        malformedAt(3, "leamp 1");
        malformedAt(3, "lamse 0 0 1");
    }

    static void aCharacterOf16BitsIsNotTheLetterOfItsLowerEight() {
        malformedAt(0, "\u0173hip");
        malformedAt(4, "oil \u0131");
        malformedAt(3, "oil\u01201");
        malformedAt(4, "ship\u013bship");
    }

    // ---- "Numbers have one or two digits, amounts of oil one to three; all others are single" ----

    static void hoursHaveOneDigitOrTwo() {
        carriedOut(1, "wait 9");
        carriedOut(1, "wait 10");
        carriedOut(1, "lease 0 0 9");
        carriedOut(1, "lease 0 0 10");
        carriedOut(2, "lease 0 0 1;renew 0 9");
        carriedOut(2, "lease 0 0 1;renew 0 10");
    }

    static void hoursOfThreeDigitsAreMalformed() {
        malformedAt(7, "wait 100");
        malformedAt(7, "wait 001");
        malformedAt(12, "lease 0 0 001");
        malformedAt(10, "renew 0 001");
    }

    static void hoursOfNoDigitAreMalformed() {
        malformedAt(5, "wait ");
        malformedAt(5, "wait ;ship");
        malformedAt(10, "lease 0 0 ;ship");
        malformedAt(8, "renew 0 ;ship");
        malformedAt(9, "lease 0 0;ship");
        malformedAt(7, "renew 0;ship");
    }

    static void oilHasOneToThreeDigits() {
        carriedOut(1, "oil 9");
        carriedOut(1, "oil 10");
        carriedOut(1, "oil 99");
        carriedOut(1, "oil 100");
        carriedOut(1, "oil 200");
    }

    static void oilOfFourDigitsIsMalformed() {
        malformedAt(7, "oil 1000");
        malformedAt(7, "oil 0001");
    }

    static void oilOfNoDigitIsMalformed() {
        malformedAt(3, "oil");
        malformedAt(4, "oil ");
        malformedAt(4, "oil ;ship");
    }

    static void levelsShipsAndLampsAreSingleDigits() {
        malformedAt(6, "lamp 01");
        malformedAt(7, "lease 00 0 1");
        malformedAt(9, "lease 0 00 1");
        malformedAt(7, "renew 00 1");
        malformedAt(6, "drop 00");
    }

    static void numbersMayBeginWithNoughts() {
        LampLeaseOffice office = Offices.with(1, 1);
        Check.same("44 noughts", 4, Offices.run(office, "oil 007;lease 0 0 04;renew 0 09;wait 01"));
        Check.same("24 oil", 6, office.oil());
        Check.same("20 end hour", 13, office.endHour(0));
        Check.same("9 hour", 1, office.hour());
    }

    static void numbersHaveNoSign() {
        malformedAt(4, "oil -1");
        malformedAt(4, "oil +1");
        malformedAt(5, "wait -1");
        malformedAt(6, "lease -1 0 1");
    }

    static void betweenWordsIsOneBlank() {
        malformedAt(5, "lamp  1");
        malformedAt(4, "lamp1");
        malformedAt(3, "oil1");
        malformedAt(7, "lease 001");
        malformedAt(8, "lease 0  0 1");
        malformedAt(0, " ship");
        malformedAt(4, "ship ");
        malformedAt(6, "drop 0 ");
    }

    static void theNumberOfWaitIsOptional() {
        LampLeaseOffice office = new LampLeaseOffice();
        Offices.run(office, "wait 7");
        Check.same("44 alone", 1, Offices.run(office, "wait"));
        Check.same("9 one hour", 8, office.hour());
        Offices.run(office, "wait;wait 2;wait");
        Check.same("9 one, two and one", 12, office.hour());
    }

    static void theNumberOfNoOtherCommandIsOptional() {
        malformedAt(4, "lamp;ship");
        malformedAt(3, "oil;ship");
        malformedAt(5, "lease;ship");
        malformedAt(5, "renew;ship");
        malformedAt(4, "drop;ship");
        malformedAt(4, "ship 1");
    }

    // ---- a malformed text is refused as a whole ----

    static void ofAMalformedTextNothingIsCarriedOut() {
        Refusal.ofText("44 error at the end", Due.ARGUMENT, Offices::idle, "ship;oil 5;wait 3;");
        Refusal.ofText("44 error at the start", Due.ARGUMENT, Offices::idle, "Ship;oil 5;wait 3");
        Refusal.ofText("44 twelve commands", Due.ARGUMENT, Offices::idle, TWELVE + ";");
    }

    static void aMalformedTextComesBeforeAFailedCommand() {
        Refusal.ofText("44 both", Due.ARGUMENT, Offices::idle, "drop 9;x");
        LampLeaseOffice office = new LampLeaseOffice();
        Offices.run(office, "drop 9;x");
        Check.same("45 malformed", 7, office.errorPosition());
        Check.due("46 no command failed", Due.MISSING, office::failedCommand);
    }

    static void aMalformedTextLeavesTheFailedCommand() {
        LampLeaseOffice office = Offices.idle();
        int command = office.failedCommand();
        char reason = office.failureReason();
        Offices.run(office, "x");
        Check.same("45 new position", 0, office.errorPosition());
        Check.same("46 as before", command, office.failedCommand());
        Check.same("47 as before", reason, office.failureReason());
    }

    // ---- "If a command throws an exception, the state from before the call is kept" ----

    static void aFailedFirstCommandChangesNothing() {
        Refusal.ofText("44 first of one", Due.UNSUPPORTED, Offices::idle, "drop 3");
        Refusal.ofText("44 first of many", Due.UNSUPPORTED, Offices::idle, "lamp 4;ship;oil 9");
    }

    static void aFailedLaterCommandUndoesTheEarlierOnes() {
        Refusal.ofText("44 ships", Due.UNSUPPORTED, Offices::idle, "ship;ship;ship;ship");
        Refusal.ofText("44 lamps", Due.UNSUPPORTED, Offices::idle, "lamp 3;lamp 0");
        Refusal.ofText("44 oil", Due.UNSUPPORTED, Offices::idle, "oil 200;oil 200;oil 200");
        Refusal.ofText("44 leases", Due.UNSUPPORTED, Offices::idle, "lease 0 3 9;lease 0 3 9");
        Refusal.ofText("44 requests", Due.UNSUPPORTED, Offices::idle, "renew 1 1;renew 1 1");
        Refusal.ofText("44 drops", Due.UNSUPPORTED, Offices::idle, "drop 2;drop 0;drop 0");
        Refusal.ofText("44 hours", Due.UNSUPPORTED, Offices::idle, "wait 48;wait;wait 49");
    }

    static void aFailedTwelfthCommandUndoesAllTheOthers() {
        String text = TWELVE.substring(0, TWELVE.length() - 4) + "oil 0";
        Refusal.ofText("44 twelfth", Due.UNSUPPORTED, Offices::idle, text);
        failedAt(11, 'a', LampLeaseOffice::new, text);
    }

    static void aFailedCommandLeavesTheErrorPosition() {
        LampLeaseOffice office = Offices.idle();
        int position = office.errorPosition();
        Offices.run(office, "lamp 9");
        Check.same("46 new command", 0, office.failedCommand());
        Check.same("45 as before", position, office.errorPosition());
    }

    static void theCommandsBehindAFailedOneAreNotCarriedOut() {
        failedAt(1, 'a', LampLeaseOffice::new, "ship;oil 0;ship;oil 0");
    }

    // ---- promise 45 ----

    static void withoutAMalformedTextThereIsNoErrorPosition() {
        Refusal.of("45 new", Due.MISSING, LampLeaseOffice::new, LampLeaseOffice::errorPosition);
        LampLeaseOffice office = new LampLeaseOffice();
        Offices.run(office, "ship");
        Check.due("45 carried out", Due.MISSING, office::errorPosition);
        Offices.run(office, "drop 0");
        Check.due("45 failed", Due.MISSING, office::errorPosition);
    }

    static void theErrorPositionIsOfTheLatestMalformedText() {
        LampLeaseOffice office = new LampLeaseOffice();
        Offices.run(office, "ship;x");
        Offices.run(office, "x");
        Check.same("45 latest", 0, office.errorPosition());
        Offices.run(office, "oil x");
        Offices.run(office, "ship");
        Offices.run(office, "drop 0");
        Check.same("45 kept", 4, office.errorPosition());
    }

    // ---- promises 46 and 47 ----

    static void withoutAFailedCommandThereIsNoneToTell() {
        Refusal.of("46 new", Due.MISSING, LampLeaseOffice::new, LampLeaseOffice::failedCommand);
        LampLeaseOffice office = new LampLeaseOffice();
        Offices.run(office, "ship");
        Check.due("46 carried out", Due.MISSING, office::failedCommand);
        Offices.run(office, "x");
        Check.due("46 malformed", Due.MISSING, office::failedCommand);
    }

    static void withoutAFailedCommandThereIsNoReason() {
        Refusal.of("47 new", Due.MISSING, LampLeaseOffice::new, LampLeaseOffice::failureReason);
        LampLeaseOffice office = new LampLeaseOffice();
        Offices.run(office, "ship");
        Check.due("47 carried out", Due.MISSING, office::failureReason);
        Offices.run(office, "x");
        Check.due("47 malformed", Due.MISSING, office::failureReason);
    }

    static void theFailedCommandIsOfTheLatestFailedRun() {
        LampLeaseOffice office = new LampLeaseOffice();
        Offices.run(office, "ship;lamp 1;drop 0");
        Check.same("46 the first", 2, office.failedCommand());
        Check.same("47 the first", 'n', office.failureReason());
        Offices.run(office, "lamp 9");
        Check.same("46 the latest", 0, office.failedCommand());
        Check.same("47 the latest", 'a', office.failureReason());
        Offices.run(office, "ship");
        Offices.run(office, "x");
        Check.same("46 kept", 0, office.failedCommand());
        Check.same("47 kept", 'a', office.failureReason());
    }

    static void aRefusedCallIsNoFailedCommand() {
        LampLeaseOffice office = new LampLeaseOffice();
        Check.due("4 refused", Due.ARGUMENT, () -> office.addOil(0));
        Check.due("46 no command", Due.MISSING, office::failedCommand);
    }

    // ---- the edges of the commands are those of the methods ----

    static void theSeventhShipIsAFailedCommand() {
        failedAt(0, 's', () -> Offices.with(6), "ship");
        failedAt(6, 's', LampLeaseOffice::new, "ship;ship;ship;ship;ship;ship;ship");
    }

    static void theNinthLampIsAFailedCommand() {
        String eight = "lamp 1;lamp 1;lamp 1;lamp 1;lamp 1;lamp 1;lamp 1;lamp 1";
        failedAt(0, 's', () -> Offices.with(0, 1, 1, 1, 1, 1, 1, 1, 1), "lamp 1");
        failedAt(7, 's', () -> Offices.with(0, 1), eight);
        Check.same("44 eight lamps", 8, Offices.run(new LampLeaseOffice(), eight));
    }

    static void aLevelOutOfRangeIsAFailedCommand() {
        failedAt(0, 'a', LampLeaseOffice::new, "lamp 0");
        failedAt(0, 'a', LampLeaseOffice::new, "lamp 4");
        failedAt(0, 'a', () -> Offices.with(0, 1, 1, 1, 1, 1, 1, 1, 1), "lamp 9");
    }

    static void oilOutOfRangeIsAFailedCommand() {
        failedAt(0, 'a', LampLeaseOffice::new, "oil 0");
        failedAt(0, 'a', LampLeaseOffice::new, "oil 201");
        failedAt(0, 'a', () -> Offices.withOil(500, 0), "oil 999");
    }

    static void oilOverTheBrimIsAFailedCommand() {
        failedAt(0, 's', () -> Offices.withOil(500, 0), "oil 1");
        failedAt(2, 's', LampLeaseOffice::new, "oil 200;oil 200;oil 101");
        Check.same("44 to the brim", 3, Offices.run(new LampLeaseOffice(), "oil 200;oil 200;oil 100"));
    }

    static void aLeaseWithoutShipOrLampIsAFailedCommand() {
        Supplier<LampLeaseOffice> full = () -> Offices.with(6, 1, 1, 1, 1, 1, 1, 1, 1);
        failedAt(0, 'i', full, "lease 6 0 1");
        failedAt(0, 'i', full, "lease 0 8 1");
        failedAt(0, 'i', full, "lease 9 9 0");
        failedAt(0, 'i', LampLeaseOffice::new, "lease 0 0 1");
        Check.same("44 the last ones", 1, Offices.run(full.get(), "lease 5 7 1"));
    }

    static void aLeaseOfHoursOutOfRangeIsAFailedCommand() {
        failedAt(0, 'a', EdgesOfTextsTest::rich, "lease 0 0 0");
        failedAt(0, 'a', EdgesOfTextsTest::rich, "lease 0 0 25");
        failedAt(1, 'a', EdgesOfTextsTest::rich, "lease 0 0 24;lease 0 0 99");
        carriedOut(1, "lease 0 0 24");
    }

    static void aLeaseOfALeasedLampIsAFailedCommand() {
        failedAt(1, 's', EdgesOfTextsTest::rich, "lease 0 0 24;lease 1 0 1");
        carriedOut(3, "lease 0 0 24;drop 0;lease 1 0 1");
    }

    static void aLeaseThatIsTooDearIsAFailedCommand() {
        failedAt(1, 'u', () -> Offices.with(1, 3, 1, 3), "lease 0 0 24;lease 0 2 10");
        Check.same("44 the last coins", 3,
                Offices.run(Offices.with(1, 3, 1, 3), "lease 0 0 24;lease 0 2 9;lease 0 1 1"));
    }

    static void aRenewalThatIsRefusedIsAFailedCommand() {
        failedAt(0, 'i', EdgesOfTextsTest::rich, "renew 5 0");
        failedAt(0, 'a', EdgesOfTextsTest::rich, "renew 0 0");
        failedAt(0, 'a', EdgesOfTextsTest::rich, "renew 0 25");
        failedAt(0, 'n', EdgesOfTextsTest::rich, "renew 0 24");
        failedAt(2, 's', EdgesOfTextsTest::rich, "lease 0 0 1;renew 0 24;renew 0 24");
    }

    static void aDropThatIsRefusedIsAFailedCommand() {
        failedAt(0, 'i', EdgesOfTextsTest::rich, "drop 5");
        failedAt(0, 'n', EdgesOfTextsTest::rich, "drop 4");
        failedAt(2, 'n', EdgesOfTextsTest::rich, "lease 0 4 1;wait;drop 4");
    }

    static void aWaitOfHoursOutOfRangeIsAFailedCommand() {
        failedAt(0, 'a', EdgesOfTextsTest::rich, "wait 0");
        failedAt(0, 'a', EdgesOfTextsTest::rich, "wait 00");
        failedAt(0, 'a', EdgesOfTextsTest::rich, "wait 49");
        failedAt(1, 'a', EdgesOfTextsTest::rich, "wait 48;wait 99");
    }
}
