/** Long runs of mixed calls, each of whose answers the class and the model must share. */
final class RandomRunsTest {
    private static final int RUNS = 3000;
    // The document promises nothing of an object that has been called more often.
    private static final int MOST_CALLS = 512;
    // Of all questions between two changes a few are asked, so that many changes can be made.
    private static final int QUESTIONS_FOR_ONE = 60;
    private static final String[] COMMANDS = {"ship", "lamp ", "oil ", "lease ", "renew ", "drop ",
        "wait", "wait "};
    private static final String SIGNS = "shiplamorednwtv;; 0123456789\u20acS";

    // A generator of its own, so that every run can be repeated.
    private static long seed = 20;
    private static int calls = 0;

    public static void main(String[] args) {
        for (int run = 0; run < RUNS && Check.wrongAnswers() == 0; run++) {
            oneRun(run);
        }
        Check.finish();
    }

    private static int below(int bound) {
        seed = seed * 6364136223846793005L + 1442695040888963407L;
        return (int) ((seed >>> 33) % bound);
    }

    private static int number(int usual) {
        int kind = below(60);
        if (kind == 0) {
            return Integer.MIN_VALUE;
        }
        return kind == 1 ? Integer.MAX_VALUE : below(usual + 2) - 1;
    }

    private static void both(String call, Check.Call model, Check.Call office) {
        if (calls < MOST_CALLS) {
            calls++;
            Check.same(call, Check.outcome(model), Check.outcome(office));
        }
    }

    private static void ask(String call, Check.Call model, Check.Call office) {
        if (below(QUESTIONS_FOR_ONE) == 0) {
            both(call, model, office);
        }
    }

    private static void oneRun(int run) {
        LampLeaseOffice office = new LampLeaseOffice();
        Model model = new Model();
        int undoing = below(3) * 4;
        calls = 0;
        while (calls < MOST_CALLS && Check.wrongAnswers() == 0) {
            String where = "run " + run + ", call " + calls + ": ";
            int kind = below(100);
            if (kind < 80) {
                change(where, kind, model, office);
            } else if (kind < 94) {
                runText(where, model, office);
            } else if (kind < 94 + undoing / 2) {
                both(where + "undo", model::undo, office::undo);
            } else if (kind == 98) {
                both(where + "save", model::save, office::save);
            } else if (kind == 99 && undoing > 0) {
                both(where + "restore", model::restore, office::restore);
            }
            compare(where, model, office);
        }
    }

    private static void change(String where, int kind, Model model, LampLeaseOffice office) {
        int ship = number(5);
        int lamp = number(8);
        int hours = number(below(4) == 0 ? 26 : 8);
        int units = number(below(4) == 0 ? 202 : 20);
        int wait = number(below(8) == 0 ? 50 : 4);
        if (kind < 6) {
            both(where + "addShip", model::addShip, office::addShip);
        } else if (kind < 14) {
            both(where + "addLamp", () -> model.addLamp(lamp % 5), () -> office.addLamp(lamp % 5));
        } else if (kind < 26) {
            both(where + "addOil", () -> model.addOil(units), () -> office.addOil(units));
        } else if (kind < 46) {
            both(where + "lease", () -> model.lease(ship, lamp, hours),
                    () -> office.lease(ship, lamp, hours));
        } else if (kind < 60) {
            both(where + "requestRenewal", () -> model.requestRenewal(lamp, hours),
                    () -> office.requestRenewal(lamp, hours));
        } else if (kind < 64) {
            both(where + "giveUp", () -> model.giveUp(lamp), () -> office.giveUp(lamp));
        } else {
            both(where + "passHours", () -> model.passHours(wait), () -> office.passHours(wait));
        }
    }

    private static void runText(String where, Model model, LampLeaseOffice office) {
        String text = randomText();
        for (char sign : text.toCharArray()) {
            both(where + "feed", () -> model.feed(sign), () -> office.feed(sign));
        }
        if (below(10) > 0) {
            both(where + "run " + text, model::runCommands, office::runCommands);
        }
    }

    private static String randomText() {
        StringBuilder text = new StringBuilder();
        int commands = below(12) == 0 ? 12 : below(4);
        for (int command = 0; command <= commands; command++) {
            text.append(command > 0 ? ";" : "");
            String word = COMMANDS[below(below(4) == 0 ? COMMANDS.length : 7)];
            text.append(word);
            if (word.equals("lease ")) {
                text.append(below(6)).append(' ');
            }
            if (word.equals("lease ") || word.equals("renew ")) {
                text.append(below(8)).append(' ');
            }
            if (word.endsWith(" ")) {
                text.append(below(word.equals("oil ") ? 120 : word.equals("drop ") ? 8 : 9));
            }
        }
        if (below(3) == 0) {
            int spot = below(text.length());
            char sign = SIGNS.charAt(below(SIGNS.length()));
            int kind = below(3);
            if (kind == 0) {
                text.setCharAt(spot, sign);
            } else if (kind == 1) {
                text.insert(spot, sign);
            } else {
                text.setLength(spot);
            }
        }
        return text.toString();
    }

    private static void compare(String where, Model model, LampLeaseOffice office) {
        ask(where + "hour", () -> model.now.hour(), office::hour);
        ask(where + "shipCount", () -> model.now.ships().size(), office::shipCount);
        ask(where + "lampCount", () -> model.now.lamps().size(), office::lampCount);
        ask(where + "leasedLamps", () -> model.leasedLamps().size(), office::leasedLamps);
        ask(where + "oil", () -> model.now.oil(), office::oil);
        ask(where + "consumption", model::consumption, office::consumption);
        ask(where + "hoursOfOil", model::hoursOfOil, office::hoursOfOil);
        ask(where + "hoursOfOilByEnds", model::hoursOfOil, office::hoursOfOilByEnds);
        ask(where + "brightNext", model::brightNext, office::brightNext);
        ask(where + "mostBright", model::mostBright, office::mostBright);
        ask(where + "mostBrightBySums", model::mostBright, office::mostBrightBySums);
        ask(where + "requestCount", () -> model.now.requests().size(), office::requestCount);
        ask(where + "refusedRenewals", () -> model.now.refused(), office::refusedRenewals);
        ask(where + "officeCoins", () -> model.now.office(), office::officeCoins);
        ask(where + "meanCoins", model::meanCoins, office::meanCoins);
        ask(where + "leasedShare", model::leasedShare, office::leasedShare);
        ask(where + "isConsistent", () -> true, office::isConsistent);
        ask(where + "errorPosition", model::errorPosition, office::errorPosition);
        ask(where + "failedCommand", model::failedCommand, office::failedCommand);
        ask(where + "failureReason", model::failureReason, office::failureReason);
        ask(where + "undoCount", () -> model.undone.size(), office::undoCount);
        for (int ship = -1; ship <= 6; ship++) {
            compareShip(where, ship, model, office);
        }
        for (int lamp = -1; lamp <= 8; lamp++) {
            compareLamp(where, lamp, model, office);
        }
        ask(where + "writeLamps", model::writeLamps, office::writeLamps);
        for (int at = -1; at <= model.output.length(); at++) {
            int index = at;
            ask(where + "outputChar", () -> model.outputChar(index), () -> office.outputChar(index));
        }
    }

    private static void compareShip(String where, int ship, Model model, LampLeaseOffice office) {
        ask(where + "coins", () -> model.ship(ship).coins(), () -> office.coins(ship));
        ask(where + "finesPaid", () -> model.ship(ship).fines(), () -> office.finesPaid(ship));
        ask(where + "darkHours", () -> model.ship(ship).darkHours(), () -> office.darkHours(ship));
        ask(where + "demand", () -> model.demand(ship), () -> office.demand(ship));
        ask(where + "leasesOf", () -> model.leasesOf(ship), () -> office.leasesOf(ship));
        ask(where + "share", () -> model.share(ship), () -> office.share(ship));
        ask(where + "shareByRank", () -> model.share(ship), () -> office.shareByRank(ship));
        ask(where + "shipByFines", () -> model.shipByFines(ship), () -> office.shipByFines(ship));
    }

    private static void compareLamp(String where, int lamp, Model model, LampLeaseOffice office) {
        ask(where + "level", () -> model.lamp(lamp).level(), () -> office.level(lamp));
        ask(where + "isLeased", () -> model.lamp(lamp).leased(), () -> office.isLeased(lamp));
        ask(where + "lessee", () -> model.lessee(lamp), () -> office.lessee(lamp));
        ask(where + "endHour", () -> model.endHour(lamp), () -> office.endHour(lamp));
        ask(where + "brightHours", () -> model.lamp(lamp).brightHours(), () -> office.brightHours(lamp));
        ask(where + "wasBright", () -> model.lamp(lamp).bright(), () -> office.wasBright(lamp));
        ask(where + "lampByEnd", () -> model.lampByEnd(lamp), () -> office.lampByEnd(lamp));
        ask(where + "requestedLamp", () -> model.request(lamp).lamp(), () -> office.requestedLamp(lamp));
        ask(where + "requestedHours", () -> model.request(lamp).hours(),
                () -> office.requestedHours(lamp));
    }
}
