/** Long runs of mixed calls, each of whose answers the class and the model must share. */
final class RandomRunsTest {
    private static final int RUNS = 120;
    private static final int CALLS = 300;
    private static final String[] COMMANDS = {"ship", "lamp ", "oil ", "lease ", "renew ", "drop ",
        "wait", "wait "};
    private static final String SIGNS = "shiplamorednwtv;; 0123456789\u20acS";

    // A generator of its own, so that every run can be repeated.
    private static long seed = 20;

    public static void main(String[] args) {
        for (int run = 0; run < RUNS && Check.wrongAnswers() == 0; run++) {
            oneRun(run);
        }
        Check.finish();
    }

    private static int below(int bound) {
        seed = seed * 6364136223846793005L + 1442695040888963407L;
        return (int) ((seed >>> 33) % bound);
    }

    private static int number(int usual) {
        int kind = below(60);
        if (kind == 0) {
            return Integer.MIN_VALUE;
        }
        return kind == 1 ? Integer.MAX_VALUE : below(usual + 2) - 1;
    }

    private static void both(String call, Check.Call model, Check.Call office) {
        Check.same(call, Check.outcome(model), Check.outcome(office));
    }

    private static void oneRun(int run) {
        LampLeaseOffice office = new LampLeaseOffice();
        Model model = new Model();
        int undoing = below(3) * 4;
        for (int call = 0; call < CALLS && Check.wrongAnswers() == 0; call++) {
            String where = "run " + run + ", call " + call + ": ";
            int kind = below(100);
            if (kind < 80) {
                change(where, kind, model, office);
            } else if (kind < 94) {
                runText(where, model, office);
            } else if (kind < 94 + undoing / 2) {
                both(where + "undo", model::undo, office::undo);
            } else if (kind == 98) {
                both(where + "save", model::save, office::save);
            } else if (kind == 99 && undoing > 0) {
                both(where + "restore", model::restore, office::restore);
            }
            compare(where, model, office);
        }
    }

    private static void change(String where, int kind, Model model, LampLeaseOffice office) {
        int ship = number(5);
        int lamp = number(8);
        int hours = number(below(4) == 0 ? 26 : 8);
        int units = number(below(4) == 0 ? 202 : 20);
        int wait = number(below(8) == 0 ? 50 : 4);
        if (kind < 6) {
            both(where + "addShip", model::addShip, office::addShip);
        } else if (kind < 14) {
            both(where + "addLamp", () -> model.addLamp(lamp % 5), () -> office.addLamp(lamp % 5));
        } else if (kind < 26) {
            both(where + "addOil", () -> model.addOil(units), () -> office.addOil(units));
        } else if (kind < 46) {
            both(where + "lease", () -> model.lease(ship, lamp, hours),
                    () -> office.lease(ship, lamp, hours));
        } else if (kind < 60) {
            both(where + "requestRenewal", () -> model.requestRenewal(lamp, hours),
                    () -> office.requestRenewal(lamp, hours));
        } else if (kind < 64) {
            both(where + "giveUp", () -> model.giveUp(lamp), () -> office.giveUp(lamp));
        } else {
            both(where + "passHours", () -> model.passHours(wait), () -> office.passHours(wait));
        }
    }

    private static void runText(String where, Model model, LampLeaseOffice office) {
        String text = randomText();
        for (char sign : text.toCharArray()) {
            both(where + "feed", () -> model.feed(sign), () -> office.feed(sign));
        }
        if (below(10) > 0) {
            both(where + "run " + text, model::runCommands, office::runCommands);
        }
    }

    private static String randomText() {
        StringBuilder text = new StringBuilder();
        int commands = below(12) == 0 ? 12 : below(4);
        for (int command = 0; command <= commands; command++) {
            text.append(command > 0 ? ";" : "");
            String word = COMMANDS[below(below(4) == 0 ? COMMANDS.length : 7)];
            text.append(word);
            if (word.equals("lease ")) {
                text.append(below(6)).append(' ');
            }
            if (word.equals("lease ") || word.equals("renew ")) {
                text.append(below(8)).append(' ');
            }
            if (word.endsWith(" ")) {
                text.append(below(word.equals("oil ") ? 120 : word.equals("drop ") ? 8 : 9));
            }
        }
        if (below(3) == 0) {
            int spot = below(text.length());
            char sign = SIGNS.charAt(below(SIGNS.length()));
            int kind = below(3);
            if (kind == 0) {
                text.setCharAt(spot, sign);
            } else if (kind == 1) {
                text.insert(spot, sign);
            } else {
                text.setLength(spot);
            }
        }
        return text.toString();
    }

    private static void compare(String where, Model model, LampLeaseOffice office) {
        both(where + "hour", () -> model.now.hour(), office::hour);
        both(where + "shipCount", () -> model.now.ships().size(), office::shipCount);
        both(where + "lampCount", () -> model.now.lamps().size(), office::lampCount);
        both(where + "leasedLamps", () -> model.leasedLamps().size(), office::leasedLamps);
        both(where + "oil", () -> model.now.oil(), office::oil);
        both(where + "consumption", model::consumption, office::consumption);
        both(where + "hoursOfOil", model::hoursOfOil, office::hoursOfOil);
        both(where + "hoursOfOilByEnds", model::hoursOfOil, office::hoursOfOilByEnds);
        both(where + "brightNext", model::brightNext, office::brightNext);
        both(where + "mostBright", model::mostBright, office::mostBright);
        both(where + "mostBrightBySums", model::mostBright, office::mostBrightBySums);
        both(where + "requestCount", () -> model.now.requests().size(), office::requestCount);
        both(where + "refusedRenewals", () -> model.now.refused(), office::refusedRenewals);
        both(where + "officeCoins", () -> model.now.office(), office::officeCoins);
        both(where + "meanCoins", model::meanCoins, office::meanCoins);
        both(where + "leasedShare", model::leasedShare, office::leasedShare);
        both(where + "isConsistent", () -> true, office::isConsistent);
        both(where + "errorPosition", model::errorPosition, office::errorPosition);
        both(where + "failedCommand", model::failedCommand, office::failedCommand);
        both(where + "failureReason", model::failureReason, office::failureReason);
        both(where + "undoCount", () -> model.undone.size(), office::undoCount);
        for (int ship = -1; ship <= 6; ship++) {
            compareShip(where, ship, model, office);
        }
        for (int lamp = -1; lamp <= 8; lamp++) {
            compareLamp(where, lamp, model, office);
        }
        if (below(3) == 0) {
            both(where + "writeLamps", model::writeLamps, office::writeLamps);
        }
        for (int at = -1; at <= model.output.length(); at++) {
            int index = at;
            both(where + "outputChar", () -> model.outputChar(index), () -> office.outputChar(index));
        }
    }

    private static void compareShip(String where, int ship, Model model, LampLeaseOffice office) {
        both(where + "coins", () -> model.ship(ship).coins(), () -> office.coins(ship));
        both(where + "finesPaid", () -> model.ship(ship).fines(), () -> office.finesPaid(ship));
        both(where + "darkHours", () -> model.ship(ship).darkHours(), () -> office.darkHours(ship));
        both(where + "demand", () -> model.demand(ship), () -> office.demand(ship));
        both(where + "leasesOf", () -> model.leasesOf(ship), () -> office.leasesOf(ship));
        both(where + "share", () -> model.share(ship), () -> office.share(ship));
        both(where + "shareByRank", () -> model.share(ship), () -> office.shareByRank(ship));
        both(where + "shipByFines", () -> model.shipByFines(ship), () -> office.shipByFines(ship));
    }

    private static void compareLamp(String where, int lamp, Model model, LampLeaseOffice office) {
        both(where + "level", () -> model.lamp(lamp).level(), () -> office.level(lamp));
        both(where + "isLeased", () -> model.lamp(lamp).leased(), () -> office.isLeased(lamp));
        both(where + "lessee", () -> model.lessee(lamp), () -> office.lessee(lamp));
        both(where + "endHour", () -> model.endHour(lamp), () -> office.endHour(lamp));
        both(where + "brightHours", () -> model.lamp(lamp).brightHours(), () -> office.brightHours(lamp));
        both(where + "wasBright", () -> model.lamp(lamp).bright(), () -> office.wasBright(lamp));
        both(where + "lampByEnd", () -> model.lampByEnd(lamp), () -> office.lampByEnd(lamp));
        both(where + "requestedLamp", () -> model.request(lamp).lamp(), () -> office.requestedLamp(lamp));
        both(where + "requestedHours", () -> model.request(lamp).hours(),
                () -> office.requestedHours(lamp));
    }
}
