import java.util.NoSuchElementException;

/** A leasing office for ship lamps that burn oil from a shared pool. */
public final class LampLeaseOffice {
    private static final int MAX_SHIPS = 6;
    private static final int MAX_LAMPS = 8;
    private static final int MAX_LEVEL = 3;
    private static final int MAX_OIL = 500;
    private static final int MAX_ADDED_OIL = 200;
    private static final int MAX_LEASE_HOURS = 24;
    private static final int MAX_WAIT_HOURS = 48;
    private static final int FIRST_COINS = 100;
    private static final int FINE_PER_LAMP = 2;
    private static final int MAX_UNDO = 8;
    private static final int MAX_SIGNS = 60;
    // The shortest command has four letters and needs a semicolon before the next one.
    private static final int MAX_COMMANDS = (MAX_SIGNS + 1) / 5;
    private static final int MAX_NUMBERS = 3;

    /** Stands where there is no ship, lamp, position or number of hours. */
    private static final int NOTHING = -1;

    // A fault is the letter by which failureReason names the exception that is due.
    private static final char NO_FAULT = ' ';
    private static final char INDEX_FAULT = 'i';
    private static final char ARGUMENT_FAULT = 'a';
    private static final char STATE_FAULT = 's';
    private static final char MISSING_FAULT = 'n';
    private static final char UNSUPPORTED_FAULT = 'u';

    private static final Keyword[] KEYWORDS = Keyword.values();

    private final State state;
    private final State stateBefore;
    private final State savedState;
    private boolean hasSavedState;
    private final History history;
    private final Forecast forecast;
    private final Division division;
    private final CommandText text;
    private final StringBuilder output;
    private int lastErrorPosition;
    private int lastFailedCommand;
    private char lastFailureReason;

    public LampLeaseOffice() {
        state = new State();
        stateBefore = new State();
        savedState = new State();
        history = new History();
        forecast = new Forecast();
        division = new Division();
        text = new CommandText();
        output = new StringBuilder();
        lastErrorPosition = NOTHING;
        lastFailedCommand = NOTHING;
        lastFailureReason = NO_FAULT;
    }

    // ---- changes ----

    public int addShip() throws IllegalStateException {
        throwFor(state.faultOfNewShip());
        history.push(state);
        return state.ships.append();
    }

    public int addLamp(int level) throws IllegalArgumentException, IllegalStateException {
        throwFor(state.faultOfNewLamp(level));
        history.push(state);
        return state.lamps.append(level);
    }

    public int addOil(int units) throws IllegalArgumentException, IllegalStateException {
        throwFor(state.faultOfNewOil(units));
        history.push(state);
        return state.fillUp(units);
    }

    public int lease(int ship, int lamp, int hours)
            throws IndexOutOfBoundsException, IllegalArgumentException, IllegalStateException,
            UnsupportedOperationException {
        throwFor(state.faultOfLease(ship, lamp, hours));
        history.push(state);
        return state.leaseOut(ship, lamp, hours);
    }

    public int requestRenewal(int lamp, int hours)
            throws IndexOutOfBoundsException, IllegalArgumentException, NoSuchElementException,
            IllegalStateException {
        throwFor(state.faultOfRequest(lamp, hours));
        history.push(state);
        return state.requests.append(lamp, hours);
    }

    public int giveUp(int lamp) throws IndexOutOfBoundsException, NoSuchElementException {
        throwFor(state.faultOfUnleased(lamp));
        history.push(state);
        return state.takeBack(lamp);
    }

    public int passHours(int hours) throws IllegalArgumentException {
        throwFor(state.faultOfWait(hours));
        history.push(state);
        return state.letPass(hours);
    }

    // ---- ships ----

    public int hour() {
        return state.hour;
    }

    public int shipCount() {
        return state.ships.count;
    }

    public int coins(int ship) throws IndexOutOfBoundsException {
        throwUnlessShip(ship);
        return state.ships.coins[ship];
    }

    public int finesPaid(int ship) throws IndexOutOfBoundsException {
        throwUnlessShip(ship);
        return state.ships.fines[ship];
    }

    public int darkHours(int ship) throws IndexOutOfBoundsException {
        throwUnlessShip(ship);
        return state.ships.darkHours[ship];
    }

    public int demand(int ship) throws IndexOutOfBoundsException {
        throwUnlessShip(ship);
        return state.lamps.demandOf(ship);
    }

    public int leasesOf(int ship) throws IndexOutOfBoundsException {
        throwUnlessShip(ship);
        return state.lamps.countOf(ship);
    }

    // ---- lamps ----

    public int lampCount() {
        return state.lamps.count;
    }

    public int level(int lamp) throws IndexOutOfBoundsException {
        throwUnlessLamp(lamp);
        return state.lamps.levels[lamp];
    }

    public boolean isLeased(int lamp) throws IndexOutOfBoundsException {
        throwUnlessLamp(lamp);
        return state.lamps.isTaken(lamp);
    }

    public int lessee(int lamp) throws IndexOutOfBoundsException, NoSuchElementException {
        throwFor(state.faultOfUnleased(lamp));
        return state.lamps.lessees[lamp];
    }

    public int endHour(int lamp) throws IndexOutOfBoundsException, NoSuchElementException {
        throwFor(state.faultOfUnleased(lamp));
        return state.lamps.endHours[lamp];
    }

    public int brightHours(int lamp) throws IndexOutOfBoundsException {
        throwUnlessLamp(lamp);
        return state.lamps.brightHours[lamp];
    }

    public boolean wasBright(int lamp) throws IndexOutOfBoundsException {
        throwUnlessLamp(lamp);
        return state.lamps.bright[lamp];
    }

    public int leasedLamps() {
        return state.lamps.countTaken();
    }

    // ---- oil and forecasts ----

    public int oil() {
        return state.oil;
    }

    public int consumption() {
        return state.lamps.demandOfAll();
    }

    public int hoursOfOil() throws NoSuchElementException {
        int hours = forecast.hoursByPassing(state);
        throwIfNothing(hours);
        return hours;
    }

    public int hoursOfOilByEnds() throws NoSuchElementException {
        int hours = forecast.hoursByEndHours(state);
        throwIfNothing(hours);
        return hours;
    }

    public int brightNext() {
        return forecast.nextBrightLamps(state);
    }

    public int mostBright() {
        return forecast.mostLampsByLevels(state);
    }

    public int mostBrightBySums() {
        return forecast.mostLampsByTable(state);
    }

    // ---- shares ----

    public int share(int ship) throws IndexOutOfBoundsException {
        throwUnlessShip(ship);
        return division.shareByGiving(state, ship);
    }

    public int shareByRank(int ship) throws IndexOutOfBoundsException {
        throwUnlessShip(ship);
        return division.shareByRemainderRank(state, ship);
    }

    // ---- requests ----

    public int requestCount() {
        return state.requests.count;
    }

    public int requestedLamp(int position) throws NoSuchElementException {
        throwUnlessPosition(position);
        return state.requests.lamps[position];
    }

    public int requestedHours(int position) throws NoSuchElementException {
        throwUnlessPosition(position);
        return state.requests.hours[position];
    }

    public int refusedRenewals() {
        return state.refused;
    }

    // ---- summaries ----

    public int officeCoins() {
        return state.officeCoins;
    }

    public int shipByFines(int rank) throws NoSuchElementException {
        int ship = state.ships.atRank(rank);
        throwIfNothing(ship);
        return ship;
    }

    public int lampByEnd(int rank) throws NoSuchElementException {
        int lamp = state.lamps.atRank(rank);
        throwIfNothing(lamp);
        return lamp;
    }

    public double meanCoins() throws ArithmeticException {
        int ships = state.ships.count;
        if (ships == 0) {
            throw new ArithmeticException("there are no ships");
        }
        return (double) state.ships.sumOfCoins() / (double) ships;
    }

    public float leasedShare() throws ArithmeticException {
        int lamps = state.lamps.count;
        if (lamps == 0) {
            throw new ArithmeticException("there are no lamps");
        }
        return (float) state.lamps.countTaken() / (float) lamps;
    }

    public boolean isConsistent() {
        return coinsAddUp() && sharesAgree() && sharesAddUp() && brightnessAgrees()
                && requestsAreForLeasedLamps();
    }

    private boolean coinsAddUp() {
        return state.ships.sumOfCoins() + state.officeCoins == FIRST_COINS * state.ships.count;
    }

    private boolean sharesAgree() {
        for (int ship = 0; ship < state.ships.count; ship++) {
            if (division.shareByGiving(state, ship) != division.shareByRemainderRank(state, ship)) {
                return false;
            }
        }
        return true;
    }

    private boolean sharesAddUp() {
        int sum = 0;
        for (int ship = 0; ship < state.ships.count; ship++) {
            sum += division.shareByGiving(state, ship);
        }
        return sum == (state.lamps.demandOfAll() > 0 ? state.oil : 0);
    }

    private boolean brightnessAgrees() {
        return forecast.mostLampsByLevels(state) == forecast.mostLampsByTable(state);
    }

    private boolean requestsAreForLeasedLamps() {
        for (int position = 0; position < state.requests.count; position++) {
            if (!state.lamps.isTaken(state.requests.lamps[position])) {
                return false;
            }
        }
        return true;
    }

    // ---- commands ----

    public int feed(char character) throws IllegalStateException {
        if (text.length >= MAX_SIGNS) {
            throw new IllegalStateException("the input buffer is full");
        }
        return text.append(character);
    }

    public int runCommands() throws IllegalArgumentException, UnsupportedOperationException {
        boolean wellFormed = text.parse();
        text.clear();
        if (!wellFormed) {
            lastErrorPosition = text.position;
            throw new IllegalArgumentException("the text is malformed");
        }
        stateBefore.copyFrom(state);
        for (int index = 0; index < text.commandCount; index++) {
            char fault = faultOf(text.commands[index]);
            if (fault != NO_FAULT) {
                state.copyFrom(stateBefore);
                lastFailedCommand = index;
                lastFailureReason = fault;
                throw new UnsupportedOperationException("a command failed");
            }
            carryOut(text.commands[index]);
        }
        history.push(stateBefore);
        return text.commandCount;
    }

    private char faultOf(Command command) {
        switch (command.keyword) {
            case SHIP:
                return state.faultOfNewShip();
            case LAMP:
                return state.faultOfNewLamp(command.first());
            case OIL:
                return state.faultOfNewOil(command.first());
            case LEASE:
                return state.faultOfLease(command.first(), command.second(), command.third());
            case RENEW:
                return state.faultOfRequest(command.first(), command.second());
            case DROP:
                return state.faultOfUnleased(command.first());
            default:
                return state.faultOfWait(command.first());
        }
    }

    private void carryOut(Command command) {
        switch (command.keyword) {
            case SHIP:
                state.ships.append();
                break;
            case LAMP:
                state.lamps.append(command.first());
                break;
            case OIL:
                state.fillUp(command.first());
                break;
            case LEASE:
                state.leaseOut(command.first(), command.second(), command.third());
                break;
            case RENEW:
                state.requests.append(command.first(), command.second());
                break;
            case DROP:
                state.takeBack(command.first());
                break;
            default:
                state.letPass(command.first());
                break;
        }
    }

    public int errorPosition() throws NoSuchElementException {
        throwIfNothing(lastErrorPosition);
        return lastErrorPosition;
    }

    public int failedCommand() throws NoSuchElementException {
        throwIfNothing(lastFailedCommand);
        return lastFailedCommand;
    }

    public char failureReason() throws NoSuchElementException {
        throwIfNothing(lastFailedCommand);
        return lastFailureReason;
    }

    // ---- output ----

    public int writeLamps() {
        output.setLength(0);
        for (int lamp = 0; lamp < state.lamps.count; lamp++) {
            if (lamp > 0) {
                output.append(' ');
            }
            describe(lamp);
        }
        return output.length();
    }

    private void describe(int lamp) {
        output.append(state.lamps.levels[lamp]);
        if (!state.lamps.isTaken(lamp)) {
            return;
        }
        output.append('s').append(state.lamps.lessees[lamp]);
        output.append('e').append(state.lamps.endHours[lamp]);
        if (state.requests.positionOf(lamp) != NOTHING) {
            output.append('r');
        }
    }

    public char outputChar(int index) throws IndexOutOfBoundsException {
        if (index < 0 || index >= output.length()) {
            throw new IndexOutOfBoundsException("there is no such character");
        }
        return output.charAt(index);
    }

    // ---- undo and the saved state ----

    public int undoCount() {
        return history.count;
    }

    public int undo() throws IllegalStateException {
        if (history.count == 0) {
            throw new IllegalStateException("no call can be undone");
        }
        history.popInto(state);
        return history.count;
    }

    public int save() {
        savedState.copyFrom(state);
        hasSavedState = true;
        return state.lamps.count;
    }

    public int restore() throws IllegalStateException {
        if (!hasSavedState) {
            throw new IllegalStateException("no state was saved");
        }
        state.copyFrom(savedState);
        history.clear();
        return state.lamps.count;
    }

    // ---- exceptions ----

    private static void throwFor(char fault) {
        if (fault == INDEX_FAULT) {
            throw new IndexOutOfBoundsException("there is no such ship or lamp");
        }
        if (fault == ARGUMENT_FAULT) {
            throw new IllegalArgumentException("an argument is out of range");
        }
        if (fault == STATE_FAULT) {
            throw new IllegalStateException("the state does not allow this");
        }
        if (fault == MISSING_FAULT) {
            throw new NoSuchElementException("the lamp is not leased");
        }
        if (fault == UNSUPPORTED_FAULT) {
            throw new UnsupportedOperationException("the ship has too few coins");
        }
    }

    private void throwUnlessShip(int ship) {
        if (!state.ships.exists(ship)) {
            throw new IndexOutOfBoundsException("there is no such ship");
        }
    }

    private void throwUnlessLamp(int lamp) {
        if (!state.lamps.exists(lamp)) {
            throw new IndexOutOfBoundsException("there is no such lamp");
        }
    }

    private void throwUnlessPosition(int position) {
        if (position < 0 || position >= state.requests.count) {
            throw new NoSuchElementException("there is no such position");
        }
    }

    private static void throwIfNothing(int number) {
        if (number == NOTHING) {
            throw new NoSuchElementException("there is nothing to answer");
        }
    }

    /** The ships, a row of the arrays for each. */
    private static final class Ships {
        int count;
        final int[] coins = new int[MAX_SHIPS];
        final int[] fines = new int[MAX_SHIPS];
        final int[] darkHours = new int[MAX_SHIPS];

        boolean exists(int ship) {
            return ship >= 0 && ship < count;
        }

        int append() {
            if (count >= MAX_SHIPS) {
                return NOTHING;
            }
            int ship = count;
            count++;
            coins[ship] = FIRST_COINS;
            fines[ship] = 0;
            darkHours[ship] = 0;
            return ship;
        }

        boolean canPay(int ship, int price) {
            return ship >= 0 && ship < count && coins[ship] >= price;
        }

        int sumOfCoins() {
            int sum = 0;
            for (int ship = 0; ship < count; ship++) {
                sum += coins[ship];
            }
            return sum;
        }

        /** Sorting is spared: the rank of a ship is the number of ships before it. */
        int atRank(int rank) {
            for (int ship = 0; ship < count; ship++) {
                if (rankOf(ship) == rank) {
                    return ship;
                }
            }
            return NOTHING;
        }

        private int rankOf(int ship) {
            int rank = 0;
            for (int other = 0; other < count; other++) {
                if (isBefore(other, ship)) {
                    rank++;
                }
            }
            return rank;
        }

        private boolean isBefore(int one, int other) {
            if (fines[one] != fines[other]) {
                return fines[one] > fines[other];
            }
            if (coins[one] != coins[other]) {
                return coins[one] < coins[other];
            }
            return one < other;
        }

        void copyFrom(Ships source) {
            count = source.count;
            for (int ship = 0; ship < MAX_SHIPS; ship++) {
                coins[ship] = source.coins[ship];
                fines[ship] = source.fines[ship];
                darkHours[ship] = source.darkHours[ship];
            }
        }
    }

    /** The lamps with their leases, a row of the arrays for each. */
    private static final class Lamps {
        int count;
        final int[] levels = new int[MAX_LAMPS];
        final int[] lessees = new int[MAX_LAMPS];
        final int[] endHours = new int[MAX_LAMPS];
        final int[] brightHours = new int[MAX_LAMPS];
        final boolean[] bright = new boolean[MAX_LAMPS];

        boolean exists(int lamp) {
            return lamp >= 0 && lamp < count;
        }

        boolean isTaken(int lamp) {
            return lamp >= 0 && lamp < count && lessees[lamp] != NOTHING;
        }

        boolean isTakenBy(int lamp, int ship) {
            return lamp >= 0 && lamp < count && lessees[lamp] == ship;
        }

        int append(int level) {
            if (count >= MAX_LAMPS) {
                return NOTHING;
            }
            int lamp = count;
            count++;
            levels[lamp] = level;
            lessees[lamp] = NOTHING;
            endHours[lamp] = 0;
            brightHours[lamp] = 0;
            bright[lamp] = false;
            return lamp;
        }

        int countTaken() {
            int taken = 0;
            for (int lamp = 0; lamp < count; lamp++) {
                if (isTaken(lamp)) {
                    taken++;
                }
            }
            return taken;
        }

        int countOf(int ship) {
            int leases = 0;
            for (int lamp = 0; lamp < count; lamp++) {
                if (isTakenBy(lamp, ship)) {
                    leases++;
                }
            }
            return leases;
        }

        boolean anyBrightOf(int ship) {
            for (int lamp = 0; lamp < count; lamp++) {
                if (isTakenBy(lamp, ship) && bright[lamp]) {
                    return true;
                }
            }
            return false;
        }

        int demandOf(int ship) {
            int sum = 0;
            for (int lamp = 0; lamp < count; lamp++) {
                if (isTakenBy(lamp, ship)) {
                    sum += levels[lamp];
                }
            }
            return sum;
        }

        int demandOfAll() {
            int sum = 0;
            for (int lamp = 0; lamp < count; lamp++) {
                if (isTaken(lamp)) {
                    sum += levels[lamp];
                }
            }
            return sum;
        }

        /** The demand of the leases of today that end after the hour. */
        int demandAfter(int hour) {
            int sum = 0;
            for (int lamp = 0; lamp < count; lamp++) {
                if (isTaken(lamp) && endHours[lamp] > hour) {
                    sum += levels[lamp];
                }
            }
            return sum;
        }

        /** The first end of a lease after the hour, or NOTHING if there is none. */
        int firstEndAfter(int hour) {
            int first = NOTHING;
            for (int lamp = 0; lamp < count; lamp++) {
                if (isTaken(lamp) && endHours[lamp] > hour
                        && (first == NOTHING || endHours[lamp] < first)) {
                    first = endHours[lamp];
                }
            }
            return first;
        }

        /** Sorting is spared: the rank of a lamp is the number of leased lamps before it. */
        int atRank(int rank) {
            for (int lamp = 0; lamp < count; lamp++) {
                if (isTaken(lamp) && rankOf(lamp) == rank) {
                    return lamp;
                }
            }
            return NOTHING;
        }

        private int rankOf(int lamp) {
            int rank = 0;
            for (int other = 0; other < count; other++) {
                if (isTaken(other) && isBefore(other, lamp)) {
                    rank++;
                }
            }
            return rank;
        }

        private boolean isBefore(int one, int other) {
            if (endHours[one] != endHours[other]) {
                return endHours[one] < endHours[other];
            }
            if (levels[one] != levels[other]) {
                return levels[one] > levels[other];
            }
            return one < other;
        }

        void copyFrom(Lamps source) {
            count = source.count;
            for (int lamp = 0; lamp < MAX_LAMPS; lamp++) {
                levels[lamp] = source.levels[lamp];
                lessees[lamp] = source.lessees[lamp];
                endHours[lamp] = source.endHours[lamp];
                brightHours[lamp] = source.brightHours[lamp];
                bright[lamp] = source.bright[lamp];
            }
        }
    }

    /** The queue of the requested renewals. */
    private static final class Requests {
        int count;
        final int[] lamps = new int[MAX_LAMPS];
        final int[] hours = new int[MAX_LAMPS];

        int positionOf(int lamp) {
            for (int position = 0; position < count; position++) {
                if (lamps[position] == lamp) {
                    return position;
                }
            }
            return NOTHING;
        }

        int append(int lamp, int hoursMore) {
            if (count >= MAX_LAMPS) {
                return NOTHING;
            }
            int position = count;
            count++;
            lamps[position] = lamp;
            hours[position] = hoursMore;
            return position;
        }

        void removeFor(int lamp) {
            int kept = 0;
            for (int position = 0; position < count; position++) {
                if (lamps[position] != lamp) {
                    lamps[kept] = lamps[position];
                    hours[kept] = hours[position];
                    kept++;
                }
            }
            count = kept;
        }

        void clear() {
            count = 0;
        }

        void copyFrom(Requests source) {
            count = source.count;
            for (int position = 0; position < MAX_LAMPS; position++) {
                lamps[position] = source.lamps[position];
                hours[position] = source.hours[position];
            }
        }
    }

    /** All that is undone, saved and restored, with the rules by which it changes. */
    private static final class State {
        final Ships ships = new Ships();
        final Lamps lamps = new Lamps();
        final Requests requests = new Requests();
        int oil;
        int hour;
        int officeCoins;
        int refused;

        char faultOfNewShip() {
            return ships.count >= MAX_SHIPS ? STATE_FAULT : NO_FAULT;
        }

        char faultOfNewLamp(int level) {
            if (level < 1 || level > MAX_LEVEL) {
                return ARGUMENT_FAULT;
            }
            return lamps.count >= MAX_LAMPS ? STATE_FAULT : NO_FAULT;
        }

        char faultOfNewOil(int units) {
            if (units < 1 || units > MAX_ADDED_OIL) {
                return ARGUMENT_FAULT;
            }
            return oil + units > MAX_OIL ? STATE_FAULT : NO_FAULT;
        }

        char faultOfLease(int ship, int lamp, int hours) {
            if (!ships.exists(ship) || !lamps.exists(lamp)) {
                return INDEX_FAULT;
            }
            if (isNoLeaseTime(hours)) {
                return ARGUMENT_FAULT;
            }
            if (lamps.isTaken(lamp)) {
                return STATE_FAULT;
            }
            return ships.canPay(ship, price(lamp, hours)) ? NO_FAULT : UNSUPPORTED_FAULT;
        }

        char faultOfRequest(int lamp, int hours) {
            if (!lamps.exists(lamp)) {
                return INDEX_FAULT;
            }
            if (isNoLeaseTime(hours)) {
                return ARGUMENT_FAULT;
            }
            if (!lamps.isTaken(lamp)) {
                return MISSING_FAULT;
            }
            return requests.positionOf(lamp) != NOTHING ? STATE_FAULT : NO_FAULT;
        }

        char faultOfUnleased(int lamp) {
            if (!lamps.exists(lamp)) {
                return INDEX_FAULT;
            }
            return lamps.isTaken(lamp) ? NO_FAULT : MISSING_FAULT;
        }

        char faultOfWait(int hours) {
            return hours < 1 || hours > MAX_WAIT_HOURS ? ARGUMENT_FAULT : NO_FAULT;
        }

        private static boolean isNoLeaseTime(int hours) {
            return hours < 1 || hours > MAX_LEASE_HOURS;
        }

        private int price(int lamp, int hours) {
            return lamps.exists(lamp) ? lamps.levels[lamp] * hours : 0;
        }

        int fillUp(int units) {
            oil += units;
            return oil;
        }

        int leaseOut(int ship, int lamp, int hours) {
            if (!lamps.exists(lamp)) {
                return NOTHING;
            }
            payOffice(ship, price(lamp, hours));
            lamps.lessees[lamp] = ship;
            lamps.endHours[lamp] = hour + hours;
            return lamps.endHours[lamp];
        }

        private void payOffice(int ship, int sum) {
            if (ship >= 0 && ship < ships.count) {
                ships.coins[ship] -= sum;
                officeCoins += sum;
            }
        }

        /** Answers the hours that the lease would still have lasted. */
        int takeBack(int lamp) {
            if (!lamps.exists(lamp)) {
                return NOTHING;
            }
            int hoursLeft = lamps.endHours[lamp] - hour;
            lamps.lessees[lamp] = NOTHING;
            lamps.endHours[lamp] = 0;
            requests.removeFor(lamp);
            return hoursLeft;
        }

        /** Answers the number of leases that end. */
        int letPass(int hours) {
            int ended = 0;
            for (int passed = 0; passed < hours; passed++) {
                ended += passOneHour();
            }
            return ended;
        }

        private int passOneHour() {
            processRequests();
            burn();
            fineDarkShips();
            hour++;
            return endLeases();
        }

        private void processRequests() {
            for (int position = 0; position < requests.count; position++) {
                int lamp = requests.lamps[position];
                int hours = requests.hours[position];
                if (lamps.isTaken(lamp)) {
                    renewOrRefuse(lamp, hours);
                }
            }
            requests.clear();
        }

        private void renewOrRefuse(int lamp, int hours) {
            int ship = lamps.lessees[lamp];
            int price = lamps.levels[lamp] * hours;
            if (ships.canPay(ship, price)) {
                payOffice(ship, price);
                lamps.endHours[lamp] += hours;
            } else {
                refused++;
            }
        }

        private void burn() {
            for (int lamp = 0; lamp < lamps.count; lamp++) {
                lamps.bright[lamp] = lamps.isTaken(lamp) && lamps.levels[lamp] <= oil;
                if (lamps.bright[lamp]) {
                    oil -= lamps.levels[lamp];
                    lamps.brightHours[lamp]++;
                }
            }
        }

        private void fineDarkShips() {
            for (int ship = 0; ship < ships.count; ship++) {
                int leases = lamps.countOf(ship);
                if (leases > 0 && !lamps.anyBrightOf(ship)) {
                    int fine = Math.min(FINE_PER_LAMP * leases, ships.coins[ship]);
                    payOffice(ship, fine);
                    ships.fines[ship] += fine;
                    ships.darkHours[ship]++;
                }
            }
        }

        private int endLeases() {
            int ended = 0;
            for (int lamp = 0; lamp < lamps.count; lamp++) {
                if (lamps.isTaken(lamp) && lamps.endHours[lamp] == hour) {
                    takeBack(lamp);
                    ended++;
                }
            }
            return ended;
        }

        void copyFrom(State source) {
            ships.copyFrom(source.ships);
            lamps.copyFrom(source.lamps);
            requests.copyFrom(source.requests);
            oil = source.oil;
            hour = source.hour;
            officeCoins = source.officeCoins;
            refused = source.refused;
        }
    }

    /** The states before the latest recorded calls, in a ring of rows that are used again. */
    private static final class History {
        final State[] ring = new State[MAX_UNDO];
        int oldest;
        int count;

        History() {
            for (int slot = 0; slot < MAX_UNDO; slot++) {
                ring[slot] = new State();
            }
        }

        void push(State before) {
            ring[(oldest + count) % MAX_UNDO].copyFrom(before);
            if (count < MAX_UNDO) {
                count++;
            } else {
                // The ring is full, so the oldest state has just been written over.
                oldest = (oldest + 1) % MAX_UNDO;
            }
        }

        void popInto(State target) {
            if (count > 0) {
                count--;
                target.copyFrom(ring[(oldest + count) % MAX_UNDO]);
            }
        }

        void clear() {
            count = 0;
        }
    }

    /** What the oil of the pool would be enough for; nothing of the state is changed. */
    private static final class Forecast {
        final int[] mostForSum = new int[MAX_LAMPS * MAX_LEVEL + 1];

        int hoursByPassing(State state) {
            int oil = state.oil;
            // Every hour with a lease takes a unit at least, so the oil bounds the hours.
            for (int hours = 0; hours <= MAX_OIL; hours++) {
                int needed = state.lamps.demandAfter(state.hour + hours);
                if (needed == 0) {
                    return NOTHING;
                }
                if (needed > oil) {
                    return hours;
                }
                oil -= needed;
            }
            return NOTHING;
        }

        int hoursByEndHours(State state) {
            int oil = state.oil;
            int start = state.hour;
            // Each stretch ends with a lease at least.
            for (int stretch = 0; stretch < MAX_LAMPS; stretch++) {
                int end = state.lamps.firstEndAfter(start);
                int needed = state.lamps.demandAfter(start);
                if (end == NOTHING || needed == 0) {
                    return NOTHING;
                }
                if (needed * (end - start) > oil) {
                    return start - state.hour + oil / needed;
                }
                oil -= needed * (end - start);
                start = end;
            }
            return NOTHING;
        }

        int nextBrightLamps(State state) {
            int oil = state.oil;
            int brightLamps = 0;
            for (int lamp = 0; lamp < state.lamps.count; lamp++) {
                if (state.lamps.isTaken(lamp) && state.lamps.levels[lamp] <= oil) {
                    oil -= state.lamps.levels[lamp];
                    brightLamps++;
                }
            }
            return brightLamps;
        }

        int mostLampsByLevels(State state) {
            int oil = state.oil;
            int most = 0;
            for (int level = 1; level <= MAX_LEVEL; level++) {
                for (int lamp = 0; lamp < state.lamps.count; lamp++) {
                    if (state.lamps.isTaken(lamp) && state.lamps.levels[lamp] == level
                            && level <= oil) {
                        oil -= level;
                        most++;
                    }
                }
            }
            return most;
        }

        int mostLampsByTable(State state) {
            clearTable();
            for (int lamp = 0; lamp < state.lamps.count; lamp++) {
                if (state.lamps.isTaken(lamp)) {
                    enterInTable(state.lamps.levels[lamp]);
                }
            }
            int most = 0;
            for (int sum = 0; sum < mostForSum.length && sum <= state.oil; sum++) {
                most = Math.max(most, mostForSum[sum]);
            }
            return most;
        }

        private void clearTable() {
            mostForSum[0] = 0;
            for (int sum = 1; sum < mostForSum.length; sum++) {
                mostForSum[sum] = NOTHING;
            }
        }

        private void enterInTable(int level) {
            // Downwards, so that no sum takes the same lamp twice.
            for (int sum = mostForSum.length - 1; sum >= level && sum >= 0; sum--) {
                int rest = sum - level;
                if (rest < sum && mostForSum[rest] != NOTHING) {
                    mostForSum[sum] = Math.max(mostForSum[sum], mostForSum[rest] + 1);
                }
            }
        }
    }

    /** The division of the pool among the ships by the method of largest remainders. */
    private static final class Division {
        final int[] shares = new int[MAX_SHIPS];
        final int[] remainders = new int[MAX_SHIPS];
        final boolean[] favoured = new boolean[MAX_SHIPS];
        int unitsLeft;

        int shareByGiving(State state, int ship) {
            if (!state.ships.exists(ship)) {
                return 0;
            }
            divideRoundedDown(state);
            for (int unit = 0; unit < unitsLeft; unit++) {
                giveOneUnit(state.ships.count);
            }
            return shares[ship];
        }

        int shareByRemainderRank(State state, int ship) {
            if (!state.ships.exists(ship)) {
                return 0;
            }
            divideRoundedDown(state);
            return shares[ship] + (rankOf(ship, state.ships.count) < unitsLeft ? 1 : 0);
        }

        private void divideRoundedDown(State state) {
            int allDemand = state.lamps.demandOfAll();
            unitsLeft = allDemand > 0 ? state.oil : 0;
            for (int ship = 0; ship < state.ships.count; ship++) {
                int product = state.oil * state.lamps.demandOf(ship);
                shares[ship] = allDemand > 0 ? product / allDemand : 0;
                remainders[ship] = allDemand > 0 ? product % allDemand : 0;
                favoured[ship] = false;
                unitsLeft -= shares[ship];
            }
        }

        private void giveOneUnit(int ships) {
            int chosen = NOTHING;
            for (int ship = 0; ship < ships && ship < MAX_SHIPS; ship++) {
                if (!favoured[ship]
                        && (chosen == NOTHING || remainders[ship] > remainders[chosen])) {
                    chosen = ship;
                }
            }
            if (chosen != NOTHING) {
                favoured[chosen] = true;
                shares[chosen]++;
            }
        }

        private int rankOf(int ship, int ships) {
            int rank = 0;
            for (int other = 0; other < ships && other < MAX_SHIPS; other++) {
                if (remainders[other] > remainders[ship]
                        || remainders[other] == remainders[ship] && other < ship) {
                    rank++;
                }
            }
            return rank;
        }
    }

    /** The commands: a word, then a number for each digit of widths, which tells its most digits. */
    private enum Keyword {
        SHIP("ship", "", false),
        LAMP("lamp", "1", false),
        OIL("oil", "3", false),
        LEASE("lease", "112", false),
        RENEW("renew", "12", false),
        DROP("drop", "1", false),
        WAIT("wait", "2", true);

        final String word;
        final String widths;
        final boolean numberIsOptional;

        Keyword(String word, String widths, boolean numberIsOptional) {
            this.word = word;
            this.widths = widths;
            this.numberIsOptional = numberIsOptional;
        }
    }

    /** A command that was read from the text. */
    private static final class Command {
        Keyword keyword = Keyword.SHIP;
        final int[] numbers = new int[MAX_NUMBERS];

        int first() {
            return numbers[0];
        }

        int second() {
            return numbers[1];
        }

        int third() {
            return numbers[2];
        }

        void put(int index, int number) {
            if (index >= 0 && index < MAX_NUMBERS) {
                numbers[index] = number;
            }
        }
    }

    /** The input buffer and the reader of its commands. */
    private static final class CommandText {
        // No StringBuilder: any character may be fed.
        final char[] signs = new char[MAX_SIGNS];
        final Command[] commands = new Command[MAX_COMMANDS];
        int length;
        int commandCount;
        int position;

        CommandText() {
            for (int index = 0; index < MAX_COMMANDS; index++) {
                commands[index] = new Command();
            }
        }

        int append(char sign) {
            if (length < MAX_SIGNS) {
                signs[length] = sign;
                length++;
            }
            return length;
        }

        void clear() {
            length = 0;
        }

        /** Answers whether the text is well-formed; if not, position is the error position. */
        boolean parse() {
            position = 0;
            commandCount = 0;
            for (int index = 0; index < MAX_COMMANDS; index++) {
                if (!readCommand(commands[index])) {
                    return false;
                }
                commandCount++;
                if (position >= length) {
                    return true;
                }
                if (!isAt(';')) {
                    return false;
                }
                position++;
            }
            // The buffer has no room for one more command, so the text ends behind a semicolon.
            return false;
        }

        private boolean readCommand(Command command) {
            Keyword keyword = readKeyword();
            if (keyword == null) {
                return false;
            }
            command.keyword = keyword;
            if (keyword.numberIsOptional && !isAt(' ')) {
                command.put(0, 1);
                return true;
            }
            for (int index = 0; index < keyword.widths.length(); index++) {
                int number = readBlankAndNumber(keyword.widths.charAt(index) - '0');
                if (number == NOTHING) {
                    return false;
                }
                command.put(index, number);
            }
            return true;
        }

        /** Behind an unknown word, position is where the last keyword in question failed. */
        private Keyword readKeyword() {
            int mostLetters = 0;
            for (int index = 0; index < KEYWORDS.length; index++) {
                String word = KEYWORDS[index].word;
                int letters = commonLetters(word);
                if (letters == word.length()) {
                    position += letters;
                    return KEYWORDS[index];
                }
                mostLetters = Math.max(mostLetters, letters);
            }
            position += mostLetters;
            return null;
        }

        private int commonLetters(String word) {
            int letters = 0;
            while (letters < word.length() && position + letters < length
                    && signs[position + letters] == word.charAt(letters)) {
                letters++;
            }
            return letters;
        }

        private int readBlankAndNumber(int mostDigits) {
            if (!isAt(' ')) {
                return NOTHING;
            }
            position++;
            if (!isAtDigit()) {
                return NOTHING;
            }
            int number = 0;
            for (int digit = 0; digit < mostDigits && isAtDigit(); digit++) {
                number = number * 10 + (signs[position] - '0');
                position++;
            }
            return number;
        }

        private boolean isAt(char sign) {
            return position < length && signs[position] == sign;
        }

        private boolean isAtDigit() {
            return position < length && signs[position] >= '0' && signs[position] <= '9';
        }
    }
}
