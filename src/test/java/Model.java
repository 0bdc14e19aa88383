import java.util.ArrayList;
import java.util.Comparator;
import java.util.List;
import java.util.NoSuchElementException;
import java.util.regex.Matcher;
import java.util.regex.Pattern;

/**
 * The document once more, written in another way than the class: copied lists, sorting, all
 * subsets, a pattern.
 */
final class Model {
    record Ship(int coins, int fines, int darkHours) {
    }

    record Lamp(int level, int lessee, int endHour, int brightHours, boolean bright) {
        boolean leased() {
            return lessee >= 0;
        }
    }

    record Request(int lamp, int hours) {
    }

    /** Never changed but in copies, so that the undone states can be kept as they are. */
    record State(List<Ship> ships, List<Lamp> lamps, List<Request> requests, int oil, int hour,
            int office, int refused) {
        State copy() {
            return new State(new ArrayList<>(ships), new ArrayList<>(lamps),
                    new ArrayList<>(requests), oil, hour, office, refused);
        }
    }

    static final Pattern TEXT = Pattern.compile("C(;C)*".replace("C",
            "(ship|lamp \\d|oil \\d{1,3}|lease \\d \\d \\d{1,2}|renew \\d \\d{1,2}|drop \\d"
                    + "|wait( \\d{1,2})?)"));

    State now = new State(List.of(), List.of(), List.of(), 0, 0, 0, 0);
    State saved = null;
    final List<State> undone = new ArrayList<>();
    String input = "";
    String output = "";
    int errorPosition = -1;
    int failedCommand = -1;
    char failureReason = 0;

    private void record(State before) {
        undone.add(before);
        if (undone.size() > 8) {
            undone.remove(0);
        }
    }

    private static void needIndex(List<?> list, int index) {
        if (index < 0 || index >= list.size()) {
            throw new IndexOutOfBoundsException();
        }
    }

    private static void needRange(int number, int least, int most) {
        if (number < least || number > most) {
            throw new IllegalArgumentException();
        }
    }

    private static void needState(boolean holds) {
        if (!holds) {
            throw new IllegalStateException();
        }
    }

    private Lamp leasedLamp(int lamp) {
        needIndex(now.lamps, lamp);
        if (!now.lamps.get(lamp).leased()) {
            throw new NoSuchElementException();
        }
        return now.lamps.get(lamp);
    }

    private boolean requested(int lamp) {
        return now.requests.stream().anyMatch(request -> request.lamp == lamp);
    }

    private State pay(State state, int ship, int sum, int fine, int darkHours) {
        State copy = state.copy();
        Ship old = copy.ships.get(ship);
        copy.ships.set(ship, new Ship(old.coins - sum, old.fines + fine, old.darkHours + darkHours));
        return new State(copy.ships, copy.lamps, copy.requests, copy.oil, copy.hour,
                copy.office + sum, copy.refused);
    }

    int addShip() {
        needState(now.ships.size() < 6);
        record(now);
        now = now.copy();
        now.ships.add(new Ship(100, 0, 0));
        return now.ships.size() - 1;
    }

    int addLamp(int level) {
        needRange(level, 1, 3);
        needState(now.lamps.size() < 8);
        record(now);
        now = now.copy();
        now.lamps.add(new Lamp(level, -1, -1, 0, false));
        return now.lamps.size() - 1;
    }

    int addOil(int units) {
        needRange(units, 1, 200);
        needState(now.oil + units <= 500);
        record(now);
        now = new State(now.ships, now.lamps, now.requests, now.oil + units, now.hour, now.office,
                now.refused);
        return now.oil;
    }

    int lease(int ship, int lamp, int hours) {
        needIndex(now.ships, ship);
        needIndex(now.lamps, lamp);
        needRange(hours, 1, 24);
        Lamp old = now.lamps.get(lamp);
        needState(!old.leased());
        if (now.ships.get(ship).coins < old.level * hours) {
            throw new UnsupportedOperationException();
        }
        record(now);
        now = pay(now, ship, old.level * hours, 0, 0);
        now.lamps.set(lamp, new Lamp(old.level, ship, now.hour + hours, old.brightHours, old.bright));
        return now.hour + hours;
    }

    int requestRenewal(int lamp, int hours) {
        needIndex(now.lamps, lamp);
        needRange(hours, 1, 24);
        leasedLamp(lamp);
        needState(!requested(lamp));
        record(now);
        now = now.copy();
        now.requests.add(new Request(lamp, hours));
        return now.requests.size() - 1;
    }

    int giveUp(int lamp) {
        int left = leasedLamp(lamp).endHour - now.hour;
        record(now);
        now = now.copy();
        end(lamp);
        return left;
    }

    private void end(int lamp) {
        Lamp old = now.lamps.get(lamp);
        now.lamps.set(lamp, new Lamp(old.level, -1, -1, old.brightHours, old.bright));
        now.requests.removeIf(request -> request.lamp == lamp);
    }

    int passHours(int hours) {
        needRange(hours, 1, 48);
        record(now);
        int ended = 0;
        for (int hour = 0; hour < hours; hour++) {
            ended += passHour();
        }
        return ended;
    }

    private int passHour() {
        now = now.copy();
        int refused = now.refused;
        for (Request request : List.copyOf(now.requests)) {
            Lamp lamp = now.lamps.get(request.lamp);
            int price = lamp.level * request.hours;
            if (now.ships.get(lamp.lessee).coins < price) {
                refused++;
                continue;
            }
            now = pay(now, lamp.lessee, price, 0, 0);
            now.lamps.set(request.lamp, new Lamp(lamp.level, lamp.lessee,
                    lamp.endHour + request.hours, lamp.brightHours, lamp.bright));
        }
        int oil = now.oil;
        for (int index = 0; index < now.lamps.size(); index++) {
            Lamp lamp = now.lamps.get(index);
            boolean bright = lamp.leased() && lamp.level <= oil;
            oil -= bright ? lamp.level : 0;
            now.lamps.set(index, new Lamp(lamp.level, lamp.lessee, lamp.endHour,
                    lamp.brightHours + (bright ? 1 : 0), bright));
        }
        for (int ship = 0; ship < now.ships.size(); ship++) {
            List<Lamp> own = lampsOf(ship);
            if (!own.isEmpty() && own.stream().noneMatch(Lamp::bright)) {
                int fine = Math.min(2 * own.size(), now.ships.get(ship).coins);
                now = pay(now, ship, fine, fine, 1);
            }
        }
        now = new State(now.ships, now.lamps, new ArrayList<>(), oil, now.hour + 1, now.office, refused);
        int ended = 0;
        for (int lamp = 0; lamp < now.lamps.size(); lamp++) {
            if (now.lamps.get(lamp).leased() && now.lamps.get(lamp).endHour == now.hour) {
                end(lamp);
                ended++;
            }
        }
        return ended;
    }

    List<Lamp> lampsOf(int ship) {
        return now.lamps.stream().filter(lamp -> lamp.lessee == ship).toList();
    }

    List<Lamp> leasedLamps() {
        return now.lamps.stream().filter(Lamp::leased).toList();
    }

    private static int levels(List<Lamp> lamps) {
        return lamps.stream().mapToInt(Lamp::level).sum();
    }

    Ship ship(int ship) {
        needIndex(now.ships, ship);
        return now.ships.get(ship);
    }

    Lamp lamp(int lamp) {
        needIndex(now.lamps, lamp);
        return now.lamps.get(lamp);
    }

    int demand(int ship) {
        ship(ship);
        return levels(lampsOf(ship));
    }

    int leasesOf(int ship) {
        ship(ship);
        return lampsOf(ship).size();
    }

    int lessee(int lamp) {
        return leasedLamp(lamp).lessee;
    }

    int endHour(int lamp) {
        return leasedLamp(lamp).endHour;
    }

    int consumption() {
        return levels(leasedLamps());
    }

    /** Lets hours pass in a second model without requests until an hour leaves a lamp dark. */
    int hoursOfOil() {
        Model later = new Model();
        later.now = new State(now.ships, now.lamps, List.of(), now.oil, now.hour, 0, 0);
        for (int hours = 0; ; hours++) {
            if (later.leasedLamps().isEmpty()) {
                throw new NoSuchElementException();
            }
            List<Integer> leased = later.leasedIndices();
            later.passHour();
            for (int lamp : leased) {
                if (!later.lamp(lamp).bright) {
                    return hours;
                }
            }
        }
    }

    private List<Integer> leasedIndices() {
        List<Integer> leased = new ArrayList<>();
        for (int lamp = 0; lamp < now.lamps.size(); lamp++) {
            if (now.lamps.get(lamp).leased()) {
                leased.add(lamp);
            }
        }
        return leased;
    }

    int brightNext() {
        Model later = new Model();
        later.now = new State(now.ships, now.lamps, List.of(), now.oil, now.hour, 0, 0);
        later.passHour();
        return (int) later.now.lamps.stream().filter(Lamp::bright).count();
    }

    int mostBright() {
        List<Lamp> leased = leasedLamps();
        int most = 0;
        for (int subset = 0; subset < 1 << leased.size(); subset++) {
            int sum = 0;
            for (int lamp = 0; lamp < leased.size(); lamp++) {
                sum += (subset >> lamp & 1) * leased.get(lamp).level;
            }
            if (sum <= now.oil) {
                most = Math.max(most, Integer.bitCount(subset));
            }
        }
        return most;
    }

    int share(int ship) {
        ship(ship);
        int all = consumption();
        if (all == 0) {
            return 0;
        }
        List<Integer> order = new ArrayList<>();
        int left = now.oil;
        for (int other = 0; other < now.ships.size(); other++) {
            order.add(other);
            left -= now.oil * demand(other) / all;
        }
        order.sort(Comparator.comparing((Integer other) -> -(now.oil * demand(other) % all))
                .thenComparing(other -> other));
        return now.oil * demand(ship) / all + (order.indexOf(ship) < left ? 1 : 0);
    }

    Request request(int position) {
        if (position < 0 || position >= now.requests.size()) {
            throw new NoSuchElementException();
        }
        return now.requests.get(position);
    }

    private static int atRank(List<Integer> sorted, int rank) {
        if (rank < 0 || rank >= sorted.size()) {
            throw new NoSuchElementException();
        }
        return sorted.get(rank);
    }

    int shipByFines(int rank) {
        List<Integer> sorted = new ArrayList<>();
        for (int ship = 0; ship < now.ships.size(); ship++) {
            sorted.add(ship);
        }
        sorted.sort(Comparator.comparing((Integer ship) -> -ship(ship).fines)
                .thenComparing(ship -> ship(ship).coins).thenComparing(ship -> ship));
        return atRank(sorted, rank);
    }

    int lampByEnd(int rank) {
        List<Integer> sorted = leasedIndices();
        sorted.sort(Comparator.comparing((Integer lamp) -> lamp(lamp).endHour)
                .thenComparing(lamp -> -lamp(lamp).level).thenComparing(lamp -> lamp));
        return atRank(sorted, rank);
    }

    double meanCoins() {
        if (now.ships.isEmpty()) {
            throw new ArithmeticException();
        }
        return (double) now.ships.stream().mapToInt(Ship::coins).sum() / (double) now.ships.size();
    }

    float leasedShare() {
        if (now.lamps.isEmpty()) {
            throw new ArithmeticException();
        }
        return (float) leasedLamps().size() / (float) now.lamps.size();
    }

    int feed(char sign) {
        needState(input.length() < 60);
        input += sign;
        return input.length();
    }

    int runCommands() {
        String text = input;
        input = "";
        if (!TEXT.matcher(text).matches()) {
            errorPosition = longestBeginning(text);
            throw new IllegalArgumentException();
        }
        State before = now;
        List<State> undoneBefore = List.copyOf(undone);
        String[] commands = text.split(";");
        for (int index = 0; index < commands.length; index++) {
            String[] words = commands[index].split(" ");
            String outcome = Check.outcome(() -> carryOut(words)).toString();
            if (outcome.endsWith("Exception")) {
                now = before;
                undone.clear();
                undone.addAll(undoneBefore);
                failedCommand = index;
                failureReason = reason(outcome);
                throw new UnsupportedOperationException();
            }
        }
        undone.clear();
        undone.addAll(undoneBefore);
        record(before);
        return commands.length;
    }

    /** How many of the first characters can begin a well-formed text. */
    private static int longestBeginning(String text) {
        for (int length = 0; length < text.length(); length++) {
            Matcher matcher = TEXT.matcher(text.substring(0, length + 1));
            if (!matcher.matches() && !matcher.hitEnd()) {
                return length;
            }
        }
        return text.length();
    }

    private int carryOut(String[] words) {
        int[] numbers = new int[3];
        for (int word = 1; word < words.length; word++) {
            numbers[word - 1] = Integer.parseInt(words[word]);
        }
        return switch (words[0]) {
            case "ship" -> addShip();
            case "lamp" -> addLamp(numbers[0]);
            case "oil" -> addOil(numbers[0]);
            case "lease" -> lease(numbers[0], numbers[1], numbers[2]);
            case "renew" -> requestRenewal(numbers[0], numbers[1]);
            case "drop" -> giveUp(numbers[0]);
            default -> passHours(words.length == 1 ? 1 : numbers[0]);
        };
    }

    private static char reason(String exception) {
        return switch (exception) {
            case "IndexOutOfBoundsException" -> 'i';
            case "IllegalArgumentException" -> 'a';
            case "IllegalStateException" -> 's';
            case "NoSuchElementException" -> 'n';
            default -> 'u';
        };
    }

    int errorPosition() {
        if (errorPosition < 0) {
            throw new NoSuchElementException();
        }
        return errorPosition;
    }

    int failedCommand() {
        if (failedCommand < 0) {
            throw new NoSuchElementException();
        }
        return failedCommand;
    }

    char failureReason() {
        failedCommand();
        return failureReason;
    }

    int writeLamps() {
        List<String> words = new ArrayList<>();
        for (int index = 0; index < now.lamps.size(); index++) {
            Lamp lamp = now.lamps.get(index);
            words.add(lamp.level + (lamp.leased() ? "s" + lamp.lessee + "e" + lamp.endHour : "")
                    + (requested(index) ? "r" : ""));
        }
        output = String.join(" ", words);
        return output.length();
    }

    char outputChar(int index) {
        if (index < 0 || index >= output.length()) {
            throw new IndexOutOfBoundsException();
        }
        return output.charAt(index);
    }

    int undo() {
        needState(!undone.isEmpty());
        now = undone.remove(undone.size() - 1);
        return undone.size();
    }

    int save() {
        saved = now;
        return now.lamps.size();
    }

    int restore() {
        needState(saved != null);
        now = saved;
        undone.clear();
        return now.lamps.size();
    }
}
