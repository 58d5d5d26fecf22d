import java.util.ArrayList;
import java.util.Arrays;
import java.util.HashMap;
import java.util.HashSet;
import java.util.List;
import java.util.Map;
import java.util.NoSuchElementException;
import java.util.Set;
import java.util.TreeSet;

/** The document once more, slow and by the minute, to hold the class against it. */
final class Model {
    private static final List<String> SUBJECTS = List.of("creation", "flood", "birth", "passion", "doom");

    private static final class Guild {
        int wealth;
        int fines;
        boolean over;
        int height = 3;
        int hands = 3;
        int wheels = 5;
        int lines;
        int learnt;
        int inBook;
        String subject = "creation";
        Integer[] cast;
        final Set<Integer> lost = new TreeSet<>();

        List<int[]> bookLeaves() {
            List<int[]> leaves = new ArrayList<>();
            for (int first = 1; first <= inBook; first += 40) {
                leaves.add(new int[] {first, Math.min(first + 39, inBook)});
            }
            return leaves;
        }

        Set<Integer> players() {
            Set<Integer> players = new HashSet<>();
            for (Integer player : cast) {
                if (player != null) {
                    players.add(player);
                }
            }
            return players;
        }
    }

    private static final class Station {
        int minutes;
        int hill;
        int corner;
        boolean torches;
        boolean scribe;
        final List<int[]> bids = new ArrayList<>();

        int[] best() {
            int[] best = null;
            for (int[] bid : bids) {
                if (best == null || bid[1] > best[1]) {
                    best = bid;
                }
            }
            return best;
        }
    }

    private static final class Play {
        int guild;
        int station;
        int came;
        int begin;
        int end;
        int said;
        int gap;
        char how;
        Set<Integer> players;

        boolean on(int minute) {
            return how != 'd' && minute >= begin && minute < end;
        }
    }

    private final List<Guild> guilds = new ArrayList<>();
    private final List<Station> stations = new ArrayList<>();
    private final List<Integer> order = new ArrayList<>();
    private final Set<String> struck = new HashSet<>();
    private final Set<Integer> wet = new HashSet<>();
    private final Map<Integer, Integer> paid = new HashMap<>();
    private String typed = "";
    private int town = 0;
    private int year = 0;
    private List<Play> day = null;

    private void range(int number, int least, int most) {
        if (!(least <= number && number <= most)) {
            throw new IllegalArgumentException();
        }
    }

    private Guild guild(int guild) {
        if (guild < 0 || guild >= guilds.size()) {
            throw new IndexOutOfBoundsException();
        }
        return guilds.get(guild);
    }

    private Station station(int station) {
        if (station < 0 || station >= stations.size()) {
            throw new IndexOutOfBoundsException();
        }
        return stations.get(station);
    }

    private void unsupportedIf(boolean is) {
        if (is) {
            throw new UnsupportedOperationException();
        }
    }

    private void stateIf(boolean is) {
        if (is) {
            throw new IllegalStateException();
        }
    }

    int addGuild(int wealth, int lines, int parts) {
        range(wealth, 0, 9999);
        range(lines, 20, 400);
        range(parts, 1, 8);
        stateIf(guilds.size() == 8);
        Guild g = new Guild();
        g.wealth = wealth;
        g.lines = lines;
        g.inBook = lines;
        g.cast = new Integer[parts];
        guilds.add(g);
        order.add(guilds.size() - 1);
        return guilds.size() - 1;
    }

    int merge(int guild, int other) {
        Guild a = guild(guild);
        Guild b = guild(other);
        if (guild == other) {
            throw new IllegalArgumentException();
        }
        unsupportedIf(a.over || b.over);
        b.wealth += a.wealth;
        a.wealth = 0;
        a.over = true;
        return b.wealth;
    }

    boolean isOver(int guild) {
        return guild(guild).over;
    }

    int of(int guild, char what) {
        Guild g = guild(guild);
        Map<Character, Integer> all = new HashMap<>();
        all.put('m', g.wealth);
        all.put('l', g.lines);
        all.put('p', g.cast.length);
        all.put('e', g.learnt);
        all.put('w', g.wheels);
        all.put('f', g.fines);
        all.put('a', g.lines - g.inBook);
        if (!all.containsKey(what)) {
            throw new IllegalArgumentException();
        }
        return all.get(what);
    }

    int type(char letter) {
        range(letter, 'a', 'z');
        stateIf(typed.length() == 10);
        typed = typed + letter;
        return typed.length();
    }

    int wipe() {
        int before = typed.length();
        typed = "";
        return before;
    }

    char subject(int guild) {
        Guild g = guild(guild);
        unsupportedIf(!SUBJECTS.contains(typed) || g.over);
        char before = g.subject.charAt(0);
        g.subject = typed;
        return before;
    }

    boolean strike(boolean is) {
        unsupportedIf(!SUBJECTS.contains(typed));
        return is ? !struck.add(typed) : struck.remove(typed);
    }

    int learn(int guild, int days) {
        Guild g = guild(guild);
        range(days, 1, 30);
        unsupportedIf(g.over);
        for (int i = 0; i < days; i++) {
            g.learnt = Math.min(g.learnt + 5, 100);
        }
        return g.learnt;
    }

    int cast(int guild, int part, int player) {
        Guild g = guild(guild);
        if (part < 0 || part >= g.cast.length) {
            throw new IndexOutOfBoundsException();
        }
        range(player, -1, 19);
        Integer before = g.cast[part];
        g.cast[part] = player < 0 ? null : Integer.valueOf(player);
        return before == null ? -1 : before;
    }

    int wagon(int guild, int height, int hands) {
        Guild g = guild(guild);
        range(height, 1, 9);
        range(hands, 0, 9);
        int before = g.height;
        g.height = height;
        g.hands = hands;
        return before;
    }

    int mend(int guild, int wheels) {
        Guild g = guild(guild);
        range(wheels, 1, 9);
        unsupportedIf(g.over || g.wheels + wheels > 9);
        g.wheels += wheels;
        g.wealth -= 2 * wheels;
        town += 2 * wheels;
        return g.wheels;
    }

    int addStation(int minutes, int hill, int corner) {
        range(minutes, 1, 20);
        range(hill, 0, 9);
        range(corner, 0, 9);
        stateIf(stations.size() == 6);
        Station s = new Station();
        s.minutes = minutes;
        s.hill = hill;
        s.corner = corner;
        stations.add(s);
        return stations.size() - 1;
    }

    boolean setTorches(int station, boolean is) {
        Station s = station(station);
        boolean before = s.torches;
        s.torches = is;
        return before;
    }

    boolean setScribe(int station, boolean is) {
        Station s = station(station);
        boolean before = s.scribe;
        s.scribe = is;
        return before;
    }

    boolean bid(int station, int house, int amount) {
        Station s = station(station);
        range(house, 0, 9);
        range(amount, 1, 999);
        s.bids.add(new int[] {house, amount});
        return s.best()[0] == house;
    }

    int holder(int station) {
        int[] best = station(station).best();
        if (best == null) {
            throw new NoSuchElementException();
        }
        return best[0];
    }

    int put(int guild, int place) {
        guild(guild);
        range(place, 0, guilds.size() - 1);
        int before = order.indexOf(guild);
        order.remove(Integer.valueOf(guild));
        order.add(place, guild);
        return before;
    }

    int place(int guild) {
        guild(guild);
        return order.indexOf(guild);
    }

    boolean rain(int hour, boolean is) {
        range(hour, 0, 23);
        return is ? !wet.add(hour) : wet.remove(hour);
    }

    int add(int guild, int lines) {
        Guild g = guild(guild);
        range(lines, 1, 99);
        unsupportedIf(g.over || g.lines + lines > 600);
        g.lines += lines;
        return g.lines - g.inBook;
    }

    private List<Integer> playing() {
        List<Integer> all = new ArrayList<>();
        for (int g : order) {
            if (!guilds.get(g).over && !struck.contains(guilds.get(g).subject)) {
                all.add(g);
            }
        }
        return all;
    }

    private boolean rains(int minute) {
        return wet.contains(minute % 1440 / 60);
    }

    private int length(Guild g, int begin) {
        int length = g.lines / 10 + 1 + (100 - g.learnt) / 20;
        for (int part = 0; part < g.cast.length; part++) {
            if (g.cast[part] == null) {
                length += 2;
            } else if (Arrays.asList(g.cast).indexOf(g.cast[part]) < part) {
                length += 1;
            }
        }
        return length + (rains(begin) ? 5 : 0);
    }

    private List<Play> plan(List<Integer> by) {
        List<Play> all = new ArrayList<>();
        for (int number : by) {
            List<Play> ahead = new ArrayList<>(all);
            int sets = 270;
            for (int s = 0; s < stations.size(); s++) {
                Play play = playOf(number, s, sets, ahead);
                all.add(play);
                sets = play.end;
            }
        }
        return all;
    }

    private Play playOf(int number, int s, int sets, List<Play> ahead) {
        Guild g = guilds.get(number);
        Station at = stations.get(s);
        Play play = new Play();
        play.guild = number;
        play.station = s;
        play.players = g.players();
        play.came = sets + at.minutes;
        for (int hand = g.hands; hand < at.hill + g.height; hand++) {
            play.came++;
        }
        play.came += (at.corner + g.height > 10 ? 5 : 0) + (g.wheels == 0 ? 10 : 0) + (rains(sets) ? 2 : 0);
        Play before = null;
        for (Play other : ahead) {
            if (other.station == s) {
                before = other;
            }
        }
        play.begin = before == null ? play.came : Math.max(play.came, before.end + 2);
        fix(play, g, at);
        int next = lastClash(play, ahead);
        while (next >= 0) {
            play.begin = next;
            fix(play, g, at);
            next = lastClash(play, ahead);
        }
        play.gap = before == null ? 0 : play.begin - before.end;
        return play;
    }

    private void fix(Play play, Guild g, Station at) {
        int length = length(g, play.begin);
        int has = 0;
        for (int minute = play.begin; minute < play.begin + length; minute++) {
            if (at.torches || minute < 1260) {
                has++;
            }
        }
        play.end = play.begin + has;
        play.how = has == length ? 'w' : has == 0 ? 'd' : 'c';
        play.said = g.lines * has / length;
    }

    private int lastClash(Play play, List<Play> ahead) {
        int last = -1;
        for (Play other : ahead) {
            Set<Integer> both = new HashSet<>(other.players);
            both.retainAll(play.players);
            if (!both.isEmpty()) {
                for (int minute = play.begin; minute < play.end; minute++) {
                    if (play.on(minute) && other.on(minute)) {
                        last = Math.max(last, other.end);
                    }
                }
            }
        }
        return last;
    }

    private int endOf(List<Play> plays) {
        int end = 270;
        for (Play play : plays) {
            end = Math.max(end, play.end);
        }
        return end;
    }

    private int wholeOf(List<Play> plays) {
        int whole = 0;
        for (Play play : plays) {
            whole += play.how == 'w' ? 1 : 0;
        }
        return whole;
    }

    int day() {
        stateIf(stations.isEmpty() || day != null);
        day = plan(playing());
        for (int number : playing()) {
            Guild g = guilds.get(number);
            pay(g, 2 * g.cast.length);
            for (int wheel = g.wheels; wheel < 5; wheel++) {
                pay(g, 1);
            }
        }
        for (Station s : stations) {
            if (s.best() != null) {
                town += s.best()[1];
                paid.merge(s.best()[0], s.best()[1], Integer::sum);
            }
        }
        for (Play play : day) {
            Guild g = guilds.get(play.guild);
            int fine = play.gap > 15 ? 3 : 0;
            if (stations.get(play.station).scribe && play.how == 'w') {
                fine += g.lines - g.inBook;
            }
            g.fines += fine;
            pay(g, fine);
        }
        for (Play play : day) {
            hear(play);
        }
        for (int number : playing()) {
            Guild g = guilds.get(number);
            g.wheels = Math.max(0, g.wheels - 1);
        }
        return wholeOf(day);
    }

    private void pay(Guild g, int amount) {
        g.wealth -= amount;
        town += amount;
    }

    private void hear(Play play) {
        Guild g = guilds.get(play.guild);
        if (!stations.get(play.station).scribe) {
            return;
        }
        if (play.how == 'w') {
            g.inBook = g.lines;
            g.lost.clear();
        } else if (play.how == 'c') {
            List<int[]> leaves = g.bookLeaves();
            for (int i = 0; i < leaves.size(); i++) {
                if (leaves.get(i)[1] <= play.said) {
                    g.lost.remove(i);
                }
            }
        }
    }

    private Play played(int guild, int station) {
        stateIf(day == null);
        for (Play play : day) {
            if (play.guild == guild && play.station == station) {
                return play;
            }
        }
        throw new NoSuchElementException();
    }

    int at(int guild, int station, char what) {
        guild(guild);
        station(station);
        range("abelg".indexOf(what), 0, 4);
        Play play = played(guild, station);
        return what == 'a' ? play.came : what == 'b' ? play.begin : what == 'e' ? play.end
            : what == 'l' ? play.said : play.gap;
    }

    char how(int guild, int station) {
        guild(guild);
        station(station);
        return played(guild, station).how;
    }

    int end() {
        stateIf(day == null);
        return endOf(day);
    }

    int foresee() {
        stateIf(stations.isEmpty());
        return endOf(plan(playing()));
    }

    private List<List<Integer>> orders(List<Integer> of) {
        List<List<Integer>> all = new ArrayList<>();
        if (of.isEmpty()) {
            all.add(new ArrayList<>());
        }
        for (int first : of) {
            List<Integer> others = new ArrayList<>(of);
            others.remove(Integer.valueOf(first));
            for (List<Integer> order : orders(others)) {
                order.add(0, first);
                all.add(order);
            }
        }
        return all;
    }

    private List<Integer> bestOrder() {
        stateIf(stations.isEmpty());
        List<Integer> playing = playing();
        unsupportedIf(playing.size() > 4);
        playing.sort(Integer::compare);
        List<Integer> best = null;
        for (List<Integer> order : orders(playing)) {
            if (best == null || endOf(plan(order)) < endOf(plan(best))) {
                best = order;
            }
        }
        return best;
    }

    int soonest() {
        return endOf(plan(bestOrder()));
    }

    boolean arrange() {
        List<Integer> then = bestOrder();
        for (int g = 0; g < guilds.size(); g++) {
            if (!then.contains(g)) {
                then.add(g);
            }
        }
        boolean changed = !then.equals(order);
        order.clear();
        order.addAll(then);
        return changed;
    }

    boolean lose(int guild, int leaf) {
        Guild g = guild(guild);
        range(leaf, 0, g.bookLeaves().size() - 1);
        return g.lost.add(leaf);
    }

    int leaves(int guild) {
        return guild(guild).bookLeaves().size();
    }

    int known(int guild) {
        Guild g = guild(guild);
        int known = 0;
        List<int[]> leaves = g.bookLeaves();
        for (int i = 0; i < leaves.size(); i++) {
            if (!g.lost.contains(i)) {
                known += leaves.get(i)[1] - leaves.get(i)[0] + 1;
            }
        }
        return known;
    }

    int callIn() {
        int missing = 0;
        for (Guild g : guilds) {
            missing += g.lines - g.inBook;
            g.inBook = g.lines;
            g.lost.clear();
        }
        return missing;
    }

    int town() {
        return town;
    }

    int paid(int house) {
        range(house, 0, 9);
        return paid.getOrDefault(house, 0);
    }

    int year() {
        stateIf(year == 99);
        year++;
        day = null;
        for (Guild g : guilds) {
            g.learnt = g.learnt < 30 ? 0 : g.learnt - 30;
        }
        for (Station s : stations) {
            s.bids.clear();
        }
        return year;
    }

    long checksum() {
        long sum = 7;
        for (Guild g : guilds) {
            for (int part : new int[] {g.wealth, g.lines, g.wheels, g.learnt}) {
                sum = 31 * sum + part;
            }
        }
        return (31 * sum + town) * 31 + year;
    }

    float wholeShare() {
        stateIf(day == null);
        if (day.isEmpty()) {
            throw new ArithmeticException();
        }
        return (float) wholeOf(day) / (float) day.size();
    }

    double meanWealth() {
        double sum = 0;
        int number = 0;
        for (Guild g : guilds) {
            if (!g.over) {
                sum += g.wealth;
                number++;
            }
        }
        if (number == 0) {
            throw new ArithmeticException();
        }
        return sum / number;
    }

    boolean isSound() {
        return true;
    }
}
