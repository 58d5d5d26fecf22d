import java.util.NoSuchElementException;

/**
 * A town that plays the world from its making to its end in one day.
 * ../shared/DOC.md says what every call answers.
 */
public final class Wagonplay {
    private static final int MOST_GUILDS = 8;
    private static final int MOST_STATIONS = 6;
    private static final int MOST_PARTS = 8;
    private static final int MOST_LINES = 600;
    private static final int MOST_LEAVES = 15;
    private static final int LEAF_LINES = 40;
    private static final int MOST_WHEELS = 9;
    private static final int MOST_LETTERS = 10;
    private static final int MOST_ARRANGED = 4;
    private static final int MOST_ORDERS = 24;
    private static final int MOST_ASKED = 1000;
    private static final int ALL_LEARNT = 100;
    private static final int LAST_YEAR = 99;
    private static final int SUBJECTS = 5;
    private static final int HOUSES = 10;
    private static final int PLAYERS = 20;
    private static final int HOURS = 24;
    private static final int START = 270;
    private static final int DARK = 1260;
    private static final int NONE = -1;

    private final Guild[] guilds = new Guild[MOST_GUILDS];
    private final int[] order = new int[MOST_GUILDS];
    private final Ground ground = new Ground();
    private final Letters letters = new Letters();
    private final boolean[] struck = new boolean[SUBJECTS];
    private final int[] housePaid = new int[HOUSES];
    private final Plan today = new Plan();
    private final Plan trial = new Plan();
    private final int[] triedOrder = new int[MOST_ARRANGED];
    private final int[] bestOrder = new int[MOST_ARRANGED];
    private int bestEnd;
    private int guildCount;
    private int yearNow;
    private int townMoney;
    private int wealthBrought;
    private boolean dayPlayed;

    public Wagonplay() {
        for (int i = 0; i < MOST_GUILDS; i++) {
            guilds[i] = new Guild();
        }
    }

    public int addGuild(int wealth, int lines, int parts)
            throws IllegalArgumentException, IllegalStateException {
        needRange(wealth, 0, 9999);
        needRange(lines, 20, 400);
        needRange(parts, 1, MOST_PARTS);
        if (guildCount >= MOST_GUILDS) {
            throw new IllegalStateException("there are 8 guilds");
        }
        int number = guildCount;
        Guild guild = guilds[number];
        guild.wealth = wealth;
        guild.play.write(lines, parts);
        wealthBrought += wealth;
        order[number] = number;
        guildCount++;
        return number;
    }

    public int merge(int guild, int other)
            throws IndexOutOfBoundsException, IllegalArgumentException, UnsupportedOperationException {
        needGuild(guild);
        needGuild(other);
        if (guild == other) {
            throw new IllegalArgumentException("a guild is not merged into itself");
        }
        needNotOver(guild);
        needNotOver(other);
        Guild from = guilds[guild];
        Guild to = guilds[other];
        to.wealth += from.wealth;
        from.wealth = 0;
        from.over = true;
        return to.wealth;
    }

    public boolean isOver(int guild) throws IndexOutOfBoundsException {
        needGuild(guild);
        return guilds[guild].over;
    }

    public int of(int guild, char what) throws IndexOutOfBoundsException, IllegalArgumentException {
        needGuild(guild);
        Guild it = guilds[guild];
        switch (what) {
            case 'm': return it.wealth;
            case 'l': return it.play.lines;
            case 'p': return it.play.parts;
            case 'e': return it.play.learnt;
            case 'w': return it.wheels;
            case 'f': return it.fines;
            case 'a': return it.play.linesNotInBook();
            default: throw new IllegalArgumentException("no such thing of a guild");
        }
    }

    public int type(char letter) throws IllegalArgumentException, IllegalStateException {
        if (letter < 'a' || letter > 'z') {
            throw new IllegalArgumentException("no small letter");
        }
        if (letters.count >= MOST_LETTERS) {
            throw new IllegalStateException("10 letters are typed");
        }
        letters.append(letter);
        return letters.count;
    }

    public int wipe() {
        int before = letters.count;
        letters.count = 0;
        return before;
    }

    public char subject(int guild) throws IndexOutOfBoundsException, UnsupportedOperationException {
        needGuild(guild);
        int typed = typedSubject();
        needNotOver(guild);
        Play play = guilds[guild].play;
        char before = Letters.wordOf(play.topic).charAt(0);
        play.topic = typed;
        return before;
    }

    public boolean strike(boolean is) throws UnsupportedOperationException {
        int typed = typedSubject();
        boolean before = struck[typed];
        struck[typed] = is;
        return before;
    }

    public int learn(int guild, int days)
            throws IndexOutOfBoundsException, IllegalArgumentException, UnsupportedOperationException {
        needGuild(guild);
        needRange(days, 1, 30);
        needNotOver(guild);
        Play play = guilds[guild].play;
        play.learnt = Math.min(ALL_LEARNT, play.learnt + 5 * days);
        return play.learnt;
    }

    public int cast(int guild, int part, int player)
            throws IndexOutOfBoundsException, IllegalArgumentException {
        needGuild(guild);
        Play play = guilds[guild].play;
        if (part < 0 || part >= play.parts) {
            throw new IndexOutOfBoundsException("no such part");
        }
        needRange(player, NONE, PLAYERS - 1);
        int before = play.players[part];
        play.players[part] = player;
        return before;
    }

    public int wagon(int guild, int height, int hands)
            throws IndexOutOfBoundsException, IllegalArgumentException {
        needGuild(guild);
        needRange(height, 1, 9);
        needRange(hands, 0, 9);
        Guild it = guilds[guild];
        int before = it.height;
        it.height = height;
        it.hands = hands;
        return before;
    }

    public int mend(int guild, int wheels)
            throws IndexOutOfBoundsException, IllegalArgumentException, UnsupportedOperationException {
        needGuild(guild);
        needRange(wheels, 1, MOST_WHEELS);
        needNotOver(guild);
        Guild it = guilds[guild];
        if (it.wheels + wheels > MOST_WHEELS) {
            throw new UnsupportedOperationException("a wagon has at most 9 wheels");
        }
        it.wheels += wheels;
        charge(it, 2 * wheels);
        return it.wheels;
    }

    public int addStation(int minutes, int hill, int corner)
            throws IllegalArgumentException, IllegalStateException {
        needRange(minutes, 1, 20);
        needRange(hill, 0, 9);
        needRange(corner, 0, 9);
        if (ground.count >= MOST_STATIONS) {
            throw new IllegalStateException("there are 6 stations");
        }
        int number = ground.count;
        ground.stations[number].build(minutes, hill, corner);
        ground.count++;
        return number;
    }

    public boolean setTorches(int station, boolean is) throws IndexOutOfBoundsException {
        needStation(station);
        Station it = ground.stations[station];
        boolean before = it.torches;
        it.torches = is;
        return before;
    }

    public boolean setScribe(int station, boolean is) throws IndexOutOfBoundsException {
        needStation(station);
        Station it = ground.stations[station];
        boolean before = it.scribe;
        it.scribe = is;
        return before;
    }

    public boolean bid(int station, int house, int amount)
            throws IndexOutOfBoundsException, IllegalArgumentException {
        needStation(station);
        needRange(house, 0, HOUSES - 1);
        needRange(amount, 1, 999);
        Station it = ground.stations[station];
        if (amount > it.rent) {
            it.rent = amount;
            it.house = house;
        }
        return it.house == house;
    }

    public int holder(int station) throws IndexOutOfBoundsException, NoSuchElementException {
        needStation(station);
        Station it = ground.stations[station];
        if (it.house == NONE) {
            throw new NoSuchElementException("nobody bid in this year");
        }
        return it.house;
    }

    public int put(int guild, int place) throws IndexOutOfBoundsException, IllegalArgumentException {
        needGuild(guild);
        needRange(place, 0, guildCount - 1);
        int before = placeOf(guild);
        for (int i = before; i < place; i++) {
            order[i] = order[i + 1];
        }
        for (int i = before; i > place; i--) {
            order[i] = order[i - 1];
        }
        order[place] = guild;
        return before;
    }

    public int place(int guild) throws IndexOutOfBoundsException {
        needGuild(guild);
        return placeOf(guild);
    }

    public boolean rain(int hour, boolean is) throws IllegalArgumentException {
        needRange(hour, 0, HOURS - 1);
        boolean before = ground.wet[hour];
        ground.wet[hour] = is;
        return before;
    }

    public int add(int guild, int lines)
            throws IndexOutOfBoundsException, IllegalArgumentException, UnsupportedOperationException {
        needGuild(guild);
        needRange(lines, 1, 99);
        needNotOver(guild);
        Play play = guilds[guild].play;
        if (play.lines + lines > MOST_LINES) {
            throw new UnsupportedOperationException("a play has at most 600 lines");
        }
        play.lines += lines;
        return play.linesNotInBook();
    }

    public int day() throws IllegalStateException {
        needStations();
        if (dayPlayed) {
            throw new IllegalStateException("a day was played in this year");
        }
        plan(today, order, guildCount);
        dayPlayed = true;
        for (int row = 0; row < today.count; row++) {
            settle(today.shows[row]);
        }
        takeRents();
        return today.countWhole();
    }

    public int at(int guild, int station, char what)
            throws IndexOutOfBoundsException, IllegalArgumentException, IllegalStateException, NoSuchElementException {
        needGuild(guild);
        needStation(station);
        if ("abelg".indexOf(what) < 0) {
            throw new IllegalArgumentException("no such thing of a play");
        }
        Show show = showOfToday(guild, station);
        switch (what) {
            case 'a': return show.comes[station];
            case 'b': return show.begins[station];
            case 'e': return show.ends[station];
            case 'l': return show.said[station];
            default: return show.gaps[station];
        }
    }

    public char how(int guild, int station)
            throws IndexOutOfBoundsException, IllegalStateException, NoSuchElementException {
        needGuild(guild);
        needStation(station);
        return showOfToday(guild, station).ways[station];
    }

    public int end() throws IllegalStateException {
        needDayPlayed();
        return today.latestEnd();
    }

    public int foresee() throws IllegalStateException {
        needStations();
        plan(trial, order, guildCount);
        return trial.latestEnd();
    }

    public int soonest() throws IllegalStateException, UnsupportedOperationException {
        needStations();
        needFewEnough();
        findBestOrder();
        return bestEnd;
    }

    public boolean arrange() throws IllegalStateException, UnsupportedOperationException {
        needStations();
        needFewEnough();
        int playing = findBestOrder();
        boolean changed = false;
        for (int i = 0; i < playing; i++) {
            changed |= setAtPlace(i, bestOrder[i]);
        }
        int place = playing;
        for (int guild = 0; guild < guildCount; guild++) {
            if (!takesPart(guild)) {
                changed |= setAtPlace(place, guild);
                place++;
            }
        }
        return changed;
    }

    public boolean lose(int guild, int leaf) throws IndexOutOfBoundsException, IllegalArgumentException {
        needGuild(guild);
        Play play = guilds[guild].play;
        needRange(leaf, 0, play.leafCount() - 1);
        boolean wasThere = !play.lost[leaf];
        play.lost[leaf] = true;
        return wasThere;
    }

    public int leaves(int guild) throws IndexOutOfBoundsException {
        needGuild(guild);
        return guilds[guild].play.leafCount();
    }

    public int known(int guild) throws IndexOutOfBoundsException {
        needGuild(guild);
        return guilds[guild].play.knownLines();
    }

    public int callIn() {
        int missing = 0;
        for (int i = 0; i < guildCount; i++) {
            missing += guilds[i].play.linesNotInBook();
            guilds[i].play.bringBookUpToDate();
        }
        return missing;
    }

    public int town() {
        return townMoney;
    }

    public int paid(int house) throws IllegalArgumentException {
        needRange(house, 0, HOUSES - 1);
        return housePaid[house];
    }

    public int year() throws IllegalStateException {
        if (yearNow >= LAST_YEAR) {
            throw new IllegalStateException("the year 99 is the last");
        }
        yearNow++;
        dayPlayed = false;
        for (int i = 0; i < guildCount; i++) {
            guilds[i].play.forget();
        }
        for (int i = 0; i < ground.count; i++) {
            ground.stations[i].endBids();
        }
        return yearNow;
    }

    public long checksum() {
        long sum = 7;
        for (int i = 0; i < guildCount; i++) {
            Guild guild = guilds[i];
            sum = 31 * sum + guild.wealth;
            sum = 31 * sum + guild.play.lines;
            sum = 31 * sum + guild.wheels;
            sum = 31 * sum + guild.play.learnt;
        }
        sum = 31 * sum + townMoney;
        return 31 * sum + yearNow;
    }

    public float wholeShare() throws IllegalStateException, ArithmeticException {
        needDayPlayed();
        int all = today.count * today.stops;
        if (all <= 0) {
            throw new ArithmeticException("no guild played");
        }
        return (float) today.countWhole() / (float) all;
    }

    public double meanWealth() throws ArithmeticException {
        int sum = 0;
        int number = 0;
        for (int i = 0; i < guildCount; i++) {
            if (!guilds[i].over) {
                sum += guilds[i].wealth;
                number++;
            }
        }
        if (number == 0) {
            throw new ArithmeticException("no guild is left");
        }
        return (double) sum / (double) number;
    }

    public boolean isSound() {
        return isMoneySound() && isOrderSound() && (!dayPlayed || today.isDaySound());
    }

    private static void needRange(int number, int least, int most) {
        if (number < least || number > most) {
            throw new IllegalArgumentException("out of range");
        }
    }

    private void needGuild(int guild) {
        if (guild < 0 || guild >= guildCount) {
            throw new IndexOutOfBoundsException("no such guild");
        }
    }

    private void needNotOver(int guild) {
        if (guilds[guild].over) {
            throw new UnsupportedOperationException("the guild is over");
        }
    }

    private void needStation(int station) {
        if (station < 0 || station >= ground.count) {
            throw new IndexOutOfBoundsException("no such station");
        }
    }

    private void needStations() {
        if (ground.count == 0) {
            throw new IllegalStateException("there are no stations");
        }
    }

    private void needDayPlayed() {
        if (!dayPlayed) {
            throw new IllegalStateException("no day was played in this year");
        }
    }

    private void needFewEnough() {
        if (countPlaying() > MOST_ARRANGED) {
            throw new UnsupportedOperationException("more than 4 guilds play");
        }
    }

    private int typedSubject() {
        int typed = letters.spelt();
        if (typed == NONE) {
            throw new UnsupportedOperationException("no subject is typed");
        }
        return typed;
    }

    /** Guilds and stations that came after the day have no play in it, as those left out have none. */
    private Show showOfToday(int guild, int station) {
        needDayPlayed();
        int row = today.rowOf(guild);
        if (row == NONE || station >= today.stops) {
            throw new NoSuchElementException("the guild was left out");
        }
        return today.shows[row];
    }

    private boolean takesPart(int guild) {
        Guild it = guilds[guild];
        return !it.over && !struck[it.play.topic];
    }

    private int countPlaying() {
        int playing = 0;
        for (int i = 0; i < guildCount; i++) {
            if (takesPart(i)) {
                playing++;
            }
        }
        return playing;
    }

    private int placeOf(int guild) {
        int place = 0;
        while (place < guildCount - 1 && order[place] != guild) {
            place++;
        }
        return place;
    }

    private boolean setAtPlace(int place, int guild) {
        boolean changes = order[place] != guild;
        order[place] = guild;
        return changes;
    }

    private void plan(Plan plan, int[] by, int length) {
        plan.start(ground);
        for (int place = 0; place < length; place++) {
            int guild = by[place];
            if (takesPart(guild)) {
                plan.append(guild, guilds[guild], ground);
            }
        }
    }

    /** Answers how many guilds play; their best order stands in bestOrder then, its end in bestEnd. */
    private int findBestOrder() {
        int playing = 0;
        for (int guild = 0; guild < guildCount && playing < MOST_ARRANGED; guild++) {
            if (takesPart(guild)) {
                triedOrder[playing] = guild;
                playing++;
            }
        }
        bestEnd = Integer.MAX_VALUE;
        boolean more = true;
        for (int tried = 0; more && tried < MOST_ORDERS; tried++) {
            plan(trial, triedOrder, playing);
            keepIfSooner(playing);
            more = turnToNext(triedOrder, playing);
        }
        return playing;
    }

    /** Of several best orders the first one that is tried stays. */
    private void keepIfSooner(int playing) {
        int end = trial.latestEnd();
        if (end < bestEnd) {
            bestEnd = end;
            System.arraycopy(triedOrder, 0, bestOrder, 0, playing);
        }
    }

    /** Makes an order the next one by its numbers place by place; answers false if it is the last. */
    private static boolean turnToNext(int[] numbers, int length) {
        int left = length - 2;
        while (left >= 0 && numbers[left] > numbers[left + 1]) {
            left--;
        }
        if (left < 0) {
            return false;
        }
        int right = length - 1;
        while (right > left && numbers[right] < numbers[left]) {
            right--;
        }
        swap(numbers, left, right);
        for (int i = left + 1, j = length - 1; i < j; i++, j--) {
            swap(numbers, i, j);
        }
        return true;
    }

    private static void swap(int[] numbers, int one, int other) {
        int kept = numbers[one];
        numbers[one] = numbers[other];
        numbers[other] = kept;
    }

    private void charge(Guild guild, int amount) {
        guild.wealth -= amount;
        townMoney += amount;
    }

    /** The fine is for lines that the book had not ahead of the day, so the scribes write behind it. */
    private void settle(Show show) {
        Guild guild = guilds[show.guild];
        int fine = 0;
        for (int s = 0; s < today.stops; s++) {
            if (show.isLate(s)) {
                fine += 3;
            }
            if (ground.stations[s].scribe && show.isWhole(s)) {
                fine += guild.play.linesNotInBook();
            }
        }
        guild.fines += fine;
        charge(guild, guild.wage() + fine);
        writeDown(show, guild.play);
        if (guild.wheels > 0) {
            guild.wheels--;
        }
    }

    private void writeDown(Show show, Play play) {
        for (int s = 0; s < today.stops; s++) {
            if (ground.stations[s].scribe) {
                if (show.isWhole(s)) {
                    play.bringBookUpToDate();
                } else {
                    play.findLeavesUpTo(show.said[s]);
                }
            }
        }
    }

    private void takeRents() {
        for (int s = 0; s < ground.count; s++) {
            Station station = ground.stations[s];
            if (station.house != NONE) {
                housePaid[station.house] += station.rent;
                townMoney += station.rent;
            }
        }
    }

    private boolean isMoneySound() {
        int sum = wealthBrought;
        for (int i = 0; i < guildCount; i++) {
            sum -= guilds[i].wealth;
        }
        for (int i = 0; i < HOUSES; i++) {
            sum += housePaid[i];
        }
        return sum == townMoney;
    }

    private boolean isOrderSound() {
        int seen = 0;
        for (int i = 0; i < guildCount; i++) {
            seen |= 1 << order[i];
        }
        return seen == (1 << guildCount) - 1;
    }

    private static final class Guild {
        int wealth;
        int fines;
        boolean over;
        int height = 3;
        int hands = 3;
        int wheels = 5;
        final Play play = new Play();

        int wage() {
            return 2 * play.parts + Math.max(0, 5 - wheels);
        }
    }

    private static final class Play {
        int lines;
        int parts;
        int topic;
        int learnt;
        int linesInBook;
        final int[] players = new int[MOST_PARTS];
        final boolean[] lost = new boolean[MOST_LEAVES];

        Play() {
            for (int i = 0; i < MOST_PARTS; i++) {
                players[i] = NONE;
            }
        }

        void write(int newLines, int newParts) {
            lines = newLines;
            linesInBook = newLines;
            parts = newParts;
        }

        void forget() {
            learnt = Math.max(0, learnt - 30);
        }

        int minutes(boolean rains) {
            int minutes = lines / 10 + 1 + (ALL_LEARNT - learnt) / 20;
            if (rains) {
                minutes += 5;
            }
            int seen = 0;
            for (int part = 0; part < parts; part++) {
                int player = players[part];
                if (player == NONE) {
                    minutes += 2;
                } else if ((seen & 1 << player) != 0) {
                    minutes += 1;
                } else {
                    seen |= 1 << player;
                }
            }
            return minutes;
        }

        /** The players as bits, so that two plays share one where both have a bit. */
        int playerBits() {
            int bits = 0;
            for (int part = 0; part < parts; part++) {
                if (players[part] != NONE) {
                    bits |= 1 << players[part];
                }
            }
            return bits;
        }

        int linesNotInBook() {
            return lines - linesInBook;
        }

        int leafCount() {
            return (linesInBook + LEAF_LINES - 1) / LEAF_LINES;
        }

        int lastLineOf(int leaf) {
            return Math.min(linesInBook, (leaf + 1) * LEAF_LINES);
        }

        int knownLines() {
            int sum = 0;
            int leaves = leafCount();
            for (int leaf = 0; leaf < leaves; leaf++) {
                if (!lost[leaf]) {
                    sum += lastLineOf(leaf) - leaf * LEAF_LINES;
                }
            }
            return sum;
        }

        void bringBookUpToDate() {
            linesInBook = lines;
            findLeavesUpTo(lines);
        }

        void findLeavesUpTo(int line) {
            int leaves = leafCount();
            for (int leaf = 0; leaf < leaves; leaf++) {
                if (lastLineOf(leaf) <= line) {
                    lost[leaf] = false;
                }
            }
        }
    }

    private static final class Station {
        int minutes;
        int hill;
        int corner;
        boolean torches;
        boolean scribe;
        int house = NONE;
        int rent;

        void build(int newMinutes, int newHill, int newCorner) {
            minutes = newMinutes;
            hill = newHill;
            corner = newCorner;
        }

        void endBids() {
            house = NONE;
            rent = 0;
        }

        int minutesOfWay(Guild guild, boolean rains) {
            int way = minutes + Math.max(0, hill + guild.height - guild.hands);
            if (corner + guild.height > 10) {
                way += 5;
            }
            if (guild.wheels == 0) {
                way += 10;
            }
            return rains ? way + 2 : way;
        }

        boolean isTooDark(int minute) {
            return !torches && minute >= DARK;
        }

        int endOfPlay(int begin, int minutesOfPlay) {
            int end = begin + minutesOfPlay;
            return torches ? end : Math.max(begin, Math.min(end, DARK));
        }
    }

    private static final class Ground {
        final Station[] stations = new Station[MOST_STATIONS];
        final boolean[] wet = new boolean[HOURS];
        int count;

        Ground() {
            for (int i = 0; i < MOST_STATIONS; i++) {
                stations[i] = new Station();
            }
        }

        boolean rainsAt(int minute) {
            return wet[Math.floorMod(Math.floorDiv(minute, 60), HOURS)];
        }
    }

    private static final class Letters {
        final char[] typed = new char[MOST_LETTERS];
        int count;

        void append(char letter) {
            if (count < MOST_LETTERS) {
                typed[count] = letter;
                count++;
            }
        }

        int spelt() {
            for (int i = 0; i < SUBJECTS; i++) {
                if (isTyped(wordOf(i))) {
                    return i;
                }
            }
            return NONE;
        }

        private boolean isTyped(String word) {
            if (word.length() != count) {
                return false;
            }
            for (int i = 0; i < count; i++) {
                if (word.charAt(i) != typed[i]) {
                    return false;
                }
            }
            return true;
        }

        static String wordOf(int topic) {
            switch (topic) {
                case 0: return "creation";
                case 1: return "flood";
                case 2: return "birth";
                case 3: return "passion";
                default: return "doom";
            }
        }
    }

    /** A guild's way through the stations of one day. */
    private static final class Show {
        int guild;
        int playerBits;
        final int[] comes = new int[MOST_STATIONS];
        final int[] begins = new int[MOST_STATIONS];
        final int[] ends = new int[MOST_STATIONS];
        final int[] gaps = new int[MOST_STATIONS];
        final int[] said = new int[MOST_STATIONS];
        final char[] ways = new char[MOST_STATIONS];

        boolean isWhole(int station) {
            return ways[station] == 'w';
        }

        boolean isLate(int station) {
            return gaps[station] > 15;
        }

        /** A play without minutes is at no time on, not even between two minutes of another one. */
        boolean isOnWithin(int station, int from, int upTo) {
            int begin = begins[station];
            int end = ends[station];
            return begin < end && begin < upTo && from < end && from < upTo;
        }
    }

    /** A day as it is played or would be: its shows stand in the order in which the guilds play. */
    private static final class Plan {
        final Show[] shows = new Show[MOST_GUILDS];
        int count;
        int stops;

        Plan() {
            for (int i = 0; i < MOST_GUILDS; i++) {
                shows[i] = new Show();
            }
        }

        void start(Ground ground) {
            count = 0;
            stops = ground.count;
        }

        void append(int number, Guild guild, Ground ground) {
            if (count >= MOST_GUILDS) {
                return;
            }
            Show show = shows[count];
            show.guild = number;
            show.playerBits = guild.play.playerBits();
            for (int s = 0; s < stops; s++) {
                playAt(s, show, guild, ground);
            }
            count++;
        }

        int rowOf(int guild) {
            for (int row = 0; row < count; row++) {
                if (shows[row].guild == guild) {
                    return row;
                }
            }
            return NONE;
        }

        private void playAt(int s, Show show, Guild guild, Ground ground) {
            Station station = ground.stations[s];
            int leaving = s > 0 ? show.ends[s - 1] : START;
            int coming = leaving + station.minutesOfWay(guild, ground.rainsAt(leaving));
            int begin = coming;
            if (count > 0) {
                begin = Math.max(begin, shows[count - 1].ends[s] + 2);
            }
            begin = firstFree(begin, show.playerBits, guild.play, station, ground);
            show.comes[s] = coming;
            show.begins[s] = begin;
            show.gaps[s] = count > 0 ? begin - shows[count - 1].ends[s] : 0;
            judge(s, show, guild.play, station, guild.play.minutes(ground.rainsAt(begin)));
        }

        /** Each answer but the last is the end of another show, so there are far fewer than the bound. */
        private int firstFree(int earliest, int bits, Play play, Station station, Ground ground) {
            int begin = earliest;
            for (int asked = 0; asked < MOST_ASKED; asked++) {
                int end = station.endOfPlay(begin, play.minutes(ground.rainsAt(begin)));
                int free = endOfClashes(bits, begin, end);
                if (free <= begin) {
                    return begin;
                }
                begin = free;
            }
            return begin;
        }

        private int endOfClashes(int bits, int begin, int end) {
            int last = begin;
            for (int row = 0; row < count; row++) {
                Show ahead = shows[row];
                if ((ahead.playerBits & bits) != 0) {
                    for (int s = 0; s < stops; s++) {
                        if (ahead.isOnWithin(s, begin, end)) {
                            last = Math.max(last, ahead.ends[s]);
                        }
                    }
                }
            }
            return last;
        }

        private void judge(int s, Show show, Play play, Station station, int minutes) {
            int begin = show.begins[s];
            int end = station.endOfPlay(begin, minutes);
            show.ends[s] = end;
            if (station.isTooDark(begin)) {
                show.ways[s] = 'd';
                show.said[s] = 0;
            } else if (end - begin < minutes) {
                show.ways[s] = 'c';
                show.said[s] = minutes > 0 ? play.lines * (end - begin) / minutes : 0;
            } else {
                show.ways[s] = 'w';
                show.said[s] = play.lines;
            }
        }

        int latestEnd() {
            int latest = START;
            for (int row = 0; row < count; row++) {
                for (int s = 0; s < stops; s++) {
                    latest = Math.max(latest, shows[row].ends[s]);
                }
            }
            return latest;
        }

        int countWhole() {
            int whole = 0;
            for (int row = 0; row < count; row++) {
                for (int s = 0; s < stops; s++) {
                    if (shows[row].isWhole(s)) {
                        whole++;
                    }
                }
            }
            return whole;
        }

        boolean isDaySound() {
            for (int row = 0; row < count; row++) {
                if (!isWaySound(row) || !isApart(row)) {
                    return false;
                }
            }
            return true;
        }

        private boolean isWaySound(int row) {
            Show show = shows[row];
            int before = START;
            for (int s = 0; s < stops; s++) {
                if (show.comes[s] <= before || show.begins[s] < show.comes[s] || show.ends[s] < show.begins[s]) {
                    return false;
                }
                before = show.ends[s];
            }
            return true;
        }

        private boolean isApart(int row) {
            Show show = shows[row];
            for (int s = 0; s < stops; s++) {
                if (row > 0 && show.begins[s] < shows[row - 1].ends[s]) {
                    return false;
                }
            }
            for (int other = 0; other < row; other++) {
                if ((shows[other].playerBits & show.playerBits) != 0 && overlap(show, shows[other])) {
                    return false;
                }
            }
            return true;
        }

        private boolean overlap(Show one, Show other) {
            for (int s = 0; s < stops; s++) {
                for (int t = 0; t < stops; t++) {
                    if (one.isOnWithin(s, other.begins[t], other.ends[t])) {
                        return true;
                    }
                }
            }
            return false;
        }
    }
}
