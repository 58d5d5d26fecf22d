/** The boundaries that the promises of the day, the best order, the book, money, years and sums name. */
final class AnswerBoundaries extends Sentences {
    private static final String NO_GUILD = "Throws `IndexOutOfBoundsException` if there is no such guild";
    private static final String NO_STATIONS = "Throws `IllegalStateException` if there are no stations";
    private static final String NO_DAY = "Throws `IllegalStateException` if no day was played in this year";
    private static final String LEFT_OUT = "Throws `NoSuchElementException` if the guild was left out";
    private static final String MORE_THAN_4 = "Throws `UnsupportedOperationException` if more than 4 play";
    private static final int OVER = 2;
    private static final int STRUCK_OUT = 3;

    AnswerBoundaries(Document document) {
        super(document);
    }

    void run() {
        day();
        at();
        how();
        end();
        foresee();
        soonest();
        arrange();
        arrangeLikeOnes();
        lose();
        leaves();
        known();
        callIn();
        town();
        paid();
        year();
        checksum();
        wholeShare();
        meanWealth();
        isSound();
    }

    private static Wagonplay noStations() {
        return guilds(5);
    }

    /** The day of the year before is over. */
    private static Wagonplay nextYear() {
        Wagonplay x = busy();
        x.year();
        return x;
    }

    /** A day was played, without a guild in it. */
    private static Wagonplay nobodyPlayed() {
        Wagonplay x = town(4, 2);
        type(x, "creation");
        x.strike(true);
        x.day();
        return x;
    }

    private void day() {
        in("Promise 23");
        says("Returns how many plays were whole, over all stations");
        is(town(8, 6).day(), 48);
        is(town(1, 1).day(), 1);
        is(town(0, 6).day(), 0);
        Wagonplay x = town(4, 1);
        type(x, "creation");
        x.strike(true);
        is(x.day(), 0);

        says("Throws `IllegalStateException` if there are no stations, or a day was played in this year");
        refuses(STATE, Wagonplay::new, Wagonplay::day);
        refuses(STATE, AnswerBoundaries::noStations, Wagonplay::day);
        refuses(STATE, Sentences::busy, Wagonplay::day);
        refuses(STATE, AnswerBoundaries::nobodyPlayed, Wagonplay::day);
        is(Probe.answer(nextYear()::day), "6");
        Wagonplay y = town(1, 1);
        for (int year = 1; year <= 99; year++) {
            is(y.day() >= 0, true);
            fails(STATE, y::day);
            is(y.year(), year);
        }
        is(y.day(), 1);
        fails(STATE, y::day);
    }

    private void at() {
        in("Promise 24");
        says("`what`: 'a' when the wagon came, 'b' when it began, or would have, 'e' when it ended");
        Wagonplay x = town(8, 6);
        x.day();
        is(x.at(0, 0, 'g'), 0);
        is(x.at(0, 5, 'g'), 0);
        is(x.at(1, 0, 'g'), 2);
        is(x.at(7, 5, 'g'), 2);
        is(x.at(7, 0, 'a'), 275);
        is(x.at(7, 0, 'b'), 275 + 7 * 5);
        is(x.at(7, 0, 'e'), 275 + 7 * 5 + 3);
        is(x.at(7, 0, 'l'), 20);
        x.put(0, 7);
        x.add(7, 50);
        is(x.at(0, 0, 'g'), 0);
        is(x.at(7, 0, 'l'), 20);

        says("Throws `IndexOutOfBoundsException` if there is no such guild or station");
        isIndex(2, () -> played(2, 2), (y, n) -> y.at(n, 0, 'a'));
        isIndex(2, () -> played(2, 2), (y, n) -> y.at(0, n, 'a'));
        isIndex(8, () -> played(8, 1), (y, n) -> y.at(n, 0, 'a'));
        isIndex(6, () -> played(1, 6), (y, n) -> y.at(0, n, 'a'));

        says("Throws `IllegalArgumentException` if there is no such thing");
        isOneOf("abelg", Sentences::busy, (y, sign) -> y.at(0, 0, (char) sign));
        says(NO_DAY);
        refuses(STATE, Sentences::ready, y -> y.at(0, 0, 'a'));
        refuses(STATE, AnswerBoundaries::nextYear, y -> y.at(0, 0, 'g'));
        says(LEFT_OUT);
        refusesAll(NO_ELEMENT, Sentences::busy, (y, n) -> y.at(n, 0, 'a'), OVER, STRUCK_OUT);
        refuses(NO_ELEMENT, AnswerBoundaries::nobodyPlayed, y -> y.at(3, 1, 'l'));
        isStillOfTheDay(y -> y.at(3, 1, 'b'));
    }

    private static Wagonplay played(int guilds, int stations) {
        Wagonplay x = town(guilds, stations);
        x.day();
        return x;
    }

    /** Guilds that are struck out or over behind the day were not left out of it, nor the other way round. */
    private void isStillOfTheDay(Asked asked) {
        Wagonplay x = played(4, 2);
        Object answer = asked.answer(x);
        type(x, "creation");
        x.strike(true);
        is(asked.answer(x), answer);
        x.merge(3, 0);
        is(asked.answer(x), answer);
        Wagonplay y = nobodyPlayed();
        y.strike(false);
        fails(NO_ELEMENT, () -> asked.answer(y));
    }

    private void how() {
        in("Promise 25");
        says("Returns 'w', 'c' or 'd'");
        Wagonplay x = DayBoundaries.late(1259);
        x.addGuild(0, 20, 1);
        x.day();
        is(x.how(0, 5), 'w');
        is(x.how(1, 5), 'c');
        is(x.how(2, 5), 'd');

        says("Throws `IndexOutOfBoundsException` if there is no such guild or station");
        isIndex(2, () -> played(2, 2), (y, n) -> y.how(n, 0));
        isIndex(2, () -> played(2, 2), (y, n) -> y.how(0, n));
        isIndex(8, () -> played(8, 1), (y, n) -> y.how(n, 0));
        isIndex(6, () -> played(1, 6), (y, n) -> y.how(0, n));
        says(NO_DAY);
        refuses(STATE, Sentences::ready, y -> y.how(0, 0));
        refuses(STATE, AnswerBoundaries::nextYear, y -> y.how(0, 0));
        says(LEFT_OUT);
        refusesAll(NO_ELEMENT, Sentences::busy, (y, n) -> y.how(n, 0), OVER, STRUCK_OUT);
        refuses(NO_ELEMENT, AnswerBoundaries::nobodyPlayed, y -> y.how(0, 0));
        isStillOfTheDay(y -> y.how(3, 1));
    }

    private void end() {
        in("Promise 26");
        says("Returns the minute, plays 'd' counted, 270 if no guild played");
        is(nobodyPlayed().end(), 270);
        is(played(0, 1).end(), 270);
        is(played(1, 1).end(), 278);
        Wagonplay x = DayBoundaries.late(1261);
        x.addGuild(0, 20, 1);
        x.day();
        is(x.how(1, 5), 'd');
        is(x.at(1, 5, 'e'), 1261);
        is(x.how(2, 5), 'd');
        is(x.at(2, 5, 'e'), 1266);
        is(x.end(), 1266);
        // It tells of the day as it was played.
        Wagonplay y = played(2, 1);
        y.add(0, 99);
        y.merge(1, 0);
        is(y.end(), 283);

        says(NO_DAY);
        refuses(STATE, Wagonplay::new, Wagonplay::end);
        refuses(STATE, Sentences::ready, Wagonplay::end);
        refuses(STATE, AnswerBoundaries::nextYear, Wagonplay::end);
    }

    private void changesNothing(Made made, Asked asked) {
        Wagonplay x = made.town();
        is(asked.answer(x) instanceof Integer, true);
        is(Probe.of(x), Probe.of(made.town()));
    }

    private void foresee() {
        in("Promise 27");
        says("Returns the minute, 270 without guilds that play");
        is(town(0, 1).foresee(), 270);
        changesNothing(Sentences::ready, Wagonplay::foresee);
        changesNothing(Sentences::busy, Wagonplay::foresee);
        Wagonplay x = town(1, 6);
        is(x.foresee(), 270 + 6 * 8);
        type(x, "creation");
        x.strike(true);
        is(x.foresee(), 270);
        is(played(1, 1).foresee(), 278);
        Wagonplay y = DayBoundaries.late(1261);
        is(y.foresee(), 1261);
        y.setTorches(5, true);
        is(y.foresee(), 1261 + 66);
        y.day();
        is(y.end(), 1261 + 66);

        says(NO_STATIONS);
        refuses(STATE, Wagonplay::new, Wagonplay::foresee);
        refuses(STATE, AnswerBoundaries::noStations, Wagonplay::foresee);
    }

    private void soonest() {
        in("Promise 28");
        says("Returns when the last play would end at the soonest, by all orders of guilds that play");
        changesNothing(Sentences::ready, Wagonplay::soonest);
        changesNothing(Sentences::busy, Wagonplay::soonest);
        is(town(0, 1).soonest(), 270);
        is(town(1, 1).soonest(), 278);
        is(town(4, 1).soonest(), 278 + 3 * 5);
        is(fourAndMore().soonest(), 278 + 3 * 5);
        // The longest way first is the worst, and last the best: the order there is does not matter.
        Wagonplay x = unlike();
        is(x.foresee() > x.soonest(), true);
        int soonest = x.soonest();
        x.put(3, 0);
        is(x.soonest(), soonest);
        is(x.place(3), 0);

        says(NO_STATIONS);
        refuses(STATE, Wagonplay::new, Wagonplay::soonest);
        refuses(STATE, () -> guilds(1), Wagonplay::soonest);
        says(MORE_THAN_4);
        refuses(UNSUPPORTED, () -> town(5, 1), Wagonplay::soonest);
        refuses(UNSUPPORTED, () -> town(8, 6), Wagonplay::soonest);
        is(town(5, 1).merge(4, 0), 0);
    }

    /** 8 guilds, of which 1 is over and 3 are struck out. */
    private static Wagonplay fourAndMore() {
        Wagonplay x = town(8, 1);
        x.merge(0, 7);
        type(x, "birth");
        for (int i = 1; i < 4; i++) {
            x.subject(i);
        }
        x.strike(true);
        return x;
    }

    /** 4 guilds of which the higher number comes earlier: the best order is 3, 2, 1, 0. */
    private static Wagonplay unlike() {
        Wagonplay x = town(4, 0);
        for (int i = 0; i < 4; i++) {
            x.wagon(i, 9 - 2 * i, 0);
        }
        x.addStation(5, 9, 0);
        return x;
    }

    private void arrange() {
        in("Promise 29");
        says("Makes the order the first one, by their numbers place by place");
        Wagonplay x = unlike();
        is(x.foresee() > x.soonest(), true);
        int soonest = x.soonest();
        is(x.arrange(), true);
        is(x.foresee(), soonest);
        isOrder(x, bestOf(unlike(), 4));
        is(x.arrange(), false);

        says("those that do not play come behind, by their numbers");
        Wagonplay y = fourAndMore();
        y.put(7, 0);
        y.put(0, 1);
        y.put(3, 2);
        is(y.arrange(), true);
        isOrder(y, 4, 5, 6, 7, 0, 1, 2, 3);
        is(y.arrange(), false);
        Wagonplay z = nobodyPlayed();
        z.put(3, 0);
        is(z.arrange(), true);
        isOrder(z, 0, 1, 2, 3);

        says("Returns whether the order changed");
        is(town(0, 1).arrange(), false);
        is(town(1, 1).arrange(), false);
        Wagonplay u = town(4, 1);
        is(u.arrange(), false);
        u.put(2, 3);
        is(u.arrange(), true);
        u.put(0, 1);
        is(u.arrange(), true);
        is(u.arrange(), false);
        // Of those that play alone, and of those that do not play alone.
        Wagonplay v = fourAndMore();
        v.arrange();
        v.put(5, 0);
        is(v.arrange(), true);
        v.put(0, 7);
        is(v.arrange(), true);
        v.put(3, 6);
        is(v.arrange(), true);
        is(v.arrange(), false);

        says(NO_STATIONS);
        refuses(STATE, Wagonplay::new, Wagonplay::arrange);
        refuses(STATE, () -> guilds(2), Wagonplay::arrange);
        says(MORE_THAN_4);
        refuses(UNSUPPORTED, () -> turned(5), Wagonplay::arrange);
        refuses(UNSUPPORTED, () -> turned(8), Wagonplay::arrange);
        is(turned(4).arrange(), true);
    }

    private static Wagonplay turned(int guilds) {
        Wagonplay x = town(guilds, 1);
        x.put(0, guilds - 1);
        return x;
    }

    private void isOrder(Wagonplay x, int... guilds) {
        for (int i = 0; i < guilds.length; i++) {
            is(x.place(guilds[i]), i);
        }
    }

    /** Tries all orders by put and foresee: the first of those that end the soonest. */
    private static int[] bestOf(Wagonplay x, int count) {
        int[] best = null;
        int bestEnd = Integer.MAX_VALUE;
        int all = (int) Math.pow(count, count);
        for (int code = 0; code < all; code++) {
            int[] guilds = new int[count];
            int seen = 0;
            for (int i = count - 1, rest = code; i >= 0; i--, rest /= count) {
                guilds[i] = rest % count;
                seen |= 1 << guilds[i];
            }
            if (seen == (1 << count) - 1) {
                for (int i = 0; i < count; i++) {
                    x.put(guilds[i], i);
                }
                if (x.foresee() < bestEnd) {
                    bestEnd = x.foresee();
                    best = guilds;
                }
            }
        }
        return best;
    }

    /** Of all kinds of towns: the first order of the like ones, the last one to end within the order, one only. */
    private void arrangeLikeOnes() {
        says("Makes the order the first one, by their numbers place by place");
        for (int kind = 0; kind < 40; kind++) {
            int count = 2 + kind % 3;
            Wagonplay x = ofKind(kind, count);
            int[] best = bestOf(ofKind(kind, count), count);
            x.arrange();
            isOrder(x, best);
            Wagonplay y = ofKind(kind, count);
            int soonest = y.soonest();
            y.arrange();
            is(y.foresee(), soonest);
        }
    }

    private static Wagonplay ofKind(int kind, int count) {
        Wagonplay x = new Wagonplay();
        for (int i = 0; i < count; i++) {
            int k = (kind * 7 + i * 5) % 11;
            x.addGuild(0, 20 + 35 * k, 1);
            x.wagon(i, 1 + k % 9, (kind + i) % 10);
            x.cast(i, 0, k % 3);
        }
        for (int i = 0; i < 1 + kind % 6; i++) {
            x.addStation(1 + (kind + i * 3) % 20, (i * 5 + kind) % 10, (i * 7 + kind) % 10);
        }
        return x;
    }

    private static Wagonplay lines(int lines) {
        Wagonplay x = new Wagonplay();
        x.addGuild(0, lines, 1);
        return x;
    }

    private void lose() {
        in("Promise 30");
        says("`leaf`: the leaf, from 0");
        is(lines(20).lose(0, 0), true);
        is(lines(400).lose(0, 9), true);
        says("Returns whether it was there");
        Wagonplay x = lines(400);
        for (int leaf = 9; leaf >= 0; leaf--) {
            is(x.lose(0, leaf), true);
            is(x.lose(0, leaf), false);
        }
        is(x.known(0), 0);
        x.callIn();
        is(x.lose(0, 9), true);

        says(NO_GUILD);
        isIndex(4, Sentences::ready, (y, n) -> y.lose(n, 0));
        says("Throws `IllegalArgumentException` if there is no such leaf");
        isRange(0, 0, () -> lines(20), (y, n) -> y.lose(0, n));
        isRange(0, 0, () -> lines(40), (y, n) -> y.lose(0, n));
        isRange(0, 1, () -> lines(41), (y, n) -> y.lose(0, n));
        isRange(0, 9, () -> lines(400), (y, n) -> y.lose(0, n));
        isRange(0, 9, AnswerBoundaries::longest, (y, n) -> y.lose(0, n));
        isRange(0, 14, AnswerBoundaries::longestCalledIn, (y, n) -> y.lose(0, n));
    }

    /** The book has 400 of 600 lines. */
    private static Wagonplay longest() {
        Wagonplay x = lines(400);
        addLines(x, 0, 200);
        return x;
    }

    private static Wagonplay longestCalledIn() {
        Wagonplay x = longest();
        x.callIn();
        return x;
    }

    private void leaves() {
        in("Promise 31");
        says("Returns how many leaves the book has of a play, lost ones counted");
        is(lines(20).leaves(0), 1);
        is(lines(40).leaves(0), 1);
        is(lines(41).leaves(0), 2);
        is(longest().leaves(0), 10);
        is(longestCalledIn().leaves(0), 15);
        Wagonplay x = lines(41);
        x.lose(0, 0);
        x.lose(0, 1);
        is(x.leaves(0), 2);
        says(NO_GUILD);
        isIndex(4, Sentences::ready, (y, n) -> y.leaves(n));
        isIndex(8, () -> guilds(8), (y, n) -> y.leaves(n));
        refuses(INDEX, Wagonplay::new, y -> y.leaves(0));
    }

    private void known() {
        in("Promise 32");
        says("Returns how many lines of a play are known from the book");
        is(lines(20).known(0), 20);
        is(longest().known(0), 400);
        is(longestCalledIn().known(0), 600);
        Wagonplay x = lines(41);
        x.lose(0, 0);
        is(x.known(0), 1);
        x.lose(0, 1);
        is(x.known(0), 0);
        x.add(0, 99);
        is(x.known(0), 0);
        says(NO_GUILD);
        isIndex(4, Sentences::ready, (y, n) -> y.known(n));
        isIndex(8, () -> guilds(8), (y, n) -> y.known(n));
        refuses(INDEX, Wagonplay::new, y -> y.known(0));
    }

    private void callIn() {
        in("Promise 33");
        says("Returns how many lines it had not, lost leaves aside");
        is(new Wagonplay().callIn(), 0);
        is(ready().callIn(), 23);
        Wagonplay x = lines(20);
        x.lose(0, 0);
        is(x.callIn(), 0);
        is(x.known(0), 20);
        Wagonplay y = guilds(8);
        for (int i = 0; i < 8; i++) {
            addLines(y, i, 580);
        }
        y.merge(0, 7);
        is(y.callIn(), 8 * 580);
        is(y.callIn(), 0);
    }

    private void town() {
        in("Promise 34");
        says("Returns the sum");
        is(new Wagonplay().town(), 0);
        Wagonplay x = town(8, 6);
        for (int i = 0; i < 6; i++) {
            x.bid(i, 9, 999);
        }
        x.mend(0, 4);
        x.day();
        is(x.town(), 6 * 999 + 8 + 8 * 2);
    }

    private void paid() {
        in("Promise 35");
        says("`house`: 0 to 9");
        isRange(0, 9, Sentences::busy, (y, n) -> y.paid(n));
        says("Returns the sum of all years");
        Wagonplay x = town(1, 6);
        is(x.paid(9), 0);
        for (int year = 0; year < 50; year++) {
            for (int i = 0; i < 6; i++) {
                x.bid(i, 9, 999);
            }
            x.day();
            is(x.paid(9), 6 * 999 * (year + 1));
            is(x.paid(0), 0);
            x.year();
        }
        says("Throws `IllegalArgumentException` if it is out of range");
        refusesAll(ARGUMENT, Sentences::busy, (y, n) -> y.paid(n), -1, 10, 11, FAR_BELOW, FAR_ABOVE);
    }

    private static Wagonplay inYear(int year) {
        Wagonplay x = ready();
        for (int i = 0; i < year; i++) {
            x.year();
        }
        x.learn(0, 20);
        x.bid(0, 3, 3);
        return x;
    }

    private void year() {
        in("Promise 36");
        says("plays are forgotten in part, bids are over, no day was played");
        Wagonplay x = busy();
        is(x.of(0, 'e'), 45);
        is(x.of(1, 'e'), 0);
        is(x.of(OVER, 'e'), 100);
        x.year();
        is(x.of(0, 'e'), 15);
        is(x.of(1, 'e'), 0);
        is(x.of(OVER, 'e'), 70);
        for (int i = 0; i < 3; i++) {
            int station = i;
            fails(NO_ELEMENT, () -> x.holder(station));
            is(x.bid(i, 0, 1), true);
        }
        fails(STATE, x::end);
        is(x.day() > 0, true);

        Wagonplay y = town(8, 6);
        y.year();
        is(y.of(0, 'e'), 70);
        is(y.of(7, 'e'), 70);

        says("Returns the year then");
        is(inYear(0).year(), 1);
        is(inYear(98).year(), 99);
        says("Throws `IllegalStateException` if it would be above 99");
        refuses(STATE, () -> inYear(99), Wagonplay::year);
        refuses(STATE, AnswerBoundaries::lastDay, Wagonplay::year);
    }

    private static Wagonplay lastDay() {
        Wagonplay x = inYear(99);
        x.day();
        return x;
    }

    private void checksum() {
        in("Promise 37");
        says("Returns 7 at first, then for each guild");
        is(new Wagonplay().checksum(), 7L * 31 * 31);
        Wagonplay x = new Wagonplay();
        x.addGuild(0, 20, 1);
        x.mend(0, 4);
        x.learn(0, 20);
        is(x.checksum(), (((((7L * 31 - 8) * 31 + 20) * 31 + 9) * 31 + 100) * 31 + 8) * 31);
        says("then 31 times itself plus the town's money, then 31 times itself plus the year");
        x.year();
        is(x.checksum(), (((((7L * 31 - 8) * 31 + 20) * 31 + 9) * 31 + 70) * 31 + 8) * 31 + 1);
        // Of 8 guilds it goes round behind the greatest long.
        Wagonplay y = new Wagonplay();
        java.math.BigInteger sum = java.math.BigInteger.valueOf(7);
        for (int i = 0; i < 8; i++) {
            y.addGuild(9999, 400, 8);
            for (int next : new int[] {9999, 400, 5, 0}) {
                sum = sum.multiply(java.math.BigInteger.valueOf(31)).add(java.math.BigInteger.valueOf(next));
            }
        }
        sum = sum.multiply(java.math.BigInteger.valueOf(31 * 31));
        is(sum.bitLength() > 64, true);
        is(y.checksum(), sum.longValue());
    }

    private void wholeShare() {
        in("Promise 38");
        says("Returns their number divided by that of all, over guilds that played and stations");
        is(played(8, 6).wholeShare(), 1f);
        is(played(1, 1).wholeShare(), 1f);
        Wagonplay x = DayBoundaries.late(1259);
        x.merge(x.addGuild(0, 20, 1), 0);
        is(x.day(), 11);
        is(x.wholeShare(), 11f / 12f);
        Wagonplay y = new Wagonplay();
        for (int i = 0; i < 8; i++) {
            y.addGuild(0, 400, 8);
            addLines(y, i, 200);
            y.wagon(i, 9, 0);
            y.cast(i, 0, 0);
        }
        for (int i = 0; i < 6; i++) {
            y.addStation(20, 9, 9);
        }
        int whole = y.day();
        is(whole > 0 && whole < 48, true);
        is(y.wholeShare(), (float) whole / 48f);
        says(NO_DAY);
        refuses(STATE, Sentences::ready, Wagonplay::wholeShare);
        refuses(STATE, AnswerBoundaries::nextYear, Wagonplay::wholeShare);
        says("Throws `ArithmeticException` if no guild played");
        refuses(ARITHMETIC, AnswerBoundaries::nobodyPlayed, Wagonplay::wholeShare);
        refuses(ARITHMETIC, () -> played(0, 6), Wagonplay::wholeShare);
    }

    private void meanWealth() {
        in("Promise 39");
        says("Returns the sum divided by their number, both converted to double");
        Wagonplay x = new Wagonplay();
        int sum = 0;
        for (int i = 0; i < 8; i++) {
            x.addGuild(9999 - i, 20, 1);
            sum += 9999 - i;
            is(x.meanWealth(), (double) sum / (double) (i + 1));
        }
        for (int i = 0; i < 7; i++) {
            x.merge(i, 7);
            is(x.meanWealth(), (double) sum / (double) (7 - i));
        }
        Wagonplay y = guilds(3);
        y.mend(0, 1);
        is(y.meanWealth(), -2.0 / 3.0);
        says("Throws `ArithmeticException` if there are none");
        refuses(ARITHMETIC, Wagonplay::new, Wagonplay::meanWealth);
        refuses(ARITHMETIC, () -> played(0, 6), Wagonplay::meanWealth);
    }

    private void isSound() {
        in("Promise 40");
        says("what guilds and houses paid is what the town has");
        Wagonplay x = busy();
        is(x.isSound(), true);
        x.mend(0, 1);
        x.merge(1, 0);
        is(x.isSound(), true);
        for (int house = 0; house < 10; house++) {
            x.year();
            is(x.isSound(), true);
            x.bid(house % 3, house, 999);
            x.day();
            is(x.paid(house) >= 999, true);
            is(x.isSound(), true);
        }
        says("of the day, each wagon came to stations in order");
        is(new Wagonplay().isSound(), true);
        is(nobodyPlayed().isSound(), true);
        for (int begin = 1250; begin <= 1272; begin++) {
            Wagonplay y = DayBoundaries.late(begin);
            y.addGuild(0, 200, 1);
            y.cast(2, 0, 19);
            y.setTorches(begin % 2 * 5, true);
            y.day();
            is(y.isSound(), true);
            // Players that are given parts behind the day were in no play of it.
            y.cast(0, 0, 3);
            y.cast(1, 0, 3);
            y.cast(2, 0, 3);
            is(y.isSound(), true);
        }
        says("the order has each guild once");
        Wagonplay z = town(8, 1);
        for (int i = 0; i < 8; i++) {
            z.put(i, 7 - i);
            is(z.isSound(), true);
        }
    }
}
