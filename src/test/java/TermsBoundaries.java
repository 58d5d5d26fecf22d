/** The boundaries that the document's terms name of guilds, plays, wagons, stations, the order, money and the book. */
final class TermsBoundaries extends Sentences {
    TermsBoundaries(Document document) {
        super(document);
    }

    void run() {
        in("Terms");
        eightGuilds();
        subjects();
        mergedGuilds();
        learnt();
        adds5();
        aYearTakes30();
        players();
        wagons();
        sixStations();
        torches();
        houses();
        highestBid();
        order();
        putAtAPlace();
        leftOut();
        wages();
        rents();
        finesOfGaps();
        finesOfScribes();
        finesToTheTown();
        wheelsLost();
        leaves();
        addedLines();
        heardWhole();
        callsIn();
        examples();
    }

    private void eightGuilds() {
        says("At most 8 are numbered from 0");
        Wagonplay x = new Wagonplay();
        for (int i = 0; i < 8; i++) {
            is(x.addGuild(9999 * (i % 2), 20 + 380 * (i % 2), 1 + 7 * (i % 2)), i);
        }
        fails(STATE, () -> x.addGuild(0, 20, 1));
        is(x.of(6, 'm'), 0);
        is(x.of(7, 'm'), 9999);
        is(x.of(6, 'l'), 20);
        is(x.of(7, 'l'), 400);
        is(x.of(6, 'p'), 1);
        is(x.of(7, 'p'), 8);
        x.mend(0, 1);
        is(x.of(0, 'm'), -2);
        fails(INDEX, () -> x.of(8, 'm'));
        fails(INDEX, () -> x.of(-1, 'm'));
    }

    private void subjects() {
        says("A play has a subject");
        Wagonplay x = guilds(1);
        char before = 'c';
        for (String word : new String[] {"creation", "flood", "birth", "passion", "doom", "creation"}) {
            type(x, word);
            is(x.subject(0), before);
            before = word.charAt(0);
        }
    }

    private void mergedGuilds() {
        says("A guild that was merged into another one is over");
        Wagonplay x = new Wagonplay();
        for (int i = 0; i < 8; i++) {
            x.addGuild(9999, 20, 1);
        }
        x.addStation(5, 0, 0);
        for (int i = 0; i < 7; i++) {
            is(x.merge(i, i + 1), 9999 * (i + 2));
            is(x.of(i, 'm'), 0);
        }
        is(x.of(7, 'm'), 79992);
        is(x.meanWealth(), 79992.0);
        is(x.day(), 1);
        fails(NO_ELEMENT, () -> x.how(6, 0));
        is(x.how(7, 0), 'w');
    }

    private void learnt() {
        says("A play is learnt by 0 to 100 hundredths");
        Wagonplay x = guilds(1);
        is(x.of(0, 'e'), 0);
        is(x.learn(0, 20), 100);
        is(x.learn(0, 30), 100);
        is(x.of(0, 'e'), 100);
    }

    private void adds5() {
        says("each day of learning adds 5");
        Wagonplay x = guilds(1);
        is(x.learn(0, 1), 5);
        is(x.learn(0, 18), 95);
        is(x.learn(0, 1), 100);
    }

    private void aYearTakes30() {
        says("A year takes 30 of them away, 0 at least");
        int[][] dues = {{0, 0}, {5, 25}, {6, 30}, {7, 35}, {20, 100}};
        for (int[] due : dues) {
            Wagonplay x = guilds(1);
            if (due[0] > 0) {
                is(x.learn(0, due[0]), due[1]);
            }
            x.year();
            is(x.of(0, 'e'), due[1] > 30 ? due[1] - 30 : 0);
        }
    }

    private void players() {
        says("Each part can have a player, numbered 0 to 19");
        Wagonplay x = new Wagonplay();
        x.addGuild(0, 20, 8);
        is(x.cast(0, 0, 0), -1);
        is(x.cast(0, 7, 19), -1);
        is(x.cast(0, 0, -1), 0);
        is(x.cast(0, 7, -1), 19);
        is(x.cast(0, 7, -1), -1);

        says("a player can have several parts, of several plays");
        x.addGuild(0, 20, 8);
        for (int guild = 0; guild < 2; guild++) {
            for (int part = 0; part < 8; part++) {
                is(x.cast(guild, part, 19), -1);
            }
        }
        is(x.cast(0, 0, 19), 19);
        is(x.cast(1, 7, 19), 19);
    }

    /** Where a wagon comes to tells height and hands: from a hill, and from a corner. */
    private void wagons() {
        says("A wagon has a height, 1 to 9, hands, 0 to 9, and wheels");
        is(comesAt(0, 7, 3, 3), 275);
        Wagonplay x = guilds(1);
        x.addStation(5, 1, 8);
        x.day();
        is(x.at(0, 0, 'a'), 275 + 1 + 5);
        x.year();
        is(x.of(0, 'w'), 4);
        is(x.mend(0, 5), 9);
        is(x.wagon(0, 1, 0), 3);
        is(x.wagon(0, 9, 9), 1);
        is(x.wagon(0, 9, 9), 9);
        is(comesAt(9, 9, 1, 0), 275 + 10);
        is(comesAt(9, 9, 9, 9), 275 + 9 + 5);
    }

    static int comesAt(int hill, int corner, int height, int hands) {
        Wagonplay x = guilds(1);
        x.wagon(0, height, hands);
        x.addStation(5, hill, corner);
        x.day();
        return x.at(0, 0, 'a');
    }

    private void sixStations() {
        says("At most 6 are numbered from 0, each some minutes behind the one ahead, or behind the start");
        Wagonplay x = town(1, 0);
        int[] minutes = {20, 1, 20, 1, 1, 20};
        for (int i = 0; i < 6; i++) {
            is(x.addStation(minutes[i], 0, 0), i);
        }
        fails(STATE, () -> x.addStation(1, 0, 0));
        fails(INDEX, () -> x.holder(6));
        fails(INDEX, () -> x.holder(-1));
        x.day();
        int ahead = 270;
        for (int i = 0; i < 6; i++) {
            is(x.at(0, i, 'a'), ahead + minutes[i]);
            ahead = x.at(0, i, 'e');
        }
    }

    private void torches() {
        says("It can have torches");
        Wagonplay x = town(1, 6);
        is(x.setTorches(5, true), false);
        is(x.setTorches(5, false), true);
        is(x.setTorches(5, false), false);
        is(x.setTorches(0, false), false);
    }

    private void houses() {
        says("Houses, 0 to 9, bid for it each year");
        Wagonplay x = town(0, 1);
        for (int house = 0; house < 10; house++) {
            fails(NO_ELEMENT, () -> x.holder(0));
            is(x.bid(0, house, 999 - house), true);
            is(x.bid(0, 9 - house, 1), false);
            is(x.holder(0), house);
            x.year();
        }
    }

    private void highestBid() {
        says("the highest bid so far holds it, of like ones the earlier");
        Wagonplay x = town(0, 1);
        is(x.bid(0, 9, 1), true);
        is(x.bid(0, 0, 1), false);
        is(x.holder(0), 9);
        is(x.bid(0, 0, 2), true);
        is(x.holder(0), 0);
        is(x.bid(0, 9, 2), false);
        is(x.bid(0, 9, 1), false);
        is(x.holder(0), 0);
        is(x.bid(0, 5, 999), true);
        is(x.bid(0, 6, 999), false);
        is(x.holder(0), 5);
        x.day();
        is(x.paid(5), 999);
    }

    private void order() {
        says("Guilds play in an order, at first by their numbers");
        Wagonplay x = town(8, 1);
        for (int i = 0; i < 8; i++) {
            is(x.place(i), i);
        }
        x.day();
        is(x.at(0, 0, 'b'), 275);
        is(x.at(7, 0, 'b'), 275 + 7 * 5);
    }

    private void putAtAPlace() {
        says("one that is put at a place of it, from 0, goes there");
        Wagonplay x = town(8, 1);
        is(x.put(7, 0), 7);
        isOrder(x, 7, 0, 1, 2, 3, 4, 5, 6);
        is(x.put(7, 7), 0);
        isOrder(x, 0, 1, 2, 3, 4, 5, 6, 7);
        is(x.put(0, 7), 0);
        isOrder(x, 1, 2, 3, 4, 5, 6, 7, 0);
        is(x.put(3, 2), 2);
        isOrder(x, 1, 2, 3, 4, 5, 6, 7, 0);
        is(x.put(3, 3), 2);
        isOrder(x, 1, 2, 4, 3, 5, 6, 7, 0);
        is(x.put(3, 2), 3);
        isOrder(x, 1, 2, 3, 4, 5, 6, 7, 0);
        Wagonplay y = guilds(1);
        is(y.put(0, 0), 0);
        is(y.place(0), 0);
    }

    private void isOrder(Wagonplay x, int... guilds) {
        for (int i = 0; i < guilds.length; i++) {
            is(x.place(guilds[i]), i);
        }
    }

    /** The first and one amidst are left out: the others play as if those were not there. */
    private void leftOut() {
        says("Those that are over, and those whose subject is struck out, are left out");
        Wagonplay x = town(4, 1);
        x.merge(0, 3);
        type(x, "doom");
        x.subject(2);
        x.strike(true);
        is(x.day(), 2);
        isOrder(x, 0, 1, 2, 3);
        fails(NO_ELEMENT, () -> x.how(0, 0));
        fails(NO_ELEMENT, () -> x.how(2, 0));
        is(x.at(1, 0, 'b'), 275);
        is(x.at(1, 0, 'g'), 0);
        is(x.at(3, 0, 'b'), 280);
        is(x.at(3, 0, 'g'), 2);
        is(x.of(0, 'm') + x.of(2, 'm'), 0);
        x.year();
        for (int guild = 1; guild < 4; guild++) {
            x.learn(guild, 6);
        }
        x.strike(false);
        is(x.day(), 3);
        is(x.at(2, 0, 'b'), 280);
        is(x.at(3, 0, 'b'), 285);
    }

    /** What a guild pays with so many wheels and parts. */
    private static int wage(int wheels, int parts) {
        Wagonplay x = new Wagonplay();
        x.addGuild(1000, 20, parts);
        x.addStation(5, 0, 0);
        if (wheels > 5) {
            x.mend(0, wheels - 5);
        }
        for (int lost = wheels; lost < 5; lost++) {
            x.day();
            x.year();
        }
        int before = x.of(0, 'm');
        x.day();
        return before - x.of(0, 'm');
    }

    private void wages() {
        says("As the day is played, each guild that plays pays 2 for each part");
        is(wage(5, 1), 2);
        is(wage(5, 8), 16);
        is(wage(6, 1), 2);
        is(wage(9, 1), 2);
        is(wage(4, 1), 3);
        is(wage(1, 1), 6);
        is(wage(0, 8), 21);
        Wagonplay x = town(8, 1);
        x.day();
        is(x.town(), 16);
        is(x.of(7, 'm'), -2);
    }

    private void rents() {
        says("each holder of a station pays its bid");
        Wagonplay x = town(0, 6);
        x.bid(0, 0, 1);
        x.bid(1, 9, 999);
        x.bid(5, 9, 2);
        x.bid(5, 8, 1);
        is(x.town(), 0);
        x.day();
        is(x.paid(0), 1);
        is(x.paid(9), 1001);
        is(x.paid(8), 0);
        is(x.town(), 1002);
        x.year();
        x.day();
        is(x.town(), 1002);
    }

    /** Guild 0 ends at 278; guild 1 comes 14 minutes later than it and as many more as the hill is high. */
    private static Wagonplay gapOf(int gap) {
        Wagonplay x = town(2, 0);
        x.wagon(0, 3, 9);
        x.wagon(1, 9, 0);
        x.addStation(5, gap - 11, 2);
        x.day();
        return x;
    }

    private void finesOfGaps() {
        says("a guild is fined 3 for each station at which its play begins");
        is(gapOf(15).at(1, 0, 'g'), 15);
        is(gapOf(15).of(1, 'f'), 0);
        is(gapOf(16).at(1, 0, 'g'), 16);
        is(gapOf(16).of(1, 'f'), 3);
        is(gapOf(16).of(0, 'f'), 0);
        // Each of 6 stations: guild 1 is 3 minutes behind, 18 more at each hill.
        Wagonplay x = town(2, 0);
        x.wagon(0, 1, 9);
        x.wagon(1, 9, 0);
        for (int i = 0; i < 6; i++) {
            x.addStation(5, 8, 0);
        }
        x.day();
        is(x.at(1, 0, 'g'), 14);
        is(x.at(1, 1, 'g'), 31);
        is(x.of(1, 'f'), 15);
        x.year();
        x.day();
        is(x.of(1, 'f'), 30);
        // Late, but the first in the order.
        Wagonplay y = town(1, 0);
        y.wagon(0, 9, 0);
        y.addStation(20, 9, 9);
        y.day();
        is(y.at(0, 0, 'g'), 0);
        is(y.of(0, 'f'), 0);
    }

    private void finesOfScribes() {
        says("a guild is fined 3 for each station at which its play begins");
        Wagonplay x = town(1, 6);
        for (int i = 1; i < 6; i++) {
            x.setScribe(i, true);
        }
        x.day();
        is(x.of(0, 'f'), 0);
        x.year();
        x.add(0, 1);
        x.day();
        is(x.of(0, 'f'), 5);
        is(x.of(0, 'a'), 0);
        x.year();
        x.lose(0, 0);
        x.day();
        is(x.of(0, 'f'), 5);
        is(x.known(0), 21);
        x.year();
        x.add(0, 99);
        x.setScribe(1, false);
        x.lose(0, 0);
        x.day();
        is(x.of(0, 'f'), 5 + 4 * 99);
        is(x.of(0, 'm'), -(2 + 3 + 4 + 5) - 5 - 4 * 99);
    }

    private void finesToTheTown() {
        says("fines go to the town, too");
        Wagonplay x = gapOf(16);
        is(x.town(), 2 + 2 + 3);
        is(x.of(1, 'm'), -5);
        is(x.isSound(), true);
    }

    private void wheelsLost() {
        says("Then each wagon of a guild that was not left out loses a wheel, if it has one");
        Wagonplay x = town(3, 1);
        x.merge(2, 0);
        type(x, "flood");
        x.subject(1);
        x.strike(true);
        for (int left = 4; left >= 0; left--) {
            x.day();
            is(x.of(0, 'w'), left);
            x.year();
        }
        int money = x.of(0, 'm');
        x.day();
        is(x.of(0, 'w'), 0);
        is(money - x.of(0, 'm'), 2 + 5);
        is(x.of(1, 'w'), 5);
        is(x.of(2, 'w'), 5);
    }

    private void leaves() {
        says("It has for each play leaves of 40 lines, the last one perhaps with fewer");
        int[][] dues = {{20, 1, 20}, {39, 1, 39}, {40, 1, 40}, {41, 2, 1}, {80, 2, 40}, {400, 10, 40}};
        for (int[] due : dues) {
            Wagonplay x = new Wagonplay();
            x.addGuild(0, due[0], 1);
            is(x.leaves(0), due[1]);
            is(x.known(0), due[0]);
            is(x.lose(0, due[1] - 1), true);
            is(x.known(0), due[0] - due[2]);
        }
    }

    private void addedLines() {
        says("Added lines are said at the end, and count for its length");
        Wagonplay x = town(1, 1);
        is(x.foresee(), 278);
        x.add(0, 9);
        is(x.foresee(), 278);
        x.add(0, 1);
        is(x.foresee(), 279);
        addLines(x, 0, 570);
        is(x.foresee(), 275 + 61);
    }

    private void heardWhole() {
        says("the book has them not, unless a scribe heard the play whole");
        Wagonplay x = new Wagonplay();
        x.addGuild(0, 40, 1);
        x.addStation(5, 0, 0);
        x.addStation(5, 0, 0);
        is(x.add(0, 1), 1);
        is(x.leaves(0), 1);
        x.lose(0, 0);
        x.day();
        is(x.of(0, 'a'), 1);
        is(x.known(0), 0);
        x.year();
        x.setScribe(1, true);
        x.day();
        is(x.of(0, 'a'), 0);
        is(x.leaves(0), 2);
        is(x.known(0), 41);
        is(x.add(0, 1), 1);
        is(x.lose(0, 1), true);
        is(x.known(0), 40);
        Wagonplay y = town(1, 1);
        addLines(y, 0, 580);
        y.setScribe(0, true);
        y.day();
        is(y.leaves(0), 15);
        is(y.lose(0, 14), true);
        is(y.known(0), 560);
    }

    private void callsIn() {
        says("To call the book in makes it as all plays are");
        Wagonplay x = new Wagonplay();
        x.addGuild(0, 40, 1);
        x.addGuild(0, 400, 1);
        x.add(0, 1);
        addLines(x, 1, 200);
        x.lose(0, 0);
        x.lose(1, 9);
        x.merge(0, 1);
        is(x.callIn(), 201);
        is(x.leaves(0), 2);
        is(x.known(0), 41);
        is(x.leaves(1), 15);
        is(x.known(1), 600);
        is(x.lose(1, 14), true);
        is(x.callIn(), 0);
        is(x.known(1), 600);
    }

    private void examples() {
        says("- addGuild(100, 100, 2) = 0;");
        Wagonplay x = new Wagonplay();
        is(x.addGuild(100, 100, 2), 0);
        is(x.addStation(5, 2, 3), 0);
        is(x.learn(0, 20), 100);
        is(x.day(), 1);
        is(x.at(0, 0, 'a'), 277);
        is(x.at(0, 0, 'e'), 292);
        is(x.of(0, 'm'), 96);

        says("- addGuild(0, 100, 1) = 0; addGuild(0, 20, 1) = 1;");
        Wagonplay y = new Wagonplay();
        is(y.addGuild(0, 100, 1), 0);
        is(y.addGuild(0, 20, 1), 1);
        is(y.addStation(5, 0, 0), 0);
        is(y.foresee(), 305);
        is(y.soonest(), 305);
        is(y.arrange(), false);
        is(y.place(0), 0);

        says("- addGuild(0, 100, 1) = 0; add(0, 25) = 25;");
        Wagonplay z = new Wagonplay();
        is(z.addGuild(0, 100, 1), 0);
        is(z.add(0, 25), 25);
        is(z.lose(0, 2), true);
        is(z.leaves(0), 3);
        is(z.known(0), 80);
        is(z.callIn(), 25);
        is(z.known(0), 125);
    }
}
