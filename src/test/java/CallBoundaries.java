/** The boundaries that the promises of the calls name: ranges, what there is not, what is full, empty or over. */
final class CallBoundaries extends Sentences {
    private static final String NO_GUILD = "Throws `IndexOutOfBoundsException` if there is no such guild";
    private static final String NO_STATION = "Throws `IndexOutOfBoundsException` if there is no such station";
    private static final String OUT_OF_RANGE = "Throws `IllegalArgumentException` if it is out of range";
    private static final String NUMBER_OUT_OF_RANGE = "Throws `IllegalArgumentException` if a number is out of range";
    private static final String NO_SUCH_THING = "Throws `IllegalArgumentException` if there is no such thing";
    private static final String IS_OVER = "Throws `UnsupportedOperationException` if the guild is over";
    private static final int OVER = 2;
    private static final int STRUCK_OUT = 3;

    CallBoundaries(Document document) {
        super(document);
    }

    void run() {
        newObject();
        addGuild();
        merge();
        isOver();
        of();
        type();
        wipe();
        subject();
        strike();
        learn();
        cast();
        wagon();
        mend();
        addStation();
        setTorches();
        setScribe();
        bid();
        holder();
        put();
        place();
        rain();
        add();
    }

    private void newObject() {
        in("Promise 1");
        says("Creates a town without guilds and stations, in the year 0");
        Wagonplay x = new Wagonplay();
        fails(INDEX, () -> x.isOver(0));
        fails(INDEX, () -> x.setTorches(0, false));
        is(x.checksum(), 7L * 31 * 31);
        is(x.town(), 0);
        is(x.wipe(), 0);
        is(x.isSound(), true);
        is(x.callIn(), 0);
        fails(STATE, x::end);
        fails(STATE, x::foresee);
        fails(ARITHMETIC, x::meanWealth);
        is(x.year(), 1);
    }

    private void addGuild() {
        in("Promise 2");
        says("Adds a guild, last in the order");
        Wagonplay x = ready();
        x.addGuild(0, 20, 1);
        is(x.place(4), 4);
        is(x.place(3), 0);

        says("`wealth`: 0 to 9999");
        isRange(0, 9999, Sentences::ready, (y, n) -> y.addGuild(n, 20, 1));
        says("`lines`: 20 to 400");
        isRange(20, 400, Sentences::ready, (y, n) -> y.addGuild(0, n, 1));
        says("`parts`: 1 to 8");
        isRange(1, 8, Sentences::ready, (y, n) -> y.addGuild(0, 20, n));

        says("Returns its number");
        is(guilds(0).addGuild(0, 20, 1), 0);
        is(guilds(7).addGuild(0, 20, 1), 7);
        is(x.addGuild(0, 20, 1), 5);

        says(NUMBER_OUT_OF_RANGE);
        refuses(ARGUMENT, Wagonplay::new, y -> y.addGuild(-1, 400, 8));
        refuses(ARGUMENT, Wagonplay::new, y -> y.addGuild(10000, 20, 1));
        refuses(ARGUMENT, Wagonplay::new, y -> y.addGuild(9999, 19, 1));
        refuses(ARGUMENT, Wagonplay::new, y -> y.addGuild(9999, 401, 8));
        refuses(ARGUMENT, Wagonplay::new, y -> y.addGuild(0, 400, 0));
        refuses(ARGUMENT, Wagonplay::new, y -> y.addGuild(0, 20, 9));

        says("Throws `IllegalStateException` if there are 8");
        refuses(STATE, () -> town(8, 1), y -> y.addGuild(0, 20, 1));
        refuses(STATE, () -> town(8, 1), y -> y.addGuild(9999, 400, 8));
        refuses(STATE, CallBoundaries::eightAndOneOver, y -> y.addGuild(0, 20, 1));
    }

    private static Wagonplay eightAndOneOver() {
        Wagonplay x = town(8, 1);
        x.merge(7, 0);
        return x;
    }

    private void merge() {
        in("Promise 3");
        says("Returns the wealth of the other one then");
        is(ready().merge(0, 1), 100 + 7 + 50 - 2);
        is(ready().merge(1, 0), 100 + 7 + 50 - 2);
        Wagonplay x = guilds(2);
        x.mend(0, 4);
        is(x.merge(0, 1), -8);
        is(guilds(2).merge(0, 1), 0);

        says("Throws `IndexOutOfBoundsException` if there is no such guild, for either");
        isIndex(4, Sentences::ready, (y, n) -> y.merge(n, 1));
        isIndex(4, Sentences::ready, (y, n) -> y.merge(1, n));
        refusesAll(INDEX, Sentences::ready, (y, n) -> y.merge(n, n), -1, 4, FAR_BELOW, FAR_ABOVE);

        says("Throws `IllegalArgumentException` if both are the same");
        refusesAll(ARGUMENT, Sentences::ready, (y, n) -> y.merge(n, n), 0, 1, STRUCK_OUT);

        says("Throws `UnsupportedOperationException` if one is over");
        refuses(UNSUPPORTED, Sentences::ready, y -> y.merge(OVER, 1));
        refuses(UNSUPPORTED, Sentences::ready, y -> y.merge(1, OVER));
        refuses(UNSUPPORTED, CallBoundaries::eightAndOneOver, y -> y.merge(7, 0));
    }

    private void isOver() {
        in("Promise 4");
        says("Returns whether it is");
        Wagonplay x = town(8, 1);
        for (int i = 7; i > 0; i--) {
            is(x.isOver(i), false);
            x.merge(i, 0);
            is(x.isOver(i), true);
            is(x.isOver(0), false);
        }
        says(NO_GUILD);
        isIndex(4, Sentences::ready, (y, n) -> y.isOver(n));
        refuses(INDEX, Wagonplay::new, y -> y.isOver(0));
    }

    private void of() {
        in("Promise 5");
        says("`what`: 'm' wealth, 'l' lines, with those added, 'p' parts");
        Wagonplay x = new Wagonplay();
        x.addGuild(9999, 400, 8);
        addLines(x, 0, 200);
        x.learn(0, 20);
        x.mend(0, 4);
        is(x.of(0, 'm'), 9999 - 8);
        is(x.of(0, 'l'), 600);
        is(x.of(0, 'p'), 8);
        is(x.of(0, 'e'), 100);
        is(x.of(0, 'w'), 9);
        is(x.of(0, 'f'), 0);
        is(x.of(0, 'a'), 200);
        x.addStation(5, 0, 0);
        x.setScribe(0, true);
        x.day();
        is(x.of(0, 'm'), 9999 - 8 - 16 - 200);
        is(x.of(0, 'w'), 8);
        is(x.of(0, 'f'), 200);
        is(x.of(0, 'a'), 0);
        x.year();
        is(x.of(0, 'e'), 70);
        is(x.of(0, 'f'), 200);
        is(ready().of(OVER, 'm'), 0);
        is(ready().of(OVER, 'e'), 100);

        says(NO_GUILD);
        isIndex(4, Sentences::ready, (y, n) -> y.of(n, 'm'));
        says(NO_SUCH_THING);
        isOneOf("mlpewfa", Sentences::ready, (y, sign) -> y.of(1, (char) sign));
    }

    private void type() {
        in("Promise 6");
        says("`letter`: a small letter");
        Wagonplay x = new Wagonplay();
        for (char letter = 'a'; letter <= 'z'; letter++) {
            is(x.type(letter), 1);
            x.wipe();
        }

        says("Returns how many are typed");
        for (int i = 1; i <= 10; i++) {
            is(x.type('z'), i);
        }

        says("Throws `IllegalArgumentException` if it is none");
        isOneOf("abcdefghijklmnopqrstuvwxyz", Wagonplay::new, (y, sign) -> y.type((char) sign));
        refusesAll(ARGUMENT, Sentences::ready, (y, sign) -> y.type((char) sign), 'a' - 1, 'z' + 1, 'A', 'Z', 0, 0xffff);

        says("Throws `IllegalStateException` if there are 10");
        refuses(STATE, () -> typed("creationxy"), y -> y.type('a'));
        refuses(STATE, () -> typed("aaaaaaaaaa"), y -> y.type('z'));
        is(typed("creationx").type('y'), 10);
    }

    private static Wagonplay typed(String word) {
        Wagonplay x = town(2, 1);
        x.merge(1, 0);
        type(x, word);
        return x;
    }

    private void wipe() {
        in("Promise 7");
        says("Returns how many there were");
        is(new Wagonplay().wipe(), 0);
        Wagonplay x = typed("d");
        is(x.wipe(), 1);
        is(x.wipe(), 0);
        type(x, "aaaaaaaaaa");
        is(x.wipe(), 10);
        is(x.type('a'), 1);
        // Of the letters that were wiped none is left behind the new ones.
        Wagonplay y = typed("doom");
        y.wipe();
        y.type('d');
        fails(UNSUPPORTED, () -> y.strike(true));
    }

    private void subject() {
        in("Promise 8");
        says("Gives a play the subject that is typed, and stays so");
        Wagonplay x = town(8, 1);
        type(x, "flood");
        is(x.subject(0), 'c');
        is(x.subject(7), 'c');
        is(x.subject(7), 'f');
        is(x.wipe(), 5);
        type(x, "birth");
        is(x.subject(7), 'f');
        is(x.subject(6), 'c');
        is(x.subject(0), 'f');

        says(NO_GUILD);
        isIndex(4, Sentences::ready, (y, n) -> y.subject(n));

        says("Throws `UnsupportedOperationException` if no subject is typed, or the guild is over");
        String[] none = {"", "d", "doo", "dooms", "doon", "mood", "floo", "floods", "flooe", "birt", "births", "passio",
            "passions", "room", "blood", "girth", "fassion", "kreation", "creatio", "creations", "creatiom", "c", "f", "b", "p", "bpassion", "doomdoom", "aaaaaaaaaa"};
        for (String word : none) {
            refuses(UNSUPPORTED, () -> typed(word), y -> y.subject(0));
        }
        refuses(UNSUPPORTED, Sentences::ready, y -> y.subject(OVER));
        for (String word : new String[] {"creation", "flood", "birth", "passion", "doom"}) {
            refuses(UNSUPPORTED, () -> typed(word), y -> y.subject(1));
            is(typed(word).subject(0), 'c');
        }
    }

    private void strike() {
        in("Promise 9");
        says("Returns whether it was");
        for (String word : new String[] {"creation", "flood", "birth", "passion", "doom"}) {
            Wagonplay x = typed(word);
            is(x.strike(false), false);
            is(x.strike(true), false);
            is(x.strike(true), true);
            is(x.foresee(), word.equals("creation") ? 270 : 278);
            x.year();
            is(x.strike(false), true);
            is(x.strike(false), false);
        }

        says("Throws `UnsupportedOperationException` if no subject is typed");
        for (String word : new String[] {"", "doo", "dooms", "flop", "creatiom", "aaaaaaaaaa"}) {
            refuses(UNSUPPORTED, () -> typed(word), y -> y.strike(true));
            refuses(UNSUPPORTED, () -> typed(word), y -> y.strike(false));
        }
    }

    private void learn() {
        in("Promise 10");
        says("`days`: 1 to 30");
        isRange(1, 30, Sentences::ready, (y, n) -> y.learn(0, n));
        says("Returns how much is learnt then");
        is(guilds(8).learn(7, 1), 5);
        is(guilds(8).learn(7, 19), 95);
        is(guilds(8).learn(7, 20), 100);
        is(guilds(8).learn(7, 21), 100);
        is(ready().learn(0, 11), 100);
        is(ready().learn(0, 12), 100);

        says(NO_GUILD);
        isIndex(4, Sentences::ready, (y, n) -> y.learn(n, 1));
        says(OUT_OF_RANGE);
        refusesAll(ARGUMENT, Sentences::ready, (y, n) -> y.learn(STRUCK_OUT, n), 0, 31, 32, -30);
        says(IS_OVER);
        refuses(UNSUPPORTED, Sentences::ready, y -> y.learn(OVER, 1));
        refuses(UNSUPPORTED, Sentences::ready, y -> y.learn(OVER, 30));
    }

    private void cast() {
        in("Promise 11");
        says("`part`: the part, from 0");
        isIndex(3, Sentences::ready, (y, n) -> y.cast(0, n, 1));
        isIndex(8, Sentences::ready, (y, n) -> y.cast(STRUCK_OUT, n, 1));
        says("`player`: 0 to 19, or -1 for none");
        isRange(-1, 19, Sentences::ready, (y, n) -> y.cast(0, 0, n));
        says("Returns the player before, -1 for none");
        Wagonplay x = guilds(1);
        is(x.cast(0, 0, -1), -1);
        is(x.cast(0, 0, 0), -1);
        is(x.cast(0, 0, 19), 0);
        is(x.cast(0, 0, -1), 19);
        is(x.cast(0, 0, 19), -1);

        says("Throws `IndexOutOfBoundsException` if there is no such guild, or part of its play");
        isIndex(4, Sentences::ready, (y, n) -> y.cast(n, 0, 1));
        isIndex(2, Sentences::ready, (y, n) -> y.cast(1, n, 1));
        isIndex(1, Sentences::ready, (y, n) -> y.cast(OVER, n, 1));
        says(OUT_OF_RANGE);
        refusesAll(ARGUMENT, Sentences::ready, (y, n) -> y.cast(STRUCK_OUT, 7, n), -2, 20);
    }

    private void wagon() {
        in("Promise 12");
        says("`height`: 1 to 9");
        isRange(1, 9, Sentences::ready, (y, n) -> y.wagon(0, n, 5));
        says("`hands`: 0 to 9");
        isRange(0, 9, Sentences::ready, (y, n) -> y.wagon(0, 5, n));
        says("Returns the height before");
        Wagonplay x = guilds(8);
        is(x.wagon(7, 9, 9), 3);
        is(x.wagon(7, 1, 0), 9);
        is(x.wagon(7, 1, 0), 1);

        says(NO_GUILD);
        isIndex(4, Sentences::ready, (y, n) -> y.wagon(n, 1, 0));
        says(NUMBER_OUT_OF_RANGE);
        refuses(ARGUMENT, Sentences::ready, y -> y.wagon(1, 0, 0));
        refuses(ARGUMENT, Sentences::ready, y -> y.wagon(1, 10, 9));
        refuses(ARGUMENT, Sentences::ready, y -> y.wagon(1, 9, 10));
        refuses(ARGUMENT, Sentences::ready, y -> y.wagon(1, 1, -1));
    }

    private void mend() {
        in("Promise 13");
        says("Mends wheels, for 2 each");
        Wagonplay x = guilds(8);
        x.mend(7, 1);
        is(x.of(7, 'm'), -2);
        is(x.town(), 2);
        x.mend(7, 3);
        is(x.of(7, 'm'), -8);
        is(x.town(), 8);
        is(x.of(6, 'm'), 0);

        says("`wheels`: 1 to 9");
        isRange(1, 9, () -> wheels(0), (y, n) -> y.mend(0, n));
        says("Returns the wheels then");
        is(wheels(0).mend(0, 9), 9);
        is(wheels(0).mend(0, 1), 1);
        is(wheels(8).mend(0, 1), 9);

        says(NO_GUILD);
        isIndex(4, Sentences::ready, (y, n) -> y.mend(n, 1));
        says(OUT_OF_RANGE);
        refusesAll(ARGUMENT, Sentences::ready, (y, n) -> y.mend(1, n), 0, 10, -1);

        says("Throws `UnsupportedOperationException` if the guild is over, or there would be more than 9");
        refuses(UNSUPPORTED, Sentences::ready, y -> y.mend(OVER, 1));
        for (int wheels = 1; wheels <= 9; wheels++) {
            int had = wheels;
            refuses(UNSUPPORTED, () -> wheels(had), y -> y.mend(0, 10 - had));
            if (wheels < 9) {
                is(wheels(had).mend(0, 9 - had), 9);
            }
        }
        refuses(UNSUPPORTED, () -> wheels(1), y -> y.mend(0, 9));
    }

    /** A town of one guild whose wagon has so many wheels. */
    private static Wagonplay wheels(int wheels) {
        Wagonplay x = town(1, 1);
        if (wheels > 5) {
            x.mend(0, wheels - 5);
        }
        for (int lost = wheels; lost < 5; lost++) {
            x.day();
            x.year();
        }
        return x;
    }

    private void addStation() {
        in("Promise 14");
        says("`minutes`: 1 to 20");
        isRange(1, 20, Sentences::busy, (y, n) -> y.addStation(n, 0, 0));
        says("`hill`: 0 to 9");
        isRange(0, 9, Sentences::busy, (y, n) -> y.addStation(1, n, 0));
        says("`corner`: 0 to 9");
        isRange(0, 9, Sentences::busy, (y, n) -> y.addStation(1, 0, n));
        says("Returns its number");
        is(town(1, 0).addStation(20, 9, 9), 0);
        is(town(1, 5).addStation(20, 9, 9), 5);

        says(NUMBER_OUT_OF_RANGE);
        refuses(ARGUMENT, Wagonplay::new, y -> y.addStation(0, 9, 9));
        refuses(ARGUMENT, Wagonplay::new, y -> y.addStation(21, 0, 0));
        refuses(ARGUMENT, Wagonplay::new, y -> y.addStation(20, -1, 9));
        refuses(ARGUMENT, Wagonplay::new, y -> y.addStation(20, 10, 0));
        refuses(ARGUMENT, Wagonplay::new, y -> y.addStation(20, 9, -1));
        refuses(ARGUMENT, Wagonplay::new, y -> y.addStation(20, 0, 10));
        says("Throws `IllegalStateException` if there are 6");
        refuses(STATE, () -> town(1, 6), y -> y.addStation(1, 0, 0));
        refuses(STATE, () -> town(1, 6), y -> y.addStation(20, 9, 9));
    }

    private void setTorches() {
        in("Promise 15");
        says("Returns whether it had");
        Wagonplay x = town(1, 6);
        for (int i = 5; i >= 0; i--) {
            is(x.setTorches(i, false), false);
            is(x.setTorches(i, true), false);
            is(x.setTorches(i, true), true);
        }
        x.year();
        is(x.setTorches(5, false), true);
        is(x.setTorches(5, false), false);
        is(x.setTorches(4, true), true);
        says(NO_STATION);
        isIndex(3, Sentences::busy, (y, n) -> y.setTorches(n, true));
        isIndex(6, () -> town(1, 6), (y, n) -> y.setTorches(n, true));
        refuses(INDEX, Wagonplay::new, y -> y.setTorches(0, true));
    }

    private void setScribe() {
        in("Promise 16");
        says("Returns whether there was");
        Wagonplay x = town(1, 6);
        for (int i = 5; i >= 0; i--) {
            is(x.setScribe(i, false), false);
            is(x.setScribe(i, true), false);
            is(x.setScribe(i, true), true);
        }
        x.year();
        is(x.setScribe(5, false), true);
        is(x.setScribe(5, false), false);
        is(x.setScribe(4, true), true);
        says(NO_STATION);
        isIndex(3, Sentences::busy, (y, n) -> y.setScribe(n, true));
        isIndex(6, () -> town(1, 6), (y, n) -> y.setScribe(n, true));
        refuses(INDEX, Wagonplay::new, y -> y.setScribe(0, true));
    }

    private void bid() {
        in("Promise 17");
        says("`house`: 0 to 9");
        isRange(0, 9, Sentences::ready, (y, n) -> y.bid(0, n, 41));
        says("`amount`: 1 to 999");
        isRange(1, 999, Sentences::ready, (y, n) -> y.bid(0, 0, n));
        says("Returns whether the house holds it then");
        Wagonplay x = town(1, 6);
        is(x.bid(5, 0, 1), true);
        is(x.bid(5, 9, 1), false);
        is(x.bid(5, 0, 1), true);
        is(x.bid(5, 9, 2), true);
        is(x.bid(5, 9, 1), true);
        is(x.bid(5, 0, 2), false);
        is(x.bid(0, 0, 1), true);
        // A lower bid of its own does not take away from the higher one.
        x.bid(5, 9, 1);
        is(x.bid(5, 3, 2), false);
        x.day();
        is(x.paid(9), 2);

        says(NO_STATION);
        isIndex(3, Sentences::ready, (y, n) -> y.bid(n, 0, 1));
        isIndex(6, () -> town(1, 6), (y, n) -> y.bid(n, 0, 1));
        says(NUMBER_OUT_OF_RANGE);
        refuses(ARGUMENT, Sentences::ready, y -> y.bid(2, -1, 999));
        refuses(ARGUMENT, Sentences::ready, y -> y.bid(2, 10, 1));
        refuses(ARGUMENT, Sentences::ready, y -> y.bid(2, 0, 0));
        refuses(ARGUMENT, Sentences::ready, y -> y.bid(2, 9, 1000));
    }

    private void holder() {
        in("Promise 18");
        says("Returns the house");
        is(ready().holder(0), 4);
        is(ready().holder(1), 9);
        is(busy().holder(2), 1);
        says(NO_STATION);
        isIndex(2, () -> bothHeld(), (y, n) -> y.holder(n));
        refuses(INDEX, Wagonplay::new, y -> y.holder(0));
        says("Throws `NoSuchElementException` if nobody bid in this year");
        refuses(NO_ELEMENT, Sentences::ready, y -> y.holder(2));
        refusesAll(NO_ELEMENT, CallBoundaries::nextYear, (y, n) -> y.holder(n), 0, 1, 2);
        is(bothHeld().holder(1), 0);
    }

    private static Wagonplay bothHeld() {
        Wagonplay x = town(1, 2);
        x.bid(0, 9, 1);
        x.bid(1, 0, 1);
        return x;
    }

    private static Wagonplay nextYear() {
        Wagonplay x = busy();
        x.year();
        return x;
    }

    private void put() {
        in("Promise 19");
        says("Returns its place before");
        Wagonplay x = town(8, 1);
        is(x.put(0, 7), 0);
        is(x.put(0, 0), 7);
        is(x.put(0, 0), 0);
        is(x.put(7, 7), 7);
        says(NO_GUILD);
        isIndex(4, Sentences::ready, (y, n) -> y.put(n, 1));
        refuses(INDEX, Wagonplay::new, y -> y.put(0, 0));
        says("Throws `IllegalArgumentException` if there is no such place");
        isRange(0, 3, Sentences::ready, (y, n) -> y.put(1, n));
        isRange(0, 7, () -> town(8, 1), (y, n) -> y.put(7, n));
        isRange(0, 0, () -> town(1, 1), (y, n) -> y.put(0, n));
    }

    private void place() {
        in("Promise 20");
        says("Returns the place.");
        is(ready().place(3), 0);
        is(ready().place(2), 3);
        is(town(8, 1).place(7), 7);
        is(town(1, 1).place(0), 0);
        says(NO_GUILD);
        isIndex(4, Sentences::ready, (y, n) -> y.place(n));
        isIndex(8, () -> town(8, 1), (y, n) -> y.place(n));
        refuses(INDEX, Wagonplay::new, y -> y.place(0));
    }

    private void rain() {
        in("Promise 21");
        says("`hour`: 0 to 23");
        isRange(0, 23, Sentences::ready, (y, n) -> y.rain(n, true));
        says("Returns whether it did");
        Wagonplay x = new Wagonplay();
        for (int hour = 23; hour >= 0; hour--) {
            is(x.rain(hour, false), false);
            is(x.rain(hour, true), false);
            is(x.rain(hour, true), true);
        }
        x.year();
        is(x.rain(0, false), true);
        is(x.rain(0, false), false);
        is(x.rain(23, false), true);
        says(OUT_OF_RANGE);
        refusesAll(ARGUMENT, Sentences::ready, (y, n) -> y.rain(n, false), -1, 24, 28, 1440);
    }

    private void add() {
        in("Promise 22");
        says("`lines`: 1 to 99");
        isRange(1, 99, Sentences::ready, (y, n) -> y.add(0, n));
        says("Returns how many lines the book has not");
        Wagonplay x = guilds(8);
        is(x.add(7, 1), 1);
        is(x.add(7, 99), 100);
        x.lose(7, 0);
        is(x.add(7, 1), 101);
        x.callIn();
        is(x.add(7, 1), 1);

        says(NO_GUILD);
        isIndex(4, Sentences::ready, (y, n) -> y.add(n, 1));
        says(OUT_OF_RANGE);
        refusesAll(ARGUMENT, Sentences::ready, (y, n) -> y.add(STRUCK_OUT, n), 0, -1, 100, 555);
        says("Throws `UnsupportedOperationException` if the guild is over, or the play would have more than 600");
        refuses(UNSUPPORTED, Sentences::ready, y -> y.add(OVER, 1));
        refuses(UNSUPPORTED, () -> lines(600), y -> y.add(0, 1));
        refuses(UNSUPPORTED, () -> lines(599), y -> y.add(0, 2));
        refuses(UNSUPPORTED, () -> lines(502), y -> y.add(0, 99));
        is(lines(599).add(0, 1), 580);
        is(lines(501).add(0, 99), 580);
    }

    private static Wagonplay lines(int lines) {
        Wagonplay x = town(1, 1);
        addLines(x, 0, lines - 20);
        return x;
    }
}
