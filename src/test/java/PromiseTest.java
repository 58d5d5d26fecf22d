import java.util.NoSuchElementException;

/** Each promise of the document: ordinary inputs, the edges that it names, and wrong inputs. */
public final class PromiseTest {
    private static final Class<IndexOutOfBoundsException> INDEX = IndexOutOfBoundsException.class;
    private static final Class<IllegalArgumentException> ARGUMENT = IllegalArgumentException.class;
    private static final Class<IllegalStateException> STATE = IllegalStateException.class;
    private static final Class<UnsupportedOperationException> UNSUPPORTED = UnsupportedOperationException.class;
    private static final Class<NoSuchElementException> NO_ELEMENT = NoSuchElementException.class;
    private static final Class<ArithmeticException> ARITHMETIC = ArithmeticException.class;

    private static final int[] WRONG = {-1, 2, Integer.MIN_VALUE, Integer.MAX_VALUE};

    private PromiseTest() {
    }

    public static void main(String[] args) {
        examples();
        newObject();
        addGuild();
        merge();
        mergeOfMoney();
        isOver();
        of();
        typeAndWipe();
        subject();
        strike();
        learn();
        cast();
        wagon();
        mend();
        addStation();
        torchesAndScribe();
        bidAndHolder();
        putAndPlace();
        rain();
        add();
        dayOfWays();
        dayOfPlayLengths();
        dayOfRain();
        dayOfPlayers();
        dayOfPlayersInTheDark();
        dayOfDark();
        dayOfDarkGoesOn();
        dayOfMoney();
        dayOfScribes();
        dayOnlyOnceAYear();
        atAndHow();
        end();
        foresee();
        soonestAndArrange();
        bookByHand();
        callIn();
        townAndPaid();
        year();
        checksum();
        wholeShare();
        meanWealth();
        isSound();
        Check.finish("PromiseTest");
    }

    private static void is(String what, Object got, Object want) {
        Check.due(what, got, want);
    }

    private static void type(Wagonplay x, String word) {
        x.wipe();
        for (int i = 0; i < word.length(); i++) {
            x.type(word.charAt(i));
        }
    }

    /** Two guilds of 100 lines and 1 part and one station at 5 minutes. */
    private static Wagonplay small() {
        Wagonplay x = new Wagonplay();
        x.addGuild(100, 100, 1);
        x.addGuild(50, 100, 1);
        x.addStation(5, 0, 0);
        return x;
    }

    private static void examples() {
        Wagonplay x = new Wagonplay();
        is("example 1", x.addGuild(100, 100, 2), 0);
        is("example 1", x.addStation(5, 2, 3), 0);
        is("example 1", x.learn(0, 20), 100);
        is("example 1", x.day(), 1);
        is("example 1", x.at(0, 0, 'a'), 277);
        is("example 1", x.at(0, 0, 'e'), 292);
        is("example 1", x.of(0, 'm'), 96);
        x = new Wagonplay();
        is("example 2", x.addGuild(0, 100, 1), 0);
        is("example 2", x.addGuild(0, 20, 1), 1);
        is("example 2", x.addStation(5, 0, 0), 0);
        is("example 2", x.foresee(), 305);
        is("example 2", x.soonest(), 305);
        is("example 2", x.arrange(), false);
        is("example 2", x.place(0), 0);
        x = new Wagonplay();
        is("example 3", x.addGuild(0, 100, 1), 0);
        is("example 3", x.add(0, 25), 25);
        is("example 3", x.lose(0, 2), true);
        is("example 3", x.leaves(0), 3);
        is("example 3", x.known(0), 80);
        is("example 3", x.callIn(), 25);
        is("example 3", x.known(0), 125);
    }

    /** Promise 1. */
    private static void newObject() {
        Wagonplay x = new Wagonplay();
        is("new: checksum", x.checksum(), 7L * 31 * 31);
        is("new: town", x.town(), 0);
        is("new: wipe", x.wipe(), 0);
        is("new: callIn", x.callIn(), 0);
        is("new: sound", x.isSound(), true);
        for (int house = 0; house < 10; house++) {
            is("new: paid", x.paid(house), 0);
        }
        for (int hour = 0; hour < 24; hour++) {
            is("new: rain", x.rain(hour, false), false);
        }
        Check.fails("new: no guild", INDEX, () -> x.isOver(0));
        Check.fails("new: no station", INDEX, () -> x.holder(0));
        Check.fails("new: no stations for a day", STATE, x::day);
        for (String word : new String[] {"creation", "flood", "birth", "passion", "doom"}) {
            type(x, word);
            is("new: struck " + word, x.strike(false), false);
        }
        is("new: first year behind it", x.year(), 1);
    }

    /** Promise 2. */
    private static void addGuild() {
        Wagonplay x = new Wagonplay();
        int[][] wrong = {
            {-1, 20, 1}, {10000, 20, 1}, {0, 19, 1}, {0, 401, 1}, {0, 20, 0}, {0, 20, 9},
            {Integer.MIN_VALUE, 20, 1}, {0, Integer.MAX_VALUE, 1}, {0, 20, -1},
        };
        for (int[] w : wrong) {
            Check.fails("addGuild out of range", ARGUMENT, () -> x.addGuild(w[0], w[1], w[2]));
        }
        is("addGuild least", x.addGuild(0, 20, 1), 0);
        is("addGuild most", x.addGuild(9999, 400, 8), 1);
        is("addGuild wealth", x.of(1, 'm'), 9999);
        is("addGuild lines", x.of(1, 'l'), 400);
        is("addGuild parts", x.of(1, 'p'), 8);
        is("addGuild learnt", x.of(1, 'e'), 0);
        is("addGuild wheels", x.of(1, 'w'), 5);
        is("addGuild fines", x.of(1, 'f'), 0);
        is("addGuild not in the book", x.of(1, 'a'), 0);
        is("addGuild height", x.wagon(1, 4, 3), 3);
        is("addGuild player", x.cast(1, 7, 0), -1);
        x.put(1, 0);
        is("addGuild third", x.addGuild(1, 21, 2), 2);
        is("addGuild last in the order", x.place(2), 2);
        for (int i = 3; i < 8; i++) {
            is("addGuild number", x.addGuild(0, 20, 1), i);
        }
        Check.fails("addGuild ninth", STATE, () -> x.addGuild(0, 20, 1));
        Check.fails("addGuild ninth out of range", ARGUMENT, () -> x.addGuild(0, 20, 9));
        x.merge(0, 1);
        Check.fails("addGuild ninth, one being over", STATE, () -> x.addGuild(0, 20, 1));
    }

    /** Promise 3. */
    private static void merge() {
        Wagonplay x = small();
        for (int w : WRONG) {
            Check.fails("merge no guild", INDEX, () -> x.merge(w, 0));
            Check.fails("merge no other", INDEX, () -> x.merge(0, w));
            Check.fails("merge none with none", INDEX, () -> x.merge(w, w));
        }
        Check.fails("merge into itself", ARGUMENT, () -> x.merge(1, 1));
        is("merge nothing changed", x.of(0, 'm') + x.of(1, 'm'), 150);
        is("merge", x.merge(0, 1), 150);
        is("merge over", x.isOver(0), true);
        is("merge other not over", x.isOver(1), false);
        is("merge wealth moved", x.of(0, 'm'), 0);
        is("merge wealth come", x.of(1, 'm'), 150);
        Check.fails("merge into one over", UNSUPPORTED, () -> x.merge(1, 0));
        Check.fails("merge one over", UNSUPPORTED, () -> x.merge(0, 1));
        Check.fails("merge one over into itself", ARGUMENT, () -> x.merge(0, 0));
        is("merge stays in the order", x.place(0), 0);
        is("merge does not play", x.day(), 1);
        Check.fails("merge left out", NO_ELEMENT, () -> x.at(0, 0, 'a'));
    }

    private static void mergeOfMoney() {
        Wagonplay x = new Wagonplay();
        x.addGuild(0, 20, 1);
        x.addGuild(3, 20, 1);
        x.addGuild(7, 20, 1);
        x.mend(0, 4);
        is("merge below 0", x.merge(0, 1), -5);
        is("merge again", x.merge(1, 2), 2);
        is("merge sound", x.isSound(), true);
        is("merge mean", x.meanWealth(), 2.0);
    }

    /** Promise 4. */
    private static void isOver() {
        Wagonplay x = small();
        is("isOver not", x.isOver(0), false);
        x.merge(1, 0);
        is("isOver not the other", x.isOver(0), false);
        is("isOver", x.isOver(1), true);
        x.addStation(1, 0, 0);
        x.day();
        x.year();
        is("isOver for good", x.isOver(1), true);
        for (int w : WRONG) {
            Check.fails("isOver no guild", INDEX, () -> x.isOver(w));
        }
    }

    /** Promise 5. */
    private static void of() {
        Wagonplay x = small();
        x.addGuild(9, 123, 7);
        x.add(2, 10);
        x.learn(2, 3);
        is("of m", x.of(2, 'm'), 9);
        is("of l", x.of(2, 'l'), 133);
        is("of p", x.of(2, 'p'), 7);
        is("of e", x.of(2, 'e'), 15);
        is("of w", x.of(2, 'w'), 5);
        is("of f", x.of(2, 'f'), 0);
        is("of a", x.of(2, 'a'), 10);
        x.lose(2, 0);
        is("of a, lost leaves aside", x.of(2, 'a'), 10);
        for (char what = 0; what < 256; what++) {
            char it = what;
            if ("mlpewfa".indexOf(it) < 0) {
                Check.fails("of no such thing " + (int) it, ARGUMENT, () -> x.of(0, it));
            }
        }
        Check.fails("of no such thing", ARGUMENT, () -> x.of(0, '\uffff'));
        Check.fails("of no guild", INDEX, () -> x.of(3, 'm'));
        Check.fails("of no guild", INDEX, () -> x.of(-1, 'm'));
        Check.fails("of no guild and no such thing", INDEX, () -> x.of(3, 'q'));
    }

    /** Promises 6 and 7. */
    private static void typeAndWipe() {
        Wagonplay x = new Wagonplay();
        is("wipe nothing", x.wipe(), 0);
        for (char letter : new char[] {'A', 'Z', '`', '{', ' ', 0, '\u00e4', '\uffff'}) {
            Check.fails("type none", ARGUMENT, () -> x.type(letter));
        }
        is("type a", x.type('a'), 1);
        is("type z", x.type('z'), 2);
        for (int i = 3; i <= 10; i++) {
            is("type", x.type('m'), i);
        }
        Check.fails("type eleventh", STATE, () -> x.type('m'));
        Check.fails("type eleventh, no letter", ARGUMENT, () -> x.type('M'));
        is("wipe ten", x.wipe(), 10);
        is("wipe none", x.wipe(), 0);
        is("type anew", x.type('q'), 1);
        is("wipe one", x.wipe(), 1);
    }

    /** Promise 8. */
    private static void subject() {
        Wagonplay x = small();
        Check.fails("subject nothing typed", UNSUPPORTED, () -> x.subject(0));
        String before = "creation";
        for (String word : new String[] {"flood", "birth", "passion", "doom", "creation", "creation"}) {
            type(x, word);
            is("subject " + word, x.subject(0), before.charAt(0));
            is("subject stays typed", x.wipe(), word.length());
            before = word;
        }
        for (String word : new String[] {"floo", "floods", "blood", "dooms", "creatio", "creations",
            "deem", "passiom", "mood", "birthflood"}) {
            type(x, word);
            Check.fails("subject none " + word, UNSUPPORTED, () -> x.subject(0));
        }
        type(x, "doom");
        is("subject again", x.subject(0), 'c');
        is("subject of another stays", x.subject(1), 'c');
        is("subject the same", x.subject(1), 'd');
        x.merge(1, 0);
        Check.fails("subject over", UNSUPPORTED, () -> x.subject(1));
        x.wipe();
        for (int w : WRONG) {
            Check.fails("subject no guild, none typed", INDEX, () -> x.subject(w));
        }
    }

    /** Promise 9. */
    private static void strike() {
        Wagonplay x = small();
        Check.fails("strike nothing typed", UNSUPPORTED, () -> x.strike(true));
        type(x, "doom");
        is("strike doom", x.strike(true), false);
        is("strike doom twice", x.strike(true), true);
        is("strike creation is played", x.foresee(), 275 + 18 + 2 + 18);
        x.subject(0);
        is("strike one left out", x.foresee(), 275 + 18);
        type(x, "creation");
        is("strike creation", x.strike(true), false);
        is("strike all left out", x.foresee(), 270);
        is("strike day", x.day(), 0);
        Check.fails("strike left out", NO_ELEMENT, () -> x.how(0, 0));
        is("strike no wage", x.town(), 0);
        is("strike no wheel", x.of(0, 'w'), 5);
        x.year();
        is("strike stays over the year", x.strike(false), true);
        is("strike played again", x.foresee(), 275 + 18);
        type(x, "doo");
        Check.fails("strike no subject", UNSUPPORTED, () -> x.strike(false));
        type(x, "doom");
        is("strike unchanged by that", x.strike(false), true);
        is("strike let again", x.strike(true), false);
    }

    /** Promise 10. */
    private static void learn() {
        Wagonplay x = small();
        is("learn 1", x.learn(0, 1), 5);
        is("learn 18", x.learn(0, 18), 95);
        is("learn above 100", x.learn(0, 2), 100);
        is("learn 30", x.learn(1, 30), 100);
        for (int days : new int[] {0, -1, 31, Integer.MIN_VALUE, Integer.MAX_VALUE}) {
            Check.fails("learn out of range", ARGUMENT, () -> x.learn(0, days));
            Check.fails("learn no guild", INDEX, () -> x.learn(2, days));
        }
        x.merge(1, 0);
        Check.fails("learn over", UNSUPPORTED, () -> x.learn(1, 1));
        Check.fails("learn over, out of range", ARGUMENT, () -> x.learn(1, 31));
        for (int w : WRONG) {
            Check.fails("learn no guild", INDEX, () -> x.learn(w, 1));
        }
        x.year();
        is("learn forgotten", x.learn(0, 1), 75);
    }

    /** Promise 11. */
    private static void cast() {
        Wagonplay x = new Wagonplay();
        x.addGuild(0, 20, 2);
        x.addGuild(0, 20, 8);
        is("cast first", x.cast(0, 0, 0), -1);
        is("cast second", x.cast(0, 1, 19), -1);
        is("cast again", x.cast(0, 0, 19), 0);
        is("cast none", x.cast(0, 0, -1), 19);
        is("cast none twice", x.cast(0, 0, -1), -1);
        is("cast other part stays", x.cast(0, 1, 3), 19);
        is("cast eighth", x.cast(1, 7, 3), -1);
        for (int part : new int[] {-1, 2, 8, Integer.MIN_VALUE, Integer.MAX_VALUE}) {
            Check.fails("cast no part", INDEX, () -> x.cast(0, part, 0));
            Check.fails("cast no part, out of range", INDEX, () -> x.cast(0, part, 20));
        }
        for (int w : WRONG) {
            Check.fails("cast no guild", INDEX, () -> x.cast(w, 0, 0));
        }
        for (int player : new int[] {-2, 20, Integer.MIN_VALUE, Integer.MAX_VALUE}) {
            Check.fails("cast out of range", ARGUMENT, () -> x.cast(0, 0, player));
        }
        x.merge(0, 1);
        is("cast of one over", x.cast(0, 1, 4), 3);
    }

    /** Promise 12. */
    private static void wagon() {
        Wagonplay x = small();
        is("wagon", x.wagon(0, 1, 0), 3);
        is("wagon", x.wagon(0, 9, 9), 1);
        is("wagon", x.wagon(0, 5, 5), 9);
        is("wagon other", x.wagon(1, 3, 3), 3);
        int[][] wrong = {{0, 0}, {10, 0}, {1, -1}, {1, 10}, {Integer.MIN_VALUE, 0}, {1, Integer.MAX_VALUE}};
        for (int[] w : wrong) {
            Check.fails("wagon out of range", ARGUMENT, () -> x.wagon(0, w[0], w[1]));
            Check.fails("wagon no guild", INDEX, () -> x.wagon(2, w[0], w[1]));
            Check.fails("wagon no guild", INDEX, () -> x.wagon(-1, w[0], w[1]));
        }
        is("wagon unchanged", x.wagon(0, 2, 0), 5);
        is("wagon height 2 without hands", x.foresee(), 277 + 18 + 2 + 18);
        x.merge(0, 1);
        is("wagon of one over", x.wagon(0, 4, 4), 2);
    }

    /** Promise 13. */
    private static void mend() {
        Wagonplay x = small();
        is("mend 1", x.mend(0, 1), 6);
        is("mend wealth", x.of(0, 'm'), 98);
        is("mend town", x.town(), 2);
        is("mend 3", x.mend(0, 3), 9);
        is("mend wealth", x.of(0, 'm'), 92);
        is("mend town", x.town(), 8);
        Check.fails("mend above 9", UNSUPPORTED, () -> x.mend(0, 1));
        Check.fails("mend above 9", UNSUPPORTED, () -> x.mend(1, 5));
        for (int wheels : new int[] {0, -1, 10, Integer.MIN_VALUE, Integer.MAX_VALUE}) {
            Check.fails("mend out of range", ARGUMENT, () -> x.mend(0, wheels));
            Check.fails("mend no guild", INDEX, () -> x.mend(2, wheels));
        }
        for (int w : WRONG) {
            Check.fails("mend no guild", INDEX, () -> x.mend(w, 1));
        }
        is("mend unchanged", x.town(), 8);
        x.merge(1, 0);
        Check.fails("mend over", UNSUPPORTED, () -> x.mend(1, 1));
        Check.fails("mend over, out of range", ARGUMENT, () -> x.mend(1, 0));
        is("mend sound", x.isSound(), true);
        Wagonplay y = new Wagonplay();
        y.addGuild(0, 20, 1);
        is("mend without wealth", y.mend(0, 4), 9);
        is("mend below 0", y.of(0, 'm'), -8);
    }

    /** Promise 14. */
    private static void addStation() {
        Wagonplay x = new Wagonplay();
        int[][] wrong = {{0, 0, 0}, {21, 0, 0}, {1, -1, 0}, {1, 10, 0}, {1, 0, -1}, {1, 0, 10},
            {Integer.MIN_VALUE, 0, 0}, {1, Integer.MAX_VALUE, 0}};
        for (int[] w : wrong) {
            Check.fails("addStation out of range", ARGUMENT, () -> x.addStation(w[0], w[1], w[2]));
        }
        is("addStation least", x.addStation(1, 0, 0), 0);
        is("addStation most", x.addStation(20, 9, 9), 1);
        for (int i = 2; i < 6; i++) {
            is("addStation number", x.addStation(1, 0, 0), i);
        }
        Check.fails("addStation seventh", STATE, () -> x.addStation(1, 0, 0));
        Check.fails("addStation seventh out of range", ARGUMENT, () -> x.addStation(0, 0, 0));
        is("addStation without torches", x.setTorches(5, false), false);
        is("addStation without scribe", x.setScribe(5, false), false);
        Check.fails("addStation without holder", NO_ELEMENT, () -> x.holder(5));
    }

    /** Promises 15 and 16. */
    private static void torchesAndScribe() {
        Wagonplay x = small();
        x.addStation(1, 0, 0);
        is("torches", x.setTorches(0, true), false);
        is("torches again", x.setTorches(0, true), true);
        is("torches elsewhere", x.setTorches(1, false), false);
        is("torches taken", x.setTorches(0, false), true);
        is("torches taken again", x.setTorches(0, true), false);
        is("scribe is no torch", x.setScribe(0, true), false);
        is("scribe again", x.setScribe(0, true), true);
        is("scribe elsewhere", x.setScribe(1, false), false);
        is("scribe taken", x.setScribe(0, false), true);
        is("scribe taken again", x.setScribe(0, false), false);
        for (int w : WRONG) {
            Check.fails("torches no station", INDEX, () -> x.setTorches(w, true));
            Check.fails("scribe no station", INDEX, () -> x.setScribe(w, true));
        }
        x.year();
        is("torches stay over the year", x.setTorches(0, true), true);
    }

    /** Promises 17 and 18. */
    private static void bidAndHolder() {
        Wagonplay x = small();
        x.addStation(1, 0, 0);
        Check.fails("holder none", NO_ELEMENT, () -> x.holder(0));
        is("bid least", x.bid(0, 9, 1), true);
        is("bid like", x.bid(0, 8, 1), false);
        is("bid like, holder", x.holder(0), 9);
        is("bid higher", x.bid(0, 0, 2), true);
        is("bid higher, holder", x.holder(0), 0);
        is("bid lower of the holder", x.bid(0, 0, 1), true);
        is("bid between", x.bid(0, 3, 2), false);
        is("bid most", x.bid(0, 3, 999), true);
        is("bid holder", x.holder(0), 3);
        Check.fails("holder of another", NO_ELEMENT, () -> x.holder(1));
        int[][] wrong = {{-1, 1}, {10, 1}, {0, 0}, {0, 1000}, {Integer.MIN_VALUE, 1}, {0, Integer.MAX_VALUE}};
        for (int[] w : wrong) {
            Check.fails("bid out of range", ARGUMENT, () -> x.bid(0, w[0], w[1]));
            Check.fails("bid no station", INDEX, () -> x.bid(2, w[0], w[1]));
        }
        for (int w : WRONG) {
            Check.fails("bid no station", INDEX, () -> x.bid(w, 0, 1));
            Check.fails("holder no station", INDEX, () -> x.holder(w));
        }
        x.day();
        is("holder behind the day", x.holder(0), 3);
        x.year();
        Check.fails("holder in the new year", NO_ELEMENT, () -> x.holder(0));
        is("bid in the new year", x.bid(0, 4, 1), true);
    }

    /** Promises 19 and 20. */
    private static void putAndPlace() {
        Wagonplay x = new Wagonplay();
        for (int i = 0; i < 4; i++) {
            x.addGuild(0, 20, 1);
        }
        isOrder("order at first", x, 0, 1, 2, 3);
        is("put to the front", x.put(3, 0), 3);
        isOrder("order", x, 3, 0, 1, 2);
        is("put to the end", x.put(0, 3), 1);
        isOrder("order", x, 3, 1, 2, 0);
        is("put in the middle", x.put(3, 2), 0);
        isOrder("order", x, 1, 2, 3, 0);
        is("put where it is", x.put(2, 1), 1);
        isOrder("order", x, 1, 2, 3, 0);
        is("put one ahead", x.put(3, 1), 2);
        isOrder("order", x, 1, 3, 2, 0);
        x.merge(3, 0);
        is("put one over", x.put(3, 0), 1);
        isOrder("order", x, 3, 1, 2, 0);
        for (int w : new int[] {-1, 4, Integer.MIN_VALUE, Integer.MAX_VALUE}) {
            Check.fails("put no guild", INDEX, () -> x.put(w, 0));
            Check.fails("put no guild, no place", INDEX, () -> x.put(w, w));
            Check.fails("put no place", ARGUMENT, () -> x.put(0, w));
            Check.fails("place no guild", INDEX, () -> x.place(w));
        }
        isOrder("order unchanged", x, 3, 1, 2, 0);
        is("order sound", x.isSound(), true);
    }

    private static void isOrder(String what, Wagonplay x, int... guilds) {
        for (int i = 0; i < guilds.length; i++) {
            is(what + ", guild " + guilds[i], x.place(guilds[i]), i);
        }
    }

    /** Promise 21. */
    private static void rain() {
        Wagonplay x = small();
        is("rain", x.rain(0, true), false);
        is("rain again", x.rain(0, true), true);
        is("rain over", x.rain(0, false), true);
        is("rain over again", x.rain(0, false), false);
        is("rain in the last hour", x.rain(23, true), false);
        is("rain in another", x.rain(22, false), false);
        x.year();
        is("rain stays over the year", x.rain(23, false), true);
        for (int hour : new int[] {-1, 24, Integer.MIN_VALUE, Integer.MAX_VALUE}) {
            Check.fails("rain out of range", ARGUMENT, () -> x.rain(hour, true));
        }
    }

    /** Promise 22. */
    private static void add() {
        Wagonplay x = new Wagonplay();
        x.addGuild(0, 400, 1);
        x.addGuild(0, 20, 1);
        is("add 1", x.add(0, 1), 1);
        is("add 99", x.add(0, 99), 100);
        is("add 99", x.add(0, 99), 199);
        Check.fails("add above 600", UNSUPPORTED, () -> x.add(0, 2));
        is("add to 600", x.add(0, 1), 200);
        Check.fails("add above 600", UNSUPPORTED, () -> x.add(0, 1));
        is("add lines", x.of(0, 'l'), 600);
        is("add leaves", x.leaves(0), 10);
        is("add known", x.known(0), 400);
        x.lose(1, 0);
        is("add, lost leaves aside", x.add(1, 5), 5);
        x.callIn();
        is("add behind the call", x.add(1, 6), 6);
        for (int lines : new int[] {0, -1, 100, Integer.MIN_VALUE, Integer.MAX_VALUE}) {
            Check.fails("add out of range", ARGUMENT, () -> x.add(0, lines));
            Check.fails("add no guild", INDEX, () -> x.add(2, lines));
        }
        for (int w : WRONG) {
            Check.fails("add no guild", INDEX, () -> x.add(w, 1));
        }
        x.merge(1, 0);
        Check.fails("add over", UNSUPPORTED, () -> x.add(1, 1));
        Check.fails("add over, out of range", ARGUMENT, () -> x.add(1, 0));
    }

    private static int wayOf(int height, int hands, int hill, int corner) {
        Wagonplay x = new Wagonplay();
        x.addGuild(0, 20, 1);
        x.wagon(0, height, hands);
        x.addStation(1, hill, corner);
        x.day();
        return x.at(0, 0, 'a') - 270;
    }

    /** Promise 23, how long the ways are. */
    private static void dayOfWays() {
        is("way", wayOf(3, 3, 0, 0), 1);
        is("way up a hill", wayOf(3, 3, 4, 0), 5);
        is("way up with few hands", wayOf(9, 0, 9, 0), 19);
        is("way with hands left", wayOf(1, 9, 2, 0), 1);
        is("way with as many hands", wayOf(4, 9, 5, 0), 1);
        is("way with one hand short", wayOf(5, 9, 5, 0), 2);
        is("way round a corner of 10", wayOf(3, 9, 0, 7), 1);
        is("way round a corner of 11", wayOf(3, 9, 0, 8), 6);
        is("way round all", wayOf(9, 9, 1, 9), 7);
        Wagonplay x = new Wagonplay();
        x.addGuild(0, 20, 1);
        x.addStation(3, 0, 0);
        x.addStation(4, 0, 0);
        for (int year = 0; year < 5; year++) {
            x.day();
            is("way on wheels", x.at(0, 0, 'a'), 273);
            is("way on wheels", x.at(0, 1, 'a'), 273 + 10 + 4);
            x.year();
        }
        is("way no wheels left", x.of(0, 'w'), 0);
        x.day();
        is("way without wheels", x.at(0, 0, 'a'), 283);
        is("way without wheels", x.at(0, 1, 'a'), 283 + 10 + 14);
        is("way no wheel below 0", x.of(0, 'w'), 0);
        x.year();
        x.mend(0, 1);
        is("way with a wheel", x.foresee(), 273 + 10 + 4 + 10);
        x.put(0, 0);
        is("way of the second guild", x.addGuild(0, 400, 1), 1);
        is("way of all at 270", x.day(), 4);
        is("way of the second guild", x.at(1, 0, 'a'), 273);
    }

    private static int minutesOf(int lines, int days, int... players) {
        Wagonplay x = new Wagonplay();
        x.addGuild(0, lines, players.length);
        if (days > 0) {
            x.learn(0, days);
        }
        for (int i = 0; i < players.length; i++) {
            x.cast(0, i, players[i]);
        }
        x.addStation(1, 0, 0);
        x.day();
        return x.at(0, 0, 'e') - x.at(0, 0, 'b');
    }

    /** Promise 23, how long the plays are. */
    private static void dayOfPlayLengths() {
        is("minutes of 20", minutesOf(20, 20, 1), 3);
        is("minutes of 29", minutesOf(29, 20, 1), 3);
        is("minutes of 30", minutesOf(30, 20, 1), 4);
        is("minutes of 400", minutesOf(400, 20, 1), 41);
        is("minutes not learnt", minutesOf(20, 0, 1), 8);
        is("minutes 95 not learnt", minutesOf(20, 1, 1), 7);
        is("minutes 80 not learnt", minutesOf(20, 4, 1), 7);
        is("minutes 20 not learnt", minutesOf(20, 16, 1), 4);
        is("minutes 15 not learnt", minutesOf(20, 17, 1), 3);
        is("minutes of no players", minutesOf(20, 20, -1, -1, -1), 9);
        is("minutes of two players", minutesOf(20, 20, 0, 19), 3);
        is("minutes of one doubled", minutesOf(20, 20, 0, 0), 4);
        is("minutes of one trebled", minutesOf(20, 20, 5, 5, 5), 5);
        is("minutes of two doubled", minutesOf(20, 20, 5, 6, 6, 5), 5);
        is("minutes of all", minutesOf(20, 20, 5, -1, 5, -1, 6, 7, 7, 5), 3 + 2 + 2 + 3);
        Wagonplay x = small();
        x.add(0, 10);
        x.day();
        is("minutes with added lines", x.at(0, 0, 'e') - x.at(0, 0, 'b'), 11 + 1 + 5 + 2);
    }

    /** Promise 23, what the rain does. */
    private static void dayOfRain() {
        Wagonplay x = new Wagonplay();
        x.addGuild(0, 200, 1);
        x.learn(0, 20);
        x.cast(0, 0, 0);
        x.addStation(20, 0, 0);
        x.addStation(10, 0, 0);
        x.rain(4, true);
        x.day();
        is("rain as it sets out at 4:30", x.at(0, 0, 'a'), 292);
        is("rain as it begins at 4:52", x.at(0, 0, 'e'), 292 + 26);
        is("rain is over at 5:18", x.at(0, 1, 'a'), 318 + 10);
        is("rain is over at 5:28", x.at(0, 1, 'e'), 328 + 21);
        x.year();
        x.learn(0, 30);
        x.rain(4, false);
        x.rain(5, true);
        x.day();
        is("rain is not there at 4:30", x.at(0, 0, 'a'), 290);
        is("rain is not there at 4:50", x.at(0, 0, 'e'), 311);
        is("rain as it sets out at 5:11", x.at(0, 1, 'a'), 323);
        is("rain as it begins at 5:23", x.at(0, 1, 'e'), 349);
        Wagonplay y = new Wagonplay();
        y.addGuild(0, 100, 1);
        y.learn(0, 20);
        y.cast(0, 0, 0);
        y.addStation(20, 9, 0);
        y.wagon(0, 4, 3);
        y.rain(5, true);
        is("rain from the hour on", y.foresee(), 300 + 16);
        y.wagon(0, 3, 3);
        is("rain not a minute ahead", y.foresee(), 299 + 11);
    }

    /** Promise 23, how a pageant waits for its players. */
    private static void dayOfPlayers() {
        Wagonplay x = new Wagonplay();
        x.addGuild(0, 200, 1);
        x.addGuild(0, 20, 1);
        x.learn(0, 20);
        x.learn(1, 20);
        x.cast(0, 0, 7);
        x.cast(1, 0, 7);
        x.addStation(10, 0, 0);
        x.addStation(10, 0, 0);
        // Guild 0 plays 280 to 301 and 311 to 332; guild 1 would play 303 to 306 and, there at 316, 334 to 337.
        x.day();
        is("players apart", x.at(1, 0, 'b'), 303);
        is("players apart", x.at(1, 1, 'b'), 334);
        is("players gap", x.at(1, 1, 'g'), 2);
        x.year();
        x.learn(0, 30);
        x.learn(1, 30);
        x.add(1, 80);
        // Now guild 1 takes 11 minutes: from 303 it would be on up to 314, when guild 0 is on again.
        x.day();
        is("players wait", x.at(1, 0, 'b'), 332);
        is("players wait", x.at(1, 0, 'e'), 343);
        is("players wait, gap", x.at(1, 0, 'g'), 31);
        is("players wait, next", x.at(1, 1, 'a'), 353);
        is("players wait, next", x.at(1, 1, 'b'), 353);
        is("players wait, next gap", x.at(1, 1, 'g'), 21);
        is("players sound", x.isSound(), true);
        x.cast(1, 0, 8);
        is("players sound by the day's players", x.isSound(), true);
        is("players others", x.foresee(), 334 + 11);
        x.cast(1, 0, 7);
        x.addGuild(0, 20, 1);
        x.put(2, 0);
        type(x, "doom");
        x.strike(true);
        x.subject(2);
        x.cast(2, 0, 7);
        is("players of one left out", x.foresee(), 353 + 11);
        touching();
        askedAnew();
    }

    /** One that ends just as the other begins is no clash. */
    private static void touching() {
        Wagonplay x = new Wagonplay();
        x.addGuild(0, 200, 1);
        x.addGuild(0, 70, 1);
        x.learn(0, 20);
        x.learn(1, 20);
        x.cast(0, 0, 7);
        x.cast(1, 0, 7);
        x.addStation(10, 0, 0);
        x.addStation(10, 0, 0);
        x.day();
        is("players touching", x.at(1, 0, 'b'), 303);
        is("players touching", x.at(1, 0, 'e'), 311);
        x.year();
        x.learn(0, 30);
        x.learn(1, 30);
        x.add(1, 10);
        x.day();
        is("players clashing by a minute", x.at(1, 0, 'b'), 332);
    }

    /** Several are ahead at once: the last one to end counts, and all is asked anew with the rain of then. */
    private static void askedAnew() {
        Wagonplay x = new Wagonplay();
        for (int i = 0; i < 3; i++) {
            x.addGuild(0, 100, 2);
            x.learn(i, 20);
        }
        x.cast(0, 0, 1);
        x.cast(0, 1, 2);
        x.cast(1, 0, 3);
        x.cast(1, 1, 4);
        x.cast(2, 0, 1);
        x.cast(2, 1, 3);
        x.addStation(10, 0, 0);
        x.addStation(10, 0, 0);
        x.addStation(10, 0, 0);
        // Guild 0: 280-291, 301-312, 322-333. Guild 1: 293-304, 314-325, 335-346.
        // Guild 2 comes at 280, is at 306 behind guild 1, clashes with 301-312 and 314-325 by 306-317,
        // at 325 with 322-333, at 333 with 335-346, and begins at 346.
        x.day();
        is("asked anew", x.at(2, 0, 'b'), 346);
        is("asked anew, end", x.at(2, 0, 'e'), 357);
        is("asked anew, gap", x.at(2, 0, 'g'), 42);
        x.year();
        for (int i = 0; i < 3; i++) {
            x.learn(i, 30);
        }
        x.cast(1, 0, 9);
        // Only player 1 is shared: 306-317 clashes with 301-312, 312-323 with 322-333: it begins at 333.
        is("asked anew, one player", x.foresee(), 333 + 11 + 10 + 11 + 10 + 11);
        x.rain(5, true);
        x.rain(4, false);
        x.day();
        is("asked anew, sound", x.isSound(), true);
    }

    /** Promise 23, how players are freed by the dark. */
    private static void dayOfPlayersInTheDark() {
        Wagonplay x = new Wagonplay();
        for (int i = 0; i < 8; i++) {
            x.addGuild(0, 400, 8);
        }
        for (int i = 0; i < 6; i++) {
            x.addStation(20, 9, 9);
        }
        for (int i = 0; i < 8; i++) {
            x.cast(i, 0, 3);
            x.wagon(i, 9, 0);
        }
        x.day();
        is("dark: sound", x.isSound(), true);
        int notPlayed = 0;
        int lateNotPlayed = 0;
        for (int i = 0; i < 8; i++) {
            int fine = 0;
            for (int s = 0; s < 6; s++) {
                fine += x.at(i, s, 'g') > 15 ? 3 : 0;
                if (x.how(i, s) == 'd') {
                    lateNotPlayed += x.at(i, s, 'g') > 15 ? 1 : 0;
                    notPlayed++;
                    is("dark: no minutes", x.at(i, s, 'e'), x.at(i, s, 'b'));
                    is("dark: no lines", x.at(i, s, 'l'), 0);
                    is("dark: begin", x.at(i, s, 'b') >= 1260, true);
                }
            }
            is("dark: fines", x.of(i, 'f'), fine);
        }
        is("dark: some not played", notPlayed > 20, true);
        is("dark: some of them late", lateNotPlayed > 0, true);
    }

    /** Promise 23, plays in the dark: the last station moves through the minutes round 1260. */
    private static void dayOfDark() {
        String seen = "";
        for (int minutes = 1; minutes <= 20; minutes++) {
            for (int wet = 0; wet < 4; wet++) {
                for (int added = 10; added <= 90; added += 20) {
                    seen = seen + darkAt(minutes, wet, added, false);
                    seen = seen + darkAt(minutes, wet, added, true);
                }
            }
        }
        is("dark: one ends at 1260", seen.indexOf('=') >= 0, true);
        is("dark: one would end at 1261", seen.indexOf('>') >= 0, true);
        darkBegin(0, false, 1258, 'c', 1260, 18);
        darkBegin(1, false, 1259, 'c', 1260, 9);
        darkBegin(2, false, 1260, 'd', 1260, 0);
        darkBegin(3, false, 1261, 'd', 1261, 0);
        darkBegin(2, true, 1260, 'w', 1326, 600);
        darkAmidst(false);
        darkAmidst(true);
        Wagonplay x = onePlayer(2, 0);
        x.setTorches(5, true);
        x.day();
        is("dark: lines with torches", x.at(1, 5, 'l'), 600);
        x.year();
        x.setTorches(5, false);
        x.day();
        is("dark: no lines of the year before", x.how(1, 5), 'd');
        is("dark: no lines of the year before", x.at(1, 5, 'l'), 0);
    }

    /** Guild 2 plays 8 minutes behind guild 1, which would begin at 1260 at station 5, not played or with torches. */
    private static void darkAmidst(boolean torchesAtLast) {
        Wagonplay x = onePlayer(2, 1);
        x.setTorches(4, !torchesAtLast);
        x.setTorches(5, torchesAtLast);
        x.day();
        is("dark amidst", x.at(1, 4, 'e'), 1255);
        is("dark amidst", x.at(1, 5, 'b'), 1260);
        is("dark amidst", x.how(1, 5), torchesAtLast ? 'w' : 'd');
        is("dark amidst: nobody is on in a play not played", x.at(2, 4, 'b'), 1257);
        is("dark amidst: nobody is on behind the dark", x.at(2, 4, 'e'), torchesAtLast ? 1260 : 1265);
        is("dark amidst: lines", x.at(2, 4, 'l'), torchesAtLast ? 20 * 3 / 8 : 20);
        is("dark amidst: sound", x.isSound(), true);
    }

    /** Two guilds with one player play all 6 stations one behind the other, 66 minutes each; short ones follow. */
    private static Wagonplay onePlayer(int hill, int shortOnes) {
        Wagonplay x = new Wagonplay();
        for (int i = 0; i < 2; i++) {
            x.addGuild(0, 400, 1);
            x.add(i, 99);
            x.add(i, 99);
            x.add(i, 2);
            x.cast(i, 0, 19);
        }
        x.addStation(20, hill, 0);
        for (int s = 1; s < 5; s++) {
            x.addStation(20, 9, 0);
        }
        x.addStation(5, 0, 0);
        for (int i = 2; i < 2 + shortOnes; i++) {
            x.addGuild(0, 20, 1);
            x.cast(i, 0, 19);
        }
        return x;
    }

    private static void darkBegin(int hill, boolean torches, int begin, char how, int end, int said) {
        Wagonplay x = onePlayer(hill, 0);
        x.setTorches(5, torches);
        x.day();
        is("dark begin", x.at(1, 0, 'b'), x.at(0, 5, 'e'));
        is("dark begin", x.at(1, 5, 'b'), begin);
        is("dark begin", x.how(1, 5), how);
        is("dark begin", x.at(1, 5, 'e'), end);
        is("dark begin", x.at(1, 5, 'l'), said);
        is("dark begin", x.end(), end);
        is("dark begin", x.wholeShare(), (how == 'w' ? 12f : 11f) / 12f);
        is("dark begin", x.isSound(), true);
    }

    /** Six guilds of like lines and 8 parts, no player shared; answers which edges of the dark were met. */
    private static String darkAt(int minutes, int wetHours, int added, boolean torches) {
        Wagonplay x = new Wagonplay();
        for (int i = 0; i < 6; i++) {
            x.addGuild(0, 400, 8);
            x.add(i, added);
            x.wagon(i, 9, 0);
        }
        for (int s = 0; s < 5; s++) {
            x.addStation(20, 9, 9);
        }
        x.addStation(minutes, 0, 0);
        x.setTorches(5, torches);
        for (int hour = 0; hour < wetHours; hour++) {
            x.rain(5 + hour, true);
        }
        int whole = x.day();
        int seen = 0;
        StringBuilder edges = new StringBuilder();
        for (int i = 0; i < 6; i++) {
            for (int s = 0; s < 6; s++) {
                edges.append(darkIsDue(x, i, s, torches && s == 5, wetHours));
                if (x.how(i, s) == 'w') {
                    seen++;
                }
            }
        }
        is("dark: whole ones", whole, seen);
        is("dark: share", x.wholeShare(), seen / 36f);
        return edges.toString();
    }

    private static String darkIsDue(Wagonplay x, int guild, int station, boolean torches, int wetHours) {
        int begin = x.at(guild, station, 'b');
        int all = x.of(guild, 'l');
        int minutes = all / 10 + 1 + 5 + 16 + (begin >= 300 && begin < 300 + 60 * wetHours ? 5 : 0);
        String what = "dark at " + begin + (torches ? " with torches" : "");
        char how = torches || begin + minutes <= 1260 ? 'w' : begin >= 1260 ? 'd' : 'c';
        int end = how == 'w' ? begin + minutes : how == 'd' ? begin : 1260;
        int lines = how == 'w' ? all : how == 'd' ? 0 : all * (1260 - begin) / minutes;
        is(what, x.how(guild, station), how);
        is(what, x.at(guild, station, 'e'), end);
        is(what, x.at(guild, station, 'l'), lines);
        if (guild > 0) {
            int ahead = x.at(guild - 1, station, 'e');
            is(what, begin, Math.max(x.at(guild, station, 'a'), ahead + 2));
            is(what, x.at(guild, station, 'g'), begin - ahead);
        }
        if (torches) {
            return "";
        }
        int would = begin + minutes;
        return would == 1260 ? "=" : would == 1261 ? ">" : "";
    }

    /** Behind midnight it stays dark, and the rain of the hours begins anew. */
    private static void dayOfDarkGoesOn() {
        Wagonplay x = new Wagonplay();
        for (int i = 0; i < 8; i++) {
            x.addGuild(0, 400, 8);
            x.add(i, 99);
            x.add(i, 99);
            for (int part = 0; part < 8; part++) {
                x.cast(i, part, part == 0 ? 1 : -1);
            }
        }
        for (int s = 0; s < 6; s++) {
            x.addStation(20, 9, 9);
            x.setTorches(s, s < 5);
        }
        int dry = x.foresee();
        is("behind midnight", dry > 2 * 1440, true);
        x.rain(0, true);
        int wet = x.foresee();
        is("behind midnight it rains again", wet > dry, true);
        x.rain(0, false);
        is("behind midnight it is dry again", x.foresee(), dry);
        x.day();
        is("behind midnight it is dark", x.how(7, 5), 'd');
        is("behind midnight torches help", x.how(7, 4), 'w');
        is("behind midnight, sound", x.isSound(), true);
    }

    /** Promise 23, the money. */
    private static void dayOfMoney() {
        Wagonplay x = new Wagonplay();
        x.addGuild(100, 100, 3);
        x.addGuild(100, 100, 1);
        x.addGuild(100, 100, 8);
        x.addGuild(100, 100, 8);
        x.addStation(5, 0, 0);
        x.addStation(5, 0, 0);
        x.bid(0, 4, 30);
        x.bid(1, 4, 12);
        x.merge(3, 0);
        type(x, "doom");
        x.subject(2);
        x.strike(true);
        is("money: day", x.day(), 4);
        is("money: wage of 3 parts", x.of(0, 'm'), 194);
        is("money: wage of 1 part", x.of(1, 'm'), 98);
        is("money: left out", x.of(2, 'm'), 100);
        is("money: over", x.of(3, 'm'), 0);
        is("money: rents", x.paid(4), 42);
        is("money: no rent", x.paid(0), 0);
        is("money: town", x.town(), 6 + 2 + 42);
        is("money: a wheel lost", x.of(0, 'w'), 4);
        is("money: no wheel lost when left out", x.of(2, 'w'), 5);
        is("money: no wheel lost when over", x.of(3, 'w'), 5);
        x.year();
        x.day();
        is("money: a wheel short", x.of(0, 'm'), 194 - 7);
        is("money: no bids in the new year", x.paid(4), 42);
        is("money: town", x.town(), 50 + 7 + 3);
        x.mend(1, 5);
        is("money: mended", x.town(), 60 + 10);
        x.year();
        x.day();
        is("money: wheels above 5", x.of(1, 'm'), 98 - 3 - 10 - 2);
        is("money: sound", x.isSound(), true);
        lateFines();
    }

    /** 15 behind the one ahead are free, 16 are not. */
    private static void lateFines() {
        Wagonplay x = new Wagonplay();
        x.addGuild(0, 20, 1);
        x.addGuild(0, 20, 1);
        x.addStation(5, 0, 0);
        x.addStation(5, 0, 0);
        // Guild 0 plays 275 to 285; with as many hands short guild 1 comes 25 minutes behind guild 0.
        x.wagon(0, 1, 9);
        x.wagon(1, 9, 0);
        x.addStation(5, 9, 0);
        x.day();
        // Guild 1: 284, begins 287-297; 311-321, guild 0 ended at 300; 344-354, guild 0 ended at 316.
        is("late: at 0", x.at(1, 0, 'g'), 2);
        is("late: at 1", x.at(1, 1, 'g'), 311 - 300);
        is("late: first has none", x.at(0, 2, 'g'), 0);
        is("late: at 2", x.at(1, 2, 'g'), 344 - x.at(0, 2, 'e'));
        is("late: fines", x.of(1, 'f'), 3);
        is("late: fined", x.of(1, 'm'), -2 - 3);
        is("late: first is not fined", x.of(0, 'f'), 0);
        is("late: town", x.town(), 4 + 3);
        x.year();
        x.day();
        is("late: fines of all days", x.of(1, 'f'), 6);
        lateByMinutes(7, 15, 0);
        lateByMinutes(8, 16, 3);
        for (int hands = 0; hands <= 9; hands++) {
            lateByHands(hands);
        }
    }

    /** Guild 1 comes 3 behind guild 0 to the first station, and as told by the hill to the second one. */
    private static void lateByMinutes(int hill, int gap, int fine) {
        Wagonplay x = new Wagonplay();
        x.addGuild(0, 20, 1);
        x.addGuild(0, 20, 1);
        x.addStation(5, 9, 9);
        x.addStation(5, hill, 9);
        x.wagon(0, 1, 9);
        x.wagon(1, 9, 9);
        x.day();
        is("late by minutes: first", x.at(1, 0, 'g'), 3);
        is("late by minutes", x.at(1, 1, 'g'), gap);
        is("late by minutes: fine", x.of(1, 'f'), fine);
        is("late by minutes: wealth", x.of(1, 'm'), -2 - fine);
    }

    private static void lateByHands(int hands) {
        Wagonplay x = new Wagonplay();
        x.addGuild(0, 20, 1);
        x.addGuild(0, 20, 1);
        x.addStation(5, 9, 0);
        x.addStation(5, 0, 0);
        x.wagon(0, 1, 9);
        x.wagon(1, 9, hands);
        x.day();
        int first = x.at(1, 0, 'g');
        int second = x.at(1, 1, 'g');
        is("late by hands", x.of(1, 'f'), (first > 15 ? 3 : 0) + (second > 15 ? 3 : 0));
        if (hands == 8) {
            // Guild 0 plays 276-286 and 291-301; guild 1 comes at 285, plays 288-298, comes at 304.
            is("late by hands", first * 100 + second, 203);
        }
    }

    /** Promise 23, the scribes. */
    private static void dayOfScribes() {
        Wagonplay x = new Wagonplay();
        x.addGuild(0, 100, 1);
        x.addGuild(0, 100, 1);
        x.addStation(5, 0, 0);
        x.addStation(5, 0, 0);
        x.addStation(5, 0, 0);
        x.add(0, 30);
        x.lose(0, 0);
        x.lose(0, 1);
        x.day();
        is("scribe: none, no fine", x.of(0, 'f'), 0);
        is("scribe: none, nothing found", x.known(0), 20);
        is("scribe: none, nothing new", x.of(0, 'a'), 30);
        x.year();
        x.setScribe(0, true);
        x.add(1, 1);
        x.day();
        is("scribe: fine at one", x.of(0, 'f'), 30);
        is("scribe: fine of the other", x.of(1, 'f'), 1);
        is("scribe: the first station's scribe writes", x.known(0), 130);
        x.year();
        x.add(0, 15);
        x.lose(0, 2);
        x.setScribe(2, true);
        x.day();
        is("scribe: fine at each", x.of(0, 'f'), 60);
        is("scribe: new lines in the book", x.of(0, 'a'), 0);
        is("scribe: leaves found", x.known(0), 145);
        is("scribe: leaves", x.leaves(0), 4);
        is("scribe: the other is not fined again", x.of(1, 'f'), 1);
        x.year();
        x.lose(0, 3);
        x.day();
        is("scribe: no fine for lost leaves", x.of(0, 'f'), 60);
        is("scribe: leaf found", x.known(0), 145);
        is("scribe: sound", x.isSound(), true);
        cutScribe();
    }

    /** A play that is cut by the dark has its leaves found as far as it was said. */
    private static void cutScribe() {
        Wagonplay x = new Wagonplay();
        for (int i = 0; i < 6; i++) {
            x.addGuild(0, 400, 8);
            x.add(i, 98);
            for (int leaf = 0; leaf < 10; leaf++) {
                x.lose(i, leaf);
            }
            x.wagon(i, 9, 0);
        }
        for (int s = 0; s < 6; s++) {
            x.addStation(20, 9, 9);
        }
        x.setScribe(5, true);
        x.day();
        int cut = 0;
        for (int i = 0; i < 6; i++) {
            char how = x.how(i, 5);
            int said = x.at(i, 5, 'l');
            cut += how == 'c' ? 1 : 0;
            is("cut scribe: known", x.known(i), how == 'w' ? 498 : Math.min(400, said / 40 * 40));
            is("cut scribe: added", x.of(i, 'a'), how == 'w' ? 0 : 98);
            is("cut scribe: leaves", x.leaves(i), how == 'w' ? 13 : 10);
        }
        is("cut scribe: one is cut", cut > 0, true);
        is("cut scribe: sound", x.isSound(), true);
    }

    private static void dayOnlyOnceAYear() {
        Wagonplay x = new Wagonplay();
        x.addGuild(10, 100, 1);
        Check.fails("day without stations", STATE, x::day);
        x.addStation(5, 0, 0);
        is("day", x.day(), 1);
        long sum = x.checksum();
        Check.fails("day twice", STATE, x::day);
        is("day twice changes nothing", x.checksum(), sum);
        x.year();
        is("day of the next year", x.day(), 1);
        Wagonplay y = new Wagonplay();
        y.addStation(5, 0, 0);
        y.bid(0, 2, 9);
        is("day without guilds", y.day(), 0);
        is("day without guilds, rent", y.town(), 9);
        Check.fails("day without guilds is played", STATE, y::day);
    }

    /** Promises 24 and 25. */
    private static void atAndHow() {
        Wagonplay x = small();
        Check.fails("at, no day", STATE, () -> x.at(0, 0, 'a'));
        Check.fails("at, no day, no thing", ARGUMENT, () -> x.at(0, 0, 'x'));
        Check.fails("at, no day, no guild", INDEX, () -> x.at(2, 0, 'x'));
        Check.fails("at, no day, no station", INDEX, () -> x.at(0, 1, 'x'));
        Check.fails("how, no day", STATE, () -> x.how(0, 0));
        Check.fails("how, no day, no guild", INDEX, () -> x.how(2, 0));
        x.put(1, 0);
        x.day();
        is("at a", x.at(0, 0, 'a'), 275);
        is("at b", x.at(0, 0, 'b'), 275 + 18 + 2);
        is("at e", x.at(0, 0, 'e'), 275 + 18 + 2 + 18);
        is("at l", x.at(0, 0, 'l'), 100);
        is("at g", x.at(0, 0, 'g'), 2);
        is("at g of the first", x.at(1, 0, 'g'), 0);
        is("how", x.how(0, 0), 'w');
        x.put(1, 1);
        x.add(0, 50);
        x.wagon(0, 9, 0);
        x.setTorches(0, true);
        is("at l of the day", x.at(0, 0, 'l'), 100);
        is("at g of the day", x.at(1, 0, 'g'), 0);
        x.foresee();
        x.soonest();
        is("at e of the day", x.at(0, 0, 'e'), 313);
        for (char what = 0; what < 256; what++) {
            char it = what;
            if ("abelg".indexOf(it) < 0) {
                Check.fails("at no such thing", ARGUMENT, () -> x.at(0, 0, it));
            }
        }
        for (int w : WRONG) {
            Check.fails("at no guild", INDEX, () -> x.at(w, 0, 'a'));
            Check.fails("how no guild", INDEX, () -> x.how(w, 0));
        }
        for (int w : new int[] {-1, 1, 6, Integer.MIN_VALUE, Integer.MAX_VALUE}) {
            Check.fails("at no station", INDEX, () -> x.at(0, w, 'a'));
            Check.fails("how no station", INDEX, () -> x.how(0, w));
        }
        x.merge(0, 1);
        is("at of one over behind the day", x.at(0, 0, 'b'), 295);
        newcomers(x);
        x.year();
        Check.fails("at in the new year", STATE, () -> x.at(1, 0, 'a'));
        Check.fails("how in the new year", STATE, () -> x.how(1, 0));
        x.day();
        Check.fails("at left out", NO_ELEMENT, () -> x.at(0, 0, 'a'));
        Check.fails("at left out, no thing", ARGUMENT, () -> x.at(0, 0, 'x'));
        Check.fails("how left out", NO_ELEMENT, () -> x.how(0, 0));
    }

    /** What came behind the day has no play in it. */
    private static void newcomers(Wagonplay x) {
        x.addGuild(0, 20, 1);
        x.addStation(9, 0, 0);
        Check.fails("at of a guild behind the day", NO_ELEMENT, () -> x.at(2, 0, 'a'));
        Check.fails("how of a guild behind the day", NO_ELEMENT, () -> x.how(2, 0));
        Check.fails("at a station behind the day", NO_ELEMENT, () -> x.at(1, 1, 'a'));
        Check.fails("how at a station behind the day", NO_ELEMENT, () -> x.how(1, 1));
        is("share of the day", x.wholeShare(), 1f);
        is("end of the day", x.end(), 313);
        is("sound behind the day", x.isSound(), true);
    }

    /** Promise 26. */
    private static void end() {
        Wagonplay x = small();
        Check.fails("end, no day", STATE, x::end);
        x.day();
        is("end", x.end(), 275 + 18 + 2 + 18);
        x.add(0, 99);
        is("end of the day", x.end(), 313);
        x.year();
        Check.fails("end in the new year", STATE, x::end);
        x.merge(0, 1);
        type(x, "creation");
        x.strike(true);
        x.day();
        is("end without guilds", x.end(), 270);
        Wagonplay y = new Wagonplay();
        for (int i = 0; i < 8; i++) {
            y.addGuild(0, 400, 8);
            y.add(i, 99);
            y.add(i, 99);
        }
        for (int s = 0; s < 6; s++) {
            y.addStation(20, 9, 9);
        }
        y.day();
        is("end with plays in the dark", y.how(7, 5), 'd');
        is("end with plays in the dark", y.end(), y.at(7, 5, 'e'));
        is("end with plays in the dark", y.end() > 1260, true);
        // A guild that ends earlier behind one that ends later: the latest counts.
        Wagonplay z = new Wagonplay();
        z.addGuild(0, 20, 1);
        z.addStation(5, 0, 0);
        z.addStation(5, 0, 0);
        z.day();
        is("end at the last station", z.end(), 275 + 10 + 5 + 10);
    }

    /** Promise 27. */
    private static void foresee() {
        Wagonplay x = new Wagonplay();
        Check.fails("foresee without stations", STATE, x::foresee);
        x.addStation(5, 0, 0);
        is("foresee without guilds", x.foresee(), 270);
        x.addGuild(0, 100, 1);
        long sum = x.checksum();
        is("foresee", x.foresee(), 293);
        is("foresee changes nothing", x.checksum(), sum);
        Check.fails("foresee plays nothing", STATE, x::end);
        is("foresee then played", x.day(), 1);
        is("foresee behind the day", x.foresee(), 293);
        x.add(0, 20);
        is("foresee by now", x.foresee(), 295);
        is("foresee leaves the day", x.end(), 293);
        for (int i = 0; i < 5; i++) {
            x.year();
            x.day();
        }
        is("foresee without wheels", x.foresee(), 305);
    }

    /** Promises 28 and 29. */
    private static void soonestAndArrange() {
        Wagonplay x = new Wagonplay();
        Check.fails("soonest without stations", STATE, x::soonest);
        Check.fails("arrange without stations", STATE, x::arrange);
        for (int i = 0; i < 5; i++) {
            x.addGuild(0, 20, 1);
        }
        Check.fails("soonest without stations, of 5", STATE, x::soonest);
        Check.fails("arrange without stations, of 5", STATE, x::arrange);
        x.addStation(5, 0, 0);
        Check.fails("soonest of 5", UNSUPPORTED, x::soonest);
        Check.fails("arrange of 5", UNSUPPORTED, x::arrange);
        x.merge(2, 0);
        is("soonest of 4", x.soonest(), 275 + 4 * 10 + 3 * 2);
        is("arrange, one over behind", x.arrange(), true);
        isOrder("arrange, one over behind", x, 0, 1, 3, 4, 2);
        is("arrange again", x.arrange(), false);
        type(x, "creation");
        x.strike(true);
        is("soonest without guilds", x.soonest(), 270);
        is("arrange without guilds", x.arrange(), true);
        isOrder("arrange without guilds", x, 0, 1, 2, 3, 4);
        is("arrange without guilds again", x.arrange(), false);
        x.addGuild(0, 20, 1);
        x.put(5, 0);
        is("arrange without guilds, by numbers", x.arrange(), true);
        isOrder("arrange without guilds, by numbers", x, 0, 1, 2, 3, 4, 5);
        soonestOfTwo();
        soonestIsFirst();
    }

    private static void soonestOfTwo() {
        Wagonplay x = new Wagonplay();
        x.addGuild(0, 400, 8);
        x.addGuild(0, 20, 1);
        x.addStation(5, 0, 0);
        x.addStation(5, 0, 0);
        // By 0, 1: 275-337, 342-404; 339-349, 406-416. By 1, 0: 275-285, 290-300; 287-349, 354-416.
        is("two as they are", x.foresee(), 416);
        is("two", x.soonest(), 416);
        x.put(1, 0);
        is("two the other way", x.foresee(), 416);
        is("two, the first of like ones", x.arrange(), true);
        isOrder("two, the first of like ones", x, 0, 1);
        x.wagon(1, 9, 0);
        x.addStation(1, 9, 0);
        int first = x.foresee();
        x.put(1, 0);
        int second = x.foresee();
        is("two differ", first == second, false);
        is("two, the sooner", x.soonest(), Math.min(first, second));
        is("soonest changes nothing", x.foresee(), second);
        is("two, arranged", x.arrange(), second > first);
        is("two, arranged", x.foresee(), Math.min(first, second));
    }

    /** By trying all orders of 4 with put: the end that is soonest, and the first order that has it. */
    private static void soonestIsFirst() {
        for (int kind = 0; kind < 12; kind++) {
            Wagonplay x = fourGuilds(kind);
            int best = Integer.MAX_VALUE;
            int bestCode = 0;
            for (int code = 0; code < 256; code++) {
                int[] guilds = {code >> 6, code >> 4 & 3, code >> 2 & 3, code & 3};
                if (!isPermutation(guilds)) {
                    continue;
                }
                for (int place = 0; place < 4; place++) {
                    x.put(guilds[place], place);
                }
                if (x.foresee() < best) {
                    best = x.foresee();
                    bestCode = code;
                }
            }
            is("soonest of all orders", x.soonest(), best);
            is("not arranged yet", x.place(3), 0);
            x.arrange();
            isOrder("arranged", x, bestCode >> 6, bestCode >> 4 & 3, bestCode >> 2 & 3, bestCode & 3);
            is("arranged, end", x.foresee(), best);
        }
    }

    private static boolean isPermutation(int[] guilds) {
        int seen = 0;
        for (int guild : guilds) {
            seen |= 1 << guild;
        }
        return seen == 15;
    }

    private static Wagonplay fourGuilds(int kind) {
        Wagonplay x = new Wagonplay();
        for (int i = 0; i < 4; i++) {
            int k = (kind * 7 + i * 5) % 11;
            x.addGuild(0, 20 + 35 * k, 1 + k % 8);
            x.wagon(i, 1 + k % 9, (kind + i) % 10);
            x.cast(i, 0, k % 3);
        }
        for (int s = 0; s < 1 + kind % 6; s++) {
            x.addStation(1 + (kind + s * 3) % 20, (s * 5 + kind) % 10, (s * 7 + kind) % 10);
        }
        x.rain(4 + kind % 3, true);
        return x;
    }

    /** Promises 30, 31 and 32. */
    private static void bookByHand() {
        Wagonplay x = new Wagonplay();
        x.addGuild(0, 20, 1);
        x.addGuild(0, 80, 1);
        x.addGuild(0, 81, 1);
        is("leaves of 20", x.leaves(0), 1);
        is("leaves of 80", x.leaves(1), 2);
        is("leaves of 81", x.leaves(2), 3);
        is("known at first", x.known(2), 81);
        is("lose the first", x.lose(2, 0), true);
        is("lose it again", x.lose(2, 0), false);
        is("known", x.known(2), 41);
        is("lose the last", x.lose(2, 2), true);
        is("known", x.known(2), 40);
        is("leaves, lost ones counted", x.leaves(2), 3);
        x.lose(2, 1);
        is("known none", x.known(2), 0);
        is("known of another", x.known(1), 80);
        x.add(1, 1);
        is("leaves without added lines", x.leaves(1), 2);
        is("known without added lines", x.known(1), 80);
        Check.fails("lose an added leaf", ARGUMENT, () -> x.lose(1, 2));
        Check.fails("lose no leaf", ARGUMENT, () -> x.lose(0, 1));
        Check.fails("lose no leaf", ARGUMENT, () -> x.lose(0, -1));
        Check.fails("lose no leaf", ARGUMENT, () -> x.lose(0, Integer.MAX_VALUE));
        Check.fails("lose no leaf", ARGUMENT, () -> x.lose(0, Integer.MIN_VALUE));
        for (int w : new int[] {-1, 3, Integer.MIN_VALUE, Integer.MAX_VALUE}) {
            Check.fails("lose no guild", INDEX, () -> x.lose(w, 0));
            Check.fails("lose no guild, no leaf", INDEX, () -> x.lose(w, 99));
            Check.fails("leaves no guild", INDEX, () -> x.leaves(w));
            Check.fails("known no guild", INDEX, () -> x.known(w));
        }
        x.merge(0, 1);
        is("lose of one over", x.lose(0, 0), true);
        is("known of one over", x.known(0), 0);
        is("leaves of one over", x.leaves(0), 1);
        x.year();
        is("lost over the year", x.lose(0, 0), false);
    }

    /** Promise 33. */
    private static void callIn() {
        Wagonplay x = new Wagonplay();
        x.addGuild(0, 100, 1);
        x.addGuild(0, 40, 1);
        x.addGuild(0, 40, 1);
        is("callIn nothing", x.callIn(), 0);
        x.add(0, 21);
        x.add(1, 2);
        x.add(1, 3);
        x.lose(0, 0);
        x.lose(1, 0);
        x.lose(2, 0);
        x.merge(1, 0);
        is("callIn, over and lost", x.callIn(), 26);
        is("callIn known", x.known(0), 121);
        is("callIn leaves", x.leaves(0), 4);
        is("callIn known of one over", x.known(1), 45);
        is("callIn found", x.known(2), 40);
        is("callIn a", x.of(0, 'a'), 0);
        is("callIn l", x.of(0, 'l'), 121);
        is("callIn again", x.callIn(), 0);
        is("callIn new leaf", x.lose(0, 3), true);
        is("callIn new leaf lost", x.known(0), 120);
    }

    /** Promises 34 and 35. */
    private static void townAndPaid() {
        Wagonplay x = small();
        x.addStation(5, 0, 0);
        is("town at first", x.town(), 0);
        x.bid(0, 0, 999);
        x.bid(1, 9, 7);
        is("paid before the day", x.paid(0), 0);
        x.day();
        is("paid", x.paid(0), 999);
        is("paid by the last", x.paid(9), 7);
        is("paid by none", x.paid(1), 0);
        int fines = x.of(0, 'f') + x.of(1, 'f');
        is("town", x.town(), 1006 + 4 + fines);
        x.year();
        x.bid(1, 9, 3);
        is("paid before the day", x.paid(9), 7);
        x.day();
        is("paid in all years", x.paid(9), 10);
        is("paid once", x.paid(0), 999);
        x.bid(1, 9, 400);
        is("paid behind the day", x.paid(9), 10);
        for (int house : new int[] {-1, 10, Integer.MIN_VALUE, Integer.MAX_VALUE}) {
            Check.fails("paid out of range", ARGUMENT, () -> x.paid(house));
        }
    }

    /** Promise 36. */
    private static void year() {
        Wagonplay x = small();
        x.learn(0, 8);
        x.learn(1, 5);
        x.merge(1, 0);
        x.bid(0, 1, 1);
        is("year 1", x.year(), 1);
        is("year forgets", x.of(0, 'e'), 10);
        is("year forgets of one over, not below 0", x.of(1, 'e'), 0);
        Check.fails("year ends bids", NO_ELEMENT, () -> x.holder(0));
        x.learn(0, 4);
        x.year();
        is("year forgets to 0", x.of(0, 'e'), 0);
        for (int year = 3; year <= 99; year++) {
            is("year", x.year(), year);
        }
        long sum = x.checksum();
        x.learn(0, 20);
        x.bid(0, 1, 1);
        Check.fails("year 100", STATE, x::year);
        is("year 100 forgets nothing", x.of(0, 'e'), 100);
        is("year 100 ends no bids", x.holder(0), 1);
        is("year 100 stays 99", x.checksum() == sum, false);
    }

    /** Promise 37. */
    private static void checksum() {
        Wagonplay x = new Wagonplay();
        is("checksum", x.checksum(), 6727L);
        x.addGuild(100, 60, 3);
        x.learn(0, 2);
        long guild = (((7L * 31 + 100) * 31 + 60) * 31 + 5) * 31 + 10;
        is("checksum of one", x.checksum(), guild * 31 * 31);
        x.add(0, 7);
        x.mend(0, 2);
        x.year();
        long then = (((7L * 31 + 96) * 31 + 67) * 31 + 7) * 31;
        is("checksum of one then", x.checksum(), (then * 31 + 4) * 31 + 1);
        x.addGuild(1, 20, 1);
        x.put(1, 0);
        x.merge(0, 1);
        then = (((7L * 31) * 31 + 67) * 31 + 7) * 31;
        then = (((then * 31 + 97) * 31 + 20) * 31 + 5) * 31;
        is("checksum of two, by numbers", x.checksum(), (then * 31 + 4) * 31 + 1);
        for (int i = 2; i < 8; i++) {
            x.addGuild(9999, 400, 1);
            then = (((then * 31 + 9999) * 31 + 400) * 31 + 5) * 31;
        }
        is("checksum of eight", x.checksum(), (then * 31 + 4) * 31 + 1);
    }

    /** Promise 38. */
    private static void wholeShare() {
        Wagonplay x = small();
        Check.fails("share, no day", STATE, x::wholeShare);
        x.day();
        is("share of all", x.wholeShare(), 1f);
        x.year();
        Check.fails("share in the new year", STATE, x::wholeShare);
        type(x, "creation");
        x.strike(true);
        x.day();
        Check.fails("share of none", ARITHMETIC, x::wholeShare);
        Wagonplay z = new Wagonplay();
        z.addGuild(0, 20, 1);
        z.addStation(5, 0, 0);
        z.day();
        is("share of one", z.wholeShare(), 1f);
        Wagonplay y = new Wagonplay();
        for (int i = 0; i < 7; i++) {
            y.addGuild(0, 400, 8);
            y.add(i, 99);
            y.add(i, 99);
        }
        for (int s = 0; s < 6; s++) {
            y.addStation(20, 9, 9);
        }
        y.merge(6, 0);
        int whole = y.day();
        is("share of some", whole > 0 && whole < 36, true);
        is("share of some", y.wholeShare(), (float) whole / (float) 36);
    }

    /** Promise 39. */
    private static void meanWealth() {
        Wagonplay x = new Wagonplay();
        Check.fails("mean of none", ARITHMETIC, x::meanWealth);
        x.addGuild(5, 20, 1);
        is("mean of one", x.meanWealth(), 5.0);
        x.addGuild(0, 20, 1);
        is("mean of two", x.meanWealth(), 2.5);
        x.addGuild(0, 20, 1);
        is("mean of three", x.meanWealth(), 5.0 / 3.0);
        x.merge(1, 2);
        is("mean without one over", x.meanWealth(), 2.5);
        x.mend(0, 4);
        x.mend(2, 4);
        is("mean below 0", x.meanWealth(), -5.5);
        type(x, "creation");
        x.strike(true);
        is("mean of guilds left out", x.meanWealth(), -5.5);
    }

    /** Promise 40. */
    private static void isSound() {
        Wagonplay x = fourGuilds(5);
        for (int year = 0; year < 8; year++) {
            is("sound", x.isSound(), true);
            x.bid(0, year, 10 + year);
            x.setScribe(0, true);
            x.add(year % 4, 9);
            x.put(year % 4, 0);
            x.day();
            is("sound behind the day", x.isSound(), true);
            x.mend(0, 1);
            x.cast(0, 0, 7);
            x.cast(1, 0, 7);
            x.cast(2, 0, 7);
            x.put(0, 3);
            is("sound then", x.isSound(), true);
            x.arrange();
            is("sound arranged", x.isSound(), true);
            x.year();
        }
        x.merge(0, 1);
        is("sound merged", x.isSound(), true);
    }
}
