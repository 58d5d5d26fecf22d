/** Long days, the same in every test run, that go on into the dark and behind midnight, held against the slow model. */
public final class NightTest {
    private static final int TOWNS = 2000;

    private final Wagonplay x = new Wagonplay();
    private final Model m = new Model();
    private final String name;
    private long seed;
    private int guilds;
    private int stations;

    private NightTest(int number) {
        name = "town " + number + ": ";
        seed = number * 104729L + 31;
    }

    public static void main(String[] args) {
        for (int number = 0; number < TOWNS; number++) {
            NightTest test = new NightTest(number);
            test.addGuilds();
            test.addStations();
            test.castPlayers();
            test.addRain();
            test.wearBook();
            test.playDay();
            test.askDay();
            test.askMoneyAndBook();
        }
        Check.finish("NightTest");
    }

    private int from(int least, int most) {
        seed = seed * 6364136223846793005L + 1442695040888963407L;
        return least + (int) ((seed >>> 33) % (most - least + 1));
    }

    /** The chance is of ten. */
    private boolean comes(int chance) {
        return from(1, 10) <= chance;
    }

    private void both(String what, Object answer, Object due) {
        Check.due(name + what, answer, due);
    }

    private void addGuilds() {
        guilds = from(4, 8);
        for (int g = 0; g < guilds; g++) {
            int lines = comes(6) ? from(300, 400) : from(20, 400);
            int parts = from(1, 8);
            both("addGuild", x.addGuild(g, lines, parts), m.addGuild(g, lines, parts));
            int height = from(3, 9);
            int hands = from(0, 4);
            both("wagon", x.wagon(g, height, hands), m.wagon(g, height, hands));
            int days = from(1, 20);
            if (comes(3)) {
                both("learn", x.learn(g, days), m.learn(g, days));
            }
        }
        int last = from(0, guilds - 1);
        both("put", x.put(last, 0), m.put(last, 0));
    }

    private void addStations() {
        stations = from(3, 6);
        for (int s = 0; s < stations; s++) {
            int minutes = from(1, 20);
            int hill = from(0, 9);
            int corner = from(0, 9);
            both("addStation", x.addStation(minutes, hill, corner), m.addStation(minutes, hill, corner));
            boolean torches = comes(5);
            both("setTorches", x.setTorches(s, torches), m.setTorches(s, torches));
            boolean scribe = comes(5);
            both("setScribe", x.setScribe(s, scribe), m.setScribe(s, scribe));
        }
    }

    /** The fewer players there are, the more plays wait for theirs. */
    private void castPlayers() {
        int players = from(1, 20);
        for (int g = 0; g < guilds; g++) {
            for (int part = 0; part < m.of(g, 'p'); part++) {
                int player = comes(2) ? -1 : from(0, players - 1);
                both("cast", x.cast(g, part, player), m.cast(g, part, player));
            }
        }
    }

    private void addRain() {
        int chance = from(0, 9);
        for (int hour = 0; hour < 24; hour++) {
            if (comes(chance)) {
                both("rain", x.rain(hour, true), m.rain(hour, true));
            }
        }
    }

    private void wearBook() {
        for (int g = 0; g < guilds; g++) {
            int lines = from(1, 99);
            if (comes(5)) {
                both("add", x.add(g, lines), m.add(g, lines));
            }
            for (int times = from(0, 2); times > 0; times--) {
                int leaf = from(0, m.leaves(g) - 1);
                both("lose", x.lose(g, leaf), m.lose(g, leaf));
            }
        }
    }

    private void playDay() {
        both("foresee", x.foresee(), m.foresee());
        if (guilds <= 4) {
            both("soonest", x.soonest(), m.soonest());
            if (comes(5)) {
                both("arrange", x.arrange(), m.arrange());
            }
        }
        both("day", x.day(), m.day());
        both("end", x.end(), m.end());
        both("wholeShare", x.wholeShare(), m.wholeShare());
    }

    private void askDay() {
        for (int g = 0; g < guilds; g++) {
            for (int s = 0; s < stations; s++) {
                for (char what : "abelg".toCharArray()) {
                    both("at " + g + " " + s + " " + what, x.at(g, s, what), m.at(g, s, what));
                }
                both("how " + g + " " + s, x.how(g, s), m.how(g, s));
            }
        }
    }

    private void askMoneyAndBook() {
        for (int g = 0; g < guilds; g++) {
            both("wealth", x.of(g, 'm'), m.of(g, 'm'));
            both("fines", x.of(g, 'f'), m.of(g, 'f'));
            both("not in the book", x.of(g, 'a'), m.of(g, 'a'));
            both("known", x.known(g), m.known(g));
        }
        both("checksum", x.checksum(), m.checksum());
        both("isSound", x.isSound(), true);
    }
}
