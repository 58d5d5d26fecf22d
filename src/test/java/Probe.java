/** Asks a town all that can be asked, so that two towns can be told apart; the town is changed by it. */
final class Probe {
    private static final String[] WORDS = {"creation", "flood", "birth", "passion", "doom"};

    private final Wagonplay x;
    private final StringBuilder seen = new StringBuilder();
    private int calls = 0;
    private int guilds = 0;
    private int stations = 0;

    private Probe(Wagonplay x) {
        this.x = x;
    }

    static String of(Wagonplay x) {
        Probe probe = new Probe(x);
        probe.askOfAll();
        probe.askGuilds();
        probe.askStations();
        probe.askPlays();
        probe.askLetters();
        probe.askBooks();
        probe.askNextDay();
        probe.askCasts();
        if (probe.calls > 400) {
            throw new IllegalStateException("too many calls for one object: " + probe.calls);
        }
        return probe.seen.toString();
    }

    static String answer(Check.Call call) {
        try {
            return String.valueOf(call.answer());
        } catch (RuntimeException e) {
            return e.getClass().getName();
        }
    }

    private String ask(String name, Check.Call call) {
        String answer = answer(call);
        seen.append(name).append('=').append(answer).append(' ');
        calls++;
        return answer;
    }

    private static boolean isRefused(String answer) {
        return answer.startsWith("java");
    }

    private void askOfAll() {
        ask("checksum", x::checksum);
        ask("town", x::town);
        ask("mean", x::meanWealth);
        ask("sound", x::isSound);
        ask("end", x::end);
        ask("share", x::wholeShare);
        ask("foresee", x::foresee);
        ask("soonest", x::soonest);
        for (int i = 0; i < 10; i++) {
            int house = i;
            ask("paid", () -> x.paid(house));
        }
        for (int i = 0; i < 24; i++) {
            int hour = i;
            boolean did = ask("rain", () -> x.rain(hour, false)).equals("true");
            x.rain(hour, did);
        }
    }

    private void askGuilds() {
        while (guilds < 8 && !isRefused(ask("over", () -> x.isOver(guilds)))) {
            for (char what : "mlpewfa".toCharArray()) {
                ask("of " + what, () -> x.of(guilds, what));
            }
            ask("place", () -> x.place(guilds));
            ask("leaves", () -> x.leaves(guilds));
            ask("known", () -> x.known(guilds));
            guilds++;
        }
    }

    private void askStations() {
        while (stations < 6 && !isRefused(ask("torches", () -> x.setTorches(stations, true)))) {
            if (seen.toString().endsWith("torches=false ")) {
                x.setTorches(stations, false);
            }
            ask("scribe", () -> x.setScribe(stations, true));
            ask("holder", () -> x.holder(stations));
            stations++;
        }
    }

    private void askPlays() {
        for (int i = 0; i < guilds; i++) {
            for (int k = 0; k < stations; k++) {
                int guild = i;
                int station = k;
                if (isRefused(ask("how", () -> x.how(guild, station)))) {
                    break;
                }
                for (char what : "bel".toCharArray()) {
                    ask("at " + what, () -> x.at(guild, station, what));
                }
            }
        }
    }

    private void askLetters() {
        ask("typed", () -> x.strike(false));
        ask("type", () -> x.type('m'));
        ask("typed", () -> x.strike(false));
        ask("wipe", x::wipe);
        for (String word : WORDS) {
            Sentences.type(x, word);
            ask("struck " + word, () -> x.strike(false));
        }
        for (int i = 0; i < guilds; i++) {
            int guild = i;
            ask("subject", () -> x.subject(guild));
        }
    }

    private void askBooks() {
        for (int i = 0; i < guilds; i++) {
            int guild = i;
            for (int k = 0; k < 3; k++) {
                int leaf = k;
                ask("lose", () -> x.lose(guild, leaf));
            }
        }
    }

    /** The highest bids, heights, hands and players are seen by the next day alone. */
    private void askNextDay() {
        ask("day", x::day);
        ask("year", x::year);
        ask("day", x::day);
        for (int i = 0; i < 10; i++) {
            int house = i;
            ask("paid", () -> x.paid(house));
        }
        for (int i = 0; i < guilds; i++) {
            int guild = i;
            ask("at a", () -> x.at(guild, 0, 'a'));
            ask("at e", () -> x.at(guild, stations - 1, 'e'));
        }
    }

    private void askCasts() {
        for (int i = 0; i < guilds; i++) {
            int guild = i;
            for (int k = 0; k < 8; k++) {
                int part = k;
                if (isRefused(ask("cast", () -> x.cast(guild, part, -1)))) {
                    break;
                }
            }
            ask("wagon", () -> x.wagon(guild, 1, 1));
        }
    }
}
