import java.util.NoSuchElementException;

/** What the tests of sentences share: the sentence that is tested just now, and how it is held against the class. */
abstract class Sentences {
    static final Class<IndexOutOfBoundsException> INDEX = IndexOutOfBoundsException.class;
    static final Class<IllegalArgumentException> ARGUMENT = IllegalArgumentException.class;
    static final Class<IllegalStateException> STATE = IllegalStateException.class;
    static final Class<UnsupportedOperationException> UNSUPPORTED = UnsupportedOperationException.class;
    static final Class<NoSuchElementException> NO_ELEMENT = NoSuchElementException.class;
    static final Class<ArithmeticException> ARITHMETIC = ArithmeticException.class;

    static final int FAR_BELOW = Integer.MIN_VALUE;
    static final int FAR_ABOVE = Integer.MAX_VALUE;

    interface Made {
        Wagonplay town();
    }

    interface Asked {
        Object answer(Wagonplay x);
    }

    interface AskedWith {
        Object answer(Wagonplay x, int number);
    }

    private final Document document;
    private String section = "";
    private String words = "";

    Sentences(Document document) {
        this.document = document;
    }

    final void in(String nextSection) {
        section = nextSection;
    }

    /** The sentence of the section that holds these words is tested from here on. */
    final void says(String nextWords) {
        words = nextWords;
        document.tell(section, words);
    }

    final void is(Object got, Object want) {
        Check.due(section + ", " + words, got, want);
    }

    final void fails(Class<? extends RuntimeException> kind, Check.Call call) {
        Check.fails(section + ", " + words, kind, call);
    }

    /** The call is refused by that very exception, and nothing can be asked then that tells of it. */
    final void refuses(Class<? extends RuntimeException> kind, Made made, Asked asked) {
        Wagonplay x = made.town();
        fails(kind, () -> asked.answer(x));
        is(Probe.of(x), Probe.of(made.town()));
    }

    final void refusesAll(Class<? extends RuntimeException> kind, Made made, AskedWith asked, int... numbers) {
        for (int number : numbers) {
            refuses(kind, made, x -> asked.answer(x, number));
        }
    }

    /** Below the least and above the most the call is refused, at both it is not. */
    final void isRange(int least, int most, Made made, AskedWith asked) {
        refusesAll(ARGUMENT, made, asked, least - 1, most + 1, FAR_BELOW, FAR_ABOVE);
        for (int number : new int[] {least, most}) {
            isTaken(made, asked, number);
        }
    }

    /** Numbers from 0 are taken, below the count; others are refused. */
    final void isIndex(int count, Made made, AskedWith asked) {
        refusesAll(INDEX, made, asked, -1, count, FAR_BELOW, FAR_ABOVE);
        for (int number : new int[] {0, count - 1}) {
            isTaken(made, asked, number);
        }
    }

    /** All signs but these are refused, and nothing changes by that. */
    final void isOneOf(String signs, Made made, AskedWith asked) {
        for (int first = 0; first <= Character.MAX_VALUE; first += 256) {
            Wagonplay x = made.town();
            for (int sign = first; sign < first + 256; sign++) {
                int now = sign;
                if (signs.indexOf((char) sign) < 0) {
                    fails(ARGUMENT, () -> asked.answer(x, now));
                }
            }
            is(x.checksum(), made.town().checksum());
        }
        refuses(ARGUMENT, made, x -> asked.answer(x, 'A'));
        for (char sign : signs.toCharArray()) {
            isTaken(made, asked, sign);
        }
    }

    private void isTaken(Made made, AskedWith asked, int number) {
        String answer = Probe.answer(() -> asked.answer(made.town(), number));
        is(answer.startsWith("java") ? answer + " at " + number : "answered", "answered");
    }

    static void type(Wagonplay x, String word) {
        x.wipe();
        for (int i = 0; i < word.length(); i++) {
            x.type(word.charAt(i));
        }
    }

    static Wagonplay guilds(int count) {
        Wagonplay x = new Wagonplay();
        for (int i = 0; i < count; i++) {
            x.addGuild(0, 20, 1);
        }
        return x;
    }

    /** Guilds of 3 minutes for a play, one part and a player each of its own, and stations at 5 minutes. */
    static Wagonplay town(int guilds, int stations) {
        Wagonplay x = guilds(guilds);
        for (int i = 0; i < guilds; i++) {
            x.learn(i, 20);
            x.cast(i, 0, i);
        }
        for (int i = 0; i < stations; i++) {
            x.addStation(5, 0, 0);
        }
        return x;
    }

    static void addLines(Wagonplay x, int guild, int lines) {
        for (int left = lines; left > 0; left -= 99) {
            x.add(guild, Math.min(left, 99));
        }
    }

    /** 4 guilds, of which 2 is over and 3 is struck out, and 3 stations; all that can be told is told. */
    static Wagonplay ready() {
        Wagonplay x = new Wagonplay();
        x.addGuild(100, 130, 3);
        x.addGuild(50, 85, 2);
        x.addGuild(7, 20, 1);
        x.addGuild(9, 45, 8);
        x.addStation(5, 9, 4);
        x.addStation(7, 3, 8);
        x.addStation(2, 0, 0);
        x.learn(0, 9);
        x.learn(2, 20);
        x.cast(0, 0, 5);
        x.cast(0, 2, 5);
        x.cast(1, 1, 5);
        x.cast(3, 7, 0);
        x.wagon(0, 4, 2);
        x.wagon(1, 5, 7);
        x.mend(1, 1);
        x.setTorches(1, true);
        x.setScribe(2, true);
        x.bid(0, 4, 40);
        x.bid(1, 9, 7);
        x.rain(4, true);
        x.rain(6, true);
        x.add(0, 20);
        x.add(1, 3);
        x.lose(0, 1);
        x.lose(1, 0);
        x.lose(2, 0);
        x.put(3, 0);
        type(x, "doom");
        x.subject(3);
        x.strike(true);
        x.merge(2, 0);
        return x;
    }

    /** The same behind the day, with bids, lines and losses of then. */
    static Wagonplay busy() {
        Wagonplay x = ready();
        x.day();
        x.bid(2, 1, 5);
        x.add(0, 9);
        x.lose(0, 0);
        return x;
    }
}
