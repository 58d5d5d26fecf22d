/** Long runs of calls, the same in every test run, answered by the class as by the slow model. */
public final class ModelTest {
    private static final int RUNS = 2000;
    private static final int CALLS = 512;
    private static final String[] WORDS = {"creation", "flood", "birth", "passion", "doom", "floo", "doomed"};

    private final Wagonplay x = new Wagonplay();
    private final Model m = new Model();
    private final int lateness;
    private long seed;
    private int spelling = 0;
    private String word = "";

    private ModelTest(int run) {
        seed = run * 7919L + 17;
        lateness = run % 4;
    }

    public static void main(String[] args) {
        for (int run = 0; run < RUNS; run++) {
            new ModelTest(run).play(run);
        }
        Check.finish("ModelTest");
    }

    private int up(int bound) {
        seed = seed * 6364136223846793005L + 1442695040888963407L;
        return (int) ((seed >>> 33) % bound);
    }

    /** Mostly within the bounds, seldom at the edges or far outside. */
    private int number(int least, int most) {
        switch (up(40)) {
            case 0: return least - 1;
            case 1: return most + 1;
            case 2: return least;
            case 3: return most;
            case 4: return up(4) == 0 ? Integer.MIN_VALUE : least;
            case 5: return up(4) == 0 ? Integer.MAX_VALUE : most;
            default: return least + up(most - least + 1);
        }
    }

    private void play(int run) {
        for (int call = 0; call < CALLS; call++) {
            int kind = kindOf(call);
            int a = firstOf(kind);
            int b = secondOf(kind);
            int c = thirdOf(kind);
            String name = "run " + run + ", call " + call + ", kind " + kind + " of " + a + " " + b + " " + c;
            Check.due(name, answer(kind, a, b, c), due(kind, a, b, c));
        }
    }

    /** The town is built first; the letters of a word are typed one behind the other. */
    private int kindOf(int call) {
        if (call < 20 + 10 * lateness && up(2) == 0) {
            return up(3) == 0 ? 13 : up(3) == 0 ? 10 : 1;
        }
        if (call == 60 && lateness > 1) {
            return 13;
        }
        if (spelling < word.length()) {
            return 5;
        }
        int kind = up(56);
        if (kind == 5 || kind == 40) {
            word = WORDS[up(WORDS.length)];
            spelling = 0;
            return 6;
        }
        if (kind == 2 && up(6) != 0) {
            return 22;
        }
        if (kind == 35 && up(3) != 0) {
            return 23;
        }
        return kind > 40 ? new int[] {22, 23, 23, 10, 10, 21, 21, 26, 24, 22, 29, 28, 18, 8, 11}[kind - 41] : kind;
    }

    private int firstOf(int kind) {
        switch (kind) {
            case 1: return number(0, 9999);
            case 5: return up(60) == 0 ? number('a', 'z') : word.charAt(spelling++);
            case 13: return number(1, 20);
            case 14: case 15: case 16: case 17: return number(0, 5);
            case 20: return number(0, 23);
            case 34: return number(0, 9);
            default: return number(0, up(5) == 0 ? 7 : 3);
        }
    }

    private int secondOf(int kind) {
        switch (kind) {
            case 1: return number(20, 400);
            case 4: return up(9) == 0 ? number(0, 65535) : "mlpewfa".charAt(up(7));
            case 9: return number(1, 30);
            case 11: case 12: return number(1, up(3) == 0 ? 9 : 4);
            case 13: case 16: return number(0, 9);
            case 21: return number(1, 99);
            case 23: case 24: return number(0, 5);
            case 29: return number(0, 9);
            default: return number(0, 7);
        }
    }

    private int thirdOf(int kind) {
        switch (kind) {
            case 1: return number(1, 8);
            case 10: return number(-1, 2 + up(18));
            case 11: case 13: return number(0, 9);
            case 16: return number(1, up(2) == 0 ? 999 : 9);
            case 23: return up(9) == 0 ? number(0, 65535) : "abelg".charAt(up(5));
            default: return up(4);
        }
    }

    private Object answer(int kind, int a, int b, int c) {
        try {
            switch (kind) {
                case 1: return x.addGuild(a, b, c);
                case 2: return x.merge(a, b);
                case 3: return x.isOver(a);
                case 4: return x.of(a, (char) b);
                case 5: return x.type((char) a);
                case 6: return x.wipe();
                case 7: return x.subject(a);
                case 8: return x.strike(c == 0);
                case 9: return x.learn(a, b);
                case 10: return x.cast(a, b, c);
                case 11: return x.wagon(a, b, c);
                case 12: return x.mend(a, b);
                case 13: return x.addStation(a, b, c);
                case 14: return x.setTorches(a, c == 0);
                case 15: return x.setScribe(a, c < 2);
                case 16: return x.bid(a, b, c);
                case 17: return x.holder(a);
                case 18: return x.put(a, b);
                case 19: return x.place(a);
                case 20: return x.rain(a, c == 0);
                case 21: return x.add(a, b);
                default: return answerMore(kind, a, b, c);
            }
        } catch (RuntimeException e) {
            return e.getClass();
        }
    }

    private Object answerMore(int kind, int a, int b, int c) {
        switch (kind) {
            case 22: return x.day();
            case 23: return x.at(a, b, (char) c);
            case 24: return x.how(a, b);
            case 25: return x.end();
            case 26: return x.foresee();
            case 27: return x.soonest();
            case 28: return x.arrange();
            case 29: return x.lose(a, b);
            case 30: return x.leaves(a);
            case 31: return x.known(a);
            case 32: return x.callIn();
            case 33: return x.town();
            case 34: return x.paid(a);
            case 35: return x.year();
            case 36: return x.checksum();
            case 37: return x.wholeShare();
            case 38: return x.meanWealth();
            default: return x.isSound();
        }
    }

    private Object due(int kind, int a, int b, int c) {
        try {
            switch (kind) {
                case 1: return m.addGuild(a, b, c);
                case 2: return m.merge(a, b);
                case 3: return m.isOver(a);
                case 4: return m.of(a, (char) b);
                case 5: return m.type((char) a);
                case 6: return m.wipe();
                case 7: return m.subject(a);
                case 8: return m.strike(c == 0);
                case 9: return m.learn(a, b);
                case 10: return m.cast(a, b, c);
                case 11: return m.wagon(a, b, c);
                case 12: return m.mend(a, b);
                case 13: return m.addStation(a, b, c);
                case 14: return m.setTorches(a, c == 0);
                case 15: return m.setScribe(a, c < 2);
                case 16: return m.bid(a, b, c);
                case 17: return m.holder(a);
                case 18: return m.put(a, b);
                case 19: return m.place(a);
                case 20: return m.rain(a, c == 0);
                case 21: return m.add(a, b);
                default: return dueMore(kind, a, b, c);
            }
        } catch (RuntimeException e) {
            return e.getClass();
        }
    }

    private Object dueMore(int kind, int a, int b, int c) {
        switch (kind) {
            case 22: return m.day();
            case 23: return m.at(a, b, (char) c);
            case 24: return m.how(a, b);
            case 25: return m.end();
            case 26: return m.foresee();
            case 27: return m.soonest();
            case 28: return m.arrange();
            case 29: return m.lose(a, b);
            case 30: return m.leaves(a);
            case 31: return m.known(a);
            case 32: return m.callIn();
            case 33: return m.town();
            case 34: return m.paid(a);
            case 35: return m.year();
            case 36: return m.checksum();
            case 37: return m.wholeShare();
            case 38: return m.meanWealth();
            default: return m.isSound();
        }
    }
}
