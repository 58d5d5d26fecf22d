/** If several conditions of a method apply, the exception that is listed first is thrown; nothing changes. */
final class RefusalBoundaries extends Sentences {
    private static final int NOBODY = 9;
    private static final int OVER = 2;

    RefusalBoundaries(Document document) {
        super(document);
    }

    void run() {
        in("Terms");
        changesNothing();
        says("If several conditions of a method apply, the exception that is listed first is thrown");
        fullAndWrong();
        noGuildAndMore();
        noStationAndMore();
        wrongAndOver();
        noDayAndMore();
        noStationsAndMore();
    }

    /** That a refused call changes nothing is asked at each refusal of the calls; here at the edges of what fits. */
    private void changesNothing() {
        says("A method that throws an exception changes nothing");
        refuses(STATE, () -> town(8, 6), x -> x.addGuild(9999, 20, 1));
        refuses(UNSUPPORTED, Sentences::busy, x -> x.mend(1, 9));
        refuses(UNSUPPORTED, Sentences::busy, x -> x.merge(0, OVER));
        refuses(UNSUPPORTED, Sentences::busy, x -> x.add(OVER, 99));
        refuses(ARGUMENT, Sentences::busy, x -> x.wagon(0, 9, 10));
        refuses(ARGUMENT, Sentences::busy, x -> x.bid(0, 9, 1000));
        refuses(ARGUMENT, Sentences::busy, x -> x.put(0, 4));
        refuses(ARGUMENT, Sentences::busy, x -> x.lose(0, 4));
        refuses(STATE, Sentences::busy, Wagonplay::day);
        Wagonplay x = busy();
        for (int i = 0; i < 50; i++) {
            fails(STATE, x::day);
            fails(INDEX, () -> x.subject(NOBODY));
            fails(UNSUPPORTED, () -> x.subject(OVER));
        }
        is(Probe.of(x), Probe.of(busy()));
    }

    private void fullAndWrong() {
        refuses(ARGUMENT, () -> town(8, 1), x -> x.addGuild(-1, 20, 1));
        refuses(ARGUMENT, () -> town(8, 1), x -> x.addGuild(0, 401, 1));
        refuses(ARGUMENT, () -> town(8, 1), x -> x.addGuild(0, 20, 9));
        refuses(ARGUMENT, () -> town(1, 6), x -> x.addStation(0, 0, 0));
        refuses(ARGUMENT, () -> town(1, 6), x -> x.addStation(1, 10, 0));
        refuses(ARGUMENT, () -> town(1, 6), x -> x.addStation(1, 0, -1));
        refuses(ARGUMENT, RefusalBoundaries::tenLetters, x -> x.type('A'));
    }

    private static Wagonplay tenLetters() {
        Wagonplay x = town(1, 1);
        type(x, "aaaaaaaaaa");
        return x;
    }

    private void noGuildAndMore() {
        Made made = Sentences::ready;
        refuses(INDEX, made, x -> x.merge(NOBODY, NOBODY));
        refuses(INDEX, made, x -> x.merge(OVER, NOBODY));
        refuses(INDEX, made, x -> x.merge(NOBODY, OVER));
        refuses(INDEX, made, x -> x.of(NOBODY, 'q'));
        refuses(INDEX, RefusalBoundaries::tenLetters, x -> x.subject(NOBODY));
        refuses(INDEX, made, x -> x.learn(NOBODY, 0));
        refuses(INDEX, made, x -> x.cast(NOBODY, 0, 20));
        refuses(INDEX, made, x -> x.cast(0, 3, 20));
        refuses(INDEX, made, x -> x.wagon(NOBODY, 0, 0));
        refuses(INDEX, made, x -> x.wagon(NOBODY, 1, 10));
        refuses(INDEX, made, x -> x.mend(NOBODY, 10));
        refuses(INDEX, made, x -> x.put(NOBODY, NOBODY));
        refuses(INDEX, made, x -> x.add(NOBODY, 100));
        refuses(INDEX, made, x -> x.lose(NOBODY, -1));
    }

    private void noStationAndMore() {
        Made made = Sentences::ready;
        refuses(INDEX, made, x -> x.bid(NOBODY, 10, 1));
        refuses(INDEX, made, x -> x.bid(NOBODY, 0, 0));
        refuses(INDEX, made, x -> x.holder(NOBODY));
        refuses(INDEX, made, x -> x.at(NOBODY, 0, 'q'));
        refuses(INDEX, made, x -> x.at(0, NOBODY, 'q'));
        refuses(INDEX, made, x -> x.at(NOBODY, 0, 'a'));
        refuses(INDEX, made, x -> x.at(0, NOBODY, 'a'));
        refuses(INDEX, Sentences::busy, x -> x.at(OVER, NOBODY, 'a'));
        refuses(INDEX, made, x -> x.how(NOBODY, 0));
        refuses(INDEX, made, x -> x.how(0, NOBODY));
        refuses(INDEX, Sentences::busy, x -> x.how(OVER, NOBODY));
    }

    private void wrongAndOver() {
        Made made = Sentences::ready;
        refuses(ARGUMENT, made, x -> x.merge(OVER, OVER));
        refuses(ARGUMENT, made, x -> x.learn(OVER, 0));
        refuses(ARGUMENT, made, x -> x.learn(OVER, 31));
        refuses(ARGUMENT, made, x -> x.mend(OVER, 0));
        refuses(ARGUMENT, made, x -> x.mend(OVER, 10));
        refuses(ARGUMENT, made, x -> x.mend(0, 10));
        refuses(ARGUMENT, made, x -> x.add(OVER, 0));
        refuses(ARGUMENT, made, x -> x.add(OVER, 100));
        refuses(ARGUMENT, RefusalBoundaries::fullPlay, x -> x.add(0, 100));
        refuses(UNSUPPORTED, RefusalBoundaries::letterLessAndOver, x -> x.subject(1));
    }

    private static Wagonplay fullPlay() {
        Wagonplay x = town(1, 1);
        addLines(x, 0, 580);
        return x;
    }

    private static Wagonplay letterLessAndOver() {
        Wagonplay x = town(2, 1);
        x.merge(1, 0);
        return x;
    }

    private void noDayAndMore() {
        Made made = Sentences::ready;
        refuses(ARGUMENT, made, x -> x.at(0, 0, 'q'));
        refuses(ARGUMENT, made, x -> x.at(OVER, 0, 'q'));
        refuses(ARGUMENT, Sentences::busy, x -> x.at(OVER, 0, 'q'));
        refuses(STATE, made, x -> x.at(OVER, 0, 'a'));
        refuses(STATE, made, x -> x.how(OVER, 0));
        refuses(STATE, Wagonplay::new, Wagonplay::wholeShare);
        refuses(STATE, () -> town(0, 1), Wagonplay::wholeShare);
    }

    private void noStationsAndMore() {
        refuses(STATE, () -> guilds(5), Wagonplay::soonest);
        refuses(STATE, () -> guilds(5), Wagonplay::arrange);
        refuses(STATE, () -> guilds(8), Wagonplay::soonest);
        refuses(STATE, () -> guilds(8), Wagonplay::arrange);
    }
}
