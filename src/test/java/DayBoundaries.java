/** The boundaries that the document's terms name of the day: ways, lengths, waiting, the dark, rain, and what is heard. */
final class DayBoundaries extends Sentences {
    DayBoundaries(Document document) {
        super(document);
    }

    void run() {
        in("Terms");
        start();
        ways();
        waysInRain();
        nextStation();
        lengths();
        lengthsInRain();
        behindTheOneAhead();
        behindOneNotPlayed();
        touchingPlays();
        playsWithin();
        whoseAreAhead();
        allStations();
        theLastToEnd();
        allIsAskedAnew();
        cutByTheDark();
        noMinutesInTheDark();
        darkForGood();
        notPlayed();
        cut();
        whole();
        rainAsTold();
        rainBehindMidnight();
        rainOfAllDays();
        heardButCut();
        finesInTheDark();
    }

    private void start() {
        says("All wagons set out for the station 0 at 270");
        Wagonplay x = town(8, 0);
        x.addStation(1, 0, 0);
        x.day();
        for (int i = 0; i < 8; i++) {
            is(x.at(i, 0, 'a'), 271);
        }
    }

    private void ways() {
        says("The way to a station takes its minutes");
        // Hill and height against the hands: fewer, as many, one more, all.
        is(TermsBoundaries.comesAt(0, 0, 1, 9), 275);
        is(TermsBoundaries.comesAt(2, 0, 4, 7), 275);
        is(TermsBoundaries.comesAt(2, 0, 4, 6), 275);
        is(TermsBoundaries.comesAt(2, 0, 4, 5), 276);
        is(TermsBoundaries.comesAt(9, 0, 9, 0), 275 + 18);
        // Corner and height: 10, 11, 18.
        is(TermsBoundaries.comesAt(0, 1, 9, 9), 275);
        is(TermsBoundaries.comesAt(0, 2, 9, 9), 280);
        is(TermsBoundaries.comesAt(0, 9, 1, 9), 275);
        is(TermsBoundaries.comesAt(0, 9, 2, 9), 280);
        is(TermsBoundaries.comesAt(0, 9, 9, 9), 280);
        // Wheels: one left, none left.
        Wagonplay x = town(1, 1);
        for (int year = 0; year < 4; year++) {
            x.day();
            x.year();
        }
        is(x.of(0, 'w'), 1);
        x.day();
        is(x.at(0, 0, 'a'), 275);
        x.year();
        is(x.of(0, 'w'), 0);
        x.day();
        is(x.at(0, 0, 'a'), 285);
        x.year();
        x.mend(0, 1);
        x.day();
        is(x.at(0, 0, 'a'), 275);
    }

    /** Guild 0 sets out for station 1 at this minute, which lies in the hours 4 to 5; its play takes 10. */
    private static Wagonplay setsOutAt(int minute) {
        Wagonplay x = new Wagonplay();
        x.addGuild(0, 90, 1);
        x.learn(0, 20);
        x.cast(0, 0, 0);
        x.addStation(minute - 280, 0, 0);
        x.addStation(5, 0, 0);
        return x;
    }

    private void waysInRain() {
        says("The way to a station takes its minutes");
        for (int minute = 298; minute <= 300; minute++) {
            Wagonplay x = setsOutAt(minute);
            x.rain(5, true);
            x.day();
            is(x.at(0, 0, 'e'), minute);
            is(x.at(0, 1, 'a'), minute + (minute == 300 ? 7 : 5));
        }
        Wagonplay x = town(1, 1);
        x.rain(3, true);
        x.rain(5, true);
        is(x.foresee(), 278);
        x.rain(4, true);
        is(x.foresee(), 278 + 2 + 5);
    }

    private void nextStation() {
        says("A wagon sets out for the next station as its play ends at one");
        Wagonplay x = town(1, 6);
        x.day();
        for (int i = 1; i < 6; i++) {
            is(x.at(0, i, 'a'), x.at(0, i - 1, 'e') + 5);
        }
        // From a play that was cut it sets out at 1260, from one not played as it would have begun.
        Wagonplay y = late(1288);
        y.day();
        is(y.how(1, 4), 'c');
        is(y.at(1, 5, 'a'), 1260 + 20);
        Wagonplay z = late(1270);
        z.addGuild(0, 400, 1);
        z.day();
        is(z.how(2, 4), 'd');
        is(z.at(2, 4, 'b') > 1260, true);
        is(z.at(2, 5, 'a'), z.at(2, 4, 'b') + 11);
    }

    private static int minutesOf(int lines, int days, int... players) {
        Wagonplay x = new Wagonplay();
        x.addGuild(0, lines, players.length);
        if (days > 0) {
            x.learn(0, days);
        }
        for (int i = 0; i < players.length; i++) {
            x.cast(0, i, players[i]);
        }
        x.addStation(5, 0, 0);
        return x.foresee() - 275;
    }

    private void lengths() {
        says("A play takes a tenth of its lines, cut, and 1, a twentieth, cut");
        is(minutesOf(20, 20, 0), 3);
        is(minutesOf(29, 20, 0), 3);
        is(minutesOf(30, 20, 0), 4);
        is(minutesOf(399, 20, 0), 40);
        is(minutesOf(400, 20, 0), 41);
        is(minutesOf(20, 17, 0), 3);
        is(minutesOf(20, 16, 0), 4);
        is(minutesOf(20, 13, 0), 4);
        is(minutesOf(20, 12, 0), 5);
        is(minutesOf(20, 1, 0), 7);
        is(minutesOf(20, 0, 0), 8);
        is(minutesOf(20, 20, -1), 5);
        is(minutesOf(20, 20, -1, -1, -1, -1, -1, -1, -1, -1), 3 + 16);
        is(minutesOf(20, 20, 0, 0), 4);
        is(minutesOf(20, 20, 19, 1, 19), 4);
        is(minutesOf(20, 20, 0, 0, 0, 0, 0, 0, 0, 0), 10);
        is(minutesOf(20, 20, 0, 1, 2, 3, 4, 5, 6, 7), 3);
        is(minutesOf(20, 20, 12, 13, 14, 15, 16, 17, 18, 19), 3);
        is(minutesOf(20, 20, 1, -1, 1, -1), 3 + 2 + 1 + 2);
    }

    private void lengthsInRain() {
        says("A play takes a tenth of its lines, cut, and 1, a twentieth, cut");
        for (int begin = 298; begin <= 300; begin++) {
            Wagonplay x = town(1, 0);
            x.wagon(0, 9, 0);
            x.addStation(begin - 270 - 18, 9, 0);
            x.rain(5, true);
            is(x.foresee(), begin + (begin == 300 ? 8 : 3));
            x.rain(5, false);
            x.rain(4, true);
            is(x.foresee(), begin + 2 + (begin + 2 < 300 ? 8 : 3));
        }
        // The last minute of a wet hour and the first behind it.
        for (int begin = 359; begin <= 360; begin++) {
            Wagonplay x = new Wagonplay();
            x.addGuild(0, 400, 1);
            x.learn(0, 20);
            x.cast(0, 0, 0);
            x.wagon(0, 9, 0);
            x.addStation(1, 0, 0);
            x.addStation(20, begin - 352, 0);
            x.rain(5, true);
            x.day();
            is(x.at(0, 0, 'e'), 280 + 41);
            is(x.at(0, 1, 'b'), begin);
            is(x.at(0, 1, 'e'), begin == 359 ? 359 + 46 : 360 + 41);
        }
    }

    /** Guild 0 ends at 278, guild 1 comes one minute ahead of 2 behind that, just then, and one later. */
    private void behindTheOneAhead() {
        says("It begins as the wagon has come, at the earliest 2 behind the end of the play ahead");
        int[][] dues = {{3, 278, 280}, {4, 279, 280}, {5, 280, 280}, {6, 281, 281}};
        for (int[] due : dues) {
            Wagonplay x = town(2, 1);
            x.wagon(1, due[0], 0);
            x.day();
            is(x.at(1, 0, 'a'), due[1]);
            is(x.at(1, 0, 'b'), due[2]);
            is(x.at(1, 0, 'g'), due[2] - 278);
        }
    }

    /** Guild 1 is not played at station 5 from 1270 on, and guild 2 neither. */
    private void behindOneNotPlayed() {
        says("It begins as the wagon has come, at the earliest 2 behind the end of the play ahead");
        Wagonplay x = late(1270);
        x.addGuild(0, 20, 1);
        x.day();
        is(x.how(1, 5), 'd');
        is(x.at(1, 5, 'e'), 1270);
        is(x.at(2, 5, 'b'), 1272);
        is(x.at(2, 5, 'g'), 2);
    }

    /** Guild 0 plays 280 to 301 and 311 to 332; guild 1, of the same player, comes at 280 and would play from 303. */
    private static Wagonplay shared(int lines, int player, int other) {
        Wagonplay x = new Wagonplay();
        x.addGuild(0, 200, 1);
        x.addGuild(0, lines, 1);
        x.learn(0, 20);
        x.learn(1, 20);
        x.cast(0, 0, player);
        x.cast(1, 0, other);
        x.addStation(10, 0, 0);
        x.addStation(10, 0, 0);
        return x;
    }

    private static int beginOfShared(int lines, int player, int other) {
        Wagonplay x = shared(lines, player, other);
        x.day();
        return x.at(1, 0, 'b');
    }

    /** The plays as those of shared, but of 3 and 8 parts: the part of the one has player 7, that of the other this. */
    private static int beginOfParts(int part, int otherPart, int other) {
        Wagonplay x = new Wagonplay();
        x.addGuild(0, 200, 3);
        x.addGuild(0, 80, 8);
        for (int i = 0; i < 2; i++) {
            x.learn(i, 20);
            x.addStation(10, 0, 0);
        }
        for (int i = 0; i < 3; i++) {
            x.cast(0, i, i == part ? 7 : i);
        }
        for (int i = 0; i < 8; i++) {
            x.cast(1, i, i == otherPart ? other : 10 + i);
        }
        x.day();
        return x.at(1, 0, 'b');
    }

    private void touchingPlays() {
        says("If then, with the length that it has by beginning then");
        is(beginOfShared(79, 0, 0), 303);
        is(beginOfShared(80, 0, 0), 332);
        is(beginOfShared(80, 19, 19), 332);
        is(beginOfShared(80, 18, 19), 303);
        is(beginOfShared(80, 0, 1), 303);
        is(beginOfShared(80, -1, -1), 305);
        is(beginOfShared(400, 7, 7), 332);
        // A player who has one part of several, the first, the last or one amidst.
        for (int part = 0; part < 3; part++) {
            for (int other = 0; other < 8; other++) {
                is(beginOfParts(part, other, 7), 332);
                is(beginOfParts(part, other, 18), 303);
            }
        }
        // Guild 0 plays 275 to 278 and 283 to 286; guild 1 comes in its last minute, as it has ended, and behind it.
        for (int come = 284; come <= 287; come++) {
            Wagonplay x = town(2, 0);
            x.wagon(0, 1, 9);
            x.wagon(1, 9, 0);
            x.addStation(5, come - 284, 0);
            x.addStation(5, 0, 0);
            x.cast(1, 0, 0);
            x.day();
            is(x.at(1, 0, 'a'), come);
            is(x.at(1, 0, 'b'), Math.max(come, 286));
        }
    }

    /** One play lies in the other: guild 1's round the one at 311, and, at 288 to 291, within one of 286 to 296. */
    private void playsWithin() {
        says("If then, with the length that it has by beginning then");
        Wagonplay x = shared(400, 7, 7);
        x.day();
        is(x.at(1, 0, 'b'), 332);
        is(x.at(1, 0, 'e'), 373);
        Wagonplay y = town(2, 0);
        addLines(y, 0, 70);
        y.cast(1, 0, 0);
        y.wagon(0, 1, 9);
        y.wagon(1, 9, 0);
        y.addStation(5, 4, 0);
        y.addStation(1, 0, 0);
        y.day();
        is(y.at(0, 1, 'b'), 286);
        is(y.at(0, 1, 'e'), 296);
        is(y.at(1, 0, 'a'), 288);
        is(y.at(1, 0, 'b'), 296);
    }

    /** It waits for one two places ahead, and not for one behind it, whatever the numbers. */
    private void whoseAreAhead() {
        says("If then, with the length that it has by beginning then");
        Wagonplay x = shared(80, 7, 7);
        x.addGuild(0, 20, 1);
        x.put(2, 1);
        x.day();
        is(x.at(1, 0, 'b'), 332);
        Wagonplay y = shared(80, 7, 7);
        y.put(1, 0);
        y.day();
        is(y.at(1, 0, 'b'), 280);
        is(y.at(1, 0, 'e'), 289);
        // Guild 1 plays 299 to 308 as well; guild 0 would play 291 to 312.
        is(y.at(1, 1, 'b'), 299);
        is(y.at(0, 0, 'b'), 308);
        Wagonplay z = shared(80, 7, 7);
        z.addGuild(0, 20, 8);
        z.cast(1, 0, 5);
        z.cast(2, 7, 7);
        z.addStation(10, 0, 0);
        z.day();
        is(z.at(2, 0, 'b') >= 363, true);
        is(z.isSound(), true);
    }

    /** Guild 0 is at the last of 6 stations as guild 1 would be at the first one. */
    private void allStations() {
        says("If then, with the length that it has by beginning then");
        Wagonplay x = town(2, 0);
        x.wagon(0, 1, 9);
        x.wagon(1, 9, 0);
        x.addStation(1, 8, 2);
        for (int i = 1; i < 6; i++) {
            x.addStation(1, 0, 0);
        }
        x.cast(1, 0, 0);
        x.day();
        is(x.at(0, 5, 'b'), 291);
        is(x.at(0, 5, 'e'), 294);
        is(x.at(1, 0, 'a'), 293);
        is(x.at(1, 0, 'b'), 294);
    }

    /**
     * Guild 1 comes at 297, in the rain, and would play 25 minutes, up to 322; guild 0 plays 292 to 300 and 320 to
     * 323. From 300 on, in the dry, guild 1 would have 20 minutes and be done by 320; but it waits for the last one.
     */
    private void theLastToEnd() {
        says("If then, with the length that it has by beginning then");
        Wagonplay x = town(2, 0);
        addLines(x, 1, 170);
        x.cast(1, 0, 0);
        x.wagon(0, 3, 9);
        x.wagon(1, 9, 0);
        x.addStation(5, 6, 2);
        x.addStation(5, 0, 0);
        x.addStation(20, 0, 0);
        x.rain(4, true);
        x.day();
        is(x.at(0, 1, 'e'), 300);
        is(x.at(0, 2, 'b'), 320);
        is(x.at(0, 2, 'e'), 323);
        is(x.at(1, 0, 'a'), 297);
        is(x.at(1, 0, 'b'), 323);
        is(x.at(1, 0, 'e'), 343);
    }

    /** Guild 0 plays 6 times, with gaps of 5 minutes; guild 1 takes 6, and 1 minute less fits. */
    private void allIsAskedAnew() {
        says("If then, with the length that it has by beginning then");
        Wagonplay x = town(2, 6);
        x.cast(1, 0, 0);
        x.wagon(1, 5, 0);
        addLines(x, 1, 30);
        x.day();
        is(x.at(1, 0, 'a'), 280);
        is(x.at(0, 5, 'e'), 318);
        is(x.at(1, 0, 'b'), 318);
        is(x.at(1, 0, 'g'), 40);
        Wagonplay y = town(2, 6);
        y.cast(1, 0, 0);
        y.wagon(1, 5, 0);
        addLines(y, 1, 20);
        y.day();
        is(y.at(1, 0, 'b'), 286);
        // Guild 0 plays 277 to 285, 292 to 300 and 305 to 308: 8 minutes from 287 would clash, 3 from 300, dry, do not.
        Wagonplay z = town(2, 6);
        z.cast(1, 0, 0);
        z.wagon(1, 5, 0);
        z.rain(4, true);
        z.day();
        is(z.at(0, 1, 'e'), 300);
        is(z.at(0, 2, 'b'), 305);
        is(z.at(1, 0, 'a'), 282);
        is(z.at(1, 0, 'b'), 300);
        is(z.at(1, 0, 'e'), 303);
    }

    /**
     * Guilds 0 and 1 of one player, 19, who is on without an end but on the ways: guild 1 begins behind the last end
     * of guild 0, and begins at station 5 at 918 + hill + 2 * minutes + 5 times its length.
     */
    private static Wagonplay late(int lines, int hillAndTwiceMinutes) {
        Wagonplay x = new Wagonplay();
        x.addGuild(0, 400, 1);
        x.addGuild(0, 400, 1);
        addLines(x, 0, 200);
        addLines(x, 1, lines - 400);
        x.cast(0, 0, 19);
        x.cast(1, 0, 19);
        x.addStation(20, hillAndTwiceMinutes % 2, 0);
        for (int i = 1; i < 5; i++) {
            x.addStation(20, 9, 0);
        }
        x.addStation(hillAndTwiceMinutes / 2, 0, 0);
        return x;
    }

    /** Guild 1 takes 66 minutes, and begins at station 5 at this one, 1250 to 1272. */
    static Wagonplay late(int begin) {
        return late(600, begin - 1248);
    }

    /** Guild 2, of other players, begins at station 5 at this minute, 1252 or later. */
    private static Wagonplay behind(int begin, int lines, int added) {
        Wagonplay x = late(490, begin - 1250);
        x.addGuild(0, lines, 1);
        addLines(x, 2, added);
        x.cast(2, 0, 3);
        return x;
    }

    /** Guild 2 would be on at station 4 from 1257 to 1265, and guild 1 at station 5, with torches, from 1260 on. */
    private void cutByTheDark() {
        says("If then, with the length that it has by beginning then");
        Wagonplay x = late(1260);
        x.addGuild(0, 20, 1);
        x.cast(2, 0, 19);
        x.setTorches(5, true);
        x.day();
        is(x.at(1, 5, 'b'), 1260);
        is(x.how(1, 5), 'w');
        is(x.at(2, 4, 'b') < 1260, true);
        is(x.at(2, 4, 'e'), 1260);
        is(x.how(2, 4), 'c');
        x.year();
        x.setTorches(4, true);
        x.day();
        is(x.at(2, 4, 'b'), x.at(1, 5, 'e'));
        is(x.how(2, 4), 'w');
    }

    private void noMinutesInTheDark() {
        says("one that would begin in the dark has no minutes");
        // Guild 1 is on from 1268; guild 2, of the same player, would be on up to 1286, but it is not played.
        Wagonplay x = late(1268);
        x.addGuild(0, 200, 1);
        x.cast(2, 0, 19);
        x.setTorches(5, true);
        x.day();
        is(x.at(1, 5, 'b'), 1268);
        is(x.how(1, 5), 'w');
        is(x.at(2, 4, 'b'), 1260);
        is(x.how(2, 4), 'd');
        // Guild 3 would begin while guild 1, of its player, is on, but behind 1260: it does not wait for it.
        Wagonplay z = late(1258);
        z.addGuild(0, 20, 1);
        z.addGuild(0, 20, 1);
        z.cast(2, 0, 3);
        z.cast(3, 0, 19);
        z.setTorches(5, true);
        z.day();
        is(z.at(1, 5, 'b'), 1258);
        is(z.at(1, 5, 'e'), 1324);
        is(z.at(2, 4, 'e'), 1260);
        is(z.at(3, 4, 'b'), 1262);
        is(z.how(3, 4), 'd');
        // Guild 1 is not played at 1260: guild 2, at a station with torches, does not wait for it.
        Wagonplay y = late(1260);
        y.addGuild(0, 20, 1);
        y.cast(2, 0, 19);
        y.setTorches(4, true);
        y.day();
        is(y.how(1, 5), 'd');
        is(y.at(2, 4, 'b') < 1260, true);
        is(y.at(2, 4, 'e') > 1260, true);
        is(y.how(2, 4), 'w');
    }

    private void darkForGood() {
        says("It is dark from 1260 on, for good");
        Wagonplay x = late(1259);
        x.day();
        is(x.how(1, 5), 'c');
        Wagonplay y = late(1260);
        y.day();
        is(y.how(1, 5), 'd');
        // In the hours of the next day that were light on the first one.
        Wagonplay z = late(1260);
        z.addGuild(0, 400, 1);
        z.cast(2, 0, 19);
        addLines(z, 2, 200);
        for (int i = 0; i < 5; i++) {
            z.setTorches(i, true);
        }
        z.addGuild(0, 400, 1);
        z.cast(3, 0, 19);
        addLines(z, 3, 200);
        z.day();
        is(z.at(2, 5, 'b'), 1440 + 266);
        is(z.how(2, 5), 'd');
        is(z.at(3, 5, 'b'), 1440 + 712);
        is(z.how(3, 5), 'd');
        is(z.how(3, 4), 'w');
    }

    private void notPlayed() {
        says("At a station without torches a play that would begin in the dark is not played");
        for (int begin = 1260; begin <= 1272; begin++) {
            Wagonplay x = late(begin);
            is(x.day(), 11);
            is(x.at(1, 5, 'b'), begin);
            is(x.how(1, 5), 'd');
            is(x.at(1, 5, 'e'), begin);
            is(x.at(1, 5, 'l'), 0);
            is(x.end(), begin);
            x = late(begin);
            x.setTorches(5, true);
            is(x.day(), 12);
            is(x.how(1, 5), 'w');
            is(x.at(1, 5, 'e'), begin + 66);
            is(x.at(1, 5, 'l'), 600);
            // The year behind it is in no way like it.
            x.year();
            x.setTorches(5, false);
            is(x.day(), 11);
            is(x.at(1, 5, 'e'), begin);
            is(x.at(1, 5, 'l'), 0);
        }
    }

    private void cut() {
        says("one that would end later is cut at 1260");
        for (int begin = 1250; begin < 1260; begin++) {
            Wagonplay x = late(begin);
            is(x.day(), 11);
            is(x.at(1, 5, 'b'), begin);
            is(x.how(1, 5), 'c');
            is(x.at(1, 5, 'e'), 1260);
            is(x.at(1, 5, 'l'), 600 * (1260 - begin) / 66);
        }
        // 56 minutes that would end at 1260, 1261, 1262: all, all but one and all but two of them are left.
        for (int end = 1260; end <= 1262; end++) {
            Wagonplay x = late(500, end - 1254);
            is(x.day(), end == 1260 ? 12 : 11);
            is(x.at(1, 5, 'b'), end - 56);
            is(x.at(1, 5, 'e'), 1260);
            is(x.how(1, 5), end == 1260 ? 'w' : 'c');
            is(x.at(1, 5, 'l'), 500 * (1260 - end + 56) / 56);
        }
        // As few lines as none: 20 of 8 minutes give 2 in one.
        Wagonplay x = behind(1259, 20, 0);
        x.day();
        is(x.at(2, 5, 'b'), 1259);
        is(x.at(2, 5, 'l'), 2);
        is(x.how(2, 5), 'c');
    }

    private void whole() {
        says("Others are whole, 'w'");
        Wagonplay x = late(1259);
        x.setTorches(5, true);
        is(x.day(), 12);
        is(x.how(1, 5), 'w');
        is(x.at(1, 5, 'l'), 600);
        is(x.at(1, 5, 'e'), 1259 + 66);
        is(x.wholeShare(), 1f);
    }

    private void rainAsTold() {
        says("It rains in hours, 0 to 23, as told");
        Wagonplay x = town(1, 1);
        for (int hour = 0; hour < 24; hour++) {
            is(x.rain(hour, true), false);
            is(x.foresee(), hour == 4 ? 285 : 278);
            is(x.rain(hour, true), true);
            is(x.rain(hour, false), true);
            is(x.foresee(), 278);
        }
    }

    /** Guild 2 sets out for station 1 at 1380 + n, in the hour 23, and plays there 29 minutes later at the least. */
    private static Wagonplay midnight(int hillAndTwiceMinutes, int wetHour) {
        Wagonplay x = late(600, hillAndTwiceMinutes);
        x.addGuild(0, 400, 1);
        addLines(x, 2, 200);
        x.cast(2, 0, 19);
        for (int i = 0; i < 6; i++) {
            x.setTorches(i, true);
        }
        x.rain(wetHour, true);
        x.day();
        return x;
    }

    private void rainBehindMidnight() {
        says("behind 1440 they begin anew");
        Wagonplay x = midnight(28, 23);
        is(x.at(2, 1, 'b'), 1439);
        is(x.at(2, 1, 'e'), 1439 + 71);
        x = midnight(29, 23);
        is(x.at(2, 1, 'b'), 1440);
        is(x.at(2, 1, 'e'), 1440 + 66);
        x = midnight(30, 0);
        is(x.at(2, 1, 'b'), 1439);
        is(x.at(2, 1, 'e'), 1439 + 66);
        x = midnight(31, 0);
        is(x.at(2, 1, 'b'), 1440);
        is(x.at(2, 1, 'e'), 1440 + 71);
    }

    /** Two days and more: each way and each length is as the rain of its hour wants it. */
    private void rainOfAllDays() {
        says("behind 1440 they begin anew");
        Wagonplay x = new Wagonplay();
        for (int i = 0; i < 8; i++) {
            x.addGuild(0, 400, 8);
            addLines(x, i, 200);
            x.cast(i, 0, 1);
        }
        for (int i = 0; i < 6; i++) {
            x.addStation(20, 9, 9);
            x.setTorches(i, true);
        }
        for (int hour = 0; hour < 24; hour += 3) {
            x.rain(hour, true);
        }
        x.day();
        int latest = 0;
        for (int guild = 0; guild < 8; guild++) {
            int out = 270;
            for (int station = 0; station < 6; station++) {
                int begin = x.at(guild, station, 'b');
                is(x.at(guild, station, 'a') - out, 20 + 9 + 5 + (out / 60 % 3 == 0 ? 2 : 0));
                out = x.at(guild, station, 'e');
                is(out - begin, 61 + 5 + 14 + (begin / 60 % 3 == 0 ? 5 : 0));
                latest = Math.max(latest, begin);
            }
        }
        is(latest > 2 * 1440, true);
    }

    private static Wagonplay heard(int begin, int lines, int added, int lost) {
        Wagonplay x = behind(begin, lines, added);
        x.setScribe(5, true);
        x.lose(2, lost);
        x.day();
        return x;
    }

    private void heardButCut() {
        says("A play heard but cut has all leaves found whose last line was said");
        // 5 minutes of 30 give 40 lines of 240, 5 of 29 give 39 of 230: the first leaf's last line is the 40th.
        Wagonplay x = heard(1255, 240, 0, 0);
        is(x.at(2, 5, 'l'), 40);
        is(x.known(2), 240);
        x = heard(1255, 230, 0, 0);
        is(x.at(2, 5, 'l'), 39);
        is(x.known(2), 190);
        x = heard(1255, 240, 0, 1);
        is(x.known(2), 200);
        // 3 minutes of 30 give 24 lines of 240: the book's last line, or the one ahead of it.
        x = heard(1257, 24, 216, 0);
        is(x.at(2, 5, 'l'), 24);
        is(x.known(2), 24);
        is(x.of(2, 'a'), 216);
        is(x.of(2, 'f'), 0);
        x = heard(1257, 25, 215, 0);
        is(x.at(2, 5, 'l'), 24);
        is(x.known(2), 0);
        // A play not played has no line said.
        x = heard(1260, 240, 0, 0);
        is(x.how(2, 5), 'd');
        is(x.known(2), 200);
    }

    /** Guild 2 is not played at station 5, and would have begun there 15 and 16 minutes behind guild 1. */
    private void finesInTheDark() {
        says("a guild is fined 3 for each station at which its play begins");
        for (int gap = 15; gap <= 16; gap++) {
            Wagonplay x = behind(1255, 400, gap * 10 - 10);
            x.wagon(2, 3, gap - 9);
            x.setTorches(4, true);
            x.day();
            is(x.at(2, 5, 'b'), 1253 + gap);
            is(x.at(2, 5, 'g'), gap);
            is(x.how(2, 5), 'd');
            is(x.at(2, 4, 'g') <= 15, true);
            is(x.of(2, 'f'), gap == 16 ? 3 : 0);
        }
    }
}
