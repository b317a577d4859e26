/** Listeners and requests, the queue, days: what the terms say of them, promises 15 to 23. */
final class EdgesOfListeners extends Edges {
    private EdgesOfListeners() {
    }

    static void ask() {
        termsOfListeners();
        termsOfSending();
        termsOfKeys();
        termsOfTheQueue();
        termsOfDays();
        termsOfServing();
        listener();
        told();
        asking();
        unask();
        request();
        may();
        queue();
        day();
        serve();
    }

    private static void termsOfListeners() {
        says(TERMS, "LISTENERS (10) are numbered as they come: TONGUES (bits of 4), LIKES (bits of 8 KINS).");
        SpokenBooks x = new SpokenBooks();
        for (int l = 0; l < 10; l++) {
            is("listener " + l, x.listener(1 + l, 255 - l), l);
        }
        is("the eleventh", x.listener(1, 0), FULL);
        is("count(3)", x.count(3), 10);
        is("the last's TONGUES", x.told(9, 0), 10);
        is("the last's LIKES", x.told(9, 1), 246);

        says(TERMS, "REQUESTS (30) are numbered as they come: a LISTENER asks for a TITLE on a day;");
        SpokenBooks y = house("", 3, 0, 10);
        for (int r = 0; r < 30; r++) {
            is("request " + r, y.ask(r % 10, 2 - r / 10), r);
            y.day();
        }
        y.title(0, 0, 0);
        is("the thirty-first", y.ask(0, 3), FULL);
        is("count(4)", y.count(4), 30);
        is("the last's LISTENER", y.request(29, 0), 9);
        is("the last's TITLE", y.request(29, 1), 0);
        is("the last's day", y.request(29, 2), 29);

        says(TERMS, "WAITING, SERVED, or TAKEN BACK.");
        SpokenBooks z = house("", 1, 1, 3);
        for (int l = 0; l < 3; l++) {
            z.ask(l, 0);
        }
        z.unask(2);
        z.serve();
        is("SERVED", z.request(0, 3), 1);
        is("WAITING", z.request(1, 3), 0);
        is("TAKEN BACK", z.request(2, 3), 2);

        says(TERMS, "THE DAY is 0 at first.");
        SpokenBooks w = house("right 0 0 0;", 1, 0, 1);
        is("count(7)", w.count(7), 0);
        is("a right of day 0 holds", w.may(0, 0), 1);
        is("led on day 1", w.led(w.error(0, 0, 0, 1), 1), BAD);
    }

    private static void termsOfSending() {
        says(TERMS, "A TITLE MAY BE SENT to a LISTENER on THE DAY: its TONGUE is one of theirs;");
        SpokenBooks x = readers();
        for (int tongue = 0; tongue < 4; tongue++) {
            x.title(tongue, 0, tongue);
        }
        int[] tongues = {1, 2, 4, 8, 15, 14, 7, 5, 10};
        for (int l = 0; l < tongues.length; l++) {
            x.listener(tongues[l], 255);
            for (int t = 0; t < 4; t++) {
                is("tongue " + t + " of " + tongues[l], x.may(l, t), tongues[l] >> t & 1);
            }
        }

        says(TERMS, "its right holds;");
        SpokenBooks y = house("right 0 2 3;right 1 0 0;right 2 3 3;right 3 99 999;right 4 100 100;", 6, 0, 1);
        int[] first = {2, 0, 3, 99, 100, 0};
        int[] last = {3, 0, 3, 999, 100, 99};
        for (int today = 0; today <= 99; today++) {
            for (int t = 0; t < 6 && (today < 6 || today > 97); t++) {
                is("title " + t + " on day " + today, y.may(0, t), today >= first[t] && today <= last[t] ? 1 : 0);
            }
            y.day();
        }

        says(TERMS, "they have no COPY of it (on the way out, WITH, on the way back);");
        SpokenBooks z = house("lag 2;again 1;", 2, 1, 2);
        z.ask(0, 0);
        z.serve();
        is("on the way out", z.may(0, 0), 0);
        is("another title", z.may(0, 1), 1);
        is("another listener", z.may(1, 0), 1);
        days(z, 2);
        is("WITH", z.may(0, 0), 0);
        days(z, 5);
        is("WITH, again is long ago", z.may(0, 0), 0);
        z.back(0);
        is("on the way back", z.may(0, 0), 0);
        z.day();
        is("on the way back", z.may(0, 0), 0);
        z.day();
        is("home", z.may(0, 0), 1);
        z.ask(0, 0);
        z.serve();
        is("on the way out again", z.may(0, 0), 0);
        z.lose(0);
        is("lost", z.may(0, 0), 1);

        says(TERMS, "they never had one, or the latest came to them as many days ago as again tells, or more (again above 0).");
        for (int again : new int[] {1, 2, 99}) {
            SpokenBooks w = came("lag 0;again " + again + ";");
            for (int ago = 0; ago < 99; ago++) {
                if (ago < 3 || ago > 96) {
                    is("again " + again + ", " + ago + " days ago", w.may(0, 0), ago >= again ? 1 : 0);
                }
                w.day();
            }
            is("again " + again + ", 99 days ago", w.may(0, 0), 1);
        }
        SpokenBooks never = came("lag 0;again 0;");
        is("again 0, today", never.may(0, 0), 0);
        days(never, 99);
        is("again 0, 99 days ago", never.may(0, 0), 0);
        is("who never had one", never.may(1, 0), 1);
        SpokenBooks late = house("lag 5;again 3;", 1, 1, 1);
        late.ask(0, 0);
        late.serve();
        days(late, 5);
        tell(late, "lag 0;again 3;");
        late.back(0);
        is("it went out 5 days ago, came today", late.may(0, 0), 0);
        days(late, 2);
        is("two days ago", late.may(0, 0), 0);
        late.day();
        is("three days ago", late.may(0, 0), 1);
        late.ask(0, 0);
        late.serve();
        late.back(0);
        late.day();
        is("the latest, one day ago", late.may(0, 0), 0);
        days(late, 2);
        is("the latest, three days ago", late.may(0, 0), 1);
        SpokenBooks lost = house("lag 1;again 0;", 1, 1, 1);
        lost.ask(0, 0);
        lost.serve();
        lost.lose(0);
        is("lost on the way it never came", lost.may(0, 0), 1);
        SpokenBooks had = came("lag 0;again 0;");
        tell(had, "again 1;");
        had.day();
        is("the rule that holds now", had.may(0, 0), 1);
    }

    /** A house of two listeners where one copy came to listener 0 on day 0 and went home. */
    private static SpokenBooks came(String rules) {
        SpokenBooks x = house(rules, 1, 1, 2);
        x.ask(0, 0);
        x.serve();
        x.back(0);
        return x;
    }

    private static void termsOfKeys() {
        says(TERMS, "HAS: COPIES that are on the way out to a LISTENER or WITH it.");
        SpokenBooks x = house("lag 1;loan 6;", 4, 1, 2);
        is("none", x.told(0, 2), 0);
        for (int t = 0; t < 4; t++) {
            x.ask(0, t);
        }
        x.serve();
        is("on the way out", x.told(0, 2), 4);
        x.day();
        is("WITH it", x.told(0, 2), 4);
        x.back(0);
        is("on the way back is none", x.told(0, 2), 3);
        x.lose(1);
        is("LOST is none", x.told(0, 2), 2);
        x.day();
        is("IN THE HOUSE is none", x.told(0, 2), 2);
        is("another's is none", x.told(1, 2), 0);

        says(TERMS, "KEYS of a REQUEST: waited: days since it came;");
        SpokenBooks w = house("queue +waited,+number;", 1, 0, 3);
        w.ask(0, 0);
        w.ask(1, 0);
        w.day();
        w.ask(2, 0);
        line(w, "two have waited a day", 0, 1, 0, 2);
        tell(w, "queue -waited,+number;");
        line(w, "one has not", 0, 2, 1, 0);

        says(TERMS, "had: COPIES that came to that LISTENER so far;");
        SpokenBooks h = house("lag 1;loan 6;again 1;queue +had,-number;", 3, 0, 3);
        h.copy(0);
        h.copy(1);
        for (int who = 0; who < 3; who++) {
            h.ask(who, 2);
        }
        h.ask(2, 1);
        h.serve();
        line(h, "on the way out it has not come", 2, 0, 1, 2);
        h.day();
        line(h, "one came to listener 2", 2, 2, 0, 1);
        h.back(1);
        h.day();
        line(h, "it came, though it went back", 2, 2, 0, 1);
        h.ask(1, 0);
        h.ask(1, 1);
        days(h, 2);
        line(h, "two came to listener 1", 2, 1, 2, 0);
        h.back(1);
        h.lose(0);
        line(h, "they came, though one is lost", 2, 1, 2, 0);
        h.ask(2, 1);
        days(h, 2);
        tell(h, "lag 1;loan 6;again 1;queue +had,+number;");
        line(h, "the same title once more to listener 2", 2, 2, 1, 0);
        tell(h, "lag 1;loan 6;again 1;queue -had;");
        line(h, "the least first", 2, 0, 1, 2);

        says(TERMS, "late: COPIES WITH it for longer than days;");
        SpokenBooks l = house("lag 0;days 3;queue +late;loan 6;", 3, 0, 3);
        l.copy(0);
        for (int who = 0; who < 3; who++) {
            l.ask(who, 2);
        }
        l.ask(2, 0);
        l.serve();
        days(l, 3);
        is("with for days", l.told(2, 4), 0);
        line(l, "with for days is not late", 2, 0, 1, 2);
        tell(l, "lag 0;days 2;queue +late;loan 6;");
        is("with for a day more", l.told(2, 4), 1);
        line(l, "with for a day more is late", 2, 2, 0, 1);
        tell(l, "lag 1;days 2;queue +late;loan 6;");
        l.back(0);
        is("on the way back", l.told(2, 4), 0);
        line(l, "on the way back is not late", 2, 0, 1, 2);
        SpokenBooks m = house("lag 9;days 1;loan 6;", 1, 1, 1);
        m.ask(0, 0);
        m.serve();
        days(m, 8);
        is("long on the way out is not late", m.told(0, 4), 0);
        days(m, 2);
        is("with for one day", m.told(0, 4), 0);
        m.day();
        is("with for two", m.told(0, 4), 1);

        says(TERMS, "likes: 1, if KIN is LIKED, else 0;");
        SpokenBooks k = house("queue +likes,+number;", 8, 0, 0);
        k.listener(1, 129);
        k.listener(1, 126);
        k.listener(1, 0);
        for (int t = 0; t < 8; t += 7) {
            for (int who = 0; who < 3; who++) {
                k.ask(who, t);
            }
        }
        line(k, "kin 0", 0, 0, 2, 1);
        line(k, "kin 7", 7, 3, 5, 4);

        says(TERMS, "number: its number.");
        SpokenBooks n = house("queue +number;", 1, 0, 3);
        for (int who = 2; who >= 0; who--) {
            n.ask(who, 0);
            n.day();
        }
        line(n, "the greatest first", 0, 2, 1, 0);
        tell(n, "queue -number;");
        line(n, "the least first", 0, 0, 1, 2);
    }

    private static void termsOfTheQueue() {
        says(TERMS, "THE QUEUE of a TITLE: its REQUESTS that WAIT,");
        SpokenBooks x = house("", 2, 0, 4);
        line(x, "nobody asked", 0);
        for (int l = 0; l < 4; l++) {
            x.ask(l, l / 2);
        }
        line(x, "its own", 0, 0, 1);
        line(x, "the other's own", 1, 2, 3);
        x.unask(0);
        line(x, "one taken back", 0, 1);
        x.copy(0);
        x.serve();
        line(x, "one served", 0);

        says(TERMS, "whose LISTENER it MAY BE SENT to");
        SpokenBooks y = house("right 0 1 1;", 1, 0, 1);
        y.listener(2, 0);
        y.ask(0, 0);
        y.ask(1, 0);
        line(y, "the right is not yet", 0);
        y.day();
        line(y, "on its day, not to another tongue", 0, 0);
        y.day();
        line(y, "the right is no more", 0);

        says(TERMS, "and HAS less than loan,");
        SpokenBooks z = house("lag 1;loan 2;", 3, 1, 1);
        for (int t = 0; t < 3; t++) {
            z.ask(0, t);
        }
        line(z, "HAS none of 2", 2, 2);
        z.serve();
        line(z, "HAS 2 of 2", 2);
        tell(z, "lag 1;loan 3;");
        line(z, "HAS 2 of 3", 2, 2);
        tell(z, "lag 1;loan 1;");
        line(z, "HAS 2 of 1", 2);
        z.day();
        z.back(0);
        line(z, "HAS 1 of 1", 2);
        z.back(1);
        line(z, "HAS 0 of 1", 2, 2);

        says(TERMS, "by KEYS, one by one, the greatest (+), the least (-) first, then by numbers.");
        SpokenBooks w = house("lag 0;loan 6;", 2, 0, 0);
        w.copy(1);
        w.copy(1);
        int[] likes = {0, 1, 0, 1, 0, 1};
        for (int like : likes) {
            w.listener(1, like);
        }
        w.ask(0, 1);
        w.ask(1, 1);
        w.serve();
        w.ask(0, 0);
        w.ask(1, 0);
        w.ask(2, 0);
        w.day();
        w.ask(3, 0);
        w.ask(4, 0);
        w.ask(5, 0);
        String[] keys = {"+waited", "-waited", "+likes", "-likes", "+had", "-had", "+likes,-waited", "-waited,-likes",
            "+had,-likes", "-had,+likes", "-had,-waited,+likes", "+number", "-number", "-likes,+had,+waited,-number",
            "+waited,+likes,+number", "+late"};
        int[][] due = {{2, 3, 4, 5, 6, 7}, {5, 6, 7, 2, 3, 4}, {3, 5, 7, 2, 4, 6}, {2, 4, 6, 3, 5, 7},
            {2, 3, 4, 5, 6, 7}, {4, 5, 6, 7, 2, 3}, {5, 7, 3, 6, 2, 4}, {6, 5, 7, 2, 4, 3},
            {2, 3, 4, 6, 5, 7}, {5, 7, 4, 6, 3, 2}, {5, 7, 6, 4, 3, 2}, {7, 6, 5, 4, 3, 2}, {2, 3, 4, 5, 6, 7},
            {2, 4, 6, 3, 5, 7}, {3, 4, 2, 7, 5, 6}, {2, 3, 4, 5, 6, 7}};
        for (int i = 0; i < keys.length; i++) {
            tell(w, "lag 0;loan 6;queue " + keys[i] + ";");
            line(w, keys[i], 0, due[i]);
        }
        for (int i = 0; i < 4; i++) {
            tell(w, i < 2 ? "queue +likes,+number;" : "loan 6;queue +likes;");
        }
        line(w, "a key that was told before is none", 0, 3, 5, 7, 2, 4, 6);
    }

    private static void termsOfDays() {
        says(TERMS, "A DAY goes: THE DAY is one more;");
        SpokenBooks x = house("lag 0;right 0 1 1;", 1, 1, 1);
        x.ask(0, 0);
        is("on the day before its right", x.serve(), 0);
        is("it is served on the new day", x.day(), 1);
        is("THE DAY", x.count(7), 1);
        is("since the new day", x.copyOf(0, 4), 1);
        SpokenBooks ended = house("lag 0;right 0 0 0;", 1, 1, 1);
        ended.ask(0, 0);
        is("its right was till the day before", ended.day(), 0);

        says(TERMS, "then COPIES by numbers: one on the way out for lag days or longer comes to its LISTENER (PLAYS one more);");
        for (int lag : new int[] {1, 2, 9}) {
            SpokenBooks y = house("lag " + lag + ";", 1, 1, 1);
            y.ask(0, 0);
            y.serve();
            for (int gone = 1; gone <= lag; gone++) {
                y.day();
                is("lag " + lag + ", where on day " + gone, y.copyOf(0, 1), gone < lag ? 1 : 2);
                is("lag " + lag + ", plays on day " + gone, y.copyOf(0, 3), gone < lag ? 0 : 1);
            }
            is("its listener", y.copyOf(0, 2), 0);
            is("what came to it", y.told(0, 6), 1);
            y.day();
            is("it comes once", y.copyOf(0, 3), 1);
        }
        SpokenBooks sooner = house("lag 9;", 1, 1, 1);
        sooner.ask(0, 0);
        sooner.serve();
        days(sooner, 3);
        tell(sooner, "lag 2;");
        is("longer than lag, before the day goes", sooner.copyOf(0, 1), 1);
        sooner.day();
        is("longer than lag", sooner.copyOf(0, 1), 2);
        SpokenBooks later = house("lag 1;", 1, 1, 1);
        later.ask(0, 0);
        later.serve();
        tell(later, "lag 3;");
        days(later, 2);
        is("the lag that holds now", later.copyOf(0, 1), 1);
        later.day();
        is("three days", later.copyOf(0, 1), 2);
        SpokenBooks atOnce = house("lag 5;", 1, 1, 1);
        atOnce.ask(0, 0);
        atOnce.serve();
        tell(atOnce, "lag 0;");
        atOnce.day();
        is("lag 0 now", atOnce.copyOf(0, 1), 2);

        says(TERMS, "one on the way back for lag days or longer comes IN THE HOUSE (WORN OUT, if PLAYS are life or more).");
        for (int lag : new int[] {1, 2, 9}) {
            SpokenBooks y = house("lag " + lag + ";", 1, 1, 1);
            y.ask(0, 0);
            y.serve();
            days(y, lag);
            y.back(0);
            for (int gone = 1; gone <= lag; gone++) {
                y.day();
                is("lag " + lag + ", where on day " + gone, y.copyOf(0, 1), gone < lag ? 3 : 0);
            }
        }
        for (int life = 1; life <= 3; life++) {
            SpokenBooks y = house("lag 0;", 1, 1, 4);
            for (int play = 1; play <= 2; play++) {
                y.ask(play, 0);
                y.serve();
                is("home", play == 1 ? y.back(0) : 0, 0);
            }
            tell(y, "lag 1;life " + life + ";");
            y.back(0);
            y.day();
            is("2 plays, life " + life, y.copyOf(0, 1), life <= 2 ? 5 : 0);
        }
        SpokenBooks untold = house("lag 0;again 1;", 1, 1, 1);
        for (int play = 1; play <= 20; play++) {
            untold.day();
            untold.ask(0, 0);
            untold.serve();
            is("plays " + play + " of 20", untold.back(0), play < 20 ? 0 : 5);
        }
        SpokenBooks inHouse = house("lag 0;", 1, 1, 2);
        inHouse.ask(0, 0);
        inHouse.serve();
        inHouse.back(0);
        tell(inHouse, "lag 0;life 1;");
        inHouse.day();
        is("one that is home does not wear out there", inHouse.copyOf(0, 1), 0);
    }

    private static void termsOfServing() {
        says(TERMS, "Then SERVING: TITLES by numbers, of each,");
        SpokenBooks x = house("lag 1;loan 1;", 3, 1, 1);
        x.ask(0, 2);
        x.ask(0, 1);
        x.day();
        is("the lesser title first", x.copyOf(1, 1), 1);
        is("then there is no room", x.copyOf(2, 1), 0);
        SpokenBooks home = house("lag 1;", 1, 1, 2);
        home.ask(0, 0);
        days(home, 2);
        home.ask(1, 0);
        home.back(0);
        is("what comes home is sent the same day", home.day(), 1);
        is("to the other", home.copyOf(0, 2), 1);
        SpokenBooks room = house("lag 1;loan 1;again 1;", 2, 1, 1);
        room.ask(0, 0);
        room.ask(0, 1);
        days(room, 2);
        is("no room", room.serve(), 0);
        room.back(0);
        is("what is on the way back makes room", room.serve(), 1);

        says(TERMS, "as long as there is a COPY IN THE HOUSE and its QUEUE is not empty,");
        SpokenBooks y = house("", 1, 2, 3);
        is("an empty queue", y.serve(), 0);
        for (int l = 0; l < 3; l++) {
            y.ask(l, 0);
        }
        is("two copies for three", y.serve(), 2);
        is("no copy", y.serve(), 0);
        y.copy(0);
        y.copy(0);
        is("two copies for one", y.serve(), 1);
        is("one is left", y.titleOf(0, 6), 1);
        SpokenBooks all = house("", 1, 10, 10);
        for (int l = 0; l < 10; l++) {
            all.ask(l, 0);
        }
        is("ten for ten", all.serve(), 10);

        says(TERMS, "the COPY of the fewest PLAYS (of several the least) goes out to the first of its QUEUE");
        SpokenBooks z = house("lag 0;queue -number;", 1, 3, 6);
        serveOne(z, 0, 0, "of several the least");
        z.back(0);
        serveOne(z, 1, 1, "the fewest plays, then the least");
        z.back(1);
        serveOne(z, 2, 2, "the fewest plays");
        z.back(2);
        serveOne(z, 3, 0, "alike again");
        z.ask(4, 0);
        z.ask(5, 0);
        tell(z, "lag 0;queue +number;");
        is("both", z.serve(), 2);
        is("the first of the queue has the least", z.request(5, 4), 1);
        is("the next of the queue", z.request(4, 4), 2);

        says(TERMS, "(with lag 0 it comes at once),");
        SpokenBooks w = house("lag 0;loan 2;queue -had;", 2, 1, 2);
        for (int t = 0; t < 2; t++) {
            w.ask(0, t);
            w.ask(1, t);
        }
        is("both titles", w.serve(), 2);
        is("with", w.copyOf(0, 1), 2);
        is("plays", w.copyOf(0, 3), 1);
        is("who had one is behind", w.copyOf(1, 2), 1);
        SpokenBooks slow = house("lag 1;loan 2;queue -had;", 2, 1, 2);
        for (int t = 0; t < 2; t++) {
            slow.ask(0, t);
            slow.ask(1, t);
        }
        slow.serve();
        is("on the way", slow.copyOf(0, 1), 1);
        is("who has not had it yet is first again", slow.copyOf(1, 2), 0);

        says(TERMS, "whose REQUEST is SERVED.");
        SpokenBooks v = house("", 1, 1, 2);
        v.ask(0, 0);
        v.ask(1, 0);
        v.serve();
        is("served", v.request(0, 3), 1);
        is("by which copy", v.request(0, 4), 0);
        is("the other waits", v.request(1, 3), 0);
        is("it may ask once more", v.ask(0, 0), 2);
    }

    private static void serveOne(SpokenBooks x, int l, int copy, String why) {
        int r = x.ask(l, 0);
        x.serve();
        is(why, x.request(r, 4), copy);
    }

    private static void listener() {
        says(15, "A LISTENER: its number.");
        SpokenBooks x = new SpokenBooks();
        is("the first", x.listener(1, 0), 0);
        is("the second", x.listener(15, 255), 1);
        int[] due = {15, 255, 0, 0, 0, 0, 0, 0};
        for (int what = 0; what < due.length; what++) {
            is("told(1, " + what + ")", x.told(1, what), due[what]);
        }

        says(15, "BAD: also TONGUES not 1 to 15, LIKES not 0 to 255; FULL.");
        int[] tongues = {0, 16, -1, 17, MAX, MIN};
        for (int bits : tongues) {
            is("tongues " + bits, x.listener(bits, 0), BAD);
        }
        int[] likes = {-1, 256, 257, MAX, MIN};
        for (int bits : likes) {
            is("likes " + bits, x.listener(1, bits), BAD);
        }
        is("count(3)", x.count(3), 2);
        for (int l = 2; l < 10; l++) {
            is("listener", x.listener(1, 0), l);
        }
        is("the eleventh", x.listener(1, 0), FULL);
        is("BAD before FULL", x.listener(0, 0), BAD);
        is("BAD before FULL", x.listener(1, 256), BAD);
        is("count(3)", x.count(3), 10);
    }

    private static void told() {
        says(16, "Of a LISTENER: 0 TONGUES, 1 LIKES,");
        SpokenBooks x = house("lag 1;loan 6;days 1;", 4, 2, 0);
        x.listener(9, 130);
        x.listener(1, 0);
        is("TONGUES", x.told(0, 0), 9);
        is("LIKES", x.told(0, 1), 130);
        is("the other's TONGUES", x.told(1, 0), 1);
        is("the other's LIKES", x.told(1, 1), 0);

        says(16, "2 HAS, 3 COPIES WITH it, 4 of these late,");
        for (int t = 0; t < 4; t++) {
            x.ask(0, t);
        }
        x.ask(1, 0);
        x.serve();
        tolds(x, "on the way out", 4, 0, 0);
        x.day();
        tolds(x, "with", 4, 4, 0);
        x.day();
        tolds(x, "for days", 4, 4, 0);
        x.back(0);
        x.lose(1);
        tolds(x, "one on the way back, one lost", 2, 2, 0);
        x.day();
        tolds(x, "for longer than days", 2, 2, 2);
        x.back(2);
        tolds(x, "one more on the way back", 1, 1, 1);
        tell(x, "days 2;");
        tolds(x, "of more days", 1, 1, 0);
        is("the other has", x.told(1, 2), 1);
        SpokenBooks last = house("lag 1;loan 6;", 2, 1, 1);
        days(last, 97);
        last.ask(0, 0);
        last.serve();
        last.day();
        tolds(last, "one came on day 98", 1, 1, 0);
        last.ask(0, 1);
        last.serve();
        last.day();
        tolds(last, "one came on day 99", 2, 2, 0);

        says(16, "5 REQUESTS that WAIT,");
        is("none", x.told(0, 5), 0);
        x.ask(0, 0);
        x.ask(0, 3);
        x.ask(1, 3);
        is("two", x.told(0, 5), 2);
        is("the other's", x.told(1, 5), 1);
        x.unask(5);
        is("one taken back", x.told(0, 5), 1);
        SpokenBooks first = house("", 1, 0, 2);
        first.ask(0, 0);
        is("the first of all", first.told(0, 5), 1);
        is("none of the other", first.told(1, 5), 0);

        says(16, "6 COPIES that came so far,");
        is("four, wherever they are now", x.told(0, 6), 4);
        is("the other's", x.told(1, 6), 1);
        SpokenBooks y = house("lag 1;loan 6;again 1;", 2, 1, 1);
        is("none", y.told(0, 6), 0);
        y.ask(0, 1);
        y.serve();
        is("on the way out", y.told(0, 6), 0);
        y.day();
        is("one", y.told(0, 6), 1);
        y.back(1);
        y.day();
        y.ask(0, 1);
        y.serve();
        y.day();
        is("the same again", y.told(0, 6), 2);
        y.ask(0, 0);
        y.serve();
        y.lose(0);
        days(y, 2);
        is("lost on the way", y.told(0, 6), 2);

        says(16, "7 TITLES that it ever had (bits).");
        is("one, twice; the lost one never came", y.told(0, 7), 2);
        is("four", x.told(0, 7), 15);
        is("one", x.told(1, 7), 1);
        SpokenBooks z = house("lag 0;loan 6;", 12, 1, 1);
        is("none", z.told(0, 7), 0);
        z.ask(0, 11);
        z.serve();
        is("title 11", z.told(0, 7), 2048);
        z.back(11);
        is("title 11, back", z.told(0, 7), 2048);

        says(16, "BAD.");
        int[] whats = {-1, -4, 8, 9, MAX, MIN};
        for (int what : whats) {
            is("told(0, " + what + ")", x.told(0, what), BAD);
        }
        int[] listeners = {-1, -4, 2, 10, MAX, MIN};
        for (int l : listeners) {
            is("told(" + l + ", 0)", x.told(l, 0), BAD);
        }
        SpokenBooks full = house("", 0, 0, 10);
        is("the last listener", full.told(9, 0), 1);
        is("behind the last listener", full.told(10, 0), BAD);
    }

    private static void tolds(SpokenBooks x, String why, int has, int with, int late) {
        is("HAS, " + why, x.told(0, 2), has);
        is("WITH, " + why, x.told(0, 3), with);
        is("late, " + why, x.told(0, 4), late);
    }

    private static void asking() {
        says(17, "A REQUEST: its number.");
        SpokenBooks x = house("", 2, 0, 2);
        x.title(3, 0, 3);
        days(x, 6);
        is("the first", x.ask(1, 0), 0);
        is("the second", x.ask(0, 1), 1);
        is("for a title without sides, of another tongue", x.ask(0, 2), 2);
        int[] due = {0, 1, 6, 0, NONE};
        for (int what = 0; what < due.length; what++) {
            is("request(1, " + what + ")", x.request(1, what), due[what]);
        }

        says(17, "BAD; STATE: that LISTENER WAITS for that TITLE already; FULL.");
        int[] bad = {-1, -4, 3, 12, MAX, MIN};
        for (int i : bad) {
            is("ask(" + i + ", 0)", x.ask(i, 0), BAD);
            is("ask(0, " + i + ")", x.ask(0, i), BAD);
        }
        is("listener 2", x.ask(2, 0), BAD);
        is("waits already", x.ask(1, 0), STATE);
        is("another title", x.ask(1, 1), 3);
        is("another listener", x.ask(0, 0), 4);
        x.unask(0);
        is("taken back: it may ask again", x.ask(1, 0), 5);
        x.copy(1);
        x.serve();
        is("served: it may ask again", x.ask(0, 1), 6);
        is("it waits already", x.ask(0, 1), STATE);
        SpokenBooks y = house("", 3, 0, 10);
        for (int r = 0; r < 30; r++) {
            is("request", y.ask(r % 10, r / 10), r);
        }
        y.title(0, 0, 0);
        is("the thirty-first", y.ask(0, 3), FULL);
        is("STATE before FULL", y.ask(0, 0), STATE);
        is("BAD before FULL", y.ask(10, 0), BAD);
        is("BAD before FULL", y.ask(0, 4), BAD);
        y.unask(29);
        is("one taken back makes no room", y.ask(9, 2), FULL);
        is("count(4)", y.count(4), 30);
    }

    private static void unask() {
        says(18, "A REQUEST that WAITS is TAKEN BACK: 1.");
        SpokenBooks x = house("", 1, 1, 2);
        x.ask(0, 0);
        x.ask(1, 0);
        is("unask(0)", x.unask(0), 1);
        is("taken back", x.request(0, 3), 2);
        is("the other waits", x.request(1, 3), 0);
        is("the other is served", x.serve(), 1);
        is("to the other", x.copyOf(0, 2), 1);

        says(18, "BAD; STATE.");
        int[] bad = {-1, -4, 2, 30, MAX, MIN};
        for (int r : bad) {
            is("unask(" + r + ")", x.unask(r), BAD);
        }
        is("taken back already", x.unask(0), STATE);
        is("served", x.unask(1), STATE);
        is("it stays served", x.request(1, 3), 1);
        is("it stays taken back", x.request(0, 3), 2);
        is("none at all", new SpokenBooks().unask(0), BAD);
    }

    private static void request() {
        says(19, "Of a REQUEST: 0 LISTENER, 1 TITLE, 2 the day when it came,");
        SpokenBooks x = house("", 2, 1, 3);
        x.ask(2, 1);
        days(x, 9);
        x.ask(1, 1);
        x.day();
        int[] due = {1, 1, 9};
        for (int what = 0; what < due.length; what++) {
            is("request(1, " + what + ")", x.request(1, what), due[what]);
        }
        is("the first's LISTENER", x.request(0, 0), 2);
        is("the first's day", x.request(0, 2), 0);

        says(19, "3 whether it WAITS (0), was SERVED (1), TAKEN BACK (2),");
        is("served", x.request(0, 3), 1);
        is("waits", x.request(1, 3), 0);
        x.unask(1);
        is("taken back", x.request(1, 3), 2);

        says(19, "4 the COPY by which it was SERVED (NONE).");
        is("served", x.request(0, 4), 1);
        is("taken back", x.request(1, 4), NONE);
        x.ask(0, 1);
        is("waits", x.request(2, 4), NONE);
        x.lose(1);
        is("served by one that is lost now", x.request(0, 4), 1);

        says(19, "BAD.");
        int[] whats = {-1, -4, 5, 6, MAX, MIN};
        for (int what : whats) {
            is("request(0, " + what + ")", x.request(0, what), BAD);
        }
        int[] requests = {-1, -4, 3, 30, MAX, MIN};
        for (int r : requests) {
            is("request(" + r + ", 0)", x.request(r, 0), BAD);
        }
    }

    private static void may() {
        says(20, "Whether a TITLE MAY BE SENT to a LISTENER on THE DAY (1, 0).");
        SpokenBooks x = house("loan 1;lag 0;right 2 1 1;", 3, 1, 1);
        x.listener(2, 255);
        is("it may", x.may(0, 0), 1);
        is("another tongue", x.may(1, 0), 0);
        is("no right yet", x.may(0, 2), 0);
        x.title(0, 0, 0);
        is("a title without sides may", x.may(0, 3), 1);
        x.ask(0, 0);
        x.serve();
        is("it has one", x.may(0, 0), 0);
        is("HAS as many as loan does not matter", x.may(0, 1), 1);

        says(20, "BAD.");
        int[] listeners = {-1, -4, 2, 10, MAX, MIN};
        for (int l : listeners) {
            is("may(" + l + ", 0)", x.may(l, 0), BAD);
        }
        int[] titles = {-1, -4, 4, 12, MAX, MIN};
        for (int t : titles) {
            is("may(0, " + t + ")", x.may(0, t), BAD);
        }
    }

    private static void queue() {
        says(21, "The REQUEST at place i (from 0 on) of THE QUEUE of a TITLE.");
        SpokenBooks x = house("", 2, 0, 10);
        for (int l = 9; l >= 0; l--) {
            x.ask(l, 1);
        }
        for (int i = 0; i < 10; i++) {
            is("place " + i, x.queue(1, i), i);
        }

        says(21, "BAD: also i below 0; NONE.");
        is("behind the last place", x.queue(1, 10), NONE);
        is("far behind", x.queue(1, 30), NONE);
        is("MAX", x.queue(1, MAX), NONE);
        is("an empty queue", x.queue(0, 0), NONE);
        is("place -1", x.queue(1, -1), BAD);
        is("place MIN", x.queue(1, MIN), BAD);
        is("place -1 of an empty queue", x.queue(0, -1), BAD);
        int[] titles = {-1, -4, 2, 12, MAX, MIN};
        for (int t : titles) {
            is("queue(" + t + ", 0)", x.queue(t, 0), BAD);
        }
        SpokenBooks y = house("lag 0;", 1, 0, 10);
        for (int round = 0; round < 3; round++) {
            for (int l = 0; l < 10; l++) {
                y.unask(y.ask(l, 0) - (round == 2 ? 10 : 0));
            }
        }
        is("those taken back are in no place", y.queue(0, 0), 20);
        is("ten of thirty", y.queue(0, 9), 29);
        is("ten of thirty", y.queue(0, 10), NONE);
    }

    private static void day() {
        says(22, "A DAY goes: how many COPIES went out.");
        SpokenBooks x = house("", 3, 2, 3);
        is("none", x.day(), 0);
        x.ask(0, 2);
        x.ask(1, 2);
        x.ask(2, 2);
        x.ask(0, 0);
        is("three", x.day(), 3);
        is("none more", x.day(), 0);
        is("THE DAY", x.count(7), 3);
        SpokenBooks y = house("loan 6;", 6, 4, 4);
        for (int r = 0; r < 24; r++) {
            y.ask(r % 4, r / 4);
        }
        is("every copy there is", y.day(), 24);

        says(22, "FULL: THE DAY is 99.");
        SpokenBooks z = house("lag 1;", 1, 1, 2);
        days(z, 98);
        z.ask(0, 0);
        is("the 99th", z.day(), 1);
        is("THE DAY", z.count(7), 99);
        is("the 100th", z.day(), FULL);
        is("once more", z.day(), FULL);
        is("THE DAY stays", z.count(7), 99);
        is("no copy came", z.copyOf(0, 1), 1);
        z.copy(0);
        z.ask(1, 0);
        is("nothing is served", z.day(), FULL);
        is("it waits", z.request(1, 3), 0);
        is("serve() goes on", z.serve(), 1);
    }

    private static void serve() {
        says(23, "SERVING alone, on THE DAY as it is: how many COPIES went out.");
        SpokenBooks x = house("lag 2;", 1, 2, 3);
        is("none", x.serve(), 0);
        x.ask(0, 0);
        is("one", x.serve(), 1);
        is("none more", x.serve(), 0);
        is("THE DAY stays", x.count(7), 0);
        is("since", x.copyOf(0, 4), 0);
        tell(x, "lag 0;");
        x.ask(1, 0);
        is("one", x.serve(), 1);
        is("what is on the way stays there", x.copyOf(0, 1), 1);
        is("with lag 0 it comes at once", x.copyOf(1, 1), 2);
        tell(x, "lag 1;");
        x.day();
        x.back(0);
        tell(x, "lag 0;");
        x.ask(2, 0);
        is("what is on the way back stays there", x.serve(), 0);
        is("home with the day", x.day(), 1);
    }
}
