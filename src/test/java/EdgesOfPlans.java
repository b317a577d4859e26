/** Parcels and programs: what the terms say of them, promises 24 and 25. */
final class EdgesOfPlans extends Edges {
    private EdgesOfPlans() {
    }

    static void ask() {
        termsOfPairs();
        termsOfMost();
        parcels();
        termsOfVoices();
        termsOfBest();
        program();
    }

    private static void pairs(SpokenBooks x, String why, int pairs, int liked) {
        is("pairs, " + why, x.parcels(0), pairs);
        is("liked, " + why, x.parcels(1), liked);
    }

    private static void termsOfPairs() {
        says(TERMS, "PARCELS: pairs of LISTENERS and TITLES that MAY BE SENT to them,");
        SpokenBooks x = house("lag 0;again 1;right 0 1 2;", 1, 2, 0);
        pairs(x, "nobody", 0, 0);
        x.listener(1, 1);
        pairs(x, "the right is not yet", 0, 0);
        x.day();
        pairs(x, "without any request", 1, 1);
        x.listener(2, 1);
        pairs(x, "another tongue", 1, 1);
        x.ask(0, 0);
        x.serve();
        pairs(x, "who has one", 0, 0);
        x.back(0);
        pairs(x, "not again today", 0, 0);
        x.day();
        pairs(x, "again", 1, 1);
        x.day();
        pairs(x, "the right is no more", 0, 0);

        says(TERMS, "so that no TITLE is in more pairs than it has COPIES IN THE HOUSE,");
        SpokenBooks y = house("lag 1;life 1;", 1, 0, 6);
        pairs(y, "no copy", 0, 0);
        for (int c = 1; c <= 5; c++) {
            y.copy(0);
            pairs(y, c + " copies for six", c, 0);
        }
        y.copy(0);
        y.copy(0);
        pairs(y, "seven copies for six", 6, 0);
        for (int l = 0; l < 4; l++) {
            y.ask(l, 0);
        }
        y.serve();
        pairs(y, "four on the way out, two listeners left", 2, 0);
        y.day();
        y.back(0);
        y.lose(1);
        y.day();
        is("one worn out", y.copyOf(0, 1), 5);
        pairs(y, "worn out, lost, with: three in the house, two never had one", 2, 0);
        tell(y, "again 1;");
        pairs(y, "three in the house, two may have one again", 3, 0);

        says(TERMS, "no LISTENER in more than loan less HAS:");
        for (int loan = 1; loan <= 6; loan++) {
            SpokenBooks z = house("lag 1;loan " + loan + ";", 12, 1, 1);
            pairs(z, "loan " + loan, loan, 0);
            z.ask(0, 0);
            z.serve();
            pairs(z, "loan " + loan + ", one on the way out", loan - 1, 0);
            z.day();
            pairs(z, "loan " + loan + ", one with it", loan - 1, 0);
            z.back(0);
            pairs(z, "loan " + loan + ", one on the way back", loan, 0);
        }
        SpokenBooks w = house("loan 3;", 5, 1, 2);
        for (int t = 0; t < 3; t++) {
            w.ask(0, t);
        }
        w.serve();
        tell(w, "loan 1;");
        pairs(w, "HAS more than loan: only the other", 1, 0);
        SpokenBooks twice = house("loan 6;", 1, 6, 1);
        pairs(twice, "none twice", 1, 0);
    }

    /** Titles of the tongues 0 to 3, of the kins 0 to 3, with one copy each. */
    private static SpokenBooks tongues(String rules) {
        SpokenBooks x = readers();
        tell(x, rules);
        for (int t = 0; t < 4; t++) {
            x.title(t, t, t);
            x.side(t, 1);
            x.copy(t);
        }
        return x;
    }

    private static void termsOfMost() {
        says(TERMS, "the most pairs, then the most LIKED ones among them.");
        SpokenBooks x = tongues("loan 1;");
        x.listener(3, 1);
        pairs(x, "the liked one of two", 1, 1);
        x.listener(1, 0);
        pairs(x, "the most come before the liked one", 2, 0);
        x.copy(0);
        pairs(x, "one copy more", 2, 1);
        SpokenBooks chain = tongues("loan 1;");
        chain.listener(3, 2);
        chain.listener(6, 4);
        chain.listener(12, 8);
        pairs(chain, "each its liked one", 3, 3);
        chain.listener(8, 0);
        pairs(chain, "one more shifts all", 4, 0);
        SpokenBooks both = tongues("loan 1;");
        both.listener(3, 1);
        both.listener(3, 1);
        pairs(both, "both like the same", 2, 1);
        SpokenBooks one = tongues("loan 1;");
        one.listener(1, 1);
        one.listener(1, 0);
        pairs(one, "who likes it comes first", 1, 1);
        SpokenBooks other = tongues("loan 1;");
        other.listener(1, 0);
        other.listener(1, 1);
        pairs(other, "whoever that is", 1, 1);
        SpokenBooks less = tongues("loan 1;");
        less.listener(15, 1);
        less.listener(1, 1);
        less.listener(2, 2);
        pairs(less, "the liked one goes to who can have no other", 3, 2);
        SpokenBooks shifts = tongues("loan 1;");
        for (int t = 0; t < 4; t++) {
            shifts.copy(t);
        }
        int[] theirTongues = {3, 3, 6, 6, 12, 12, 8, 8, 8};
        int[] theirLikes = {2, 2, 4, 4, 8, 8, 0, 0, 0};
        int[] mostPairs = {1, 2, 3, 4, 5, 6, 7, 8, 8};
        int[] mostLiked = {1, 2, 3, 4, 5, 6, 3, 0, 0};
        for (int l = 0; l < theirTongues.length; l++) {
            shifts.listener(theirTongues[l], theirLikes[l]);
            pairs(shifts, "two of each title, " + (l + 1) + " listeners", mostPairs[l], mostLiked[l]);
        }
        tell(shifts, "loan 2;");
        pairs(shifts, "two of each title, two for each", 8, 6);
        SpokenBooks kins = house("loan 6;", 12, 1, 0);
        kins.listener(1, 1);
        pairs(kins, "titles 0 and 8 are of kin 0", 6, 2);
        kins.listener(1, 129);
        pairs(kins, "title 7 is of kin 7", 12, 3);
        SpokenBooks full = house("loan 6;", 12, 2, 0);
        for (int l = 0; l < 10; l++) {
            full.listener(1, 255);
        }
        pairs(full, "every copy there is", 24, 24);
    }

    private static void parcels() {
        says(24, "PARCELS: 0 pairs, 1 LIKED ones among them.");
        SpokenBooks x = house("loan 2;", 3, 1, 0);
        x.listener(1, 4);
        is("pairs", x.parcels(0), 2);
        is("liked", x.parcels(1), 1);
        is("pairs once more", x.parcels(0), 2);
        is("nothing went out", x.count(8) + x.told(0, 2), 0);
        is("an empty house", new SpokenBooks().parcels(1), 0);

        says(24, "BAD.");
        int[] whats = {-1, -4, 2, 10, MAX, MIN};
        for (int what : whats) {
            is("parcels(" + what + ")", x.parcels(what), BAD);
        }
    }

    /** Titles of some tongues and minutes, for each of which so many of ten listeners wait. */
    private static SpokenBooks wanted(int[] tongues, int[] minutes, int[] wants) {
        SpokenBooks x = readers();
        for (int l = 0; l < 10; l++) {
            x.listener(15, 0);
        }
        for (int t = 0; t < tongues.length; t++) {
            x.title(tongues[t], 0, tongues[t]);
            for (int left = minutes[t]; left > 0; left -= 90) {
                x.side(t, Math.min(left, 90));
            }
            for (int l = 0; l < wants[t]; l++) {
                x.ask(l, t);
            }
        }
        return x;
    }

    private static SpokenBooks wanted(int[] minutes, int[] wants) {
        return wanted(new int[minutes.length], minutes, wants);
    }

    /** What a program answers to the voices {hours A, tongues A, hours B, tongues B}. */
    private static void plan(SpokenBooks x, int titles, int[] voices, int requests, int minutes, int... who) {
        String call = "program(" + titles + ", " + java.util.Arrays.toString(voices) + ", ";
        is(call + "0)", x.program(titles, voices[0], voices[1], voices[2], voices[3], 0), requests);
        is(call + "1)", x.program(titles, voices[0], voices[1], voices[2], voices[3], 1), minutes);
        for (int t = 0; t < who.length; t++) {
            is(call + (10 + t) + ")", x.program(titles, voices[0], voices[1], voices[2], voices[3], 10 + t), who[t]);
        }
    }

    private static int[] voices(int hoursA, int tonguesA, int hoursB, int tonguesB) {
        return new int[] {hoursA, tonguesA, hoursB, tonguesB};
    }

    private static void termsOfVoices() {
        says(TERMS, "PROGRAM with hours: of some TITLES (bits) each is read by voice A, by voice B, or not:");
        SpokenBooks x = wanted(new int[] {0, 1, 2, 3}, new int[] {60, 60, 60, 60}, new int[] {1, 1, 1, 1});
        plan(x, 15, voices(2, 15, 1, 15), 3, 180, 0, 1, 1, 2);
        plan(x, 0, voices(40, 15, 40, 15), 0, 0, 0, 0, 0, 0);
        plan(x, 1, voices(40, 15, 40, 15), 1, 60, 1, 0, 0, 0);
        plan(x, 8, voices(40, 15, 40, 15), 1, 60, 0, 0, 0, 1);
        plan(x, 10, voices(40, 15, 40, 15), 2, 120, 0, 1, 0, 1);
        plan(x, 7, voices(40, 15, 40, 15), 3, 180, 1, 1, 1, 0);
        plan(x, 15, voices(40, 15, 40, 15), 4, 240, 1, 1, 1, 1);

        says(TERMS, "by a voice whose TONGUES (bits) have its TONGUE;");
        plan(x, 15, voices(40, 1, 40, 2), 2, 120, 1, 2, 0, 0);
        plan(x, 15, voices(40, 8, 40, 4), 2, 120, 0, 0, 2, 1);
        plan(x, 15, voices(40, 0, 40, 15), 4, 240, 2, 2, 2, 2);
        plan(x, 15, voices(40, 15, 40, 0), 4, 240, 1, 1, 1, 1);
        plan(x, 15, voices(40, 0, 40, 0), 0, 0, 0, 0, 0, 0);
        plan(x, 15, voices(40, 9, 40, 10), 3, 180, 1, 2, 0, 1);

        says(TERMS, "MINUTES of all its SIDES, summed, for each voice no more than its hours (0 to 40) times 60;");
        SpokenBooks one = wanted(new int[] {60, 61}, new int[] {1, 1});
        plan(one, 1, voices(1, 1, 0, 1), 1, 60, 1, 0);
        plan(one, 1, voices(0, 1, 1, 1), 1, 60, 2, 0);
        plan(one, 2, voices(1, 1, 1, 1), 0, 0, 0, 0);
        plan(one, 2, voices(2, 1, 1, 1), 1, 61, 0, 1);
        plan(one, 2, voices(1, 1, 2, 1), 1, 61, 0, 2);
        plan(one, 3, voices(2, 1, 0, 1), 1, 60, 1, 0);
        plan(one, 3, voices(0, 1, 0, 1), 0, 0, 0, 0);
        SpokenBooks two = wanted(new int[] {30, 30, 31}, new int[] {1, 1, 1});
        plan(two, 3, voices(1, 1, 0, 1), 2, 60, 1, 1, 0);
        plan(two, 5, voices(1, 1, 0, 1), 1, 30, 1, 0, 0);
        plan(two, 7, voices(1, 1, 1, 1), 3, 91, 1, 1, 2);
        SpokenBooks hours = wanted(new int[] {720, 720, 720, 240}, new int[] {1, 1, 1, 1});
        plan(hours, 15, voices(40, 1, 0, 1), 4, 2400, 1, 1, 1, 1);
        plan(hours, 15, voices(0, 1, 40, 1), 4, 2400, 2, 2, 2, 2);
        plan(hours, 15, voices(39, 1, 0, 1), 3, 1680, 0, 1, 1, 1);
        SpokenBooks more = wanted(new int[] {720, 720, 720, 241}, new int[] {1, 1, 1, 1});
        plan(more, 15, voices(40, 1, 0, 1), 3, 1681, 0, 1, 1, 1);
        plan(more, 15, voices(40, 1, 4, 1), 3, 1681, 0, 1, 1, 1);
        plan(more, 15, voices(40, 1, 5, 1), 4, 2401, 1, 1, 1, 2);
        SpokenBooks none = wanted(new int[] {0, 0}, new int[] {1, 0});
        plan(none, 3, voices(0, 1, 0, 1), 1, 0, 1, 0);
        plan(none, 3, voices(0, 2, 0, 1), 1, 0, 2, 0);
    }

    private static void termsOfBest() {
        says(TERMS, "the greatest number of REQUESTS that WAIT for these TITLES;");
        SpokenBooks x = wanted(new int[] {60, 30, 30}, new int[] {3, 1, 1});
        plan(x, 7, voices(1, 1, 0, 0), 3, 60, 1, 0, 0);
        SpokenBooks y = wanted(new int[] {60, 20, 20, 20}, new int[] {3, 1, 2, 1});
        plan(y, 15, voices(1, 1, 0, 0), 4, 60, 0, 1, 1, 1);
        y.unask(y.count(4) - 1);
        plan(y, 15, voices(1, 1, 0, 0), 3, 40, 0, 1, 1, 0);
        SpokenBooks z = wanted(new int[] {60, 60}, new int[] {2, 1});
        plan(z, 3, voices(1, 1, 0, 0), 2, 60, 1, 0);
        z.copy(0);
        z.copy(0);
        z.serve();
        plan(z, 3, voices(1, 1, 0, 0), 1, 60, 0, 1);
        SpokenBooks fit = wanted(new int[] {40, 30, 30, 20}, new int[] {1, 1, 1, 1});
        plan(fit, 15, voices(1, 1, 1, 1), 4, 120, 1, 2, 2, 1);

        says(TERMS, "of several that with the fewest MINUTES,");
        SpokenBooks few = wanted(new int[] {60, 30, 29}, new int[] {2, 1, 1});
        plan(few, 7, voices(1, 1, 0, 0), 2, 59, 0, 1, 1);
        SpokenBooks fewer = wanted(new int[] {58, 30, 29}, new int[] {2, 1, 1});
        plan(fewer, 7, voices(1, 1, 0, 0), 2, 58, 1, 0, 0);
        SpokenBooks unwanted = wanted(new int[] {10, 10}, new int[] {0, 1});
        plan(unwanted, 3, voices(40, 1, 40, 1), 1, 10, 0, 1);
        SpokenBooks three = wanted(new int[] {50, 40, 45}, new int[] {1, 1, 1});
        plan(three, 7, voices(1, 1, 0, 0), 1, 40, 0, 1, 0);
        plan(three, 7, voices(1, 1, 1, 1), 2, 85, 0, 1, 2);

        says(TERMS, "then that whose row TITLE by TITLE (0 not, 1 A, 2 B) is the least.");
        SpokenBooks rows = wanted(new int[] {60, 30, 30}, new int[] {2, 1, 1});
        plan(rows, 7, voices(1, 1, 0, 0), 2, 60, 0, 1, 1);
        SpokenBooks alike = wanted(new int[] {60, 60, 60}, new int[] {1, 1, 1});
        plan(alike, 7, voices(1, 1, 1, 1), 2, 120, 0, 1, 2);
        plan(alike, 7, voices(1, 1, 0, 1), 1, 60, 0, 0, 1);
        plan(alike, 7, voices(0, 1, 1, 1), 1, 60, 0, 0, 2);
        plan(alike, 7, voices(3, 1, 3, 1), 3, 180, 1, 1, 1);
        plan(alike, 7, voices(2, 1, 3, 1), 3, 180, 1, 1, 2);
        plan(alike, 7, voices(1, 1, 3, 1), 3, 180, 1, 2, 2);
        plan(alike, 7, voices(0, 1, 3, 1), 3, 180, 2, 2, 2);
        SpokenBooks forced = wanted(new int[] {0, 1}, new int[] {60, 60}, new int[] {1, 1});
        plan(forced, 3, voices(1, 3, 1, 1), 2, 120, 2, 1);
        SpokenBooks room = wanted(new int[] {40, 30, 20, 30}, new int[] {1, 1, 1, 1});
        plan(room, 15, voices(1, 1, 1, 1), 4, 120, 1, 2, 1, 2);
    }

    private static void program() {
        says(25, "PROGRAM of some TITLES with hours of voice A (its TONGUES), of voice B: what 0 REQUESTS, 1 MINUTES of both;");
        SpokenBooks x = wanted(new int[] {0, 1, 2}, new int[] {60, 50, 40}, new int[] {3, 2, 1});
        is("REQUESTS", x.program(7, 1, 1, 1, 2, 0), 5);
        is("MINUTES of both", x.program(7, 1, 1, 1, 2, 1), 110);
        is("hours of A", x.program(7, 0, 1, 1, 2, 1), 50);
        is("hours of B", x.program(7, 1, 1, 0, 2, 1), 60);
        is("tongues of A", x.program(7, 1, 4, 1, 2, 1), 90);
        is("tongues of B", x.program(7, 1, 1, 1, 4, 1), 100);
        is("an empty house", new SpokenBooks().program(0, 40, 15, 40, 15, 1), 0);

        SpokenBooks now = wanted(new int[] {60, 50}, new int[] {1, 2});
        plan(now, 3, voices(1, 1, 0, 1), 2, 50, 0, 1);
        now.ask(8, 0);
        now.ask(9, 0);
        plan(now, 3, voices(1, 1, 0, 1), 3, 60, 1, 0);
        plan(now, 2, voices(1, 1, 0, 1), 2, 50, 0, 1);
        now.side(0, 1);
        plan(now, 3, voices(1, 1, 0, 1), 2, 50, 0, 1);
        now.title(0, 0, 0);
        now.ask(0, 2);
        plan(now, 7, voices(1, 1, 0, 1), 3, 50, 0, 1, 1);
        now.side(2, 10);
        plan(now, 7, voices(1, 1, 0, 1), 3, 60, 0, 1, 1);
        now.side(2, 1);
        plan(now, 7, voices(1, 1, 0, 1), 2, 50, 0, 1, 0);
        plan(now, 7, voices(1, 1, 1, 1), 3, 61, 0, 1, 2);
        now.unask(1);
        plan(now, 7, voices(1, 1, 1, 1), 2, 61, 0, 1, 2);
        now.unask(2);
        plan(now, 7, voices(1, 1, 1, 1), 1, 11, 0, 0, 1);

        says(25, "10 and t: who reads TITLE t (0 nobody, 1 A, 2 B).");
        is("A", x.program(7, 1, 1, 1, 2, 10), 1);
        is("B", x.program(7, 1, 1, 1, 2, 11), 2);
        is("nobody", x.program(7, 1, 1, 1, 2, 12), 0);
        is("one that is not among them", x.program(1, 1, 1, 1, 2, 11), 0);
        SpokenBooks twelve = wanted(new int[] {9, 9, 9, 9, 9, 9, 9, 9, 9, 9, 9, 9}, new int[] {1, 1, 1, 1, 1, 1, 1, 1, 1, 1, 1, 1});
        is("the last of twelve", twelve.program(4095, 1, 1, 1, 1, 21), 2);
        is("all twelve", twelve.program(4095, 1, 1, 1, 1, 0), 12);
        is("the sixth", twelve.program(4095, 1, 1, 1, 1, 15), 1);
        is("the seventh", twelve.program(4095, 1, 1, 1, 1, 16), 2);

        says(25, "BAD: also bits of TITLES that there are not.");
        int[] bits = {8, 9, 15, 4096, -1, MAX, MIN};
        for (int titles : bits) {
            is("bits " + titles, x.program(titles, 1, 1, 1, 1, 0), BAD);
        }
        is("all bits of three", x.program(7, 1, 1, 1, 1, 0), 3);
        is("a bit of no title at all", new SpokenBooks().program(1, 1, 1, 1, 1, 0), BAD);
        is("a bit behind the twelfth", twelve.program(4096, 1, 1, 1, 1, 0), BAD);
        int[] hours = {-1, 41, 60, MAX, MIN};
        for (int h : hours) {
            is("hours A " + h, x.program(7, h, 1, 1, 1, 0), BAD);
            is("hours B " + h, x.program(7, 1, 1, h, 1, 0), BAD);
        }
        int[] tongues = {-1, 16, 17, MAX, MIN};
        for (int t : tongues) {
            is("tongues A " + t, x.program(7, 1, t, 1, 1, 0), BAD);
            is("tongues B " + t, x.program(7, 1, 1, 1, t, 0), BAD);
        }
        int[] whats = {-1, -4, 2, 3, 9, 13, 14, 22, MAX, MIN, MIN + 10};
        for (int what : whats) {
            is("what " + what, x.program(7, 1, 1, 1, 1, what), BAD);
        }
        is("what 22 of twelve", twelve.program(4095, 1, 1, 1, 1, 22), BAD);
        is("who reads TITLE 0 of none", new SpokenBooks().program(0, 1, 1, 1, 1, 10), BAD);
    }
}
