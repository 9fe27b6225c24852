/** The edges of what is asked of the town: promises 19 to 36, with turn. */
public final class AskEdgeTest {
    private static final String TOWN = "town \"tenant 100 likes 12 to 17;tenant 40 likes 8 to 11;"
            + "tenant 7 likes 0 to 23;child of 0;let 0 9 to 10 1;let 0 11 to 12 0;let 1 12 to 13 2;"
            + "goods 0 9 5;shut 2 0;sub 0 12 2\" -> 1\n";
    private static final String ALL_ROOMS = "town \"tenant 9999 likes 0 to 23;tenant 9 likes 0 to 0;let 0 0 to 23 0;"
            + "let 1 0 to 23 0;let 2 0 to 23 0;let 3 0 to 23 0;let 4 0 to 23 0;let 5 0 to 23 0;let 6 0 to 23 0\" -> 1\n";

    private static int wrong = 0;

    public static void main(String[] args) {
        playAll(new Script(HourLets.class));
        playAll(new Script(Model.class));
        System.out.println(wrong == 0 ? "all answers are as due" : wrong + " answers are not as due");
        if (wrong != 0) {
            System.exit(1);
        }
    }

    private static void playAll(Script script) {
        script.play("neighbours: in the ring; NONE", NEIGHBOURS);
        script.play("run: in the ring, the least number; NONE without ROOMS", RUN);
        script.play("empty likewise", EMPTY);
        script.play("wedding: from NOW's on, in the ring; NONE", WEDDING);
        script.play("court: no one twice; NONE without any", COURT);
        script.play("court: all ten", tenInARow());
        script.play("cheap: N is 1 to 20, k 0 to N less 1", CHEAP);
        script.play("cheap: N ROOMS that one could TAKE; NONE", CHEAP_FEW);
        script.play("fitted: none beyond what is wanted", FITTED);
        script.play("fitted: 8 WANTS of 20", FITTED_ALL);
        script.play("given: the first such way", GIVEN);
        script.play("envies: more together", ENVIES);
        script.play("fair: DAY, HOUR, two or three", FAIR);
        script.play("fair: in how many ways", FAIR_WAYS);
        script.play("ring: k; NONE", RING);
        script.play("ring: more than that of each ROOM the one OWNS", RING_VALUES);
        script.play("ring: of all ten", ringOfTen());
        script.play("soonest, heard: no such TENANT, 0 to 336", TOWN + NEWS);
        script.play("soonest: none within 336", NEWS_LAST);
        script.play("roomsFor: N is 1 to 24", TOWN + ROOMS_FOR);
        script.play("roomsFor: in the ring; NONE", ROOMS_FOR_RING);
        script.play("thieves: one at least", TOWN + THIEVES);
        script.play("seen: two bytes", TOWN + SEEN);
        script.play("thieves, seen: a TAPE of 400", TOWN + fullTapes());
        script.play("changed: N is 1 to 12", TOWN + CHANGED);
        script.play("a CHILD is where its MOTHER is", CHILDREN);
        wrong += script.wrongAnswers();
    }

    private static final String NEIGHBOURS = TOWN + """
        neighbours -1 0 false -> IndexOutOfBoundsException
        neighbours 0 -1 false -> IndexOutOfBoundsException
        neighbours 4 0 false -> IndexOutOfBoundsException
        neighbours 0 4 true -> IndexOutOfBoundsException
        neighbours -2147483648 2147483647 true -> IndexOutOfBoundsException
        # none
        neighbours 2 1 false -> 0
        neighbours 2 1 true -> -1
        # the last ROOM and the first one, which is behind it
        take 2 167 -> 5
        take 1 0 -> 5
        neighbours 2 1 false -> 1
        neighbours 2 1 true -> 167
        neighbours 1 2 true -> -1
        # ROOM 0 is the first of all
        take 0 1 -> 5
        neighbours 1 0 false -> 2
        neighbours 1 0 true -> 0
        leave 0 -> 1
        neighbours 1 0 true -> 10
        # by who LIVES there: 12 is TENANT 0's, but not where that one LIVES
        neighbours 0 0 false -> 0
        ends 12 -> 2
        neighbours 0 0 true -> 11
        new
        """ + ALL_ROOMS + """
        neighbours 0 0 false -> 168
        neighbours 0 0 true -> 0
        neighbours 0 1 false -> 0
        neighbours 1 1 true -> -1
        leave 0 -> 0
        neighbours 0 0 false -> 166
        neighbours 0 0 true -> 1
        """;

    private static final String RUN = """
        run 0 false -> IndexOutOfBoundsException
        town "tenant 999 likes 0 to 0;tenant 9 likes 0 to 0;child of 0;child of 1" -> 1
        run -1 false -> IndexOutOfBoundsException
        run 4 true -> IndexOutOfBoundsException
        run 2147483647 true -> IndexOutOfBoundsException
        # without ROOMS
        run 0 false -> 0
        run 0 true -> -1
        run 3 false -> 0
        run 3 true -> -1
        take 0 167 -> 5
        run 0 false -> 1
        run 0 true -> 167
        run 2 true -> 167
        # the ring: 167 and 0; of as many the least number
        take 0 0 -> 5
        run 0 false -> 2
        run 0 true -> 167
        take 0 50 -> 5
        take 0 51 -> 5
        run 0 false -> 2
        run 0 true -> 50
        take 0 60 -> 5
        take 0 61 -> 5
        run 0 true -> 50
        take 0 1 -> 5
        run 0 false -> 3
        run 0 true -> 167
        take 0 166 -> 5
        run 0 false -> 4
        run 0 true -> 166
        # by where one LIVES
        sublet 167 1 0 -> 0
        run 0 false -> 2
        run 0 true -> 0
        run 1 true -> 167
        run 3 false -> 1
        leave 0 -> 0
        run 0 true -> 50
        new
        """ + ALL_ROOMS + """
        run 0 false -> 168
        run 0 true -> 0
        run 1 false -> 0
        # all but one: it begins behind that one
        leave 100 -> 0
        run 0 false -> 167
        run 0 true -> 101
        take 0 100 -> 5
        leave 167 -> 0
        run 0 false -> 167
        run 0 true -> 0
        take 0 167 -> 5
        leave 0 -> 0
        run 0 false -> 167
        run 0 true -> 1
        # two halves: the least number
        leave 84 -> 0
        run 0 false -> 83
        run 0 true -> 1
        """;

    private static final String EMPTY = """
        empty false -> 168
        empty true -> 0
        town "tenant 9999 likes 0 to 0;tenant 9 likes 0 to 0;let 0 0 to 0 0" -> 1
        empty false -> 167
        empty true -> 1
        take 0 84 -> 5
        empty false -> 83
        empty true -> 1
        leave 0 -> 0
        empty false -> 167
        empty true -> 85
        # a SHUT one has no OWNER, one that is SUBLET has
        town "shut 0 0" -> 2
        empty false -> 167
        sublet 84 1 0 -> 0
        empty false -> 167
        take 0 167 -> 5
        empty false -> 84
        empty true -> 0
        new
        """ + ALL_ROOMS + """
        empty false -> 0
        empty true -> -1
        leave 5 -> 0
        empty false -> 1
        empty true -> 5
        leave 167 -> 0
        leave 0 -> 0
        empty false -> 2
        empty true -> 167
        leave 6 -> 0
        empty false -> 2
        empty true -> 5
        """;

    private static final String WEDDING = TOWN + """
        wedding -1 0 -> IndexOutOfBoundsException
        wedding 0 4 -> IndexOutOfBoundsException
        wedding 4 4 -> IndexOutOfBoundsException
        wedding -1 -1 -> IndexOutOfBoundsException
        wedding 0 0 -> IllegalArgumentException
        wedding 3 3 -> IllegalArgumentException
        # ROOM 10 alone: from NOW's on, that one, too, and one behind it all round
        wedding 0 1 -> 10
        ticks 9 -> 0
        wedding 0 1 -> 10
        ticks 1 -> 0
        wedding 1 0 -> 10
        ticks 1 -> 0
        wedding 0 1 -> 10
        wedding 1 2 -> -1
        # a nearer one behind NOW, whoever is ahead
        take 0 14 -> 5
        take 1 15 -> 5
        wedding 0 1 -> 14
        ticks 4 -> 0
        wedding 0 1 -> 10
        # the last one and the first one
        take 1 167 -> 5
        take 0 0 -> 5
        wedding 0 1 -> 167
        ticks 152 -> 0
        count 4 -> 167
        wedding 0 1 -> 167
        ticks 1 -> 45
        count 4 -> 0
        wedding 0 1 -> 10
        """;

    private static final String COURT = TOWN + """
        court 0 false -> 0
        court 0 true -> -1
        # a CHILD, and bits of nobody, count for nothing
        court 8 false -> 0
        court 8 true -> -1
        court 16 false -> 0
        court 1024 true -> -1
        court -2147483648 false -> 0
        court -2147483648 true -> -1
        court -1 false -> 3
        court -1 true -> 10
        court 2147483647 true -> 10
        # one alone: its first ROOM
        court 1 false -> 1
        court 1 true -> 11
        court 2 false -> 1
        court 2 true -> 9
        court 4 true -> 12
        court 6 false -> 1
        court 6 true -> 9
        court 5 false -> 2
        court 5 true -> 11
        # without ROOMS
        leave 9 -> 1
        leave 10 -> 1
        court 2 false -> 0
        court 2 true -> -1
        # in the ring, no one twice
        take 1 166 -> 5
        take 0 167 -> 5
        take 1 0 -> 5
        court 3 false -> 2
        court 3 true -> 166
        leave 0 -> 1
        take 2 0 -> 5
        court 7 false -> 3
        court 7 true -> 166
        leave 166 -> 1
        court 7 false -> 2
        court 7 true -> 11
        """;

    private static String tenInARow() {
        StringBuilder people = new StringBuilder();
        StringBuilder lets = new StringBuilder();
        for (int t = 0; t < 10; t++) {
            people.append(t == 0 ? "" : ";").append("tenant 50 likes 0 to 0");
            lets.append(t == 0 ? "" : ";").append("let 2 ").append(t).append(" to ").append(t).append(' ').append(t);
        }
        return "town \"" + people + "\" -> 1\ntown \"" + lets + "\" -> 2\n" + """
            court 1023 false -> 10
            court 1023 true -> 48
            court -1 false -> 10
            court 511 false -> 9
            court 1022 true -> 49
            # an eleventh one is somebody again
            take 0 58 -> 5
            court 1023 false -> 10
            court 1023 true -> 48
            leave 48 -> 0
            court 1023 true -> 49
            court 1023 false -> 10
            leave 53 -> 5
            court 1023 false -> 5
            court 1023 true -> 54
            changed 48 11 -1 -> 0
            changed 48 10 -1 -> 1
            heard 1 336 -> 30
            heard 1 52 -> 30
            heard 1 51 -> 14
            heard 6 336 -> 961
            seen 54 103 57 106 58 97 -> -1
            seen 54 103 57 105 58 97 -> 1
            thieves 57 -> 769
            """;
    }

    private static final String CHEAP = TOWN + """
        cheap -1 1 -1 -> IndexOutOfBoundsException
        cheap 4 1 -1 -> IndexOutOfBoundsException
        cheap 4 0 -2 -> IndexOutOfBoundsException
        cheap 1 0 -1 -> IllegalArgumentException
        cheap 1 -1 -1 -> IllegalArgumentException
        cheap 1 21 -1 -> IllegalArgumentException
        cheap 1 2147483647 -1 -> IllegalArgumentException
        cheap 1 -2147483648 -1 -> IllegalArgumentException
        cheap 1 1 -2 -> IllegalArgumentException
        cheap 1 1 1 -> IllegalArgumentException
        cheap 1 20 20 -> IllegalArgumentException
        cheap 1 20 -2147483648 -> IllegalArgumentException
        cheap 1 20 2147483647 -> IllegalArgumentException
        cheap 1 1 -1 -> 5
        cheap 1 1 0 -> 0
        cheap 1 20 -1 -> 100
        cheap 1 20 0 -> 0
        cheap 1 20 8 -> 8
        cheap 1 20 9 -> 13
        cheap 1 20 19 -> 23
        # none by a CHILD; what is told ahead of it stays an exception
        cheap 3 1 -1 -> -1
        cheap 3 20 19 -> -1
        cheap 3 0 -1 -> IllegalArgumentException
        cheap 3 1 1 -> IllegalArgumentException
        # COINS are not looked at: RENT is more than all has
        law "rent 999;rent 999;rent 999;rent 999;rent 999;rent 999;rent 999;rent 999;rent 999;rent 999;rent 999;rent 999" -> 12
        cheap 2 20 -1 -> 239760
        # the least RENT; of as much the least numbers; told by numbers
        law "rent 1;rent 1 if hour<23;rent 1 if hour<22" -> 3
        cheap 0 6 -1 -> 6
        cheap 0 7 -1 -> 7
        cheap 0 8 -1 -> 9
        cheap 0 8 0 -> 22
        cheap 0 8 1 -> 23
        cheap 0 8 2 -> 47
        cheap 0 8 7 -> 167
        cheap 0 7 0 -> 23
        cheap 0 7 6 -> 167
        cheap 0 14 13 -> 167
        cheap 0 14 12 -> 166
        cheap 0 14 -1 -> 21
        cheap 0 15 0 -> 0
        cheap 0 15 1 -> 22
        cheap 0 15 -1 -> 24
        """;

    private static final String CHEAP_FEW = TOWN + """
        # HOUR 0 of seven DAYS, one of which is SHUT
        law "bar if hour>0;rent 1 if day<6" -> 2
        cheap 0 5 -1 -> 4
        cheap 0 6 -1 -> 5
        cheap 0 6 5 -> 144
        cheap 0 6 2 -> 72
        cheap 0 7 -1 -> -1
        cheap 0 7 0 -> -1
        cheap 0 20 19 -> -1
        # one that has an OWNER, oneself, is none
        take 0 144 -> 0
        cheap 0 5 -1 -> 5
        cheap 0 6 -1 -> -1
        law "bar" -> 1
        cheap 0 1 -1 -> -1
        cheap 0 1 0 -> -1
        law "bar if day+hour>0" -> 1
        cheap 0 1 -1 -> 0
        cheap 0 1 0 -> 0
        cheap 0 2 1 -> -1
        new
        """ + ALL_ROOMS + """
        cheap 1 1 -1 -> -1
        leave 167 -> 0
        cheap 1 1 0 -> 167
        cheap 1 1 -1 -> 5
        cheap 1 2 0 -> -1
        """;

    private static final String FITTED = """
        fitted false -> 0
        fitted true -> 1
        given -1 -> IndexOutOfBoundsException
        given 168 -> IndexOutOfBoundsException
        given -2147483648 -> IndexOutOfBoundsException
        given 0 -> -1
        given 167 -> -1
        # HOUR 5 comes seven times: one fewer wanted, as many, one more
        town "tenant 9 likes 0 to 0;want 0 6 from 5 to 5" -> 1
        fitted false -> 6
        fitted true -> 1
        given 125 -> 0
        given 149 -> -1
        town "want 0 1 from 5 to 5" -> 2
        fitted false -> 7
        fitted true -> 1
        given 125 -> 0
        given 149 -> 1
        town "want 0 1 from 5 to 5" -> 3
        fitted false -> 7
        fitted true -> 0
        given 4 -> -1
        given 5 -> 0
        given 6 -> -1
        given 101 -> 0
        given 125 -> 0
        given 149 -> 1
        # with an OWNER (that one, too), SHUT
        town "let 0 5 to 5 0;shut 1 5" -> 4
        fitted false -> 5
        fitted true -> 0
        given 5 -> -1
        given 29 -> -1
        given 53 -> 0
        given 149 -> 0
        leave 5 -> 0
        fitted false -> 6
        # the HOURS of a want, from and to
        new
        town "tenant 9 likes 0 to 0;want 0 20 from 0 to 1;want 0 20 from 22 to 23" -> 1
        fitted false -> 28
        given 0 -> 0
        given 1 -> 0
        given 2 -> -1
        given 21 -> -1
        given 22 -> 1
        given 23 -> 1
        given 24 -> 0
        given 166 -> 1
        given 167 -> 1
        # not BARRED to that TENANT
        law "bar if day>0" -> 1
        fitted false -> 4
        given 23 -> 1
        given 24 -> -1
        law "bar" -> 1
        fitted false -> 0
        fitted true -> 0
        given 0 -> -1
        new
        town "tenant 9 likes 0 to 0;tenant 8 likes 0 to 0;want 0 5 from 2 to 3;want 1 10 from 3 to 4" -> 1
        law "bar if coins<9" -> 1
        fitted false -> 5
        fitted true -> 0
        given 2 -> 0
        given 4 -> -1
        law "bar if coins>8" -> 1
        fitted false -> 10
        given 2 -> -1
        given 3 -> 1
        law "" -> 0
        fitted false -> 15
        fitted true -> 1
        given 2 -> 0
        given 3 -> 0
        given 4 -> 1
        # what was wanted in vain before counts for nothing afterwards
        new
        town "tenant 9 likes 0 to 0;tenant 8 likes 0 to 0;want 0 7 from 8 to 9;want 1 7 from 8 to 8" -> 1
        law "bar if coins>8" -> 1
        fitted false -> 7
        law "" -> 0
        fitted false -> 14
        fitted true -> 1
        given 8 -> 1
        given 9 -> 0
        """;

    private static final String FITTED_ALL = """
        town "tenant 9 likes 0 to 0;tenant 9 likes 0 to 0;want 0 20 from 0 to 23;want 1 20 from 0 to 23;want 0 20 from 0 to 23;want 0 20 from 0 to 23;want 0 20 from 0 to 23;want 0 20 from 0 to 23;want 0 20 from 0 to 23" -> 1
        fitted false -> 140
        town "want 1 20 from 0 to 23" -> 2
        fitted false -> 160
        fitted true -> 1
        given 0 -> 0
        given 19 -> 0
        given 20 -> 1
        given 139 -> 6
        given 140 -> 7
        given 159 -> 7
        given 160 -> -1
        given 167 -> -1
        # eight ROOMS fewer: all are given; nine: one is missing
        town "let 6 16 to 23 0" -> 3
        fitted false -> 160
        fitted true -> 1
        given 159 -> 7
        town "shut 0 0" -> 4
        fitted false -> 159
        fitted true -> 0
        given 0 -> -1
        given 1 -> 0
        given 20 -> 0
        given 21 -> 1
        given 159 -> 7
        """;

    private static final String GIVEN = """
        # the least WANT has ROOM 8, unless fewer could be given then
        town "tenant 9 likes 0 to 0;tenant 9 likes 0 to 0;want 0 1 from 8 to 9;want 1 7 from 8 to 8" -> 1
        fitted false -> 8
        given 8 -> 1
        given 9 -> 0
        given 32 -> 1
        given 33 -> -1
        # with one fewer wanted of it
        new
        town "tenant 9 likes 0 to 0;tenant 9 likes 0 to 0;want 0 1 from 8 to 9;want 1 6 from 8 to 8" -> 1
        fitted false -> 7
        given 8 -> 0
        given 9 -> -1
        given 32 -> 1
        given 152 -> 1
        # a WANT is ahead of none: ROOM 0 is given, if as many can be
        new
        town "tenant 9 likes 0 to 0;want 0 1 from 0 to 23" -> 1
        given 0 -> 0
        given 1 -> -1
        # in a chain: the first gives way to the second, that one to the third
        new
        town "tenant 9 likes 0 to 0;want 0 7 from 0 to 1;want 0 7 from 1 to 2;want 0 7 from 2 to 2" -> 1
        fitted false -> 21
        given 0 -> 0
        given 1 -> 1
        given 2 -> 2
        given 144 -> 0
        given 145 -> 1
        given 146 -> 2
        town "want 0 1 from 0 to 0" -> 2
        fitted false -> 21
        fitted true -> 0
        given 0 -> 0
        given 144 -> 3
        given 1 -> 0
        given 25 -> 1
        given 26 -> 2
        given 2 -> 1
        given 50 -> 2
        """;

    private static final String ENVIES = """
        town "tenant 9 likes 0 to 0;tenant 9 likes 0 to 0;tenant 9 likes 0 to 0;child of 0;let 0 0 to 1 0;let 1 0 to 1 1;let 2 0 to 1 2" -> 1
        envies -1 -> IndexOutOfBoundsException
        envies 4 -> IndexOutOfBoundsException
        envies 3 -> 0
        # as much: none; one more; one less
        envies 0 -> 0
        take 1 72 -> 5
        envies 0 -> 2
        envies 1 -> 0
        envies 2 -> 2
        take 0 96 -> 5
        envies 0 -> 0
        envies 1 -> 0
        envies 2 -> 3
        # by where one LIVES
        sublet 96 2 0 -> 0
        envies 0 -> 6
        envies 1 -> 0
        envies 2 -> 0
        # without ROOMS, and values of 0
        leave 24 -> 1
        leave 72 -> 1
        envies 1 -> 5
        leave 25 -> 1
        envies 1 -> 5
        law "" -> 0
        envies 0 -> 0
        envies 1 -> 0
        law "value 1 if rooms<1" -> 1
        envies 0 -> 0
        envies 1 -> 5
        envies 2 -> 0
        envies 3 -> 0
        """;

    private static final String FAIR = TOWN + """
        fair -1 3 -1 -> IllegalArgumentException
        fair 7 3 -1 -> IllegalArgumentException
        fair -2147483648 3 -1 -> IllegalArgumentException
        fair 2147483647 3 -1 -> IllegalArgumentException
        fair 0 3 -2 -> IllegalArgumentException
        fair 0 3 0 -> IllegalArgumentException
        fair 0 3 11 -> IllegalArgumentException
        fair 0 3 18 -> IllegalArgumentException
        fair 0 3 2147483647 -> IllegalArgumentException
        fair 0 3 -2147483648 -> IllegalArgumentException
        # the exceptions are ahead of - 2
        fair 7 0 12 -> IllegalArgumentException
        fair 0 0 18 -> IllegalArgumentException
        fair 0 0 -1 -> -2
        fair 0 0 12 -> -2
        fair 0 1 17 -> -2
        fair 6 4 12 -> -2
        fair 0 8 -1 -> -2
        fair 0 9 -1 -> -2
        fair 0 -2147483648 -1 -> -2
        fair 0 1008 -1 -> -2
        # two with a CHILD and nobody are two; three; four
        fair 0 3 -1 -> 42
        fair 0 11 -1 -> 42
        fair 6 11 -1 -> 42
        fair 0 1019 -1 -> 42
        fair 0 7 12 -> 0
        fair 0 -1 12 -> 0
        town "tenant 5 likes 0 to 0" -> 2
        fair 0 -1 -1 -> -2
        fair 0 23 -1 -> -2
        fair 0 23 12 -> -2
        fair 0 22 14 -> 1
        fair 0 22 15 -> 2
        fair 0 22 17 -> 2
        """;

    private static final String FAIR_WAYS = """
        town "tenant 9 likes 12 to 17;tenant 9 likes 12 to 17;tenant 9 likes 12 to 17;tenant 9 likes 0 to 11;let 3 12 to 14 0;shut 3 16" -> 1
        # as many each: 20 ways of 3 and 3, 90 of 2 and 2 and 2, whoever has them
        fair 3 3 -1 -> 20
        fair 3 3 12 -> 0
        fair 3 3 14 -> 0
        fair 3 3 15 -> 1
        fair 3 3 17 -> 1
        fair 3 7 -1 -> 90
        fair 3 7 12 -> 0
        fair 3 7 13 -> 0
        fair 3 7 14 -> 1
        fair 3 7 15 -> 1
        fair 3 7 16 -> 2
        fair 3 7 17 -> 2
        # one to whom they are worth nothing: 3 at least of 6 are the other one's
        fair 0 9 -1 -> 42
        fair 0 9 17 -> 0
        fair 0 12 12 -> 2
        # nothing is worth anything: all ways
        law "" -> 0
        fair 0 3 -1 -> 64
        fair 0 3 12 -> 0
        fair 0 3 17 -> 0
        fair 0 6 12 -> 1
        fair 0 6 17 -> 1
        fair 0 7 -1 -> 729
        fair 0 7 17 -> 0
        fair 0 14 17 -> 1
        # none
        law "value 3 if hour<13;value 1" -> 2
        fair 0 3 -1 -> 0
        fair 0 3 12 -> -1
        fair 0 3 17 -> -1
        fair 0 7 -1 -> 0
        fair 0 7 14 -> -1
        # as much is no envy: 2 and 1 and 1 are as 4 others of 1
        law "value 1 if hour<13;value 1" -> 2
        fair 0 3 -1 -> 0
        law "value 1 if hour<14;value 1" -> 2
        fair 0 3 -1 -> 14
        fair 0 3 12 -> 0
        fair 0 3 13 -> 0
        fair 0 3 14 -> 1
        fair 0 3 17 -> 1
        """;

    private static final String RING = """
        town "tenant 9 likes 4 to 4;tenant 9 likes 8 to 8;tenant 9 likes 0 to 0;child of 0;let 0 0 to 1 0;let 0 4 to 5 1" -> 1
        ring -1 -1 -> IndexOutOfBoundsException
        ring 4 -1 -> IndexOutOfBoundsException
        ring 4 -2 -> IndexOutOfBoundsException
        ring 0 -2 -> IllegalArgumentException
        ring 0 -2147483648 -> IllegalArgumentException
        turn -1 -> IndexOutOfBoundsException
        turn 4 -> IndexOutOfBoundsException
        # TENANT 1 points to nobody; 2 has no ROOM to give; a CHILD has none
        ring 0 -1 -> -1
        ring 0 0 -> -1
        ring 1 0 -> -1
        ring 2 -1 -> -1
        ring 2 0 -> -1
        ring 3 -1 -> -1
        ring 3 -2 -> IllegalArgumentException
        turn 0 -> IllegalStateException
        turn 1 -> IllegalStateException
        turn 2 -> IllegalStateException
        turn 3 -> IllegalStateException
        count 15 -> 0
        # with TENANT 2's ROOM there are three
        town "let 0 8 to 9 2" -> 2
        ring 0 -1 -> 3
        ring 0 0 -> 4
        ring 0 2 -> 0
        ring 0 3 -> -1
        ring 0 2147483647 -> -1
        ring 2 0 -> 0
        ring 2 2 -> 8
        ring 2 3 -> -1
        turn 2 -> 3
        count 15 -> 1
        count 13 -> 3
        # from that TENANT on
        log 2 1 -> 0
        log 2 2 -> 2
        log 1 1 -> 4
        log 1 2 -> 0
        log 0 1 -> 8
        log 0 2 -> 1
        room 1 0 -> 0
        room 5 0 -> 1
        room 9 0 -> 2
        tenant 0 4 -> 2
        turn 2 -> IllegalStateException
        undo -> true
        turn 0 -> 3
        log 2 1 -> 4
        """;

    private static final String RING_VALUES = """
        town "tenant 9 likes 0 to 0;tenant 9 likes 0 to 0;let 0 0 to 0 0;let 0 1 to 1 1;let 1 1 to 1 1" -> 1
        # 2 to each other: more than 1; as much; less
        law "value 1 if rooms>1 and hour>0;value 2 if rooms>1 and hour<1;value 2 if rooms<2 and hour>0;value 1 if rooms<2 and hour<1" -> 4
        ring 0 -1 -> 2
        ring 0 0 -> 1
        ring 0 1 -> 0
        law "value 2 if rooms>1 and hour>0;value 2 if rooms>1 and hour<1;value 2 if rooms<2 and hour>0;value 1 if rooms<2 and hour<1" -> 4
        ring 0 -1 -> -1
        law "value 3 if rooms>1 and hour>0;value 2 if rooms>1 and hour<1;value 2 if rooms<2 and hour>0;value 1 if rooms<2 and hour<1" -> 4
        ring 0 -1 -> -1
        # more than each: one of two that is as much is enough
        law "value 2 if rooms>1 and hour>0 and day>0;value 2 if rooms>1 and hour<1;value 2 if rooms<2 and hour>0" -> 3
        ring 0 -1 -> -1
        law "value 1 if rooms>1 and hour>0 and day>0;value 2 if rooms>1 and hour<1;value 2 if rooms<2 and hour>0" -> 3
        ring 0 -1 -> 2
        # of several the least number, of more the most
        ring 0 0 -> 1
        law "value 1 if rooms>1 and hour<1;value 2 if rooms<2 and hour>0;value 1 if rooms<2 and hour>0 and day>0" -> 3
        ring 0 0 -> 25
        turn 0 -> 2
        room 25 0 -> 0
        room 0 0 -> 1
        room 1 0 -> 1
        undo -> true
        # one that is SUBLET is passed over, and one that is BARRED to the one
        sublet 25 0 0 -> 1
        ring 0 0 -> 1
        sublet 1 0 0 -> 1
        ring 0 -1 -> -1
        turn 0 -> IllegalStateException
        ends 25 -> 0
        ring 0 0 -> 25
        law "value 1 if rooms>1 and hour<1;value 2 if rooms<2 and hour>0;bar if rooms<2 and day>0" -> 3
        ring 0 -1 -> -1
        ends 1 -> 0
        ring 0 0 -> 1
        law "value 1 if rooms>1 and hour<1;value 2 if rooms<2 and hour>0;bar if rooms>1 and hour<1" -> 3
        ring 0 -1 -> -1
        # BARRED to whom it is does not matter, nor that one's own is SUBLET
        law "value 1 if rooms>1 and hour<1;value 2 if rooms<2 and hour>0;bar if rooms<2 and hour<1" -> 3
        ring 0 -1 -> 2
        # nothing is worth anything
        law "" -> 0
        ring 0 -1 -> -1
        # one who points into a ring, from which one does not come back
        new
        town "tenant 9 likes 4 to 4;tenant 9 likes 0 to 0;tenant 9 likes 4 to 4;let 0 0 to 0 0;let 0 4 to 4 1;let 0 8 to 8 2" -> 1
        ring 0 -1 -> 2
        ring 1 -1 -> 2
        ring 2 -1 -> -1
        ring 2 0 -> -1
        turn 2 -> IllegalStateException
        # one's own in the first ROOM, and in the last one, are as good
        new
        town "tenant 9 likes 0 to 4;tenant 9 likes 5 to 8;let 0 0 to 0 0;let 0 4 to 4 1;let 0 8 to 8 0" -> 1
        ring 0 -1 -> -1
        leave 0 -> 0
        ring 0 -1 -> 2
        take 0 167 -> 5
        ring 0 -1 -> 2
        law "value 1 if hour>22;value 1 if hour<5 and rooms>1;value 1 if hour>4 and hour<9 and rooms<2" -> 3
        ring 0 -1 -> -1
        leave 167 -> 0
        ring 0 -1 -> -1
        """;

    private static String ringOfTen() {
        StringBuilder people = new StringBuilder();
        StringBuilder lets = new StringBuilder();
        for (int t = 0; t < 10; t++) {
            int next = (t + 1) % 10;
            people.append(t == 0 ? "" : ";").append("tenant 50 likes ").append(next).append(" to ").append(next);
            lets.append(t == 0 ? "" : ";").append("let 0 ").append(t).append(" to ").append(t).append(' ').append(t);
        }
        return "town \"" + people + "\" -> 1\ntown \"" + lets + "\" -> 2\n" + """
            ring 0 -1 -> 10
            ring 0 0 -> 1
            ring 0 8 -> 9
            ring 0 9 -> 0
            ring 0 10 -> -1
            ring 9 -1 -> 10
            ring 9 9 -> 9
            sublet 9 0 0 -> 9
            ring 0 -1 -> -1
            undo -> true
            turn 9 -> 10
            count 13 -> 10
            log 0 1 -> 9
            log 0 2 -> 8
            log 9 1 -> 0
            log 9 2 -> 9
            room 0 0 -> 9
            room 9 0 -> 8
            room 1 0 -> 0
            tenant 5 4 -> 1
            ring 0 -1 -> -1
            turn 9 -> IllegalStateException
            undo -> true
            ring 3 -1 -> 10
            # nobody has HOUR 9: 8 points to nobody, and 9 to ROOM 0
            leave 9 -> 9
            take 9 20 -> 5
            ring 9 -1 -> -1
            ring 0 -1 -> -1
            ring 8 0 -> -1
            # 8 has it, and points to nobody
            take 8 9 -> 5
            ring 7 -1 -> -1
            ring 8 -1 -> -1
            """;
    }

    private static final String NEWS = """
        soonest -1 0 -> IndexOutOfBoundsException
        soonest 0 -1 -> IndexOutOfBoundsException
        soonest 4 0 -> IndexOutOfBoundsException
        soonest 0 4 -> IndexOutOfBoundsException
        heard -1 0 -> IndexOutOfBoundsException
        heard 4 0 -> IndexOutOfBoundsException
        heard 4 337 -> IndexOutOfBoundsException
        heard -1 -1 -> IndexOutOfBoundsException
        heard 0 -1 -> IllegalArgumentException
        heard 0 337 -> IllegalArgumentException
        heard 0 2147483647 -> IllegalArgumentException
        heard 0 -2147483648 -> IllegalArgumentException
        # at once: the one, its CHILD, its MOTHER
        soonest 0 0 -> 0
        soonest 0 3 -> 0
        soonest 3 0 -> 0
        soonest 3 3 -> 0
        heard 0 0 -> 9
        heard 3 0 -> 9
        heard 1 0 -> 2
        heard 2 0 -> 4
        # the TICK to ROOM 11 is the eleventh
        soonest 1 0 -> 11
        soonest 1 3 -> 11
        heard 1 10 -> 2
        heard 1 11 -> 11
        soonest 3 2 -> 12
        heard 3 11 -> 9
        heard 3 12 -> 13
        heard 3 336 -> 13
        heard 1 336 -> 15
        soonest 2 0 -> -1
        heard 2 336 -> 4
        # NOW on: at ROOM 10 it is the next TICK; at 11 a week goes by but for one
        ticks 10 -> 0
        soonest 1 0 -> 1
        heard 1 0 -> 2
        heard 1 1 -> 11
        ticks 1 -> 0
        soonest 1 0 -> 168
        heard 1 167 -> 2
        heard 1 168 -> 11
        # from the last ROOM to the first one
        take 1 167 -> 5
        take 2 0 -> 5
        soonest 1 2 -> 157
        heard 1 156 -> 2
        heard 1 157 -> 6
        """;

    private static final String NEWS_LAST = """
        # 0 tells 1 at TICK 6, 1 tells 2 at 171, 2 tells 3 at 336, 3 tells 4 at 337
        town "tenant 9 likes 0 to 0;tenant 9 likes 0 to 0;tenant 9 likes 0 to 0;tenant 9 likes 0 to 0;tenant 9 likes 0 to 0;child of 3;child of 4;let 0 5 to 5 0;let 0 6 to 6 1;let 0 2 to 2 1;let 0 3 to 3 2;let 6 23 to 23 2;let 0 0 to 0 3;let 0 1 to 1 4" -> 1
        soonest 0 1 -> 6
        soonest 0 2 -> 171
        soonest 0 3 -> 336
        soonest 0 5 -> 336
        soonest 0 4 -> -1
        soonest 0 6 -> -1
        heard 0 5 -> 1
        heard 0 6 -> 3
        heard 0 170 -> 3
        heard 0 171 -> 7
        heard 0 335 -> 7
        heard 0 336 -> 47
        # one TICK on it is 335, and then 4 at 336
        ticks 1 -> 0
        soonest 0 3 -> 335
        soonest 0 4 -> 336
        soonest 0 6 -> 336
        heard 0 335 -> 47
        heard 0 336 -> 127
        # whoever has no ROOM hears and tells nothing
        leave 5 -> 0
        soonest 0 1 -> -1
        heard 0 336 -> 1
        soonest 1 0 -> -1
        """;

    private static final String ROOMS_FOR = """
        roomsFor -1 1 false -> IndexOutOfBoundsException
        roomsFor 4 1 false -> IndexOutOfBoundsException
        roomsFor 4 0 true -> IndexOutOfBoundsException
        roomsFor 0 0 false -> IllegalArgumentException
        roomsFor 0 -1 false -> IllegalArgumentException
        roomsFor 0 25 false -> IllegalArgumentException
        roomsFor 0 2147483647 true -> IllegalArgumentException
        roomsFor 0 -2147483648 true -> IllegalArgumentException
        # a CHILD: none, with a right number
        roomsFor 3 1 false -> -1
        roomsFor 3 24 true -> -1
        roomsFor 3 0 true -> IllegalArgumentException
        roomsFor 3 25 true -> IllegalArgumentException
        roomsFor 0 1 false -> 0
        roomsFor 0 1 true -> 0
        # 9 ROOMS ahead of another one's, 10 are more; 11 with one's own
        roomsFor 0 9 true -> 0
        roomsFor 0 10 true -> 11
        roomsFor 1 11 true -> 0
        roomsFor 1 12 true -> 13
        roomsFor 0 24 true -> 11
        roomsFor 0 24 false -> 0
        roomsFor 1 24 true -> 49
        # a SHUT one: 48 is in no row
        law "bar if day<1;bar if day>2;bar if day>1 and hour>20" -> 3
        roomsFor 0 22 false -> 2
        roomsFor 0 22 true -> 24
        roomsFor 1 24 true -> 24
        roomsFor 1 24 false -> 2
        roomsFor 1 20 true -> 49
        roomsFor 1 20 false -> 0
        roomsFor 1 21 true -> 24
        roomsFor 1 21 false -> 2
        """;

    private static final String ROOMS_FOR_RING = ALL_ROOMS + """
        # all are another one's, and one's own
        roomsFor 1 1 false -> 1
        roomsFor 1 1 true -> 0
        roomsFor 1 24 false -> 24
        roomsFor 1 24 true -> 0
        roomsFor 0 24 false -> 0
        roomsFor 0 24 true -> 0
        # one fewer in a row that goes round; of several the first
        leave 0 -> 0
        roomsFor 1 24 false -> 23
        roomsFor 1 24 true -> 0
        roomsFor 1 1 true -> 0
        leave 167 -> 0
        roomsFor 1 24 false -> 22
        roomsFor 1 24 true -> 145
        roomsFor 1 2 false -> 0
        roomsFor 1 2 true -> 167
        leave 166 -> 0
        roomsFor 1 24 false -> 21
        roomsFor 1 24 true -> 145
        roomsFor 1 3 true -> 166
        # SUBLET to the one it is another one's still
        sublet 1 1 0 -> 0
        roomsFor 1 4 false -> 1
        roomsFor 1 4 true -> 165
        # none: as long a row as there is, and one more
        law "bar if hour>9" -> 1
        roomsFor 1 10 true -> 0
        roomsFor 1 10 false -> 9
        roomsFor 1 11 false -> -1
        roomsFor 1 11 true -> -1
        law "bar" -> 1
        roomsFor 1 1 false -> -1
        roomsFor 0 1 true -> -1
        law "bar if hour<20 and day<6;bar if hour>2 and day<1;bar if day>0 and day<6" -> 3
        roomsFor 1 24 true -> 144
        law "bar if hour>0 and day<6;bar if hour<20;bar if day>0 and day<6" -> 3
        roomsFor 1 4 true -> 164
        roomsFor 1 5 true -> -1
        law "bar if hour>0 and day<6;bar if hour<20 and day>0;bar if day>0 and day<6" -> 3
        roomsFor 1 5 true -> 164
        roomsFor 1 5 false -> 2
        roomsFor 1 6 true -> -1
        """;

    private static final String THIEVES = """
        thieves -> IllegalArgumentException
        thieves 168 -> IllegalArgumentException
        thieves 255 -> IllegalArgumentException
        thieves 9 168 -> IllegalArgumentException
        thieves 168 9 -> IllegalArgumentException
        # one alone: the one before, that one, the one after
        thieves 7 -> 0
        thieves 8 -> 2
        thieves 9 -> 2
        thieves 10 -> 3
        thieves 11 -> 7
        thieves 12 -> 5
        thieves 13 -> 4
        thieves 14 -> 0
        # each of these
        thieves 8 11 -> 2
        thieves 11 13 -> 4
        thieves 8 13 -> 0
        thieves 11 11 11 -> 7
        thieves 0 11 -> 0
        # the ring
        take 0 0 -> 5
        take 1 167 -> 5
        thieves 0 -> 3
        thieves 167 -> 3
        thieves 1 -> 1
        thieves 166 -> 2
        thieves 2 -> 0
        thieves 165 -> 0
        # what it says is no text: fault() stays
        fault -> -1
        """;

    private static final String SEEN = """
        seen -> -1
        seen 11 -> IllegalArgumentException
        seen 11 97 11 -> IllegalArgumentException
        seen 167 97 -> 0
        seen 168 97 -> IllegalArgumentException
        seen 255 97 -> IllegalArgumentException
        # 97 and the TENANT: one below, the first, the last, one above
        seen 11 96 -> IllegalArgumentException
        seen 11 0 -> IllegalArgumentException
        seen 11 97 -> -1
        seen 11 100 -> -1
        seen 11 101 -> IllegalArgumentException
        seen 11 255 -> IllegalArgumentException
        # what is wrong behind one that did not LIVE there is wrong
        seen 12 97 168 97 -> IllegalArgumentException
        seen 12 97 11 101 -> IllegalArgumentException
        seen 12 97 11 -> IllegalArgumentException
        # the first that did not
        seen 12 97 11 98 -> 0
        seen 11 97 12 99 11 98 12 97 -> 2
        seen 11 97 12 99 9 98 12 97 -> 3
        seen 11 97 12 99 9 98 12 99 -> -1
        # one without an OWNER; a CHILD: its MOTHER
        seen 0 97 -> 0
        seen 12 100 -> 0
        ends 12 -> 2
        seen 12 100 -> -1
        take 2 167 -> 5
        seen 167 99 -> -1
        """;

    private static String fullTapes() {
        StringBuilder text = new StringBuilder();
        text.append("thieves").append(" 11".repeat(400)).append(" -> 7\n");
        text.append("thieves").append(" 11".repeat(399)).append(" 13 -> 4\n");
        text.append("thieves").append(" 11".repeat(399)).append(" 168 -> IllegalArgumentException\n");
        text.append("seen").append(" 11 97".repeat(200)).append(" -> -1\n");
        text.append("seen").append(" 11 97".repeat(199)).append(" 11 98 -> 199\n");
        text.append("seen").append(" 11 97".repeat(199)).append(" 11 101 -> IllegalArgumentException\n");
        text.append("seen").append(" 11 97".repeat(199)).append(" 11 -> IllegalArgumentException\n");
        return text.toString();
    }

    private static final String CHANGED = """
        # no such ROOM or TENANT, then the number
        changed -1 1 -1 -> IndexOutOfBoundsException
        changed 168 1 -1 -> IndexOutOfBoundsException
        changed 0 1 -2 -> IndexOutOfBoundsException
        changed 0 1 4 -> IndexOutOfBoundsException
        changed 0 1 2147483647 -> IndexOutOfBoundsException
        changed 0 1 -2147483648 -> IndexOutOfBoundsException
        changed 168 0 -1 -> IndexOutOfBoundsException
        changed 0 13 4 -> IndexOutOfBoundsException
        changed 0 0 -2 -> IndexOutOfBoundsException
        changed 0 0 -1 -> IllegalArgumentException
        changed 0 -1 0 -> IllegalArgumentException
        changed 0 13 0 -> IllegalArgumentException
        changed 0 2147483647 -1 -> IllegalArgumentException
        changed 0 -2147483648 -1 -> IllegalArgumentException
        # up to where one LIVES, and to it
        changed 0 9 -1 -> -1
        changed 0 10 -1 -> 1
        changed 8 1 1 -> 0
        changed 8 2 1 -> 1
        changed 8 3 1 -> 2
        changed 8 12 1 -> 2
        changed 10 1 1 -> 1
        changed 11 1 1 -> 0
        changed 0 12 -1 -> 1
        # of several the least number
        changed 10 2 -1 -> 0
        changed 10 3 -1 -> 0
        changed 11 2 -1 -> 0
        changed 12 1 -1 -> 2
        changed 12 1 0 -> 0
        changed 10 3 3 -> 1
        changed 13 1 -1 -> -1
        changed 13 1 2 -> 0
        # nobody
        changed 167 1 -1 -> -1
        changed 167 9 -1 -> -1
        # in the ring
        take 2 0 -> 5
        changed 167 1 -1 -> -1
        changed 167 2 -1 -> 2
        changed 156 12 -1 -> -1
        changed 157 12 -1 -> 2
        changed 157 12 2 -> 1
        take 0 166 -> 5
        take 0 167 -> 5
        changed 166 3 -1 -> 0
        changed 167 2 -1 -> 0
        changed 166 3 0 -> 2
        changed 167 2 3 -> 1
        changed 0 1 0 -> 0
        """;

    private static final String CHILDREN = """
        town "tenant 100 likes 0 to 0;tenant 100 likes 0 to 0;child of 0;child of 0;child of 1;let 0 0 to 1 0;let 0 2 to 2 1;let 0 4 to 4 0" -> 1
        # NEIGHBOURS: with its MOTHER, of two of hers
        neighbours 2 1 true -> 1
        neighbours 0 2 true -> 0
        neighbours 2 3 false -> 1
        neighbours 3 4 true -> 1
        neighbours 4 2 false -> 0
        run 2 false -> 2
        run 3 true -> 0
        wedding 0 2 -> 0
        wedding 2 3 -> 0
        wedding 1 4 -> -1
        wedding 2 4 -> 1
        wedding 4 0 -> 1
        wedding 2 2 -> IllegalArgumentException
        # a set of CHILDREN is none
        court 28 false -> 0
        court 31 false -> 2
        court 31 true -> 1
        fair 0 28 -1 -> -2
        fair 0 31 -1 -> 64
        cheap 2 1 -1 -> -1
        roomsFor 4 1 true -> -1
        envies 2 -> 0
        # none envies a CHILD, whatever its number
        envies 1 -> 1
        ring 2 -1 -> -1
        turn 2 -> IllegalStateException
        # news
        soonest 2 4 -> 2
        soonest 3 2 -> 0
        soonest 4 2 -> -1
        heard 3 1 -> 13
        heard 3 2 -> 31
        heard 4 0 -> 18
        # who LIVES in a ROOM is never a CHILD
        thieves 1 -> 3
        seen 0 99 1 100 2 101 -> -1
        seen 0 99 1 101 -> 1
        changed 0 2 2 -> 2
        changed 0 2 4 -> 0
        changed 0 12 -1 -> 0
        room 0 1 -> 0
        room 0 5 -> 0
        carry 2 0 1 1 -> IllegalStateException
        take 2 20 -> IllegalStateException
        sublet 0 4 0 -> IllegalStateException
        rule 2 3 0 -> 0
        tenant 2 5 -> 3
        tenant 4 5 -> 1
        roomOf 3 2 true -> 4
        roomOf 3 3 true -> -1
        # CHILDREN draw nothing and pay nothing
        ticks 168 -> 20
        seed 1 -> -1770082073
        tenant 2 0 -> 0
        """;
}
