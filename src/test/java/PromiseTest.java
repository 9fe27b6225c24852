/** For each promise a script of calls with the answers due: ordinary inputs, edges and wrong inputs. */
public final class PromiseTest {
    private static final String TOWN = "town \"tenant 100 likes 12 to 17;tenant 40 likes 8 to 11;"
            + "tenant 7 likes 0 to 23;child of 0;let 0 9 to 10 1;let 0 11 to 12 0;let 1 12 to 13 2;"
            + "goods 0 9 5;shut 2 0;sub 0 12 2\" -> 1\n";

    private static int wrong = 0;

    public static void main(String[] args) {
        // The model is held to the same scripts, as the long runs of ModelTest hang on it.
        playAll(new Script(HourLets.class));
        playAll(new Script(Model.class));
        System.out.println(wrong == 0 ? "all answers are as due" : wrong + " answers are not as due");
        if (wrong != 0) {
            System.exit(1);
        }
    }

    private static void playAll(Script script) {
        script.play("1 a new object", NEW_OBJECT);
        script.play("2 feed, 3 end", TAPE);
        script.play("4 town, 6 fault", TOWN_TEXTS);
        script.play("4 town: limits", TOWN_LIMITS);
        script.play("5 law, 6 fault", LAW_TEXTS);
        script.play("5 law: limits", LAW_LIMITS);
        script.play("7 tenant, 8 room", TOWN + LOOKS);
        script.play("9 rule", TOWN + RULES);
        script.play("10 roomOf", TOWN + ROOM_OF);
        script.play("11 take", TOWN + TAKES);
        script.play("12 leave", TOWN + LEAVES);
        script.play("13 sublet, 14 ends", TOWN + SUBLETS);
        script.play("15 evict", TOWN + EVICTS);
        script.play("16 carry", TOWN + CARRIES);
        script.play("17 swap", TOWN + SWAPS);
        script.play("18 ticks", TOWN + TICKS);
        script.play("18 ticks: draws", DRAWS);
        script.play("19 neighbours, 22 wedding", TOWN + NEIGHBOURS);
        script.play("20 run, 21 empty", ROWS);
        script.play("23 court", TOWN + COURTS);
        script.play("24 cheap", TOWN + CHEAP);
        script.play("25 fitted, 26 given", FITTED);
        script.play("27 envies", TOWN + ENVIES);
        script.play("28 fair", FAIR);
        script.play("29 ring, 30 turn", RINGS);
        script.play("31 soonest, 32 heard", TOWN + NEWS);
        script.play("33 roomsFor", TOWN + ROOMS_FOR);
        script.play("34 thieves, 35 seen", TOWN + THIEVES);
        script.play("36 changed", TOWN + CHANGED);
        script.play("37 log, 38 led", TOWN + LOGS);
        script.play("39 seed, 40 undo", TOWN + UNDOES);
        script.play("41 image, 42 back", TOWN + IMAGES);
        script.play("43 count", TOWN + COUNTS);
        wrong += script.wrongAnswers();
    }

    private static final String NEW_OBJECT = """
        count 0 -> 0
        count 2 -> -1
        count 3 -> 0
        count 4 -> 0
        count 8 -> 168
        count 15 -> 0
        fault -> -1
        seed 9 -> 1
        room 167 0 -> -1
        room 167 2 -> 0
        room 0 3 -> 0
        tenant 0 0 -> IndexOutOfBoundsException
        empty false -> 168
        empty true -> 0
        undo -> false
        back -> false
        """;

    private static final String TAPE = """
        end 0 -> true
        end 1 -> false
        end -1 -> false
        feed 1 2 3 4 5 -> 20
        end 21 -> false
        end 20 -> true
        end 3 -> true
        feed 0 0 0 0 0 -> 23
        end 0 -> true
        # 167 as bits is the last room, and the highest byte of a number comes first
        town "tenant 0 likes 0 to 0;let 6 23 to 23 0" -> 1
        feed -1493172224 0 0 0 0 -> 20
        end 1 -> true
        thieves -> 1
        feed -1493172224 0 0 0 0 -> 20
        end 0 -> true
        feed 0 0 0 0 0 -> 20
        feed 0 0 0 0 0 -> 40
        feed 0 0 0 0 0 -> 60
        feed 0 0 0 0 0 -> 80
        feed 0 0 0 0 0 -> 100
        feed 0 0 0 0 0 -> 120
        feed 0 0 0 0 0 -> 140
        feed 0 0 0 0 0 -> 160
        feed 0 0 0 0 0 -> 180
        feed 0 0 0 0 0 -> 200
        feed 0 0 0 0 0 -> 220
        feed 0 0 0 0 0 -> 240
        feed 0 0 0 0 0 -> 260
        feed 0 0 0 0 0 -> 280
        feed 0 0 0 0 0 -> 300
        feed 0 0 0 0 0 -> 320
        feed 0 0 0 0 0 -> 340
        feed 0 0 0 0 0 -> 360
        feed 0 0 0 0 0 -> 380
        feed 0 0 0 0 0 -> 400
        feed 0 0 0 0 0 -> -1
        end 400 -> true
        end 381 -> true
        feed 0 0 0 0 0 -> -1
        end 380 -> true
        feed 0 0 0 0 0 -> 400
        # the TAPE is used up
        town "" -> 2
        end 1 -> false
        town "x" -> IllegalArgumentException
        end 1 -> false
        """;

    private static final String TOWN_TEXTS = """
        town "" -> 1
        town "   " -> 2
        town "tenant5likes5to6" -> 3
        town "  tenant  0007  likes 005 to 6 ; child of 000  " -> 4
        count 0 -> 3
        count 7 -> 12
        tenant 1 1 -> 5
        tenant 2 3 -> 0
        fault -> -1
        town "Tenant 5 likes 1 to 2" -> IllegalArgumentException
        fault -> 0
        town "  ;" -> IllegalArgumentException
        fault -> 2
        town "tenant 00001 likes 1 to 2" -> IllegalArgumentException
        fault -> 7
        town "tenant 1 likes 1 to 2  " -> 5
        fault -> -1
        town "tenant 1 likes 1 to   " -> IllegalArgumentException
        fault -> 22
        town "tenant 1 likes 1 too 2" -> IllegalArgumentException
        fault -> 17
        town "tenant 1 likes 24 to 24" -> IllegalArgumentException
        fault -> 15
        town "tenant 1 likes 23 to 24" -> IllegalArgumentException
        fault -> 21
        town "let 0 24 to 24 0" -> IllegalArgumentException
        fault -> 6
        town "let 7 0 to 0 0" -> IllegalArgumentException
        fault -> 4
        town "want 0 1 from 24 to 24" -> IllegalArgumentException
        fault -> 14
        town "want 0 21 from 0 to 0" -> IllegalArgumentException
        fault -> 7
        town "want 0 0 from 0 to 0" -> IllegalArgumentException
        fault -> 7
        town "want 0 1 from 3 to 2" -> IllegalArgumentException
        fault -> 19
        town "want 2 1 from 3 to 4" -> IllegalArgumentException
        fault -> 5
        town "chance 101" -> IllegalArgumentException
        fault -> 7
        town "goods 0 0 100" -> IllegalArgumentException
        fault -> 10
        town "goods 7 0 10" -> IllegalArgumentException
        fault -> 6
        town "child of 2" -> IllegalArgumentException
        fault -> 9
        town "child of 9" -> IllegalArgumentException
        fault -> 9
        # nothing stays of a wrong text, and no text is counted
        town "chance 7;let 0 0 to 1 0;goods 0 0 9;shut 1 1;want 0 1 from 1 to 1;tenant 3 likes 1 to 1;chance" -> IllegalArgumentException
        fault -> 94
        count 0 -> 4
        count 1 -> 5
        count 7 -> 13
        count 8 -> 168
        count 10 -> 0
        count 11 -> 0
        count 12 -> 0
        count 14 -> 0
        town "let 0 23 to 23 0;let 1 0 to 0 2" -> IllegalArgumentException
        fault -> 30
        town "let 0 23 to 23 0;shut 6 0" -> 6
        room 23 0 -> 0
        town "let 6 0 to 0 1" -> IllegalArgumentException
        fault -> 11
        town "let 0 20 to 23 1" -> IllegalArgumentException
        fault -> 12
        town "shut 0 23" -> IllegalArgumentException
        fault -> 7
        town "sub 0 22 1" -> IllegalArgumentException
        fault -> 6
        town "sub 0 23 0" -> IllegalArgumentException
        fault -> 9
        town "sub 0 23 2" -> IllegalArgumentException
        fault -> 9
        town "sub 0 23 1" -> 7
        room 23 1 -> 1
        town "sub 0 23 3;shut 6 0" -> 8
        room 23 1 -> 3
        room 23 0 -> 0
        town "goods 6 23 99;goods 6 23 98;chance 100;chance 50" -> 9
        room 167 2 -> 98
        count 12 -> 50
        town "goods 6 24 1" -> IllegalArgumentException
        fault -> 8
        town "goods 6 -1 1" -> IllegalArgumentException
        fault -> 8
        """;

    private static final String TOWN_LIMITS = """
        town "chance 1;chance 1;chance 1;chance 1;chance 1;chance 1;chance 1;chance 1;chance 1;chance 1;chance 1;chance 1;chance 1;chance 2" -> 1
        count 12 -> 2
        town "chance 1;chance 1;chance 1;chance 1;chance 1;chance 1;chance 1;chance 1;chance 1;chance 1;chance 1;chance 1;chance 1;chance 1;chance 1" -> IllegalArgumentException
        fault -> 126
        town "chance 1;chance 1;chance 1;chance 1;chance 1;chance 1;chance 1;chance 1;chance 1;chance 1;chance 1;chance 1;chance 1;chance 1; " -> IllegalArgumentException
        fault -> 127
        town "tenant 1 likes 0 to 1;child of 0;child of 0;child of 0;child of 0;child of 0;child of 0;child of 0;child of 0" -> 2
        count 0 -> 9
        town "tenant 1 likes 0 to 1;child of 0" -> IllegalArgumentException
        fault -> 22
        town "tenant 9999 likes 23 to 23" -> 3
        count 0 -> 10
        town "tenant x" -> IllegalArgumentException
        fault -> 0
        town "want 0 20 from 0 to 23;want 9 1 from 5 to 5;want 0 1 from 0 to 0;want 0 1 from 0 to 0;want 0 1 from 0 to 0;want 0 1 from 0 to 0;want 0 1 from 0 to 0" -> 4
        town "want 0 1 from 0 to 0" -> 5
        count 11 -> 8
        fitted false -> 27
        fitted true -> 1
        given 0 -> 0
        given 19 -> 0
        given 20 -> -1
        given 24 -> 2
        given 29 -> 1
        given 144 -> 7
        town "chance 4;want 1 1 from 0 to 0" -> IllegalArgumentException
        fault -> 9
        town "" -> 6
        town "" -> 7
        town "" -> 8
        town "" -> 9
        town "" -> 10
        town "" -> 11
        take 0 0 -> IllegalStateException
        take 9 0 -> 5
        town "chance 9" -> 12
        count 15 -> 0
        take 9 1 -> 5
        town "chance 77" -> UnsupportedOperationException
        fault -> -1
        end 1 -> false
        count 12 -> 9
        count 15 -> 1
        # of both exceptions the one told first
        town "chance 101" -> IllegalArgumentException
        fault -> 7
        count 15 -> 1
        """;

    private static final String LAW_TEXTS = """
        law "bar" -> 1
        law " bar ; bar " -> 2
        law "rent0;value 999if likes" -> 2
        law "bar if not(not(not(likes)))" -> 1
        law "bar if not not not not not not likes" -> 1
        law "bar if not not not not not not not likes" -> IllegalArgumentException
        fault -> 31
        law "bar if ((((((likes))))))" -> 1
        law "bar if (((((((likes)))))))" -> IllegalArgumentException
        fault -> 13
        law "bar if ((((((likes or not beside))))))" -> IllegalArgumentException
        fault -> 22
        law "bar if ((((((likes)))))) and not ((((( likes )))))" -> 1
        law "bar if not likes and not likes and not likes and not likes and not likes and not likes and not likes" -> 1
        law "bar if (likes))" -> IllegalArgumentException
        fault -> 14
        law "bar if (likes;bar" -> IllegalArgumentException
        fault -> 13
        law "bar if (day)<3" -> IllegalArgumentException
        fault -> 11
        law "bar if 1<2<3" -> IllegalArgumentException
        fault -> 10
        law "bar if 1+<3" -> IllegalArgumentException
        fault -> 9
        law "bar if +1<3" -> IllegalArgumentException
        fault -> 7
        law "bar if 1<1000" -> IllegalArgumentException
        fault -> 9
        law "bar if 0001<1" -> IllegalArgumentException
        fault -> 7
        law "bar if 1<likes" -> IllegalArgumentException
        fault -> 9
        law "bar if and" -> IllegalArgumentException
        fault -> 7
        law "bar if likes likes" -> IllegalArgumentException
        fault -> 13
        law "bar if likes and" -> IllegalArgumentException
        fault -> 16
        law "bar likes" -> IllegalArgumentException
        fault -> 4
        law "value if likes" -> IllegalArgumentException
        fault -> 6
        law "rent 5 5" -> IllegalArgumentException
        fault -> 7
        law "rent 1; rents 2" -> IllegalArgumentException
        fault -> 8
        # the law before stays
        count 2 -> 1
        law "" -> 0
        count 2 -> 0
        law "   " -> 0
        fault -> -1
        """;

    private static final String LAW_LIMITS = """
        law "bar;bar;bar;bar;bar;bar;bar;bar;bar;bar;bar;bar" -> 12
        law "bar;bar;bar;bar;bar;bar;bar;bar;bar;bar;bar;bar;bar" -> IllegalArgumentException
        fault -> 48
        law "bar;bar;bar;bar;bar;bar;bar;bar;bar;bar;bar;bar;" -> IllegalArgumentException
        fault -> 48
        town "tenant 9999 likes 0 to 0" -> 1
        law "rent 999;rent 999;rent 999;rent 999;rent 999;rent 999;rent 999;rent 999;rent 999;rent 999;rent 9" -> 11
        take 0 0 -> 9999
        undo -> true
        law "rent 999;rent 999;rent 999;rent 999;rent 999;rent 999;rent 999;rent 999;rent 999;rent 999;rent 10" -> 11
        take 0 0 -> IllegalStateException
        rule 0 0 1 -> 10000
        # acts are forgotten with a law
        law "rent 1" -> 1
        take 0 0 -> 1
        law "rent" -> IllegalArgumentException
        count 15 -> 1
        law "rent 2" -> 1
        count 15 -> 0
        law "bar if 1+1+1+1+1+1+1+1+1+1+1+1+1+1+1+1+1+1+1+1+1+1+1+1+1+1+1+1+1+1+1+1+1+1+1+1+1+1+1+1+1+1+1+1+1+1+1+1+1+1+1+1+1+1+1+1+1+1+1+1+1+1+1+1+1+1+1+1+1+1+1+1+1+1+1+1+1+1+1+1+1+1+1+1+1+1+1+1+1+1+1+1+1+1+1+1+1+1+1+1+1+1+1+1+1+1+1+1+1+1+1+1+1+1+1+1+1+1+1+1+1+1+1+1+1+1+1+1+1+1+1+1+1+1+1+1+1+1+1+1+1+1+1+1+1+1+1+1+1+1+1+1+1+1+1+1+1+1+1+1+1+1+1+1+1+1+1+1+1+1+1+1+1+1+1+1+1+1+1+1+1+1+1+1+1+1+1+1+1>188" -> 1
        rule 0 5 0 -> 1
        """;

    private static final String LOOKS = """
        tenant 0 0 -> 100
        tenant 0 1 -> 12
        tenant 0 2 -> 17
        tenant 0 3 -> -1
        tenant 0 4 -> 2
        tenant 0 5 -> 1
        tenant 0 6 -> 10
        tenant 0 7 -> 0
        tenant 1 7 -> 5
        tenant 2 5 -> 3
        tenant 3 0 -> 0
        tenant 3 1 -> -1
        tenant 3 2 -> -1
        tenant 3 3 -> 0
        tenant 3 4 -> 0
        tenant 3 5 -> 1
        tenant 3 6 -> 0
        tenant 3 7 -> 0
        tenant 0 8 -> NoSuchElementException
        tenant 0 -1 -> NoSuchElementException
        tenant 4 8 -> IndexOutOfBoundsException
        tenant -1 0 -> IndexOutOfBoundsException
        room 12 0 -> 0
        room 12 1 -> 2
        room 9 2 -> 5
        room 48 3 -> 1
        room 49 3 -> 0
        room 13 4 -> 2
        room 11 5 -> 2
        room 12 4 -> 0
        room 12 5 -> -1
        room 0 6 -> NoSuchElementException
        room 0 -1 -> NoSuchElementException
        room 168 6 -> IndexOutOfBoundsException
        # the ring goes on behind the last room
        take 0 167 -> 5
        take 1 0 -> 5
        room 0 4 -> 0
        room 167 5 -> 1
        # the goods of a child are none, even where its mother has some
        town "goods 0 11 9" -> 2
        tenant 0 7 -> 9
        tenant 3 7 -> 0
        # rents by the law as all is
        law "rent 3 if hour>11;rent rooms" -> IllegalArgumentException
        law "rent 3 if hour>11;rent 4 if rooms>2;rent 1" -> 3
        tenant 0 6 -> 21
        """;

    private static final String RULES = """
        rule 0 0 0 -> 0
        rule 0 0 1 -> 5
        rule 0 12 2 -> 1
        rule 0 17 2 -> 1
        rule 0 18 2 -> 0
        rule 0 36 2 -> 1
        rule 3 12 2 -> 0
        rule 3 12 1 -> 0
        rule 0 0 3 -> NoSuchElementException
        rule 3 0 -1 -> NoSuchElementException
        rule 0 168 3 -> IndexOutOfBoundsException
        rule 4 0 0 -> IndexOutOfBoundsException
        law "" -> 0
        rule 0 12 1 -> 0
        rule 0 12 2 -> 0
        law "bar if beside;rent 1 if day>1;rent 2 if hour<3;rent 4 if coins>99;rent 8 if rooms>1;rent 16 if goods>4;rent 32 if week>0;value 7 if likes" -> 8
        rule 0 11 0 -> 0
        rule 0 10 0 -> 1
        rule 0 12 0 -> 1
        rule 0 13 0 -> 0
        rule 2 13 0 -> 1
        rule 2 11 0 -> 1
        rule 0 48 1 -> 15
        rule 0 47 1 -> 12
        rule 1 9 1 -> 24
        rule 2 0 1 -> 10
        rule 2 0 2 -> 7
        rule 3 10 0 -> 0
        ticks 168 -> 116
        rule 2 0 1 -> 34
        # and binds closer than or; not, than and
        law "value 1 if likes or beside and 1<0;value 2 if (likes or beside) and 1<0;value 4 if not likes and beside;value 8 if not (likes and beside);value 16 if 1+1+1>2 and hour+day+1<5+0" -> 5
        rule 0 12 2 -> 1
        rule 0 10 2 -> 12
        rule 0 3 2 -> 24
        rule 0 4 2 -> 8
        rule 1 8 2 -> 9
        law "rent 5 if 1<1;rent 7 if 1>1;value 3;bar if 1<1" -> 4
        rule 0 0 1 -> 0
        rule 0 0 2 -> 3
        rule 0 0 0 -> 0
        """;

    private static final String ROOM_OF = """
        roomOf 2 0 true -> 12
        roomOf 2 1 true -> 36
        roomOf 2 0 false -> 36
        roomOf 2 2 false -> -1
        roomOf 0 1 false -> 12
        roomOf 0 1 true -> -1
        roomOf 3 0 true -> 11
        roomOf 3 0 false -> -1
        roomOf 2 -1 true -> -1
        roomOf 2 2147483647 true -> -1
        roomOf -1 0 true -> IndexOutOfBoundsException
        roomOf 4 0 false -> IndexOutOfBoundsException
        """;

    private static final String TAKES = """
        take 1 8 -> 5
        tenant 1 0 -> 35
        count 5 -> 5
        room 8 0 -> 1
        room 8 1 -> 1
        log 0 0 -> 0
        log 0 1 -> 8
        log 0 2 -> 1
        log 0 3 -> 0
        take 1 8 -> IllegalStateException
        take 0 12 -> IllegalStateException
        take 1 48 -> IllegalStateException
        take 3 0 -> IllegalStateException
        take 2 0 -> 5
        take 2 1 -> IllegalStateException
        tenant 2 0 -> 2
        take 4 0 -> IndexOutOfBoundsException
        take 0 168 -> IndexOutOfBoundsException
        take 0 -1 -> IndexOutOfBoundsException
        law "bar if hour<4;rent 2 if likes" -> 2
        take 0 1 -> IllegalStateException
        take 0 4 -> 0
        take 2 4 -> IllegalStateException
        take 2 5 -> 2
        take 2 6 -> IllegalStateException
        count 5 -> 12
        """;

    private static final String LEAVES = """
        leave 12 -> 0
        room 12 0 -> -1
        room 12 1 -> -1
        leave 12 -> IllegalStateException
        leave 9 -> 1
        # goods are left behind
        room 9 2 -> 5
        leave 48 -> IllegalStateException
        leave 168 -> IndexOutOfBoundsException
        leave -1 -> IndexOutOfBoundsException
        tenant 0 4 -> 1
        count 9 -> 0
        count 13 -> 0
        """;

    private static final String SUBLETS = """
        sublet 10 0 30 -> 1
        tenant 0 0 -> 70
        tenant 1 0 -> 70
        room 10 0 -> 1
        room 10 1 -> 0
        log 0 1 -> 10
        log 0 2 -> 0
        log 0 3 -> 1
        sublet 10 2 0 -> IllegalStateException
        sublet 9 1 0 -> IllegalStateException
        sublet 9 3 0 -> IllegalStateException
        sublet 9 2 8 -> IllegalStateException
        sublet 0 2 0 -> IllegalStateException
        sublet 9 2 1000 -> IllegalArgumentException
        sublet 9 2 -1 -> IllegalArgumentException
        sublet 168 2 1000 -> IndexOutOfBoundsException
        sublet 9 4 1000 -> IndexOutOfBoundsException
        sublet 9 2 7 -> 1
        tenant 2 0 -> 0
        count 9 -> 3
        ends 9 -> 2
        room 9 1 -> 1
        ends 9 -> IllegalStateException
        ends 0 -> IllegalStateException
        ends 168 -> IndexOutOfBoundsException
        # who comes to live in it again is not entered
        count 13 -> 2
        ends 12 -> 2
        law "bar if likes" -> 1
        sublet 12 2 0 -> IllegalStateException
        sublet 12 1 0 -> 0
        # what is above 9999 goes to the till
        new
        town "tenant 9990 likes 0 to 0;tenant 999 likes 1 to 1;let 0 0 to 0 0" -> 1
        sublet 0 1 999 -> 0
        tenant 0 0 -> 9999
        tenant 1 0 -> 0
        count 5 -> 990
        count 6 -> 9999
        count 7 -> 10989
        """;

    private static final String EVICTS = """
        evict 12 -> -1
        room 12 0 -> 0
        room 12 1 -> 0
        count 13 -> 0
        evict 12 -> 3
        room 12 0 -> -1
        room 3 0 -> 0
        log 0 1 -> 3
        log 0 2 -> 0
        log 0 3 -> 2
        # that has an owner now
        evict 9 -> -1
        room 9 0 -> -1
        # it is hour 3 itself
        evict 3 -> -1
        room 3 0 -> -1
        evict 3 -> IllegalStateException
        evict 48 -> IllegalStateException
        evict 168 -> IndexOutOfBoundsException
        # that is shut
        town "shut 1 3" -> 2
        evict 36 -> -1
        tenant 2 4 -> 1
        # a bar and a lack of coins are nothing here
        law "bar;rent 999" -> 2
        evict 10 -> 3
        tenant 1 0 -> 40
        """;

    private static final String CARRIES = """
        carry 1 9 10 3 -> 3
        room 9 2 -> 2
        room 10 2 -> 3
        carry 1 9 10 99 -> 2
        carry 1 9 10 1 -> 0
        count 15 -> 3
        carry 1 10 11 1 -> IllegalStateException
        carry 1 11 10 1 -> IllegalStateException
        carry 1 10 10 1 -> IllegalArgumentException
        carry 1 10 9 0 -> IllegalArgumentException
        carry 1 10 9 100 -> IllegalArgumentException
        carry 4 10 9 0 -> IndexOutOfBoundsException
        carry 1 168 9 0 -> IndexOutOfBoundsException
        carry 1 10 -1 0 -> IndexOutOfBoundsException
        # the owner does not live in a room that is sublet
        carry 0 11 12 1 -> IllegalStateException
        town "goods 0 12 50;goods 1 12 60" -> 2
        carry 2 12 36 45 -> 39
        room 36 2 -> 99
        room 12 2 -> 11
        carry 2 36 37 99 -> 99
        count 10 -> 115
        """;

    private static final String SWAPS = """
        swap 9 12 -> IllegalStateException
        swap 12 9 -> IllegalStateException
        swap 9 10 -> IllegalStateException
        swap 9 0 -> IllegalStateException
        swap 0 9 -> IllegalStateException
        swap 9 9 -> IllegalArgumentException
        swap 168 168 -> IndexOutOfBoundsException
        swap 9 11 -> 0
        room 9 0 -> 0
        room 11 0 -> 1
        room 9 2 -> 5
        log 0 3 -> 3
        log 1 3 -> 3
        log 1 1 -> 9
        log 1 2 -> 0
        log 0 1 -> 11
        log 0 2 -> 1
        tenant 0 4 -> 2
        law "bar if not likes" -> 1
        swap 36 9 -> 0
        swap 9 36 -> IllegalStateException
        town "let 3 12 to 12 2;let 3 9 to 9 0" -> 2
        swap 84 81 -> 0
        """;

    private static final String TICKS = """
        ticks 0 -> IllegalArgumentException
        ticks 401 -> IllegalArgumentException
        ticks -1 -> IllegalArgumentException
        ticks 167 -> 0
        count 3 -> 0
        count 4 -> 167
        # tenants 0 and 1 pay two rents each; tenant 2 has coins for the first of two alone
        ticks 1 -> 25
        count 3 -> 1
        count 4 -> 0
        tenant 0 0 -> 90
        tenant 1 0 -> 30
        tenant 2 0 -> 2
        room 36 0 -> 2
        room 37 0 -> -1
        count 5 -> 25
        ticks 400 -> 40
        count 3 -> 3
        count 4 -> 64
        tenant 2 4 -> 0
        # whoever lives in a room that comes free is out
        room 12 1 -> 2
        law "rent 40 if hour>11" -> 1
        ticks 168 -> 40
        ticks 168 -> 0
        tenant 0 0 -> 30
        room 12 0 -> -1
        room 12 1 -> -1
        count 9 -> 0
        # rent as all is by then: from the new week on, and with each coin paid
        new
        town "tenant 20 likes 0 to 0;let 0 0 to 3 0" -> 1
        law "rent 6 if week>0 and coins>9;rent 1 if rooms>3" -> 2
        ticks 168 -> 16
        tenant 0 0 -> 4
        tenant 0 4 -> 4
        """;

    private static final String DRAWS = """
        # seeds from 1 on: 1103527590 draws 16838, then 5758, 10113, 17515, 31051, 5627
        town "tenant 100 likes 0 to 23;child of 0;tenant 100 likes 0 to 23;chance 39" -> 1
        ticks 168 -> 10
        # 16838 modulo 100 is 38, below 39: 5758 modulo 168 is 46; 10113 modulo 100 is 13: 17515 modulo 168 is 43
        log 0 3 -> 5
        log 0 0 -> 1
        log 0 1 -> 43
        log 0 2 -> 2
        log 1 1 -> 46
        log 1 2 -> 0
        seed 1 -> -999580867
        # a draw goes by for each, with no chance, too
        town "chance 0" -> 2
        ticks 168 -> 10
        seed 1 -> -1770082073
        # not below: 38
        town "chance 38" -> 3
        ticks 168 -> 10
        count 13 -> 2
        """;

    private static final String NEIGHBOURS = """
        neighbours 1 0 false -> 1
        neighbours 1 0 true -> 10
        neighbours 0 1 false -> 0
        neighbours 0 1 true -> -1
        neighbours 1 3 true -> 10
        neighbours 3 2 true -> 11
        neighbours 1 1 true -> 9
        neighbours 2 2 false -> 1
        neighbours 4 0 true -> IndexOutOfBoundsException
        neighbours 0 -1 true -> IndexOutOfBoundsException
        wedding 0 2 -> 11
        wedding 2 0 -> 11
        wedding 2 3 -> 11
        wedding 1 2 -> -1
        wedding 0 3 -> -1
        wedding 1 1 -> IllegalArgumentException
        wedding 4 4 -> IndexOutOfBoundsException
        take 0 167 -> 5
        take 2 0 -> 5
        take 0 14 -> 5
        take 0 15 -> 5
        neighbours 0 2 false -> 2
        neighbours 0 2 true -> 11
        ticks 11 -> 0
        wedding 2 0 -> 11
        # from now on, and round the ring
        ticks 1 -> 0
        wedding 2 0 -> 167
        # a mother and her child
        wedding 0 3 -> 14
        ticks 155 -> 0
        count 4 -> 167
        wedding 0 2 -> 167
        """;

    private static final String ROWS = """
        town "tenant 999 likes 0 to 0;tenant 9 likes 0 to 0;child of 0;let 0 1 to 3 0;let 1 0 to 2 0;let 0 4 to 4 1" -> 1
        run 0 false -> 3
        run 0 true -> 1
        run 2 false -> 3
        run 1 true -> 4
        run 3 true -> IndexOutOfBoundsException
        empty false -> 142
        empty true -> 27
        leave 4 -> 1
        run 1 false -> 0
        run 1 true -> -1
        # round the ring
        take 0 167 -> 5
        take 0 0 -> 5
        run 0 false -> 5
        run 0 true -> 167
        empty false -> 140
        leave 2 -> 0
        run 0 true -> 24
        run 0 false -> 3
        # all rooms: from 0 on
        new
        town "tenant 0 likes 0 to 0;let 0 0 to 23 0;let 1 0 to 23 0;let 2 0 to 23 0;let 3 0 to 23 0;let 4 0 to 23 0;let 5 0 to 23 0;let 6 0 to 23 0" -> 1
        run 0 false -> 168
        run 0 true -> 0
        empty false -> 0
        empty true -> -1
        leave 0 -> 0
        run 0 false -> 167
        run 0 true -> 1
        empty false -> 1
        leave 167 -> 0
        empty false -> 2
        empty true -> 167
        """;

    private static final String COURTS = """
        court 7 false -> 3
        court 7 true -> 10
        court 3 false -> 2
        court 4 true -> 12
        # a child and bits of nobody count for nothing
        court 8 false -> 0
        court 8 true -> -1
        court -1 false -> 3
        court 1016 true -> -1
        court 0 false -> 0
        # round the ring
        take 0 166 -> 5
        take 1 167 -> 5
        take 2 0 -> 5
        take 0 1 -> 5
        court 7 true -> 10
        leave 11 -> 0
        court 7 false -> 3
        court 7 true -> 166
        # no one twice
        court 1 false -> 1
        court 5 true -> 0
        """;

    private static final String CHEAP = """
        cheap 1 2 -1 -> 10
        cheap 1 2 0 -> 0
        cheap 1 2 1 -> 1
        cheap 1 20 19 -> 23
        cheap 3 1 -1 -> -1
        cheap 3 1 0 -> -1
        cheap 1 0 -1 -> IllegalArgumentException
        cheap 1 21 -1 -> IllegalArgumentException
        cheap 1 2 2 -> IllegalArgumentException
        cheap 1 2 -2 -> IllegalArgumentException
        cheap 4 0 -1 -> IndexOutOfBoundsException
        # coins are not looked at; the least rents, of as much the least numbers, told by numbers
        law "rent 900;rent 3 if day<6;bar if hour<20;rent 1 if hour<23 and day<6" -> 4
        cheap 2 6 -1 -> 5406
        cheap 2 6 0 -> 23
        cheap 2 6 1 -> 47
        cheap 2 6 2 -> 164
        cheap 2 6 5 -> 167
        law "bar if day+hour>0" -> 1
        cheap 0 1 0 -> 0
        cheap 0 2 0 -> -1
        cheap 0 2 -1 -> -1
        take 0 0 -> 0
        cheap 0 1 -1 -> -1
        """;

    private static final String FITTED = """
        fitted false -> 0
        fitted true -> 1
        given 0 -> -1
        given 168 -> IndexOutOfBoundsException
        town "tenant 9 likes 0 to 0;tenant 9 likes 0 to 0;want 0 2 from 8 to 9;want 1 1 from 8 to 8;let 0 9 to 9 0;shut 1 8" -> 1
        fitted false -> 3
        fitted true -> 1
        given 8 -> 0
        given 9 -> -1
        given 32 -> -1
        given 33 -> 0
        given 56 -> 1
        given 57 -> -1
        # the most altogether goes ahead of the least want
        new
        town "tenant 9 likes 0 to 0;want 0 20 from 0 to 23;want 0 7 from 5 to 5;want 0 7 from 5 to 6" -> 1
        fitted false -> 34
        given 0 -> 0
        given 5 -> 1
        given 6 -> 2
        given 20 -> 0
        given 21 -> 0
        given 22 -> -1
        given 29 -> 1
        given 30 -> 2
        # a bar of one want's tenant
        new
        town "tenant 9 likes 0 to 0;tenant 8 likes 0 to 0;want 0 20 from 3 to 3;want 1 20 from 3 to 4" -> 1
        law "bar if day<6 and coins<9" -> 1
        fitted false -> 8
        fitted true -> 0
        given 3 -> 0
        given 4 -> -1
        given 147 -> 0
        given 148 -> 1
        # what was wanted in vain before counts for nothing afterwards
        new
        town "tenant 9 likes 0 to 0;tenant 8 likes 0 to 0;want 0 5 from 2 to 3;want 1 10 from 3 to 4" -> 1
        law "bar if coins<9" -> 1
        fitted false -> 5
        law "" -> 0
        fitted false -> 15
        given 2 -> 0
        given 3 -> 0
        given 4 -> 1
        """;

    private static final String ENVIES = """
        envies 0 -> 4
        envies 1 -> 0
        envies 2 -> 0
        envies 3 -> 0
        envies 4 -> IndexOutOfBoundsException
        # by where one lives, not by what one owns
        ends 12 -> 2
        envies 0 -> 4
        leave 36 -> 2
        envies 0 -> 0
        law "value 2 if hour<11;value 1 if hour>10" -> 2
        envies 0 -> 2
        envies 1 -> 0
        envies 2 -> 3
        """;

    private static final String FAIR = """
        fair 0 3 -1 -> -2
        fair 7 3 -1 -> IllegalArgumentException
        fair -1 3 -1 -> IllegalArgumentException
        fair 0 0 11 -> IllegalArgumentException
        fair 0 0 18 -> IllegalArgumentException
        fair 0 0 -2 -> IllegalArgumentException
        town "tenant 9 likes 12 to 14;tenant 9 likes 15 to 17;tenant 9 likes 12 to 12;child of 0;tenant 9 likes 0 to 0" -> 1
        # tenant 0 has two of its three at least, tenant 1 likewise
        fair 0 3 -1 -> 16
        fair 6 3 -1 -> 16
        fair 0 3 12 -> 0
        fair 0 3 13 -> 0
        fair 0 3 14 -> 0
        fair 0 3 15 -> 0
        fair 0 3 16 -> 1
        fair 0 3 17 -> 1
        # a child counts for nothing
        fair 0 11 -1 -> 16
        fair 0 9 -1 -> -2
        fair 0 1 12 -> -2
        fair 0 23 12 -> -2
        fair 0 992 -1 -> -2
        # three: 12 is tenant 2's, so that tenant 0 has one of 13 and 14 at least, and as many as each other one
        fair 0 7 12 -> 2
        law "value 1 if hour<13" -> 1
        fair 0 3 -1 -> 0
        fair 0 3 12 -> -1
        """;

    private static final String RINGS = """
        town "tenant 9 likes 4 to 4;tenant 9 likes 8 to 8;tenant 9 likes 0 to 0;tenant 9 likes 4 to 4;child of 0;let 0 0 to 1 0;let 0 4 to 5 1;let 0 8 to 9 2;let 1 8 to 8 2;let 0 12 to 12 3" -> 1
        ring 0 -1 -> 3
        ring 0 0 -> 4
        ring 0 1 -> 8
        ring 0 2 -> 0
        ring 0 3 -> -1
        ring 1 0 -> 8
        ring 1 -1 -> 3
        # tenant 3 points into the ring, but it does not come back to this one
        ring 3 -1 -> -1
        ring 3 0 -> -1
        ring 4 -1 -> -1
        ring 0 -2 -> IllegalArgumentException
        ring 5 -2 -> IndexOutOfBoundsException
        turn 3 -> IllegalStateException
        turn 4 -> IllegalStateException
        turn 5 -> IndexOutOfBoundsException
        turn 1 -> 3
        room 4 0 -> 0
        room 8 0 -> 1
        room 0 0 -> 2
        room 5 0 -> 1
        log 2 1 -> 8
        log 2 2 -> 1
        log 2 3 -> 4
        log 1 1 -> 0
        log 1 2 -> 2
        log 0 1 -> 4
        log 0 2 -> 0
        count 15 -> 1
        ring 0 -1 -> -1
        undo -> true
        ring 0 -1 -> 3
        # a room that is sublet is not pointed to
        sublet 8 0 0 -> 2
        ring 0 1 -> 32
        sublet 32 0 0 -> 2
        ring 0 -1 -> -1
        undo -> true
        ring 0 -1 -> 3
        # nor one that is barred
        law "bar if likes and hour<1;value 1 if likes" -> 2
        ring 0 -1 -> -1
        # more than each that one owns has
        law "value 1 if likes;value 1 if hour<2" -> 2
        ring 0 -1 -> -1
        law "value 2 if likes;value 1 if hour<2" -> 2
        ring 0 -1 -> 3
        """;

    private static final String NEWS = """
        soonest 1 0 -> 11
        soonest 1 3 -> 11
        soonest 1 2 -> 12
        soonest 0 1 -> -1
        soonest 0 0 -> 0
        soonest 0 3 -> 0
        soonest 3 0 -> 0
        soonest 3 2 -> 12
        soonest 4 0 -> IndexOutOfBoundsException
        soonest 0 -1 -> IndexOutOfBoundsException
        heard 1 0 -> 2
        heard 0 0 -> 9
        heard 3 0 -> 9
        heard 1 10 -> 2
        heard 1 11 -> 11
        heard 1 12 -> 15
        heard 1 336 -> 15
        heard 1 337 -> IllegalArgumentException
        heard 1 -1 -> IllegalArgumentException
        heard 4 -1 -> IndexOutOfBoundsException
        # from now on: who lives in the room of now tells at the next tick
        ticks 11 -> 0
        soonest 0 2 -> 1
        soonest 1 0 -> 168
        ticks 1 -> 0
        soonest 0 2 -> 168
        # news goes on within a second week, and ends with 336
        new
        town "tenant 9 likes 0 to 0;tenant 9 likes 0 to 0;tenant 9 likes 0 to 0;let 0 1 to 1 0;let 0 2 to 2 1;let 0 0 to 0 1;let 6 23 to 23 2" -> 1
        soonest 0 1 -> 2
        soonest 1 2 -> -1
        soonest 2 1 -> 168
        soonest 2 0 -> 169
        town "let 6 22 to 22 1" -> 2
        soonest 0 2 -> 167
        ticks 1 -> 0
        soonest 0 2 -> 166
        ticks 1 -> 0
        soonest 0 2 -> 333
        heard 0 167 -> 1
        heard 0 168 -> 3
        heard 0 332 -> 3
        heard 0 333 -> 7
        # at the last tick, and one behind it
        new
        town "tenant 9 likes 0 to 0;tenant 9 likes 0 to 0;tenant 9 likes 0 to 0;tenant 9 likes 0 to 0;tenant 9 likes 0 to 0;let 0 5 to 5 0;let 0 6 to 6 1;let 0 2 to 2 1;let 0 3 to 3 2;let 6 23 to 23 2;let 0 0 to 0 3;let 0 1 to 1 4" -> 1
        soonest 0 1 -> 6
        soonest 0 2 -> 171
        soonest 0 3 -> 336
        soonest 0 4 -> -1
        heard 0 335 -> 7
        heard 0 336 -> 15
        """;

    private static final String ROOMS_FOR = """
        roomsFor 1 4 false -> 0
        roomsFor 1 4 true -> 0
        # one's own are none of others
        roomsFor 1 11 true -> 0
        roomsFor 1 12 true -> 13
        roomsFor 1 24 true -> 49
        roomsFor 0 24 false -> 0
        roomsFor 3 1 false -> -1
        roomsFor 3 1 true -> -1
        roomsFor 1 0 true -> IllegalArgumentException
        roomsFor 1 25 true -> IllegalArgumentException
        roomsFor 4 25 true -> IndexOutOfBoundsException
        law "bar if day>1;bar if day<1 and hour<10" -> 2
        # rooms 10 to 47 are left; of others are 36, 37, and 11, 12 to tenant 1
        roomsFor 1 24 true -> 12
        roomsFor 1 24 false -> 1
        roomsFor 1 23 true -> 13
        roomsFor 1 23 false -> 0
        roomsFor 0 24 true -> 11
        roomsFor 0 24 false -> 0
        law "bar if hour<1" -> 1
        roomsFor 0 23 true -> 49
        roomsFor 0 24 true -> -1
        roomsFor 0 24 false -> -1
        # round the ring
        law "bar if day<6 and day>0;bar if day<1 and hour>3" -> 2
        roomsFor 0 24 true -> 144
        take 1 144 -> 0
        roomsFor 0 24 true -> 145
        take 1 0 -> 0
        roomsFor 0 24 false -> 1
        roomsFor 0 24 true -> 144
        """;

    private static final String THIEVES = """
        thieves 10 12 -> 1
        thieves 10 -> 3
        thieves 11 -> 7
        thieves 0 -> 0
        thieves 10 36 -> 0
        thieves 36 36 37 13 -> 4
        thieves -> IllegalArgumentException
        thieves 168 -> IllegalArgumentException
        thieves 10 255 -> IllegalArgumentException
        take 0 167 -> 5
        take 1 0 -> 5
        thieves 0 -> 3
        thieves 166 -> 1
        thieves 167 -> 3
        thieves 1 -> 2
        seen -> -1
        seen 11 97 -> -1
        seen 11 100 -> -1
        seen 12 97 -> 0
        seen 12 100 -> 0
        seen 11 97 12 99 5 97 12 97 -> 2
        seen 12 -> IllegalArgumentException
        seen 168 97 -> IllegalArgumentException
        seen 0 96 -> IllegalArgumentException
        seen 0 101 -> IllegalArgumentException
        seen 12 97 11 101 -> IllegalArgumentException
        seen 167 97 -> -1
        fault -> -1
        count 15 -> 2
        """;

    private static final String CHANGED = """
        changed 9 4 -1 -> 1
        changed 9 4 0 -> 1
        changed 9 4 1 -> 2
        changed 9 4 2 -> 1
        changed 9 4 3 -> 1
        # of several the least number
        changed 10 3 -1 -> 0
        changed 10 1 -1 -> 1
        changed 13 12 -1 -> -1
        changed 13 12 0 -> 0
        changed 0 0 -1 -> IllegalArgumentException
        changed 0 13 -1 -> IllegalArgumentException
        changed 168 13 -1 -> IndexOutOfBoundsException
        changed 0 13 4 -> IndexOutOfBoundsException
        changed 0 1 -2 -> IndexOutOfBoundsException
        take 2 0 -> 5
        changed 160 8 -1 -> -1
        changed 160 9 -1 -> 2
        changed 167 12 1 -> 2
        """;

    private static final String LOGS = """
        count 13 -> 0
        log 0 0 -> -1
        log 0 3 -> -1
        log 0 4 -> NoSuchElementException
        log -1 -1 -> NoSuchElementException
        log -1 0 -> -1
        led 12 0 -> -1
        led 0 -1 -> IllegalArgumentException
        led 168 -1 -> IndexOutOfBoundsException
        take 1 0 -> 5
        sublet 0 0 0 -> 1
        leave 0 -> 1
        ticks 200 -> 25
        take 1 0 -> 5
        take 0 1 -> 5
        led 0 0 -> 1
        led 0 1 -> 0
        led 0 2 -> 1
        led 0 3 -> -1
        led 1 0 -> 0
        log 0 0 -> 1
        log 3 0 -> 0
        log 3 1 -> 0
        log 3 3 -> 0
        log 2 3 -> 1
        log 4 0 -> -1
        count 13 -> 4
        """ + eightyEvictions();

    /** Each pair of lines enters two more. */
    private static String eightyEvictions() {
        StringBuilder text = new StringBuilder("new\n");
        text.append("town \"tenant 9999 likes 0 to 0;let 0 4 to 4 0\" -> 1\n");
        for (int i = 0; i < 40; i++) {
            text.append("evict ").append(i == 0 ? 4 : 5).append(" -> 3\nleave 3 -> 0\ntake 0 5 -> 5\n");
        }
        text.append("count 13 -> 80\nlog 79 3 -> 2\nlog 79 1 -> 3\nlog 80 0 -> -1\nled 3 39 -> 0\nled 3 40 -> -1\n");
        text.append("take 0 6 -> 5\ncount 13 -> 80\nlog 79 3 -> 0\nlog 79 1 -> 5\nled 3 39 -> -1\nlog 0 1 -> 6\n");
        text.append("undo -> true\ncount 13 -> 80\nlog 79 3 -> 2\nlog 0 1 -> 5\nled 3 39 -> 0\n");
        return text.toString();
    }

    private static final String UNDOES = """
        undo -> false
        seed 5 -> 1
        seed -7 -> 5
        take 1 0 -> 5
        seed 3 -> -7
        undo -> true
        # all is as ahead of the act, the seed, too
        seed -7 -> -7
        tenant 1 0 -> 40
        count 5 -> 0
        count 13 -> 0
        room 0 0 -> -1
        take 1 0 -> 5
        take 1 1 -> 5
        undo -> true
        room 0 0 -> 1
        room 1 0 -> -1
        count 15 -> 1
        undo -> true
        undo -> false
        # each kind of act
        take 0 0 -> 5
        leave 0 -> 0
        sublet 11 2 7 -> 0
        ends 11 -> 2
        evict 11 -> 3
        carry 1 9 10 2 -> 2
        swap 3 9 -> 1
        ticks 168 -> 20
        count 15 -> 8
        undo -> true
        count 3 -> 0
        count 4 -> 0
        room 3 0 -> 1
        undo -> true
        room 3 0 -> 0
        room 9 0 -> 1
        undo -> true
        room 10 2 -> 0
        undo -> true
        room 11 0 -> 0
        undo -> true
        room 11 1 -> 2
        undo -> true
        tenant 2 0 -> 7
        room 11 1 -> 0
        undo -> true
        room 0 0 -> 0
        undo -> true
        room 0 0 -> -1
        undo -> false
        # what was refused is none, and 12 are remembered
        take 0 12 -> IllegalStateException
        count 15 -> 0
        ticks 1 -> 0
        ticks 1 -> 0
        ticks 1 -> 0
        ticks 1 -> 0
        ticks 1 -> 0
        ticks 1 -> 0
        ticks 1 -> 0
        ticks 1 -> 0
        ticks 1 -> 0
        ticks 1 -> 0
        ticks 1 -> 0
        ticks 1 -> 0
        ticks 1 -> 0
        ticks 1 -> 0
        count 15 -> 12
        undo -> true
        undo -> true
        undo -> true
        undo -> true
        undo -> true
        undo -> true
        undo -> true
        undo -> true
        undo -> true
        undo -> true
        undo -> true
        undo -> true
        undo -> false
        count 4 -> 2
        # the TAPE, fault() and THE IMAGE are not undone
        town "x" -> IllegalArgumentException
        ticks 1 -> 0
        feed 1 2 3 4 5 -> 20
        image -> null
        undo -> true
        fault -> 0
        end 20 -> true
        count 4 -> 2
        back -> true
        count 4 -> 3
        """;

    private static final String IMAGES = """
        back -> false
        take 0 0 -> 5
        seed 77 -> 1
        image -> null
        count 15 -> 1
        leave 9 -> 1
        law "bar;rent 1" -> 2
        town "tenant 5 likes 1 to 1;shut 6 6;want 0 1 from 1 to 1;chance 8;goods 6 6 6" -> 2
        ticks 5 -> 0
        feed 1 2 3 4 5 -> 20
        back -> true
        end 20 -> true
        room 9 0 -> 1
        room 0 0 -> 0
        count 0 -> 4
        count 1 -> 1
        count 2 -> -1
        count 4 -> 0
        count 7 -> 147
        count 10 -> 5
        count 11 -> 0
        count 12 -> 0
        count 13 -> 1
        count 14 -> 1
        count 15 -> 0
        undo -> false
        seed 1 -> 77
        rule 0 0 1 -> 5
        # it may be gone back to again
        leave 9 -> 1
        law "b" -> IllegalArgumentException
        back -> true
        room 9 0 -> 1
        fault -> 0
        # one image alone
        ticks 3 -> 0
        image -> null
        ticks 3 -> 0
        count 15 -> 2
        back -> true
        count 4 -> 3
        # texts that went by are none any more
        new
        image -> null
        town "" -> 1
        town "" -> 2
        back -> true
        town "" -> 1
        """;

    private static final String COUNTS = """
        count 0 -> 4
        count 1 -> 1
        count 2 -> -1
        count 3 -> 0
        count 4 -> 0
        count 5 -> 0
        count 6 -> 147
        count 7 -> 147
        count 8 -> 162
        count 9 -> 1
        count 10 -> 5
        count 11 -> 0
        count 12 -> 0
        count 13 -> 0
        count 14 -> 1
        count 15 -> 0
        count 16 -> -1
        count -1 -> -1
        take 0 0 -> 5
        sublet 0 1 0 -> 0
        ticks 169 -> 30
        town "want 0 3 from 0 to 1;chance 12;tenant 3 likes 0 to 0" -> 2
        law "bar if week<1" -> 1
        count 0 -> 5
        count 1 -> 2
        count 2 -> 1
        count 3 -> 1
        count 4 -> 1
        count 5 -> 35
        count 6 -> 115
        count 7 -> 150
        count 8 -> 162
        count 9 -> 2
        count 11 -> 1
        count 12 -> 12
        count 13 -> 2
        count 15 -> 0
        """;
}
