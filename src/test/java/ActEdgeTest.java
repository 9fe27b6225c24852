/** The edges of what is looked at, of acts, TICKS, THE LOG, UNDO and THE IMAGE: promises 7 to 18 and 37 to 43. */
public final class ActEdgeTest {
    private static final String TOWN = "town \"tenant 100 likes 12 to 17;tenant 40 likes 8 to 11;"
            + "tenant 7 likes 0 to 23;child of 0;let 0 9 to 10 1;let 0 11 to 12 0;let 1 12 to 13 2;"
            + "goods 0 9 5;shut 2 0;sub 0 12 2\" -> 1\n";
    private static final String ALL_ROOMS = "town \"tenant 9999 likes 0 to 23;tenant 9 likes 0 to 0;let 0 0 to 23 0;"
            + "let 1 0 to 23 0;let 2 0 to 23 0;let 3 0 to 23 0;let 4 0 to 23 0;let 5 0 to 23 0;let 6 0 to 23 0\" -> 1\n";

    private static int wrong = 0;

    public static void main(String[] args) {
        playAll(new Script(HourLets.class));
        playAll(new Script(Model.class));
        System.out.println(wrong == 0 ? "all answers are as due" : wrong + " answers are not as due");
        if (wrong != 0) {
            System.exit(1);
        }
    }

    private static void playAll(Script script) {
        script.play("tenant: no such TENANT, another what", TOWN + TENANT);
        script.play("room: no such ROOM, another what, the ring", TOWN + ROOM);
        script.play("rule: of a CHILD 0 each, another what", TOWN + RULE);
        script.play("roomOf: the k-th; NONE", ROOM_OF);
        script.play("take: refused", TAKE);
        script.play("take: COINS for its RENT", TAKE_COINS);
        script.play("leave: nobody's", TOWN + LEAVE);
        script.play("sublet: refused", TOWN + SUBLET);
        script.play("sublet: a price 0 to 999", SUBLET_PRICE);
        script.play("sublet: 9999 at most, what is above goes to TILL", SUBLET_MOST);
        script.play("ends: it is not SUBLET", TOWN + ENDS);
        script.play("evict: HOUR 3 of that DAY", EVICT);
        script.play("carry: n is 1 to 99", TOWN + CARRY);
        script.play("carry: as many as there are, 99 at most there", CARRY_GOODS);
        script.play("swap: refused", TOWN + SWAP);
        script.play("ticks: 1 to 400", TICKS);
        script.play("ticks: behind the last ROOM", WEEKS);
        script.play("ticks: RENT or free", RENTS);
        script.play("ticks: by numbers, as all is by then", RENTS_BY_THEN);
        script.play("ticks: DRAW below CHANCE", DRAWS);
        script.play("ticks: DRAW that is refused", DRAWS_REFUSED);
        script.play("seed: an int that goes round", SEEDS);
        script.play("log: the latest 80 times", eightyEntries());
        script.play("log: who came, and how", LOG);
        script.play("led: the k-th; NONE", LED);
        script.play("undo: 12 are remembered", twelveActs());
        script.play("undo: what is an act and what is none", TOWN + ACTS);
        script.play("undo: all is as ahead of it", UNDO_ALL);
        script.play("image, back", TOWN + IMAGE);
        script.play("count: NONE for another what", TOWN + COUNT);
        script.play("books add up", TOWN + BOOKS);
        wrong += script.wrongAnswers();
    }

    private static final String TENANT = """
        tenant -1 0 -> IndexOutOfBoundsException
        tenant -2147483648 0 -> IndexOutOfBoundsException
        tenant 0 0 -> 100
        tenant 3 0 -> 0
        tenant 4 0 -> IndexOutOfBoundsException
        tenant 10 0 -> IndexOutOfBoundsException
        tenant 2147483647 0 -> IndexOutOfBoundsException
        tenant 0 -1 -> NoSuchElementException
        tenant 0 7 -> 0
        tenant 0 8 -> NoSuchElementException
        tenant 3 8 -> NoSuchElementException
        tenant 3 -1 -> NoSuchElementException
        tenant 0 -2147483648 -> NoSuchElementException
        tenant 0 2147483647 -> NoSuchElementException
        # there is no such TENANT ahead of no such what
        tenant 4 8 -> IndexOutOfBoundsException
        tenant -1 -1 -> IndexOutOfBoundsException
        # HOURS that one likes: none of a CHILD
        tenant 2 1 -> 0
        tenant 2 2 -> 23
        tenant 3 1 -> -1
        tenant 3 2 -> -1
        tenant 2 3 -> -1
        tenant 3 3 -> 0
        # a CHILD where its MOTHER is: rooms, but no goods, no rents
        town "goods 0 11 7;goods 0 12 9;goods 1 12 99;goods 1 13 99" -> 2
        tenant 0 5 -> 1
        tenant 3 5 -> 1
        tenant 0 7 -> 7
        tenant 3 7 -> 0
        tenant 2 7 -> 207
        tenant 0 6 -> 10
        tenant 3 6 -> 0
        tenant 3 4 -> 0
        # in the first and in the last ROOM, too
        take 1 0 -> 5
        take 1 167 -> 5
        town "goods 0 0 50;goods 6 23 30" -> 3
        tenant 1 4 -> 4
        tenant 1 5 -> 4
        tenant 1 6 -> 20
        tenant 1 7 -> 85
        count 10 -> 299
        law "rent 1;rent 10 if day<1 and hour<1;rent 20 if day>5" -> 3
        tenant 1 6 -> 34
        tenant 0 6 -> 2
        # one who has none
        leave 36 -> 2
        leave 37 -> 2
        ends 12 -> 2
        tenant 2 4 -> 0
        tenant 2 5 -> 0
        tenant 2 6 -> 0
        tenant 2 7 -> 0
        """;

    private static final String ROOM = """
        room -1 0 -> IndexOutOfBoundsException
        room 168 0 -> IndexOutOfBoundsException
        room -2147483648 0 -> IndexOutOfBoundsException
        room 2147483647 0 -> IndexOutOfBoundsException
        room 0 0 -> -1
        room 167 0 -> -1
        room 0 -1 -> NoSuchElementException
        room 0 5 -> -1
        room 0 6 -> NoSuchElementException
        room 0 2147483647 -> NoSuchElementException
        room 0 -2147483648 -> NoSuchElementException
        room 168 6 -> IndexOutOfBoundsException
        room -1 -1 -> IndexOutOfBoundsException
        # nobody without an OWNER, whoever LIVES there with one
        room 48 0 -> -1
        room 48 1 -> -1
        room 48 3 -> 1
        room 47 3 -> 0
        room 49 3 -> 0
        room 11 5 -> 2
        room 13 4 -> 2
        room 8 5 -> 1
        room 8 4 -> -1
        # behind the last one comes the first one
        take 1 0 -> 5
        take 0 167 -> 5
        room 0 4 -> 0
        room 167 5 -> 1
        room 166 5 -> 0
        room 167 4 -> -1
        room 1 4 -> 1
        room 0 5 -> -1
        leave 167 -> 0
        room 0 4 -> -1
        """;

    private static final String RULE = """
        rule -1 0 0 -> IndexOutOfBoundsException
        rule 4 0 0 -> IndexOutOfBoundsException
        rule 0 -1 0 -> IndexOutOfBoundsException
        rule 0 168 0 -> IndexOutOfBoundsException
        rule 0 0 -1 -> NoSuchElementException
        rule 0 0 0 -> 0
        rule 0 167 2 -> 0
        rule 0 0 3 -> NoSuchElementException
        rule 0 0 2147483647 -> NoSuchElementException
        rule 0 0 -2147483648 -> NoSuchElementException
        rule 4 0 3 -> IndexOutOfBoundsException
        rule 0 168 3 -> IndexOutOfBoundsException
        rule 2147483647 2147483647 2147483647 -> IndexOutOfBoundsException
        # without a text: RENT 5 of each, VALUE 1 of what one likes
        rule 0 11 2 -> 0
        rule 0 12 2 -> 1
        rule 0 17 2 -> 1
        rule 0 18 2 -> 0
        rule 0 18 1 -> 5
        # of a CHILD 0 each
        rule 3 12 0 -> 0
        rule 3 12 1 -> 0
        rule 3 12 2 -> 0
        law "bar;rent 9;value 8" -> 3
        rule 0 12 0 -> 1
        rule 0 12 1 -> 9
        rule 0 12 2 -> 8
        rule 3 12 0 -> 0
        rule 3 12 1 -> 0
        rule 3 12 2 -> 0
        rule 3 12 3 -> NoSuchElementException
        rule 3 168 0 -> IndexOutOfBoundsException
        """;

    private static final String ROOM_OF = ALL_ROOMS + """
        roomOf 0 -1 false -> -1
        roomOf 0 -2147483648 false -> -1
        roomOf 0 0 false -> 0
        roomOf 0 1 false -> 1
        roomOf 0 166 true -> 166
        roomOf 0 167 true -> 167
        roomOf 0 168 true -> -1
        roomOf 0 2147483647 false -> -1
        roomOf 1 0 false -> -1
        roomOf 1 0 true -> -1
        roomOf -1 0 false -> IndexOutOfBoundsException
        roomOf 2 0 false -> IndexOutOfBoundsException
        roomOf 2147483647 -1 true -> IndexOutOfBoundsException
        sublet 167 1 0 -> 0
        sublet 3 1 0 -> 0
        roomOf 1 0 true -> 3
        roomOf 1 1 true -> 167
        roomOf 1 2 true -> -1
        roomOf 1 0 false -> -1
        roomOf 0 166 true -> -1
        roomOf 0 165 true -> 166
        roomOf 0 167 false -> 167
        town "child of 1" -> 2
        roomOf 2 1 true -> 167
        roomOf 2 2 true -> -1
        roomOf 2 0 false -> -1
        """;

    private static final String TAKE = TOWN + """
        take -1 0 -> IndexOutOfBoundsException
        take 4 0 -> IndexOutOfBoundsException
        take 0 -1 -> IndexOutOfBoundsException
        take 0 168 -> IndexOutOfBoundsException
        take -2147483648 2147483647 -> IndexOutOfBoundsException
        # there is no such TENANT or ROOM ahead of what is refused
        take 4 9 -> IndexOutOfBoundsException
        take 3 168 -> IndexOutOfBoundsException
        # it has an OWNER: oneself, another one, SUBLET to the one
        take 1 9 -> IllegalStateException
        take 0 9 -> IllegalStateException
        take 2 12 -> IllegalStateException
        # it is SHUT, and those beside it are not
        take 0 48 -> IllegalStateException
        take 0 47 -> 5
        take 0 49 -> 5
        # by a CHILD
        take 3 0 -> IllegalStateException
        # the first and the last ROOM
        take 0 0 -> 5
        take 0 167 -> 5
        count 15 -> 4
        count 13 -> 4
        count 5 -> 20
        # BARRED: to one and not to another one
        law "bar if coins>79" -> 1
        take 0 1 -> IllegalStateException
        take 1 1 -> 0
        law "bar if coins>80" -> 1
        take 0 2 -> 0
        # refused ones are no acts
        take 0 2 -> IllegalStateException
        count 15 -> 1
        count 13 -> 6
        """;

    private static final String TAKE_COINS = """
        town "tenant 9 likes 0 to 0;tenant 10 likes 0 to 0;tenant 11 likes 0 to 0;tenant 0 likes 0 to 0;tenant 9999 likes 0 to 0" -> 1
        law "rent 10" -> 1
        # one too few, as many, one more
        take 0 0 -> IllegalStateException
        take 1 1 -> 10
        take 2 2 -> 10
        tenant 0 0 -> 9
        tenant 1 0 -> 0
        tenant 2 0 -> 1
        count 5 -> 20
        take 2 3 -> IllegalStateException
        take 1 3 -> IllegalStateException
        take 3 3 -> IllegalStateException
        # nothing to be paid
        law "rent 0" -> 1
        take 3 3 -> 0
        take 1 4 -> 0
        # all that one can have
        law "rent 999;rent 999;rent 999;rent 999;rent 999;rent 999;rent 999;rent 999;rent 999;rent 999;rent 10" -> 11
        take 4 5 -> IllegalStateException
        law "rent 999;rent 999;rent 999;rent 999;rent 999;rent 999;rent 999;rent 999;rent 999;rent 999;rent 9" -> 11
        take 4 5 -> 9999
        tenant 4 0 -> 0
        count 5 -> 10019
        # the RENT is that of ahead
        new
        town "tenant 10 likes 0 to 0" -> 1
        law "rent 7 if rooms<1;rent 3 if rooms>0 and coins<4" -> 2
        take 0 0 -> 7
        take 0 1 -> 3
        take 0 2 -> IllegalStateException
        tenant 0 0 -> 0
        """;

    private static final String LEAVE = """
        leave -1 -> IndexOutOfBoundsException
        leave 168 -> IndexOutOfBoundsException
        leave 2147483647 -> IndexOutOfBoundsException
        leave 0 -> IllegalStateException
        leave 167 -> IllegalStateException
        leave 48 -> IllegalStateException
        leave 9 -> 1
        leave 9 -> IllegalStateException
        # whoever LIVES there is out
        leave 12 -> 0
        room 12 1 -> -1
        tenant 2 5 -> 2
        count 9 -> 0
        count 15 -> 2
        take 0 167 -> 5
        leave 167 -> 0
        take 0 0 -> 5
        leave 0 -> 0
        """;

    private static final String SUBLET = """
        # no such ROOM or TENANT, then the price, then what is refused
        sublet -1 0 0 -> IndexOutOfBoundsException
        sublet 168 0 0 -> IndexOutOfBoundsException
        sublet 9 -1 0 -> IndexOutOfBoundsException
        sublet 9 4 0 -> IndexOutOfBoundsException
        sublet 9 4 -1 -> IndexOutOfBoundsException
        sublet 168 0 1000 -> IndexOutOfBoundsException
        sublet 0 0 1000 -> IllegalArgumentException
        sublet 9 3 -1 -> IllegalArgumentException
        sublet 9 1 1000 -> IllegalArgumentException
        # nobody's, to the OWNER, to a CHILD, SUBLET already
        sublet 0 0 0 -> IllegalStateException
        sublet 48 0 0 -> IllegalStateException
        sublet 9 1 0 -> IllegalStateException
        sublet 9 3 0 -> IllegalStateException
        sublet 12 1 0 -> IllegalStateException
        sublet 12 2 0 -> IllegalStateException
        sublet 12 0 0 -> IllegalStateException
        count 15 -> 0
        count 13 -> 0
        # to one who is BARRED; that the OWNER is does not matter
        law "bar if coins<41" -> 1
        sublet 9 2 0 -> IllegalStateException
        sublet 9 0 0 -> 1
        ends 9 -> 0
        law "bar if coins>41" -> 1
        sublet 9 0 0 -> IllegalStateException
        sublet 9 2 7 -> 1
        # all is as before but for the coins
        room 9 0 -> 1
        room 9 2 -> 5
        tenant 1 0 -> 47
        tenant 2 0 -> 0
        tenant 1 4 -> 2
        tenant 1 5 -> 1
        """;

    private static final String SUBLET_PRICE = """
        town "tenant 9 likes 0 to 0;tenant 10 likes 0 to 0;tenant 11 likes 0 to 0;tenant 999 likes 0 to 0;tenant 0 likes 0 to 0;let 0 0 to 5 4" -> 1
        sublet 0 3 -1 -> IllegalArgumentException
        sublet 0 3 1000 -> IllegalArgumentException
        sublet 0 3 -2147483648 -> IllegalArgumentException
        sublet 0 3 2147483647 -> IllegalArgumentException
        # one coin too few, as many, one more
        sublet 0 0 10 -> IllegalStateException
        sublet 0 1 10 -> 4
        sublet 1 2 10 -> 4
        tenant 1 0 -> 0
        tenant 2 0 -> 1
        tenant 4 0 -> 20
        # for nothing, by one who has nothing; for the most
        sublet 2 1 0 -> 4
        sublet 2 3 999 -> IllegalStateException
        sublet 3 3 999 -> 4
        tenant 3 0 -> 0
        tenant 4 0 -> 1019
        count 5 -> 0
        sublet 4 3 1 -> IllegalStateException
        sublet 4 3 0 -> 4
        count 9 -> 5
        """;

    private static final String SUBLET_MOST = """
        town "tenant 9998 likes 0 to 0;tenant 9999 likes 0 to 0;tenant 100 likes 0 to 0;let 0 0 to 3 0;let 1 0 to 3 1" -> 1
        image -> null
        sublet 0 2 0 -> 0
        tenant 0 0 -> 9998
        count 5 -> 0
        sublet 1 2 1 -> 0
        tenant 0 0 -> 9999
        count 5 -> 0
        sublet 2 2 1 -> 0
        tenant 0 0 -> 9999
        count 5 -> 1
        tenant 2 0 -> 98
        back -> true
        sublet 0 2 2 -> 0
        tenant 0 0 -> 9999
        count 5 -> 1
        sublet 24 2 98 -> 1
        tenant 1 0 -> 9999
        tenant 2 0 -> 0
        count 5 -> 99
        count 6 -> 19998
        count 7 -> 20097
        undo -> true
        count 5 -> 1
        tenant 2 0 -> 98
        """;

    private static final String ENDS = """
        ends -1 -> IndexOutOfBoundsException
        ends 168 -> IndexOutOfBoundsException
        ends 0 -> IllegalStateException
        ends 167 -> IllegalStateException
        ends 11 -> IllegalStateException
        ends 13 -> IllegalStateException
        ends 48 -> IllegalStateException
        ends 12 -> 2
        ends 12 -> IllegalStateException
        room 12 0 -> 0
        room 12 1 -> 0
        count 15 -> 1
        count 13 -> 0
        """;

    private static final String EVICT = TOWN + """
        evict -1 -> IndexOutOfBoundsException
        evict 168 -> IndexOutOfBoundsException
        evict 0 -> IllegalStateException
        evict 48 -> IllegalStateException
        # a SUBLET ends, and no more than that
        evict 12 -> -1
        room 12 0 -> 0
        room 12 1 -> 0
        room 3 0 -> -1
        evict 12 -> 3
        evict 12 -> IllegalStateException
        room 3 0 -> 0
        room 3 1 -> 0
        # the HOURS beside 3 of the first and the last DAY, and the ends of a DAY
        new
        town "tenant 9999 likes 0 to 0;let 0 2 to 2 0;let 1 4 to 4 0;let 2 0 to 0 0;let 3 23 to 23 0;let 5 3 to 3 0;let 6 23 to 23 0" -> 1
        evict 2 -> 3
        evict 28 -> 27
        evict 48 -> 51
        evict 95 -> 75
        evict 167 -> 147
        tenant 0 4 -> 6
        # HOUR 3 itself: it is free
        evict 123 -> -1
        room 123 0 -> -1
        evict 3 -> -1
        room 3 0 -> -1
        count 13 -> 5
        # one's own, another one's, a SHUT one
        new
        town "tenant 50 likes 0 to 0;tenant 50 likes 0 to 0;let 0 3 to 4 0;let 1 3 to 3 1;let 1 4 to 4 0;let 2 4 to 4 0;shut 2 3;let 4 3 to 3 0;sub 4 3 1;let 4 5 to 5 1" -> 1
        evict 4 -> -1
        room 3 0 -> 0
        room 4 0 -> -1
        evict 28 -> -1
        room 28 0 -> -1
        evict 52 -> -1
        room 52 0 -> -1
        room 51 0 -> -1
        count 13 -> 0
        # HOUR 3 that is SUBLET: it ends; and it has an OWNER
        evict 101 -> -1
        room 99 0 -> 0
        room 99 1 -> 1
        evict 99 -> -1
        room 99 0 -> 0
        room 99 1 -> 0
        evict 99 -> -1
        room 99 0 -> -1
        # no coins, and a bar, do not matter
        new
        town "tenant 0 likes 0 to 0;let 6 4 to 4 0" -> 1
        law "bar;rent 9" -> 2
        evict 148 -> 147
        log 0 0 -> 0
        log 0 1 -> 147
        log 0 2 -> 0
        log 0 3 -> 2
        """;

    private static final String CARRY = """
        # no such TENANT or ROOM; then n, or both are one; then one does not LIVE in both
        carry -1 9 10 1 -> IndexOutOfBoundsException
        carry 4 9 10 1 -> IndexOutOfBoundsException
        carry 1 -1 10 1 -> IndexOutOfBoundsException
        carry 1 168 10 1 -> IndexOutOfBoundsException
        carry 1 9 -1 1 -> IndexOutOfBoundsException
        carry 1 9 168 1 -> IndexOutOfBoundsException
        carry 4 9 9 0 -> IndexOutOfBoundsException
        carry 1 168 168 0 -> IndexOutOfBoundsException
        carry 1 9 10 0 -> IllegalArgumentException
        carry 1 9 10 -1 -> IllegalArgumentException
        carry 1 9 10 100 -> IllegalArgumentException
        carry 1 9 10 -2147483648 -> IllegalArgumentException
        carry 1 9 10 2147483647 -> IllegalArgumentException
        carry 1 9 9 1 -> IllegalArgumentException
        carry 0 9 9 1 -> IllegalArgumentException
        carry 0 0 1 0 -> IllegalArgumentException
        carry 1 9 11 1 -> IllegalStateException
        carry 1 11 9 1 -> IllegalStateException
        carry 1 9 0 1 -> IllegalStateException
        carry 1 0 9 1 -> IllegalStateException
        carry 0 9 10 1 -> IllegalStateException
        # the OWNER does not LIVE where it is SUBLET, and whom it is SUBLET to does
        carry 0 11 12 1 -> IllegalStateException
        carry 2 12 36 1 -> 0
        # a CHILD never LIVES in a ROOM
        take 0 0 -> 5
        carry 3 11 0 1 -> IllegalStateException
        count 15 -> 2
        carry 1 9 10 1 -> 1
        carry 1 9 10 99 -> 4
        carry 1 9 10 99 -> 0
        count 15 -> 5
        room 10 2 -> 5
        """;

    private static final String CARRY_GOODS = """
        town "tenant 50 likes 0 to 0;let 0 0 to 5 0;goods 0 0 10;goods 0 1 90;goods 0 2 99;goods 0 3 98" -> 1
        image -> null
        # fewer than there are, as many, more
        carry 0 0 4 9 -> 9
        room 0 2 -> 1
        carry 0 0 4 1 -> 1
        room 0 2 -> 0
        back -> true
        carry 0 0 4 10 -> 10
        room 0 2 -> 0
        back -> true
        carry 0 0 4 11 -> 10
        room 0 2 -> 0
        room 4 2 -> 10
        # up to 99 there, and not beyond
        back -> true
        carry 0 0 1 8 -> 8
        room 1 2 -> 98
        back -> true
        carry 0 0 1 9 -> 9
        room 1 2 -> 99
        back -> true
        carry 0 0 1 10 -> 9
        room 0 2 -> 1
        room 1 2 -> 99
        carry 0 0 1 1 -> 0
        room 0 2 -> 1
        back -> true
        carry 0 0 2 5 -> 0
        carry 0 0 3 5 -> 1
        room 3 2 -> 99
        # from an empty one; all that there can be
        carry 0 4 5 99 -> 0
        carry 0 2 4 98 -> 98
        room 2 2 -> 1
        back -> true
        carry 0 2 4 99 -> 99
        room 4 2 -> 99
        room 2 2 -> 0
        count 10 -> 297
        """;

    private static final String SWAP = """
        swap -1 9 -> IndexOutOfBoundsException
        swap 168 9 -> IndexOutOfBoundsException
        swap 9 -1 -> IndexOutOfBoundsException
        swap 9 168 -> IndexOutOfBoundsException
        swap 168 168 -> IndexOutOfBoundsException
        swap -1 -1 -> IndexOutOfBoundsException
        swap 9 9 -> IllegalArgumentException
        swap 0 0 -> IllegalArgumentException
        swap 167 167 -> IllegalArgumentException
        # without an OWNER, of the same one, SUBLET
        swap 9 0 -> IllegalStateException
        swap 0 9 -> IllegalStateException
        swap 0 1 -> IllegalStateException
        swap 9 10 -> IllegalStateException
        swap 9 12 -> IllegalStateException
        swap 12 9 -> IllegalStateException
        count 15 -> 0
        # BARRED to whom it comes: the one, the other one; to whom it goes from does not matter
        law "bar if coins>40 and hour<10" -> 1
        swap 9 11 -> IllegalStateException
        swap 11 9 -> IllegalStateException
        swap 10 11 -> 0
        undo -> true
        law "bar if coins<41 and hour>10" -> 1
        swap 9 11 -> IllegalStateException
        swap 11 9 -> IllegalStateException
        law "bar if coins<41 and hour<10;bar if coins>41 and hour>10" -> 2
        swap 9 11 -> 0
        room 9 0 -> 0
        room 11 0 -> 1
        count 15 -> 1
        count 13 -> 2
        # both are entered, the first ROOM first
        log 1 1 -> 9
        log 1 2 -> 0
        log 1 3 -> 3
        log 0 1 -> 11
        log 0 2 -> 1
        # no coins go by
        count 5 -> 0
        tenant 0 0 -> 100
        """;

    private static final String TICKS = """
        ticks 0 -> IllegalArgumentException
        ticks -1 -> IllegalArgumentException
        ticks 401 -> IllegalArgumentException
        ticks -2147483648 -> IllegalArgumentException
        ticks 2147483647 -> IllegalArgumentException
        count 4 -> 0
        count 15 -> 0
        ticks 1 -> 0
        count 4 -> 1
        count 15 -> 1
        ticks 400 -> 0
        count 3 -> 2
        count 4 -> 65
        count 15 -> 2
        ticks 399 -> 0
        count 3 -> 4
        count 4 -> 128
        """;

    private static final String WEEKS = """
        town "tenant 100 likes 0 to 0;let 0 0 to 0 0" -> 1
        ticks 166 -> 0
        count 3 -> 0
        count 4 -> 166
        ticks 1 -> 0
        count 3 -> 0
        count 4 -> 167
        ticks 1 -> 5
        count 3 -> 1
        count 4 -> 0
        ticks 167 -> 0
        count 4 -> 167
        ticks 1 -> 5
        count 3 -> 2
        # a whole week, one fewer, one more
        ticks 168 -> 5
        count 3 -> 3
        count 4 -> 0
        ticks 169 -> 5
        count 3 -> 4
        count 4 -> 1
        ticks 167 -> 5
        count 3 -> 5
        count 4 -> 0
        # two weeks of one call, and three
        ticks 335 -> 5
        undo -> true
        ticks 336 -> 10
        count 3 -> 7
        ticks 104 -> 0
        ticks 400 -> 15
        count 3 -> 10
        count 4 -> 0
        tenant 0 0 -> 50
        count 5 -> 50
        """;

    private static final String RENTS = """
        # one coin too few, as many, one more: the last ROOM is free or not
        town "tenant 9 likes 0 to 0;tenant 10 likes 0 to 0;tenant 11 likes 0 to 0;tenant 4 likes 0 to 0;tenant 0 likes 0 to 0;let 0 0 to 1 0;let 0 2 to 3 1;let 0 4 to 5 2;let 0 6 to 7 3;let 0 8 to 8 4;sub 0 1 1;sub 0 8 0" -> 1
        ticks 168 -> 25
        tenant 0 0 -> 4
        tenant 1 0 -> 0
        tenant 2 0 -> 1
        tenant 3 0 -> 4
        tenant 4 0 -> 0
        room 0 0 -> 0
        room 1 0 -> -1
        room 3 0 -> 1
        room 5 0 -> 2
        room 6 0 -> -1
        room 7 0 -> -1
        # whoever LIVES there is out
        room 1 1 -> -1
        room 8 1 -> -1
        count 9 -> 0
        count 8 -> 163
        count 5 -> 25
        ticks 168 -> 0
        count 8 -> 168
        # nothing to be paid: it stays
        new
        town "tenant 0 likes 0 to 0;let 0 0 to 1 0" -> 1
        law "rent 1 if hour>0" -> 1
        ticks 168 -> 0
        room 0 0 -> 0
        room 1 0 -> -1
        # one that costs too much is free, a cheaper one behind it stays
        new
        town "tenant 5 likes 0 to 0;let 0 0 to 1 0" -> 1
        law "rent 6 if hour<1;rent 5 if hour>0" -> 2
        ticks 168 -> 5
        room 0 0 -> -1
        room 1 0 -> 0
        # a bar, and that it is SHUT or not, do not matter to whoever has it
        new
        town "tenant 5 likes 0 to 0;let 0 0 to 0 0" -> 1
        law "bar;rent 5" -> 2
        ticks 168 -> 5
        room 0 0 -> 0
        # THE LOG has nothing of it
        count 13 -> 0
        """;

    private static final String RENTS_BY_THEN = """
        # TENANT 0 is out, and with that one 1, who is not beside any more
        town "tenant 0 likes 0 to 0;tenant 100 likes 0 to 0;let 0 0 to 0 0;sub 0 0 1;let 0 1 to 1 1" -> 1
        law "rent 5 if beside;rent 1" -> 2
        ticks 168 -> 1
        new
        town "tenant 100 likes 0 to 0;tenant 0 likes 0 to 0;let 0 0 to 0 1;sub 0 0 0;let 0 1 to 1 0" -> 1
        law "rent 5 if beside;rent 1" -> 2
        ticks 168 -> 6
        # of one's ROOMS the least numbers first
        new
        town "tenant 10 likes 0 to 0;let 0 0 to 0 0;let 6 23 to 23 0" -> 1
        law "rent 7 if day<1;rent 8 if day>5" -> 2
        ticks 168 -> 7
        room 0 0 -> 0
        room 167 0 -> -1
        # with each that is free there is one fewer
        new
        town "tenant 3 likes 0 to 0;let 0 0 to 2 0" -> 1
        law "rent 4 if rooms>2;rent 2 if rooms>1" -> 2
        ticks 168 -> 2
        tenant 0 4 -> 1
        room 0 0 -> -1
        room 1 0 -> 0
        room 2 0 -> -1
        # the week is the next one by then
        new
        town "tenant 9 likes 0 to 0;let 0 0 to 0 0" -> 1
        law "rent 1 if week<1;rent 2 if week>0;rent 4 if week>1" -> 3
        ticks 168 -> 2
        ticks 168 -> 6
        """;

    private static final String DRAWS = """
        # seed 22614 draws 0 modulo 100 and ROOM 0; 30466: 1 and ROOM 0; 52722: 99 and ROOM 0; 19341: 99 and ROOM 167
        town "tenant 500 likes 0 to 23;chance 1" -> 1
        seed 22614 -> 1
        ticks 167 -> 0
        seed 22614 -> 22614
        ticks 1 -> 5
        room 0 0 -> 0
        count 13 -> 1
        log 0 0 -> 1
        log 0 1 -> 0
        log 0 2 -> 0
        log 0 3 -> 5
        seed 30466 -> 462425540
        # 1 is not below 1: no second draw
        leave 0 -> 0
        ticks 168 -> 0
        seed 30466 -> -1308526573
        count 13 -> 1
        town "chance 2" -> 2
        ticks 168 -> 5
        room 0 0 -> 0
        leave 0 -> 0
        # 0 is not below 0
        town "chance 0" -> 3
        seed 22614 -> -286778800
        ticks 168 -> 0
        seed 22614 -> 1133773015
        room 0 0 -> -1
        # 99 is below 100, and not below 99
        town "chance 99" -> 4
        seed 52722 -> 22614
        ticks 168 -> 0
        seed 52722 -> -96232381
        town "chance 100" -> 5
        ticks 168 -> 5
        seed 19341 -> 121119424
        room 0 0 -> 0
        # the last ROOM; the rents go ahead of the draw
        ticks 168 -> 10
        room 167 0 -> 0
        log 0 1 -> 167
        seed 1 -> -1431837357
        # with no TENANT, and with CHILDREN alone beside one, as many draws as there are grown ones
        new
        town "chance 100" -> 1
        ticks 168 -> 0
        seed 1 -> 1
        town "tenant 0 likes 0 to 0;child of 0;child of 0" -> 2
        ticks 168 -> 0
        seed 1 -> -1770082073
        # two weeks of one call
        town "chance 0" -> 3
        ticks 336 -> 0
        seed 1 -> -1770082073
        # ten TENANTS, of whom the last one alone has coins: the twentieth DRAW is its ROOM
        new
        town "tenant 0 likes 0 to 0;tenant 0 likes 0 to 0;tenant 0 likes 0 to 0;tenant 0 likes 0 to 0;tenant 0 likes 0 to 0;tenant 0 likes 0 to 0;tenant 0 likes 0 to 0;tenant 0 likes 0 to 0;tenant 0 likes 0 to 0;tenant 11 likes 0 to 0;let 0 0 to 0 9;chance 100" -> 1
        ticks 168 -> 10
        log 0 1 -> 30
        log 0 2 -> 9
        count 13 -> 1
        tenant 9 0 -> 1
        """;

    private static final String DRAWS_REFUSED = """
        # seed 10300 draws 99 and ROOM 48; 22614: 0 and ROOM 0
        town "tenant 5 likes 0 to 0;tenant 0 likes 0 to 0;shut 2 0;chance 100" -> 1
        seed 10300 -> 1
        ticks 168 -> 0
        room 48 0 -> -1
        count 13 -> 0
        # it has an OWNER: another one; one's own
        new
        town "tenant 50 likes 0 to 0;let 2 0 to 0 0;chance 100" -> 1
        seed 10300 -> 1
        ticks 168 -> 5
        count 13 -> 0
        seed 1 -> -635916518
        tenant 0 0 -> 45
        # COINS: one too few, as many
        new
        town "tenant 4 likes 0 to 0;chance 100" -> 1
        seed 10300 -> 1
        ticks 168 -> 0
        room 48 0 -> -1
        new
        town "tenant 5 likes 0 to 0;chance 100" -> 1
        seed 10300 -> 1
        ticks 168 -> 5
        room 48 0 -> 0
        tenant 0 0 -> 0
        # BARRED, in the next week as it is by then
        new
        town "tenant 5 likes 0 to 0;chance 100" -> 1
        law "bar if week>0;rent 1" -> 2
        seed 10300 -> 1
        ticks 168 -> 0
        room 48 0 -> -1
        law "bar if week>2;rent 1" -> 2
        seed 10300 -> -635916518
        ticks 168 -> 1
        room 48 0 -> 0
        # what one was out of for its RENT is free to be drawn
        new
        town "tenant 4 likes 0 to 0;let 2 0 to 0 0;chance 100" -> 1
        law "rent 5 if rooms>0;rent 4 if rooms<1" -> 2
        seed 10300 -> 1
        ticks 168 -> 4
        room 48 0 -> 0
        log 0 3 -> 5
        """;

    private static final String SEEDS = """
        seed 0 -> 1
        seed -1 -> 0
        seed 2147483647 -> -1
        seed -2147483648 -> 2147483647
        seed 1 -> -2147483648
        seed 1 -> 1
        count 15 -> 0
        town "tenant 0 likes 0 to 0" -> 1
        # it goes round
        seed 0 -> 1
        ticks 168 -> 0
        seed -1 -> 12345
        ticks 168 -> 0
        seed 2147483647 -> -1103502900
        ticks 168 -> 0
        seed -2147483648 -> 1043980748
        ticks 168 -> 0
        seed 1 -> -2147471303
        ticks 168 -> 0
        seed 1 -> 1103527590
        # bits 16 to 30 alone: 15929 of -1103502900, 29 of 100; then 4409 of 288979989, 41 of 168
        new
        town "tenant 9 likes 0 to 0;chance 30" -> 1
        seed -1 -> 1
        ticks 168 -> 5
        room 41 0 -> 0
        seed 1 -> 288979989
        """;

    private static String swaps(int n) {
        StringBuilder text = new StringBuilder();
        for (int i = 0; i < n; i++) {
            text.append("swap 0 1 -> ").append(i % 2 == 0 ? 1 : 0).append('\n');
        }
        return text.toString();
    }

    private static String eightyEntries() {
        String begin = "new\ntown \"tenant 500 likes 0 to 0;tenant 500 likes 0 to 0;let 0 0 to 0 0;let 0 1 to 1 1\" -> 1\n";
        return begin + swaps(39) + """
            count 13 -> 78
            take 0 7 -> 5
            count 13 -> 79
            log 78 1 -> 0
            log 78 2 -> 1
            log 79 1 -> -1
            take 1 8 -> 5
            count 13 -> 80
            log 79 1 -> 0
            log 79 2 -> 1
            log 80 1 -> -1
            led 0 38 -> 1
            led 0 39 -> -1
            led 1 38 -> 0
            # the oldest one goes
            take 1 9 -> 5
            count 13 -> 80
            log 79 1 -> 1
            log 79 2 -> 0
            log 80 1 -> -1
            led 0 37 -> 0
            led 0 38 -> -1
            led 1 38 -> 0
            log 0 1 -> 9
            log 1 1 -> 8
            log 2 1 -> 7
            log 3 1 -> 1
            # and comes back with what was undone
            undo -> true
            count 13 -> 80
            log 79 1 -> 0
            log 0 1 -> 8
            undo -> true
            count 13 -> 79
            log 79 1 -> -1
            log 78 1 -> 0
            """ + begin + swaps(40) + """
            count 13 -> 80
            log 79 2 -> 1
            log 79 1 -> 0
            led 0 39 -> 1
            led 0 40 -> -1
            led 1 39 -> 0
            """ + swaps(1) + """
            count 13 -> 80
            log 79 1 -> 0
            log 79 2 -> 0
            led 0 39 -> 0
            led 0 40 -> -1
            """ + begin + swaps(90) + """
            count 13 -> 80
            log 0 1 -> 1
            log 0 2 -> 1
            log 1 1 -> 0
            log 1 2 -> 0
            log 79 1 -> 0
            log 79 2 -> 1
            log 80 0 -> -1
            """;
    }

    private static final String LOG = """
        log 0 0 -> -1
        log 0 3 -> -1
        log 0 -1 -> NoSuchElementException
        log 0 4 -> NoSuchElementException
        log 0 2147483647 -> NoSuchElementException
        log 0 -2147483648 -> NoSuchElementException
        log -1 4 -> NoSuchElementException
        log 80 4 -> NoSuchElementException
        log -1 0 -> -1
        log 79 0 -> -1
        log 80 0 -> -1
        log 2147483647 0 -> -1
        log -2147483648 0 -> -1
        # not by a text
        town "tenant 500 likes 4 to 4;tenant 500 likes 8 to 8;let 0 8 to 8 0;let 0 4 to 4 1;sub 0 8 1" -> 1
        log 0 0 -> -1
        count 13 -> 0
        take 0 167 -> 5
        log 0 0 -> 0
        log 0 1 -> 167
        log 0 2 -> 0
        log 0 3 -> 0
        log 1 0 -> -1
        log -1 0 -> -1
        # a SUBLET that ends, one that is left: nobody comes
        ends 8 -> 1
        leave 167 -> 0
        count 13 -> 1
        sublet 8 1 0 -> 0
        log 0 2 -> 1
        log 0 3 -> 1
        evict 8 -> -1
        count 13 -> 2
        ticks 168 -> 10
        turn 0 -> 2
        count 13 -> 4
        log 0 0 -> 1
        log 0 1 -> 8
        log 0 2 -> 1
        log 0 3 -> 4
        log 1 1 -> 4
        log 1 2 -> 0
        log 1 3 -> 4
        log 2 0 -> 0
        swap 4 8 -> 1
        log 0 3 -> 3
        log 1 3 -> 3
        evict 4 -> 3
        log 0 3 -> 2
        log 0 1 -> 3
        log 0 2 -> 1
        count 13 -> 7
        log 6 1 -> 167
        log 7 1 -> -1
        # a text leaves it as it is
        town "" -> 2
        law "" -> 0
        count 13 -> 7
        log 0 3 -> 2
        """;

    private static final String LED = """
        led -1 0 -> IndexOutOfBoundsException
        led 168 0 -> IndexOutOfBoundsException
        led 168 -1 -> IndexOutOfBoundsException
        led 0 -1 -> IllegalArgumentException
        led 0 -2147483648 -> IllegalArgumentException
        led 0 0 -> -1
        led 167 2147483647 -> -1
        town "tenant 500 likes 4 to 4;tenant 500 likes 8 to 8;let 0 0 to 0 1" -> 1
        led 0 0 -> -1
        take 0 167 -> 5
        led 167 0 -> 0
        led 167 1 -> -1
        led 0 0 -> -1
        leave 167 -> 0
        take 1 167 -> 5
        sublet 167 0 1 -> 1
        led 167 0 -> 0
        led 167 1 -> 1
        led 167 2 -> 0
        led 167 3 -> -1
        led 166 0 -> -1
        led 167 2147483647 -> -1
        """;

    private static String twelveActs() {
        StringBuilder text = new StringBuilder("undo -> false\ncount 15 -> 0\n");
        for (int n = 1; n <= 11; n++) {
            text.append("ticks ").append(n).append(" -> 0\ncount 15 -> ").append(n).append('\n');
        }
        text.append("ticks 12 -> 0\ncount 15 -> 12\ncount 4 -> 78\n");
        for (int n = 12; n >= 1; n--) {
            text.append("undo -> true\ncount 4 -> ").append(n * (n - 1) / 2).append('\n');
            text.append("count 15 -> ").append(n - 1).append('\n');
        }
        text.append("undo -> false\ncount 4 -> 0\n");
        // the 13th: the first one is not remembered any more
        for (int n = 1; n <= 13; n++) {
            text.append("ticks ").append(n).append(" -> 0\n");
        }
        text.append("count 15 -> 12\ncount 4 -> 91\n");
        text.append("undo -> true\n".repeat(12)).append("undo -> false\ncount 4 -> 1\ncount 15 -> 0\n");
        // far behind: what was undone makes room again
        text.append("ticks 1 -> 0\n".repeat(40)).append("count 4 -> 41\n");
        text.append("undo -> true\n".repeat(5)).append("count 4 -> 36\ncount 15 -> 7\n");
        text.append("ticks 2 -> 0\n".repeat(5)).append("count 4 -> 46\ncount 15 -> 12\n");
        text.append("undo -> true\n".repeat(6)).append("count 4 -> 35\ncount 15 -> 6\n");
        text.append("undo -> true\n".repeat(6)).append("undo -> false\ncount 4 -> 29\n");
        return text.toString();
    }

    private static final String ACTS = """
        # each kind of act is one
        take 0 0 -> 5
        count 15 -> 1
        sublet 0 1 7 -> 0
        count 15 -> 2
        ends 0 -> 1
        count 15 -> 3
        carry 0 0 11 1 -> 0
        count 15 -> 4
        swap 0 9 -> 1
        count 15 -> 5
        evict 0 -> 3
        count 15 -> 6
        leave 3 -> 1
        count 15 -> 7
        ticks 400 -> 45
        count 15 -> 8
        # what is refused, looked at, kept or seeded is none
        take 0 12 -> IllegalStateException
        leave 0 -> IllegalStateException
        sublet 0 0 0 -> IllegalStateException
        ends 0 -> IllegalStateException
        evict 0 -> IllegalStateException
        carry 0 0 9 1 -> IllegalStateException
        swap 0 9 -> IllegalStateException
        turn 0 -> IllegalStateException
        ticks 0 -> IllegalArgumentException
        seed 1 -> -1778682749
        image -> null
        fitted true -> 1
        feed 0 0 0 0 0 -> 20
        end 0 -> true
        count 15 -> 8
        # a wrong text, and what uses the TAPE and is no text
        town "x" -> IllegalArgumentException
        law "x" -> IllegalArgumentException
        thieves 9 -> 3
        seen 9 97 -> -1
        count 15 -> 8
        undo -> true
        undo -> true
        count 15 -> 6
        # a text: none are remembered
        town "" -> 2
        count 15 -> 0
        undo -> false
        take 2 0 -> 5
        law "" -> 0
        count 15 -> 0
        undo -> false
        room 0 0 -> 2
        take 2 1 -> 0
        # going back, likewise
        back -> true
        count 15 -> 0
        undo -> false
        room 0 0 -> -1
        ticks 1 -> 0
        image -> null
        count 15 -> 1
        undo -> true
        count 15 -> 0
        """;

    private static final String UNDO_ALL = """
        town "tenant 500 likes 4 to 4;tenant 500 likes 8 to 8;tenant 9998 likes 0 to 0;let 0 8 to 8 0;let 0 4 to 4 1;let 0 0 to 1 2;goods 0 0 9;chance 100" -> 1
        # turned
        turn 1 -> 2
        room 8 0 -> 1
        undo -> true
        room 8 0 -> 0
        room 4 0 -> 1
        count 13 -> 0
        # SUBLET with what went to TILL
        sublet 0 1 3 -> 2
        count 5 -> 2
        undo -> true
        count 5 -> 0
        tenant 1 0 -> 500
        tenant 2 0 -> 9998
        room 0 1 -> 2
        # ended, left while it was SUBLET
        sublet 0 1 1 -> 2
        leave 0 -> 2
        undo -> true
        room 0 0 -> 2
        room 0 1 -> 1
        ends 0 -> 1
        undo -> true
        room 0 1 -> 1
        evict 0 -> -1
        undo -> true
        room 0 1 -> 1
        undo -> true
        room 0 1 -> 2
        tenant 2 0 -> 9998
        # evicted
        evict 1 -> 3
        undo -> true
        room 1 0 -> 2
        room 3 0 -> -1
        count 13 -> 0
        # carried
        carry 2 0 1 9 -> 9
        undo -> true
        room 0 2 -> 9
        room 1 2 -> 0
        # TICKS of one call: WEEK, ROOM, rents, draws, SEED
        seed 22614 -> 1
        # ROOMS 97, 106, 162 and 127 are drawn; 0 and, once more, 97 are refused
        ticks 400 -> 70
        count 3 -> 2
        count 13 -> 4
        undo -> true
        count 3 -> 0
        count 4 -> 0
        count 5 -> 0
        count 13 -> 0
        tenant 0 0 -> 500
        seed 22614 -> 22614
        # over a seed that was told since
        take 0 20 -> 5
        seed 7 -> 22614
        undo -> true
        seed 1 -> 22614
        # but for fault(), the TAPE and THE IMAGE
        take 0 20 -> 5
        image -> null
        law "x" -> IllegalArgumentException
        feed 0 0 0 0 0 -> 20
        undo -> true
        fault -> 0
        end 20 -> true
        room 20 0 -> -1
        back -> true
        room 20 0 -> 0
        end 20 -> true
        fault -> 0
        """;

    private static final String IMAGE = """
        take 0 0 -> 5
        # none was kept: nothing happens
        back -> false
        room 0 0 -> 0
        count 15 -> 1
        image -> null
        count 15 -> 1
        leave 0 -> 0
        undo -> true
        undo -> true
        room 0 0 -> -1
        back -> true
        room 0 0 -> 0
        count 15 -> 0
        # as often as one likes, with nothing in between, too
        back -> true
        back -> true
        room 0 0 -> 0
        # in place of the one before
        take 0 1 -> 5
        image -> null
        leave 0 -> 0
        leave 1 -> 0
        back -> true
        room 0 0 -> 0
        room 1 0 -> 0
        undo -> false
        # all: texts, TENANTS, THE LAW, WANTS, CHANCE, SHUT, GOODS, COINS told, NOW, SEED, THE LOG
        town "tenant 50 likes 1 to 2;child of 1;want 0 3 from 1 to 2;chance 9;shut 6 23;goods 6 22 8;let 5 5 to 6 4" -> 2
        law "rent 1" -> 1
        take 0 2 -> 1
        seed 99 -> 1
        ticks 200 -> 11
        back -> true
        count 0 -> 4
        count 1 -> 1
        count 2 -> -1
        count 3 -> 0
        count 4 -> 0
        count 5 -> 10
        count 6 -> 137
        count 7 -> 147
        count 8 -> 160
        count 10 -> 5
        count 11 -> 0
        count 12 -> 0
        count 13 -> 2
        count 14 -> 1
        tenant 4 0 -> IndexOutOfBoundsException
        rule 0 0 1 -> 5
        seed 1 -> 1
        # to what is ahead of it, too
        law "rent 7" -> 1
        image -> null
        law "" -> 0
        back -> true
        rule 0 0 1 -> 7
        count 2 -> 1
        """;

    private static final String COUNT = """
        count -1 -> -1
        count 0 -> 4
        count 15 -> 0
        count 16 -> -1
        count -2147483648 -> -1
        count 2147483647 -> -1
        count 2 -> -1
        law "" -> 0
        count 2 -> 0
        law "bar;bar;bar;bar;bar;bar;bar;bar;bar;bar;bar;bar" -> 12
        count 2 -> 12
        # with all ROOMS let
        new
        town "tenant 0 likes 0 to 0;tenant 0 likes 0 to 0;let 0 0 to 23 0;let 1 0 to 23 0;let 2 0 to 23 0;let 3 0 to 23 0;let 4 0 to 23 0;let 5 0 to 23 0;let 6 0 to 22 0" -> 1
        count 8 -> 1
        town "let 6 23 to 23 0;sub 6 23 1" -> 2
        count 8 -> 0
        count 9 -> 1
        count 14 -> 0
        leave 167 -> 0
        count 8 -> 1
        count 9 -> 0
        town "shut 6 23;goods 0 0 99;goods 6 23 99" -> 3
        count 8 -> 1
        count 14 -> 1
        count 10 -> 198
        tenant 0 4 -> 167
        tenant 0 6 -> 835
        # a week without coins
        ticks 168 -> 0
        count 8 -> 168
        count 14 -> 1
        """;

    private static final String BOOKS = """
        count 7 -> 147
        count 6 -> 147
        take 0 0 -> 5
        sublet 0 1 9 -> 0
        ticks 400 -> 55
        count 5 -> 60
        count 6 -> 87
        count 7 -> 147
        town "tenant 9999 likes 0 to 0;child of 4" -> 2
        count 7 -> 10146
        count 6 -> 10086
        sublet 9 4 999 -> 1
        count 5 -> 60
        count 6 -> 10086
        leave 9 -> 1
        evict 10 -> 3
        count 5 -> 60
        count 6 -> 10086
        count 7 -> 10146
        undo -> true
        undo -> true
        undo -> true
        count 6 -> 10086
        """;
}
