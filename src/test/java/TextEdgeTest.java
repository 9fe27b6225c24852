/** The edges of the TAPE and of the texts of THE TOWN and THE LAW: promises 1 to 6, and what the Terms say of texts. */
public final class TextEdgeTest {
    private static final String WRONG = " -> IllegalArgumentException\n";
    private static final String ROOMY = "tenant 50 likes 1 to 2;tenant 60 likes 3 to 4;let 0 0 to 5 0;";

    private static int wrong = 0;

    public static void main(String[] args) {
        playAll(new Script(HourLets.class));
        playAll(new Script(Model.class));
        System.out.println(wrong == 0 ? "all answers are as due" : wrong + " answers are not as due");
        if (wrong != 0) {
            System.exit(1);
        }
    }

    private static void playAll(Script script) {
        script.play("a new object: nobody", newObject());
        script.play("feed: none come if it would have more than 400", feedEdges());
        script.play("feed: of each number the highest first", FEED_BYTES);
        script.play("end: false and nothing happens", END_EDGES);
        script.play("the TAPE is used up", USED_UP);
        script.play("the TAPE stays where it is not used", NOT_USED_UP);
        script.play("fault: of the latest text that was read", FAULTS);
        script.play("a text without a LINE", NO_LINES);
        script.play("texts: at most 12", twelveTexts());
        script.play("texts: of several exceptions the one told first", FIRST_EXCEPTION);
        script.play("LINES of a text: at most 14", lineEdges("town", "chance 1", 14));
        script.play("LINES of THE LAW: at most 12", lineEdges("law", "bar", 12));
        script.play("a text of 400 bytes", fullTexts());
        script.play("blanks are byte 32 alone", BLANKS);
        script.play("words are as long as a to z go on", WORDS);
        script.play("digits", DIGITS);
        script.play("TENANTS: at most 10", TEN_TENANTS);
        script.play("WANTS: at most 8", EIGHT_WANTS);
        script.play("T: that there is by then, no CHILD", TENANTS_BY_THEN);
        script.play("let: whoever has one of these, a SHUT one", LETS);
        script.play("shut: a ROOM without an OWNER", SHUTS);
        script.play("sub: a ROOM that has an OWNER, to another one", SUBS);
        script.play("of a wrong text nothing stays", NOTHING_STAYS);
        script.play("THE LAW: 6 deep", DEEP);
        script.play("THE LAW: in place of the one before", LAW_REPLACED);
        script.play("THE LAW: what holds", HOLDS);
        script.play("THE LAW: each of 12 LINES by its own", twelveLines());
        townNumbers(script);
        lawNumbers(script);
        eachThingOfATown(script);
        eachThingOfALaw(script);
        wrong += script.wrongAnswers();
    }

    private static String times(String text, int n) {
        return text.repeat(n);
    }

    private static String newObject() {
        StringBuilder text = new StringBuilder();
        int[] counts = {0, 0, -1, 0, 0, 0, 0, 0, 168, 0, 0, 0, 0, 0, 0, 0};
        for (int what = 0; what < counts.length; what++) {
            text.append("count ").append(what).append(" -> ").append(counts[what]).append('\n');
        }
        for (int room : new int[] {0, 1, 83, 166, 167}) {
            int[] whats = {-1, -1, 0, 0, -1, -1};
            for (int what = 0; what < whats.length; what++) {
                text.append("room ").append(room).append(' ').append(what).append(" -> ").append(whats[what]).append('\n');
            }
        }
        text.append("fault -> -1\nlog 0 0 -> -1\nundo -> false\nback -> false\nend 0 -> true\nend 1 -> false\n");
        text.append("fitted true -> 1\nempty false -> 168\nempty true -> 0\ncourt -1 false -> 0\nseed 1 -> 1\n");
        text.append("tenant 0 0 -> IndexOutOfBoundsException\n");
        return text.toString();
    }

    private static String feedEdges() {
        StringBuilder text = new StringBuilder();
        for (int n = 20; n <= 380; n += 20) {
            text.append("feed 0 0 0 0 0 -> ").append(n).append('\n');
        }
        return text + """
            end 381 -> false
            feed 0 0 0 0 0 -> 400
            # full
            feed 0 0 0 0 0 -> -1
            end 401 -> false
            end 400 -> true
            feed 0 0 0 0 0 -> -1
            # one too many, and none come
            end 381 -> true
            feed 0 0 0 0 0 -> -1
            end 382 -> false
            end 381 -> true
            # the last that fits
            end 380 -> true
            feed 0 0 0 0 0 -> 400
            # one fewer
            end 379 -> true
            feed 0 0 0 0 0 -> 399
            end 400 -> false
            feed 0 0 0 0 0 -> -1
            end 399 -> true
            end 0 -> true
            feed -1 -1 -1 -1 -1 -> 20
            """;
    }

    private static final String FEED_BYTES = """
        town "tenant 5 likes 0 to 0;tenant 5 likes 0 to 0;let 6 23 to 23 0;let 0 0 to 0 1" -> 1
        # 167 four times in each number, and as 167 0 0 0, 0 167 0 0, 0 0 167 0, 0 0 0 167
        feed -1482184793 -1482184793 -1482184793 -1482184793 -1482184793 -> 20
        thieves -> 3
        feed -1493172224 10944512 42752 167 0 -> 20
        end 1 -> true
        thieves -> 3
        # the highest byte first: 166 has tenant 0 alone beside it, and 1 has tenant 1 alone
        feed -1509949440 0 0 0 0 -> 20
        end 1 -> true
        thieves -> 1
        feed 16777216 0 0 0 0 -> 20
        end 1 -> true
        thieves -> 2
        feed 1 0 0 0 0 -> 20
        end 3 -> true
        thieves -> 3
        feed 1 0 0 0 0 -> 20
        end 4 -> true
        thieves -> 2
        # the first number ahead of the last one
        feed 0 0 0 0 -1509949440 -> 20
        end 16 -> true
        thieves -> 3
        feed 0 0 0 0 -1509949440 -> 20
        end 17 -> true
        thieves -> 1
        # twenty more come behind
        feed 0 0 0 0 0 -> 20
        end 1 -> true
        feed -1509949440 0 0 0 0 -> 21
        end 2 -> true
        thieves -> 1
        # what was fed and cut off is not there any more: 0 and 255 255 255; 0 97 and 255 255
        feed 16777215 -1 -1 -1 -1 -> 20
        end 1 -> true
        thieves -> 3
        feed 6422527 -1 -1 -1 -1 -> 20
        end 2 -> true
        seen -> 0
        # 255 is no room, wherever it stands
        feed 255 0 0 0 0 -> 20
        end 4 -> true
        thieves -> IllegalArgumentException
        feed -1 0 0 0 0 -> 20
        end 1 -> true
        thieves -> IllegalArgumentException
        """;

    private static final String END_EDGES = """
        end -1 -> false
        end -2147483648 -> false
        end 1 -> false
        end 2147483647 -> false
        end 0 -> true
        feed 1 2 3 4 5 -> 20
        end -1 -> false
        end 21 -> false
        end 2147483647 -> false
        feed 1 2 3 4 5 -> 40
        end 41 -> false
        end 40 -> true
        end 39 -> true
        end 40 -> false
        end 39 -> true
        end 1 -> true
        end 2 -> false
        end 1 -> true
        end 0 -> true
        end 1 -> false
        feed 1 2 3 4 5 -> 20
        # its first n bytes: what stands there is "bar"
        tape "bar;rent"
        end 3 -> true
        law -> 1
        """;

    private static final String USED_UP = """
        town "" -> 1
        end 1 -> false
        town "chance 1" -> 2
        end 1 -> false
        town "chance" -> IllegalArgumentException
        end 1 -> false
        law "bar" -> 1
        end 1 -> false
        law "bars" -> IllegalArgumentException
        end 1 -> false
        town "tenant 1 likes 0 to 0" -> 3
        thieves 0 -> 0
        end 1 -> false
        thieves 168 -> IllegalArgumentException
        end 1 -> false
        seen 0 97 -> 0
        end 1 -> false
        seen 0 -> IllegalArgumentException
        end 1 -> false
        seen 0 96 -> IllegalArgumentException
        end 1 -> false
        # with 12 texts, too
        town "" -> 4
        town "" -> 5
        town "" -> 6
        town "" -> 7
        town "" -> 8
        town "" -> 9
        town "" -> 10
        town "" -> 11
        town "" -> 12
        town "chance 1" -> UnsupportedOperationException
        end 1 -> false
        town "chance" -> IllegalArgumentException
        end 1 -> false
        end 0 -> true
        """;

    private static final String NOT_USED_UP = """
        tape "bar;bar"
        tenant 0 0 -> IndexOutOfBoundsException
        room 168 0 -> IndexOutOfBoundsException
        room 0 9 -> NoSuchElementException
        rule 0 0 0 -> IndexOutOfBoundsException
        take 0 0 -> IndexOutOfBoundsException
        leave 0 -> IllegalStateException
        ends 0 -> IllegalStateException
        evict 0 -> IllegalStateException
        swap 0 0 -> IllegalArgumentException
        ticks 0 -> IllegalArgumentException
        ticks 1 -> 0
        fair 7 0 0 -> IllegalArgumentException
        changed 0 0 -1 -> IllegalArgumentException
        log 0 4 -> NoSuchElementException
        led 0 -1 -> IllegalArgumentException
        seed 1 -> 1
        image -> null
        undo -> true
        back -> true
        fault -> -1
        end 8 -> false
        end 7 -> true
        law -> 2
        """;

    private static final String FAULTS = """
        fault -> -1
        town "x" -> IllegalArgumentException
        fault -> 0
        fault -> 0
        law "" -> 0
        fault -> -1
        law "bar;x" -> IllegalArgumentException
        fault -> 4
        town "" -> 1
        fault -> -1
        town "chance 101" -> IllegalArgumentException
        fault -> 7
        # no text is read by these
        thieves -> IllegalArgumentException
        fault -> 7
        seen 0 -> IllegalArgumentException
        fault -> 7
        seen -> -1
        fault -> 7
        image -> null
        ticks 1 -> 0
        undo -> true
        fault -> 7
        law "bar" -> 1
        fault -> -1
        back -> true
        fault -> -1
        law "b" -> IllegalArgumentException
        back -> true
        fault -> 0
        ticks 0 -> IllegalArgumentException
        fault -> 0
        """;

    private static final String NO_LINES = """
        town "" -> 1
        fault -> -1
        town " " -> 2
        fault -> -1
        town "      " -> 3
        count 1 -> 3
        count 0 -> 0
        count 2 -> -1
        law "" -> 0
        fault -> -1
        count 2 -> 0
        law "bar" -> 1
        law "    " -> 0
        count 2 -> 0
        # no LINE of rent or value: nothing is to be paid; without a text it is 5
        town "tenant 5 likes 0 to 23" -> 4
        rule 0 0 0 -> 0
        rule 0 0 1 -> 0
        rule 0 0 2 -> 0
        new
        town "tenant 5 likes 0 to 23" -> 1
        rule 0 0 0 -> 0
        rule 0 0 1 -> 5
        rule 0 0 2 -> 1
        # a text without a LINE is a text: none are remembered
        take 0 0 -> 5
        count 15 -> 1
        town "" -> 2
        count 15 -> 0
        ticks 1 -> 0
        law "" -> 0
        count 15 -> 0
        # ; alone has a LINE missing ahead of it, and one behind
        town ";" -> IllegalArgumentException
        fault -> 0
        town "  ; " -> IllegalArgumentException
        fault -> 2
        town "chance 1;" -> IllegalArgumentException
        fault -> 9
        town "chance 1;;chance 1" -> IllegalArgumentException
        fault -> 9
        town ";chance 1" -> IllegalArgumentException
        fault -> 0
        law ";" -> IllegalArgumentException
        fault -> 0
        law "bar;;bar" -> IllegalArgumentException
        fault -> 4
        law "bar; " -> IllegalArgumentException
        fault -> 5
        """;

    private static String twelveTexts() {
        StringBuilder text = new StringBuilder();
        for (int n = 1; n <= 11; n++) {
            text.append("town \"chance ").append(n).append("\" -> ").append(n).append('\n');
        }
        return text + """
            count 1 -> 11
            town "chance 101" -> IllegalArgumentException
            count 1 -> 11
            town "chance 12" -> 12
            count 1 -> 12
            town "chance 13" -> UnsupportedOperationException
            count 1 -> 12
            count 12 -> 12
            fault -> -1
            town "" -> UnsupportedOperationException
            # wrong, too: of both exceptions the one told first
            town "chance 101" -> IllegalArgumentException
            fault -> 7
            # texts of THE LAW are not among these
            law "bar" -> 1
            law "bar" -> 1
            count 1 -> 12
            # acts stay remembered
            ticks 1 -> 0
            town "chance 13" -> UnsupportedOperationException
            count 15 -> 1
            """;
    }

    private static final String FIRST_EXCEPTION = """
        image -> null
        town "" -> 1
        town "" -> 2
        town "" -> 3
        town "" -> 4
        town "" -> 5
        town "" -> 6
        town "" -> 7
        town "" -> 8
        town "" -> 9
        town "" -> 10
        town "" -> 11
        town "" -> 12
        town "c" -> IllegalArgumentException
        town "" -> UnsupportedOperationException
        town "    ?" -> IllegalArgumentException
        fault -> 4
        # going back there are fewer again
        back -> true
        count 1 -> 0
        town "" -> 1
        """;

    private static String lineEdges(String call, String line, int most) {
        StringBuilder text = new StringBuilder();
        for (int lines = 1; lines <= most + 2; lines++) {
            String all = line + times(";" + line, lines - 1);
            int tooMany = (line.length() + 1) * most;
            text.append("new\n");
            expectText(text, call, all, lines <= most ? -1 : tooMany, call.equals("law") ? lines : 1);
        }
        String full = line + times(";" + line, most - 1);
        expectText(text, call, "  " + full + "  ", -1, call.equals("law") ? most : 1);
        // what is behind the last ; is a LINE too many, or missing
        expectText(text, call, full + ";", full.length() + 1, 0);
        expectText(text, call, full + ";  ", full.length() + 3, 0);
        expectText(text, call, full + ";  " + line, full.length() + 3, 0);
        expectText(text, call, full + "; 5", full.length() + 2, 0);
        expectText(text, call, full + " " + line, full.length() + 1, 0);
        // a wrong one ahead of it is the first
        expectText(text, call, "x;" + full, 0, 0);
        return text.toString();
    }

    private static void expectText(StringBuilder text, String call, String read, int fault, int answer) {
        text.append(call).append(" \"").append(read).append('"');
        text.append(fault < 0 ? " -> " + answer + "\n" : WRONG);
        text.append("fault -> ").append(fault).append('\n');
    }

    private static String fullTexts() {
        String blanks = times(" ", 400);
        StringBuilder text = new StringBuilder();
        expectText(text, "town", blanks, -1, 1);
        expectText(text, "town", blanks.substring(8) + "chance 7", -1, 2);
        text.append("count 12 -> 7\n");
        expectText(text, "town", "chance 8" + blanks.substring(8), -1, 3);
        text.append("count 12 -> 8\n");
        expectText(text, "town", blanks.substring(7) + "chance ", 400, 0);
        expectText(text, "town", "chance" + blanks.substring(6), 400, 0);
        expectText(text, "town", "chance 9" + blanks.substring(9) + "x", 399, 0);
        text.append("count 12 -> 8\n");
        expectText(text, "law", blanks, -1, 0);
        expectText(text, "law", blanks.substring(3) + "bar", -1, 1);
        expectText(text, "law", blanks.substring(6) + "bar if", 400, 0);
        expectText(text, "law", "bar" + blanks.substring(4) + "x", 399, 0);
        String sum = times("1+", 195);
        expectText(text, "law", "rent 9if " + sum + "0", 400, 0);
        // 194 ones are less than 195, and not less than 194
        text.append("new\ntown \"tenant 9999 likes 0 to 0\" -> 1\n");
        String longest = "bar if " + times("1+", 193) + "1<";
        expectText(text, "law", longest + "195  ", -1, 1);
        text.append("rule 0 0 0 -> 1\n");
        expectText(text, "law", longest + "194  ", -1, 1);
        text.append("rule 0 0 0 -> 0\n");
        String nines = "bar if coins+" + times("999+", 94) + "9>1";
        expectText(text, "law", nines + times(" ", 400 - nines.length()), -1, 1);
        text.append("rule 0 0 0 -> 1\n");
        return text.toString();
    }

    private static final String BLANKS = """
        town "   chance    5   ;   chance    6   " -> 1
        count 12 -> 6
        town "chance5;chance7" -> 2
        count 12 -> 7
        town "chance{9}5" -> IllegalArgumentException
        fault -> 6
        town "chance {10}5" -> IllegalArgumentException
        fault -> 7
        town "{13}chance 5" -> IllegalArgumentException
        fault -> 0
        town "chance 5{0}" -> IllegalArgumentException
        fault -> 8
        town "chance 5 {31}" -> IllegalArgumentException
        fault -> 9
        town "chance 5{33}" -> IllegalArgumentException
        fault -> 8
        town "chance {160}5" -> IllegalArgumentException
        fault -> 7
        town "{255}" -> IllegalArgumentException
        fault -> 0
        town "{0}" -> IllegalArgumentException
        fault -> 0
        law "bar{9}" -> IllegalArgumentException
        fault -> 3
        law " bar if 1 < 2 and ( not likes ) " -> 1
        law "bar if1<2and(not likes)" -> 1
        law "bar if 1<2and(notlikes)" -> IllegalArgumentException
        fault -> 14
        law "{32}bar{32}" -> 1
        # signs are one byte each
        law "bar if 1 < < 2" -> IllegalArgumentException
        fault -> 11
        law "bar if 1<=2" -> IllegalArgumentException
        fault -> 9
        law "bar if 1=2" -> IllegalArgumentException
        fault -> 8
        law "bar if ()" -> IllegalArgumentException
        fault -> 8
        law "bar if )" -> IllegalArgumentException
        fault -> 7
        """;

    private static final String WORDS = """
        town "tenants 5 likes 1 to 2" -> IllegalArgumentException
        fault -> 0
        town "tenan 5 likes 1 to 2" -> IllegalArgumentException
        fault -> 0
        town "Tenant 5 likes 1 to 2" -> IllegalArgumentException
        fault -> 0
        town "tenanT 5 likes 1 to 2" -> IllegalArgumentException
        fault -> 0
        town "tenant 5 like 1 to 2" -> IllegalArgumentException
        fault -> 9
        town "tenant 5 likest 1 to 2" -> IllegalArgumentException
        fault -> 9
        town "tenant 5 likes1to2" -> 1
        town "tenant 5 likes 1 t 2" -> IllegalArgumentException
        fault -> 17
        town "tenant 5 likes 1 t o 2" -> IllegalArgumentException
        fault -> 17
        town "chil of 0" -> IllegalArgumentException
        fault -> 0
        town "childof 0" -> IllegalArgumentException
        fault -> 0
        town "child off 0" -> IllegalArgumentException
        fault -> 6
        # ` and { are beside a and z
        town "chance{96} 5" -> IllegalArgumentException
        fault -> 6
        town "chance{123} 5" -> IllegalArgumentException
        fault -> 6
        town "{96}chance 5" -> IllegalArgumentException
        fault -> 0
        town "{123}chance 5" -> IllegalArgumentException
        fault -> 0
        law "rend 5" -> IllegalArgumentException
        fault -> 0
        law "b ar" -> IllegalArgumentException
        fault -> 0
        law "barif likes" -> IllegalArgumentException
        fault -> 0
        law "bar iflikes" -> IllegalArgumentException
        fault -> 4
        law "bar if liked" -> IllegalArgumentException
        fault -> 7
        law "bar if likes andbeside" -> IllegalArgumentException
        fault -> 13
        law "bar if days<3" -> IllegalArgumentException
        fault -> 7
        law "bar if tenants<3" -> IllegalArgumentException
        fault -> 7
        law "bar if likes{96}" -> IllegalArgumentException
        fault -> 12
        law "bar if likes{123}" -> IllegalArgumentException
        fault -> 12
        # words of the one text are none in the other one
        law "chance 5" -> IllegalArgumentException
        fault -> 0
        town "bar" -> IllegalArgumentException
        fault -> 0
        town "rent 5" -> IllegalArgumentException
        fault -> 0
        # words that stand elsewhere
        town "likes 1 to 2" -> IllegalArgumentException
        fault -> 0
        law "if likes" -> IllegalArgumentException
        fault -> 0
        law "bar or likes" -> IllegalArgumentException
        fault -> 4
        law "bar if or likes" -> IllegalArgumentException
        fault -> 7
        law "bar if likes not" -> IllegalArgumentException
        fault -> 13
        law "bar if likes(beside)" -> IllegalArgumentException
        fault -> 12
        law "bar if not and likes" -> IllegalArgumentException
        fault -> 11
        """;

    private static final String DIGITS = """
        # / and : are beside 0 and 9
        town "chance /" -> IllegalArgumentException
        fault -> 7
        town "chance :" -> IllegalArgumentException
        fault -> 7
        town "chance 0/" -> IllegalArgumentException
        fault -> 8
        town "chance 9:" -> IllegalArgumentException
        fault -> 8
        town "chance -1" -> IllegalArgumentException
        fault -> 7
        town "chance +1" -> IllegalArgumentException
        fault -> 7
        town "chance 1 0" -> IllegalArgumentException
        fault -> 9
        town "chance 1.0" -> IllegalArgumentException
        fault -> 8
        # numbers that go round as an int
        town "chance 4294967296" -> IllegalArgumentException
        fault -> 7
        town "chance 4294967301" -> IllegalArgumentException
        fault -> 7
        town "chance 18446744073709551617" -> IllegalArgumentException
        fault -> 7
        town "tenant 4294967297 likes 0 to 0" -> IllegalArgumentException
        fault -> 7
        law "rent 4294967297" -> IllegalArgumentException
        fault -> 5
        law "bar if 4294967297<2" -> IllegalArgumentException
        fault -> 7
        # a number where a word is due, and a word where a number is
        town "5 tenant" -> IllegalArgumentException
        fault -> 0
        town "tenant likes 1 to 2" -> IllegalArgumentException
        fault -> 7
        law "rent if likes" -> IllegalArgumentException
        fault -> 5
        law "5" -> IllegalArgumentException
        fault -> 0
        town "let 0 0 1 0" -> IllegalArgumentException
        fault -> 8
        """;

    private static final String TEN_TENANTS = """
        town "tenant 0 likes 0 to 0;tenant 1 likes 0 to 0;tenant 2 likes 0 to 0;tenant 3 likes 0 to 0;tenant 4 likes 0 to 0;tenant 5 likes 0 to 0;tenant 6 likes 0 to 0;tenant 7 likes 0 to 0;tenant 8 likes 0 to 0" -> 1
        count 0 -> 9
        tenant 9 0 -> IndexOutOfBoundsException
        town "child of 9" -> IllegalArgumentException
        fault -> 9
        image -> null
        # the tenth is the last one, and an eleventh is wrong from its first word on
        town "tenant 9 likes 0 to 0;tenant 10 likes 0 to 0" -> IllegalArgumentException
        fault -> 22
        town "tenant 9 likes 0 to 0;child of 0" -> IllegalArgumentException
        fault -> 22
        town "child of 0;tenant 9 likes 0 to 0" -> IllegalArgumentException
        fault -> 11
        town "child of 0;  child of 0" -> IllegalArgumentException
        fault -> 13
        count 0 -> 9
        town "tenant 9 likes 0 to 0" -> 2
        count 0 -> 10
        tenant 9 0 -> 9
        tenant 10 0 -> IndexOutOfBoundsException
        town "tenant" -> IllegalArgumentException
        fault -> 0
        town " child" -> IllegalArgumentException
        fault -> 1
        town "chance 5;tenant 9 likes 0 to 0" -> IllegalArgumentException
        fault -> 9
        town "let 0 0 to 0 9;let 0 1 to 1 10" -> IllegalArgumentException
        fault -> 28
        town "let 0 0 to 0 9" -> 3
        room 0 0 -> 9
        seen 0 106 -> -1
        seen 0 107 -> IllegalArgumentException
        court 512 false -> 1
        court 1024 false -> 0
        # with a child as the last one
        back -> true
        town "child of 8" -> 2
        count 0 -> 10
        tenant 9 3 -> 8
        town "child of 8" -> IllegalArgumentException
        fault -> 0
        """;

    private static final String EIGHT_WANTS = """
        town "tenant 0 likes 0 to 0;want 0 1 from 0 to 0;want 0 1 from 0 to 0;want 0 1 from 0 to 0;want 0 1 from 0 to 0;want 0 1 from 0 to 0;want 0 1 from 0 to 0;want 0 1 from 0 to 0" -> 1
        count 11 -> 7
        town "want 0 1 from 1 to 1; want 0 1 from 1 to 1" -> IllegalArgumentException
        fault -> 22
        count 11 -> 7
        town "want 0 1 from 1 to 1" -> 2
        count 11 -> 8
        fitted false -> 8
        town "want 0 1 from 1 to 1" -> IllegalArgumentException
        fault -> 0
        town "  want" -> IllegalArgumentException
        fault -> 2
        town "chance 7;want 9 9 9" -> IllegalArgumentException
        fault -> 9
        count 11 -> 8
        count 12 -> 0
        given 0 -> 0
        given 1 -> 7
        given 24 -> 1
        given 144 -> 6
        given 145 -> -1
        """;

    private static final String TENANTS_BY_THEN = """
        town "child of 0" -> IllegalArgumentException
        fault -> 9
        town "let 0 0 to 0 0" -> IllegalArgumentException
        fault -> 13
        town "want 0 1 from 0 to 0" -> IllegalArgumentException
        fault -> 5
        # one that comes behind is not there by then
        town "let 0 0 to 0 0;tenant 5 likes 0 to 0" -> IllegalArgumentException
        fault -> 13
        town "tenant 5 likes 0 to 0;let 0 0 to 0 1;tenant 5 likes 0 to 0" -> IllegalArgumentException
        fault -> 35
        town "tenant 5 likes 0 to 0;let 0 0 to 0 0" -> 1
        room 0 0 -> 0
        town "child of 1" -> IllegalArgumentException
        fault -> 9
        town "child of 0" -> 2
        # a CHILD has no children, no rooms, no wants
        town "child of 1" -> IllegalArgumentException
        fault -> 9
        town "let 0 1 to 1 1" -> IllegalArgumentException
        fault -> 13
        town "sub 0 0 1" -> IllegalArgumentException
        fault -> 8
        town "want 1 1 from 0 to 0" -> IllegalArgumentException
        fault -> 5
        # the one behind it is a TENANT again, three digits are as good
        town "tenant 5 likes 0 to 0;sub 0 0 002;let 0 1 to 1 2;want 02 1 from 0 to 0;child of 2" -> 3
        room 0 1 -> 2
        room 1 0 -> 2
        tenant 3 3 -> 2
        town "sub 0 0 4" -> IllegalArgumentException
        fault -> 8
        town "sub 0 0 0002" -> IllegalArgumentException
        fault -> 8
        town "want 999 1 from 0 to 0" -> IllegalArgumentException
        fault -> 5
        # more children of one, and no coins for them
        town "child of 0;child of 0" -> 4
        count 0 -> 6
        count 6 -> 10
        count 7 -> 10
        tenant 5 0 -> 0
        tenant 5 3 -> 0
        """;

    private static final String LETS = """
        town "tenant 5 likes 0 to 0;tenant 5 likes 0 to 0;let 0 5 to 8 0;shut 1 5;shut 1 8" -> 1
        # each of its edges, and the second HOUR is wrong
        town "let 0 8 to 9 1" -> IllegalArgumentException
        fault -> 11
        town "let 0 4 to 5 1" -> IllegalArgumentException
        fault -> 11
        town "let 0 0 to 23 1" -> IllegalArgumentException
        fault -> 11
        town "let 0 6 to 6 1" -> IllegalArgumentException
        fault -> 11
        # one's own, too
        town "let 0 8 to 8 0" -> IllegalArgumentException
        fault -> 11
        # that HOUR ahead of a TENANT that is none
        town "let 0 5 to 5 9" -> IllegalArgumentException
        fault -> 11
        # beside these it is fine
        town "let 0 4 to 4 1;let 0 9 to 9 1" -> 2
        town "let 1 4 to 5 1" -> IllegalArgumentException
        fault -> 11
        town "let 1 8 to 9 1" -> IllegalArgumentException
        fault -> 11
        town "let 1 5 to 5 1" -> IllegalArgumentException
        fault -> 11
        town "let 1 6 to 7 1;let 1 4 to 4 0;let 1 9 to 23 0" -> 3
        room 28 0 -> 0
        room 29 0 -> -1
        room 30 0 -> 1
        room 47 0 -> 0
        room 48 0 -> -1
        # in the same text
        town "let 6 23 to 23 0;let 6 22 to 23 1" -> IllegalArgumentException
        fault -> 29
        town "shut 6 23;let 6 22 to 23 1" -> IllegalArgumentException
        fault -> 22
        room 167 0 -> -1
        room 167 3 -> 0
        # a whole DAY, the first and the last one
        town "let 6 0 to 23 1" -> 4
        room 143 0 -> -1
        room 144 0 -> 1
        room 167 0 -> 1
        room 167 1 -> 1
        tenant 1 4 -> 28
        # one that is SUBLET has an OWNER
        town "sub 6 0 0" -> 5
        town "let 6 0 to 0 0" -> IllegalArgumentException
        fault -> 11
        # and one that was left has none
        leave 144 -> 1
        town "let 6 0 to 0 0" -> 6
        room 144 0 -> 0
        room 144 1 -> 0
        # not by a text: THE LOG has none
        count 13 -> 0
        """;

    private static final String SHUTS = """
        town "tenant 50 likes 0 to 0;let 0 1 to 1 0;shut 0 0;shut 0 2;shut 6 23" -> 1
        count 14 -> 3
        room 0 3 -> 1
        room 1 3 -> 0
        room 2 3 -> 1
        room 167 3 -> 1
        town "shut 0 1" -> IllegalArgumentException
        fault -> 7
        count 14 -> 3
        # once more
        town "shut 0 0;shut 0 0" -> 2
        count 14 -> 3
        leave 1 -> 0
        town "shut 0 1" -> 3
        count 14 -> 4
        take 0 1 -> IllegalStateException
        take 0 0 -> IllegalStateException
        take 0 3 -> 5
        town "shut 0 3" -> IllegalArgumentException
        fault -> 7
        # goods may be in one that is shut
        town "goods 0 0 9" -> 4
        room 0 2 -> 9
        room 0 3 -> 1
        """;

    private static final String SUBS = """
        town "tenant 50 likes 0 to 0;tenant 50 likes 0 to 0;tenant 50 likes 0 to 0;child of 2;let 0 1 to 1 0;shut 0 0" -> 1
        # without an OWNER: its H
        town "sub 0 2 1" -> IllegalArgumentException
        fault -> 6
        town "sub 0 0 1" -> IllegalArgumentException
        fault -> 6
        town "sub 0 2 9" -> IllegalArgumentException
        fault -> 6
        # to the OWNER: its T
        town "sub 0 1 0" -> IllegalArgumentException
        fault -> 8
        town "sub 0 1 3" -> IllegalArgumentException
        fault -> 8
        town "sub 0 1 1" -> 2
        room 1 0 -> 0
        room 1 1 -> 1
        count 9 -> 1
        # in place of whom it is SUBLET to, the same one, too
        town "sub 0 1 2;sub 0 1 2" -> 3
        room 1 1 -> 2
        count 9 -> 1
        town "sub 0 1 0" -> IllegalArgumentException
        fault -> 8
        ends 1 -> 2
        room 1 1 -> 0
        # no coins go by, and nothing is entered
        count 6 -> 150
        count 13 -> 0
        # a BAR is nothing to a text
        law "bar" -> 1
        town "sub 0 1 2;let 0 2 to 2 1" -> 4
        room 1 1 -> 2
        room 2 0 -> 1
        """;

    private static final String NOTHING_STAYS = """
        town "tenant 50 likes 0 to 5;let 0 0 to 3 0;sub 0 0 0" -> IllegalArgumentException
        fault -> 46
        count 0 -> 0
        count 1 -> 0
        count 7 -> 0
        count 8 -> 168
        town "tenant 50 likes 0 to 5;tenant 5 likes 1 to 2;let 0 0 to 3 0" -> 1
        take 1 4 -> 5
        town "tenant 9 likes 0 to 0;child of 0;let 1 0 to 3 1;goods 0 0 9;shut 2 2;sub 0 0 1;want 0 1 from 0 to 0;chance 50;x" -> IllegalArgumentException
        fault -> 110
        count 0 -> 2
        count 1 -> 1
        count 6 -> 50
        count 7 -> 55
        count 8 -> 163
        count 9 -> 0
        count 10 -> 0
        count 11 -> 0
        count 12 -> 0
        count 14 -> 0
        count 15 -> 1
        room 0 1 -> 0
        room 24 0 -> -1
        tenant 2 0 -> IndexOutOfBoundsException
        undo -> true
        # what stood before comes back in with the next right text alone
        town "goods 0 0 9" -> 2
        count 0 -> 2
        count 8 -> 164
        count 10 -> 9
        law "rent 3;bar if likes" -> 2
        law "rent 4;bar;value 1;x" -> IllegalArgumentException
        fault -> 19
        count 2 -> 2
        rule 0 24 1 -> 3
        rule 0 0 0 -> 1
        rule 0 24 2 -> 0
        rule 0 6 0 -> 0
        """;

    private static final String DEEP = """
        law "bar if (((((likes)))))" -> 1
        law "bar if ((((((likes))))))" -> 1
        law "bar if (((((((likes)))))))" -> IllegalArgumentException
        fault -> 13
        law "bar if ((((((((likes))))))))" -> IllegalArgumentException
        fault -> 13
        law "bar if not not not not not likes" -> 1
        law "bar if not not not not not not likes" -> 1
        law "bar if not not not not not not not likes" -> IllegalArgumentException
        fault -> 31
        law "bar if not(not(not(likes)))" -> 1
        law "bar if not(not(not(not likes)))" -> IllegalArgumentException
        fault -> 19
        law "bar if not(not(not((likes))))" -> IllegalArgumentException
        fault -> 19
        law "bar if (not(not(not likes)))" -> 1
        law "bar if (not(not(not(likes))))" -> IllegalArgumentException
        fault -> 19
        # one behind another is not one within another
        law "bar if ((((((likes)))))) and ((((((likes)))))) or ((((((likes))))))" -> 1
        law "bar if not not not not not not likes and not not not not not not likes" -> 1
        law "bar if (((((not likes and not likes or not likes)))))" -> 1
        law "bar if (((((not likes and (likes) or not beside and (beside))))))" -> 1
        law "bar if (((((not likes and (likes) or not (beside))))))" -> IllegalArgumentException
        fault -> 41
        law "bar if ((((((likes) and (likes)))))) " -> 1
        law "bar if ((((((likes and (likes))))))) " -> IllegalArgumentException
        fault -> 23
        law "bar if not ((((( likes ))))) and not not not not not not beside" -> 1
        law "bar if not (((((not likes)))))" -> IllegalArgumentException
        fault -> 16
        law "bar if not 1<2 and not 1+1>2 and not 1<2 and not 1<2 and not 1<2 and not 1<2 and not 1<2" -> 1
        law "bar if ((((((likes))))));bar if ((((((likes))))));bar if not not not not not not likes" -> 3
        # the 7th one deep is wrong, whatever comes behind it; one ahead of it is wrong before
        law "bar if ((((((( " -> IllegalArgumentException
        fault -> 13
        law "bar if (((((( " -> IllegalArgumentException
        fault -> 14
        law "bar if ((((((" -> IllegalArgumentException
        fault -> 13
        law "bar if not not not not not not" -> IllegalArgumentException
        fault -> 30
        law "bar if )((((((((" -> IllegalArgumentException
        fault -> 7
        law "bar if ((((((likes)))))))" -> IllegalArgumentException
        fault -> 24
        law "bar if ((((((likes)))))" -> IllegalArgumentException
        fault -> 23
        law "bar if likes)" -> IllegalArgumentException
        fault -> 12
        law "bar if (likes))" -> IllegalArgumentException
        fault -> 14
        law "bar if (likes" -> IllegalArgumentException
        fault -> 13
        law "bar if (likes))and(likes" -> IllegalArgumentException
        fault -> 14
        # what they tell at six deep
        town "tenant 5 likes 3 to 3" -> 1
        law "bar if not not not not not not likes;rent 1 if not not not not not likes" -> 2
        rule 0 3 0 -> 1
        rule 0 2 0 -> 0
        rule 0 3 1 -> 0
        rule 0 2 1 -> 1
        law "bar if not(not(not(hour<3 or hour>3)))" -> 1
        rule 0 3 0 -> 1
        rule 0 4 0 -> 0
        """;

    private static final String LAW_REPLACED = """
        town "tenant 50 likes 0 to 0" -> 1
        law "rent 1;value 2;bar if day>5" -> 3
        rule 0 0 1 -> 1
        rule 0 0 2 -> 2
        rule 0 144 0 -> 1
        law "value 7" -> 1
        count 2 -> 1
        rule 0 0 1 -> 0
        rule 0 0 2 -> 7
        rule 0 144 0 -> 0
        law "" -> 0
        rule 0 0 2 -> 0
        # as often as one likes
        law "bar" -> 1
        law "bar" -> 1
        law "bar" -> 1
        law "bar" -> 1
        law "bar" -> 1
        law "bar" -> 1
        law "bar" -> 1
        law "bar" -> 1
        law "bar" -> 1
        law "bar" -> 1
        law "rent 1;rent 2" -> 2
        rule 0 0 1 -> 3
        count 1 -> 1
        """;

    private static final String HOLDS = """
        town "tenant 9999 likes 5 to 7;tenant 0 likes 0 to 23;tenant 3 likes 23 to 23;let 0 0 to 0 0;let 6 23 to 23 0;let 1 0 to 2 1;sub 1 1 2;goods 1 5 99;goods 1 6 1" -> 1
        # likes: from one HOUR to another one
        law "value 1 if likes" -> 1
        rule 0 4 2 -> 0
        rule 0 5 2 -> 1
        rule 0 7 2 -> 1
        rule 0 8 2 -> 0
        rule 0 149 2 -> 1
        rule 1 0 2 -> 1
        rule 1 23 2 -> 1
        rule 2 22 2 -> 0
        rule 2 23 2 -> 1
        rule 2 24 2 -> 0
        # beside: in the ring, and where one LIVES
        law "value 1 if beside" -> 1
        rule 0 0 2 -> 1
        rule 0 1 2 -> 1
        rule 0 2 2 -> 0
        rule 0 165 2 -> 0
        rule 0 166 2 -> 1
        rule 0 167 2 -> 1
        rule 1 23 2 -> 1
        rule 1 24 2 -> 0
        rule 1 25 2 -> 1
        rule 1 26 2 -> 0
        rule 1 27 2 -> 1
        rule 2 24 2 -> 1
        rule 2 25 2 -> 0
        rule 2 26 2 -> 1
        # less and more: one less, as much, one more
        law "value 1 if hour<5;value 2 if hour>5" -> 2
        rule 0 4 2 -> 1
        rule 0 5 2 -> 0
        rule 0 6 2 -> 2
        law "value 1 if day<1;value 2 if day>5;value 4 if hour<1;value 8 if hour>22" -> 4
        rule 0 0 2 -> 5
        rule 0 23 2 -> 9
        rule 0 24 2 -> 4
        rule 0 143 2 -> 8
        rule 0 144 2 -> 6
        rule 0 167 2 -> 10
        law "value 1 if coins>999+999+999+999+999+999+999+999+999+999+8;value 2 if coins>999+999+999+999+999+999+999+999+999+999+9;value 4 if coins<1;value 8 if coins<0" -> 4
        rule 0 0 2 -> 1
        rule 1 0 2 -> 4
        law "value 1 if rooms>1;value 2 if rooms>2;value 4 if rooms<1;value 8 if rooms>0" -> 4
        rule 0 50 2 -> 9
        rule 1 50 2 -> 11
        rule 2 50 2 -> 4
        law "value 1 if goods>98;value 2 if goods>99;value 4 if goods>0;value 8 if goods<1" -> 4
        rule 0 29 2 -> 5
        rule 0 30 2 -> 4
        rule 0 31 2 -> 8
        law "value 1 if week<1;value 2 if week>0;value 4 if week>1" -> 3
        ticks 167 -> 0
        rule 0 0 2 -> 1
        ticks 1 -> 0
        rule 0 0 2 -> 2
        ticks 167 -> 0
        rule 0 0 2 -> 2
        ticks 1 -> 0
        rule 0 0 2 -> 6
        # sums of several parts on both sides
        law "value 1 if day+hour+day<hour+3;value 2 if 1+day>hour+1" -> 2
        rule 0 25 2 -> 1
        rule 0 49 2 -> 2
        rule 0 50 2 -> 0
        # some bar LINE; all rent and value LINES that hold
        law "bar if day<1;bar if day<2;rent 1;rent 10 if day>0;rent 100 if day>1;value 999;value 999" -> 7
        rule 0 23 0 -> 1
        rule 0 24 0 -> 1
        rule 0 47 0 -> 1
        rule 0 48 0 -> 0
        rule 0 23 1 -> 1
        rule 0 24 1 -> 11
        rule 0 48 1 -> 111
        rule 0 0 2 -> 1998
        # likes and beside, as both, one or none hold: 6 is liked, 1 and 166 are beside
        law "value 1 if likes and beside;value 2 if beside and likes;value 4 if likes or beside;value 8 if beside or likes;value 16 if not beside;value 32 if not not beside;value 64 if beside and hour<2;value 128 if hour>5 and beside" -> 8
        rule 0 6 2 -> 28
        rule 0 1 2 -> 108
        rule 0 166 2 -> 172
        rule 0 9 2 -> 16
        take 0 5 -> 0
        rule 0 6 2 -> 175
        leave 5 -> 0
        # or of and of not
        law "value 1 if day<1 or day>5 and hour<1;value 2 if day>5 and hour<1 or day<1;value 4 if not day<1 and hour<1;value 8 if not(day<1 or hour<1)" -> 4
        rule 0 1 2 -> 3
        rule 0 144 2 -> 7
        rule 0 145 2 -> 8
        rule 0 24 2 -> 4
        rule 0 25 2 -> 8
        """;

    private static String twelveLines() {
        StringBuilder law = new StringBuilder();
        StringBuilder looks = new StringBuilder();
        for (int line = 0; line < 12; line++) {
            law.append(line == 0 ? "" : ";").append("value ").append(line + 1).append(" if hour<").append(line + 1);
            int sum = 78 - line * (line + 1) / 2;
            looks.append("rule 0 ").append(line).append(" 2 -> ").append(sum).append('\n');
        }
        return "town \"tenant 5 likes 0 to 0\" -> 1\nlaw \"" + law + "\" -> 12\n" + looks + "rule 0 12 2 -> 0\n"
                + "image -> null\nlaw \"\" -> 0\nback -> true\n" + looks + "rule 0 12 2 -> 0\n";
    }

    /** A number at its bounds, one below and one above, and of as many digits as it may have, and one more. */
    private static void numberEdges(Script script, String call, String ahead, String behind, int[] bounds) {
        int low = bounds[0];
        int high = bounds[1];
        int digits = bounds[2];
        StringBuilder text = new StringBuilder();
        String[] right = {"" + low, "" + high, padded(low, digits), padded(high, digits)};
        String[] wrongs = {"" + (high + 1), padded(low, digits + 1), padded(high, digits + 1),
            "" + (4294967296L + low), "" + (4294967296L + high), "-1", "x", low > 0 ? "" + (low - 1) : "?"};
        for (String number : right) {
            text.append("new\n");
            expectText(text, call, ahead + number + behind, -1, call.equals("law") ? lawLines(ahead + number + behind) : 1);
        }
        for (String number : wrongs) {
            text.append("new\n");
            expectText(text, call, ahead + number + behind, ahead.length(), 0);
        }
        script.play("a number: " + ahead + "N" + behind, text.toString());
    }

    private static int lawLines(String text) {
        return text.split(";").length;
    }

    private static String padded(int number, int digits) {
        String text = "" + number;
        return times("0", digits - text.length()) + text;
    }

    private static void townNumbers(Script script) {
        int[] hour = {0, 23, 3};
        int[] day = {0, 6, 3};
        int[] tenant = {0, 1, 3};
        numberEdges(script, "town", "tenant ", " likes 0 to 0", new int[] {0, 9999, 4});
        numberEdges(script, "town", "tenant 5 likes ", " to 23", hour);
        numberEdges(script, "town", "tenant 5 likes 0 to ", "", hour);
        numberEdges(script, "town", "tenant 5 likes 7 to ", "", new int[] {7, 23, 3});
        numberEdges(script, "town", "tenant 5 likes 23 to ", "", new int[] {23, 23, 3});
        numberEdges(script, "town", ROOMY + "child of ", "", tenant);
        numberEdges(script, "town", ROOMY + "let ", " 7 to 8 1", day);
        numberEdges(script, "town", ROOMY + "let 1 ", " to 23 1", hour);
        numberEdges(script, "town", ROOMY + "let 1 0 to ", " 1", hour);
        numberEdges(script, "town", ROOMY + "let 0 6 to ", " 1", new int[] {6, 23, 3});
        numberEdges(script, "town", ROOMY + "let 1 9 to ", " 1", new int[] {9, 23, 3});
        numberEdges(script, "town", ROOMY + "let 1 9 to 9 ", "", tenant);
        numberEdges(script, "town", "goods ", " 3 4", day);
        numberEdges(script, "town", "goods 1 ", " 4", hour);
        numberEdges(script, "town", "goods 6 23 ", "", new int[] {0, 99, 3});
        numberEdges(script, "town", "shut ", " 4", day);
        numberEdges(script, "town", "shut 2 ", "", hour);
        numberEdges(script, "town", ROOMY + "shut 0 ", "", new int[] {6, 23, 3});
        numberEdges(script, "town", ROOMY + "sub 0 ", " 1", new int[] {0, 5, 3});
        numberEdges(script, "town", ROOMY + "sub 0 1 ", "", new int[] {1, 1, 3});
        numberEdges(script, "town", ROOMY + "want ", " 1 from 0 to 0", tenant);
        numberEdges(script, "town", ROOMY + "want 0 ", " from 0 to 0", new int[] {1, 20, 3});
        numberEdges(script, "town", ROOMY + "want 0 1 from ", " to 23", hour);
        numberEdges(script, "town", ROOMY + "want 0 1 from 0 to ", "", hour);
        numberEdges(script, "town", ROOMY + "want 0 1 from 5 to ", ";chance 4", new int[] {5, 23, 3});
        numberEdges(script, "town", "chance ", "", new int[] {0, 100, 3});
        numberEdges(script, "town", "chance 5 ; chance ", " ", new int[] {0, 100, 3});
    }

    private static void lawNumbers(Script script) {
        int[] bounds = {0, 999, 3};
        numberEdges(script, "law", "rent ", "", bounds);
        numberEdges(script, "law", "value ", " if likes", bounds);
        numberEdges(script, "law", "bar;rent ", ";bar", bounds);
        numberEdges(script, "law", "bar if ", "<5", bounds);
        numberEdges(script, "law", "bar if 5>", "", bounds);
        numberEdges(script, "law", "bar if day + ", " < 3", bounds);
        numberEdges(script, "law", "bar if 3>day+", "+hour", bounds);
    }

    /** At each thing of a LINE: what must come is missing; something else stands there; a longer word does. */
    private static void brokenAtEach(Script script, String call, String ahead, String line, String complete) {
        StringBuilder text = new StringBuilder();
        String[] things = line.split(" ");
        String before = ahead;
        for (int i = 0; i <= things.length; i++) {
            String rest = i < things.length ? line.substring(before.length() - ahead.length()) : "";
            text.append("new\n");
            if (complete.charAt(i) == '-') {
                expectText(text, call, before, before.length(), 0);
                expectText(text, call, before + "   ", before.length() + 3, 0);
            }
            // a ; too early is the wrong byte, whatever comes behind it
            int early = complete.charAt(i) == '-' || before.isEmpty() ? 0 : 1;
            expectText(text, call, before + ";x", before.length() + early, 0);
            for (String sign : new String[] {"?", "{0}", "{255}", "{128}", "}", "*", "\\", "_"}) {
                expectText(text, call, before + sign + rest, before.length(), 0);
            }
            if (i < things.length && things[i].matches("[a-z]+")) {
                expectText(text, call, before + "x" + rest, before.length(), 0);
                expectText(text, call, before + things[i] + "x", before.length(), 0);
                expectText(text, call, before + "X" + rest, before.length(), 0);
                text.append("new\n");
                for (int k = 0; k < things[i].length(); k++) {
                    String other = things[i].substring(0, k) + "q" + things[i].substring(k + 1);
                    expectText(text, call, before + other + rest.substring(things[i].length()), before.length(), 0);
                }
            }
            before += i < things.length ? things[i] + " " : "";
        }
        script.play("each thing of: " + line, text.toString());
    }

    private static void eachThingOfATown(Script script) {
        brokenAtEach(script, "town", ROOMY, "tenant 5 likes 1 to 2", "------+");
        brokenAtEach(script, "town", ROOMY, "child of 0", "---+");
        brokenAtEach(script, "town", ROOMY, "let 1 2 to 3 1", "------+");
        brokenAtEach(script, "town", ROOMY, "goods 1 2 3", "----+");
        brokenAtEach(script, "town", ROOMY, "shut 2 3", "---+");
        brokenAtEach(script, "town", ROOMY, "sub 0 1 1", "----+");
        brokenAtEach(script, "town", ROOMY, "want 1 2 from 3 to 4", "-------+");
        brokenAtEach(script, "town", ROOMY, "chance 5", "--+");
        brokenAtEach(script, "town", "", "chance 5 ; chance 6", "+-+--+");
    }

    private static void eachThingOfALaw(Script script) {
        brokenAtEach(script, "law", "", "bar", "++");
        brokenAtEach(script, "law", "bar;", "rent 5 ; value 6", "--+--+");
        brokenAtEach(script, "law", "bar;", "value 6 if likes", "--+-+");
        brokenAtEach(script, "law", "bar;", "bar if beside or likes and beside", "-+-+-+-+");
        brokenAtEach(script, "law", "bar;", "bar if day + 1 < hour and not ( beside or 2 > week )",
                "-+-----+--------+");
        brokenAtEach(script, "law", "bar;", "rent 3 if not not coins + rooms > goods + 7", "--+-------+-+");
    }
}
