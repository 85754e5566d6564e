/** The edges of the text, trouble, weight and cost of a letter: "Letters", and promises 12 and 15 to 18. */
public final class LetterEdgesTest {

    private static final Class<?> INDEX = IndexOutOfBoundsException.class;
    private static final Class<?> ARGUMENT = IllegalArgumentException.class;
    private static final int GREATEST = Integer.MAX_VALUE;
    private static final int BILLION = 1000000000;

    private static final Due due = new Due();

    public static void main(String[] args) {
        frankingFromTo();
        frankingAroundNoInt();
        weightsAndCostsOfAll();
        costsByZones();
        costsAroundNoInt();
        costsThatWrapAround();
        fieldsOfTheLowestMember();
        numbersWithoutZerosAhead();
        choicesByEachFieldAndRelation();
        choicesByNumbersOf3Digits();
        theOtherTextIsNotWritten();
        textsUpTo160();
        longByEachKindOfPart();
        longAtEachLevel();
        missingAtEachLevel();
        deepByEveryWay();
        whichTroubleComesFirst();
        troubleOfEachKindByEachCall();
        levelsAskedFor();
        signsAskedFor();
        anewByAllTroubles();
        anewByLengths();
        due.end();
    }

    /** One address, and a run of the template 0. */
    private static Desk one(String address) {
        Desk desk = new Desk().with(address);
        desk.post.run(0, 0);
        return desk;
    }

    /** So many addresses in one group, the first of a zone, the others of another one; and a run of the template 0. */
    private static Desk members(int count, int zone) {
        Desk desk = new Desk();
        for (int i = 0; i < count; i++) {
            desk.with("Ann,Elm,1," + (i == 0 ? zone : 5 - zone) + ",1");
        }
        for (int i = 1; i < count; i++) {
            desk.post.match(i - 1, i);
        }
        desk.post.run(0, 0);
        return desk;
    }

    /** Templates of 64, 32, 16, 8, 4, 2 and 1 signs, as 1 to 7. */
    private static Desk withLengths(Desk desk) {
        for (int template = 1; template < 8; template++) {
            desk.telling(template, "x".repeat(1 << 7 - template));
        }
        return desk;
    }

    private static String ofLength(int signs) {
        StringBuilder text = new StringBuilder();
        int left = signs;
        for (int template = 1; template < 8; template++) {
            for (; left >= 1 << 7 - template; left -= 1 << 7 - template) {
                text.append('@').append(template);
            }
        }
        return text.toString();
    }

    private static void frankingFromTo() {
        int[] allowed = {0, 1, 10, BILLION - 1, BILLION};
        int[] refused = {-1, 1 << 31, BILLION + 1, GREATEST};
        Desk desk = one("a,b,1,0,1").telling(0, "x");
        desk.telling(1, "x".repeat(80)).telling(2, "@1y");
        desk.post.run(2, 0);
        for (int good : allowed) {
            due.is("12: base " + good, desk.post.franking(good, 3), good * 7L <= GREATEST ? good * 7 : -1);
            due.is("12: step " + good, desk.post.franking(3, good), 21);
            for (int bad : refused) {
                due.refused("12: step " + bad, ARGUMENT, () -> desk.post.franking(good, bad));
                due.refused("12: base " + bad, ARGUMENT, () -> desk.post.franking(bad, good));
                due.refused("12: both " + bad, ARGUMENT, () -> desk.post.franking(bad, bad));
            }
            due.is("12: the base stays", desk.post.letter(0, 0, 4), 6);
            due.is("12: the step stays", desk.post.letter(1, 0, 4), good * 2L + 6 <= GREATEST ? good * 2 + 6 : -1);
        }
    }

    private static void frankingAroundNoInt() {
        Desk desk = one("a,b,1,5,1").telling(0, "x".repeat(20));
        int last = GREATEST / 7;
        due.is("12: the last int", desk.post.franking(last, BILLION), last * 7);
        due.is("12: the same as the letter's", desk.post.letter(0, 0, 4), last * 7);
        due.is("12: no int", desk.post.franking(last + 1, 0), -1);
        due.is("12: set then", desk.trouble(0, 0), "4: 0@0");
        due.is("12: what would wrap around to an int", desk.post.franking(613566757, 0), -1);
        due.is("12: set then too", desk.trouble(0, 0), "4: 0@0");
    }

    private static void weightsAndCostsOfAll() {
        for (int members = 1; members <= 12; members++) {
            for (int from = 0; from <= 160; from += 40) {
                Desk desk = withLengths(members(members, members % 6));
                desk.post.franking(1000, 7);
                for (int signs = from; signs < from + 40 && signs <= 160; signs++) {
                    weighed(desk.telling(0, ofLength(signs)), signs, members, members % 6);
                }
            }
        }
    }

    private static void weighed(Desk desk, int signs, int members, int zone) {
        int weight = 8;
        for (int begun = 0; begun < signs; begun += 20) {
            weight += 3;
        }
        for (int member = 1; member < members; member++) {
            weight += 2;
        }
        int cost = 1000;
        for (int begun = 20; begun < weight; begun += 10) {
            cost += 7;
        }
        String what = signs + " signs, " + members + " members";
        due.is("15: " + what, desk.post.letter(0, 0, 2), signs);
        due.is("15: the weight of " + what, desk.post.letter(0, 0, 3), weight);
        due.is("15: the cost of " + what, desk.post.letter(0, 0, 4), cost * (zone + 2));
    }

    private static void costsByZones() {
        for (int zone = 0; zone <= 5; zone++) {
            Desk desk = members(2, zone).telling(0, "x");
            desk.post.franking(100, 0);
            due.is("15: the lowest member's zone", desk.post.letter(0, 0, 4), 100 * (zone + 2));
            int last = Math.min(BILLION, GREATEST / (zone + 2));
            desk.post.franking(last, 0);
            due.is("15: the last int of the zone " + zone, desk.post.letter(0, 0, 4), last * (zone + 2));
            if (last < BILLION) {
                desk.post.franking(last + 1, 0);
                due.is("18: no int of the zone " + zone, desk.trouble(0, 0), "4: 0@0");
            }
        }
    }

    /** The greatest steps of each number of 10 begun, in the zone 0: the sum twice has to be an int. */
    private static void costsAroundNoInt() {
        int[] members = {1, 1, 12, 12, 12};
        int[] signs = {80, 81, 0, 61, 160};
        int[] begun = {0, 1, 1, 3, 4};
        for (int i = 0; i < members.length; i++) {
            Desk desk = withLengths(members(members[i], 0)).telling(0, ofLength(signs[i]));
            desk.post.franking(0, 1);
            due.is("15: how many times", desk.post.letter(0, 0, 4), 2 * begun[i]);
            int times = Math.max(begun[i], 1);
            int step = Math.min(BILLION, GREATEST / 2 / times);
            int base = Math.min(BILLION, GREATEST / 2 - step * begun[i]);
            desk.post.franking(base, step);
            due.is("15: the last int", desk.post.letter(0, 0, 4), 2 * (base + step * begun[i]));
            if (begun[i] > 0) {
                desk.post.franking(GREATEST / 2 - step * begun[i] + 1, step);
                due.is("18: one more by the base", desk.trouble(0, 0), "4: 0@0");
                desk.post.franking(base, Math.min(BILLION, step + 1));
                due.is("18: one more by the step", desk.trouble(0, 0), step < BILLION ? "4: 0@0" : "0:");
            }
        }
    }

    /** Each of these would be an int again, if the steps of the cost wrapped around. */
    private static void costsThatWrapAround() {
        Desk desk = withLengths(members(12, 0)).telling(0, ofLength(160));
        int[][] wrapping = {{BILLION, BILLION}, {294967296, BILLION}, {294967297, BILLION}, {0, 536870912}, {8, 536870912},
                {294967296, 463129088}, {0, 268435456}, {BILLION, 286870912}};
        for (int[] prices : wrapping) {
            desk.post.franking(prices[0], prices[1]);
            due.is("18: base " + prices[0] + ", step " + prices[1], desk.trouble(0, 0), "4: 0@0");
            due.is("15: no cost", desk.post.letter(0, 0, 4), -1);
        }
        due.is("19: none is posted", desk.post.post(0), 0);
        due.is("20: nothing is spent", desk.post.spent(), 0);
    }

    private static void text(Desk desk, String template, String text) {
        desk.telling(0, template);
        due.is("16: the text of " + template, desk.text(0, 0), text);
        due.is("15: the signs of " + template, desk.post.letter(0, 0, 2), text.length());
    }

    private static void fieldsOfTheLowestMember() {
        Desk desk = new Desk().with("x,y,1,1,1").with("B b,Elm-1,010,4,07").with("b.B,ELM1,10,3,20").with("bb,elm 1,10,2,99");
        desk.post.run(0, 0);
        desk.post.match(3, 2);
        desk.post.match(3, 1);
        String all = "<n>;<s>;<h>;<z>;<p>;<m>";
        desk.telling(0, all);
        due.is("16: by rising numbers", desk.text(0, 1), "B b & b.B & bb;Elm-1;10;4;126;3");
        desk.post.match(1, 3);
        due.is("16: without the first", desk.text(0, 2), "b.B & bb;ELM1;10;3;119;2");
        due.is("16: the first alone", desk.text(0, 1), "B b;Elm-1;10;4;7;1");
        desk.post.match(1, 3);
        desk.post.match(2, 3);
        due.is("16: without the one between", desk.text(0, 1), "B b & bb;Elm-1;10;4;106;2");
        due.is("16: the one between", desk.text(0, 2), "b.B;ELM1;10;3;20;1");
        due.is("16: one that was never matched", desk.text(0, 0), "x;y;1;1;1;1");
    }

    private static void numbersWithoutZerosAhead() {
        String[] told = {"000", "00", "0", "007", "07", "010", "100", "101", "999"};
        String[] written = {"0", "0", "0", "7", "7", "10", "100", "101", "999"};
        for (int i = 0; i < told.length; i++) {
            Desk desk = one("a,b," + told[i] + ",0,00");
            text(desk, "<h>,<z>,<p>,<m>", written[i] + ",0,0,1");
        }
        text(one("a,b,1,5,05"), "<z><p>", "55");
        text(one("a,b,1,5,50"), "<z><p>", "550");
    }

    private static void choicesByEachFieldAndRelation() {
        Desk desk = new Desk().with("Ann Lee,Elm,012,3,9").with("Ann-Lee,ELM!,12,4,9");
        desk.post.match(0, 1);
        desk.post.run(0, 0);
        int[] values = {17, 3, 12, 3, 18, 2};
        for (int field = 0; field < 6; field++) {
            char sign = "nshzpm".charAt(field);
            choice(desk, sign, values[field] - 1, "nny");
            choice(desk, sign, values[field], "ynn");
            choice(desk, sign, values[field] + 1, "nyn");
        }
        Desk zeros = one("-,.,0,0,0");
        for (char sign : "hzp".toCharArray()) {
            choice(zeros, sign, 0, "ynn");
            choice(zeros, sign, 1, "nyn");
        }
    }

    /** Whether = holds, then <, then >. */
    private static void choice(Desk desk, char field, int number, String holds) {
        String test = "" + field;
        text(desk, "[" + test + "=" + number + "?y|n][" + test + "<" + number + "?y|n][" + test + ">" + number + "?y|n]", holds);
    }

    private static void choicesByNumbersOf3Digits() {
        Desk desk = one("a,b,7,0,1");
        text(desk, "[h=7?y|n][h=07?y|n][h=007?y|n][h=70?y|n][h=700?y|n]", "yyynn");
        desk.address(0, "a,b,999,0,1");
        text(desk, "[h=999?y|n][h>998?y|n][h<999?y|n][h>999?y|n][h>099?y|n]", "yynny");
        desk.address(0, "a,b,100,0,1");
        text(desk, "[h=100?y|n][h=10?y|n][h=1?y|n][h>099?y|n][h<101?y|n]", "ynnyy");
    }

    private static void theOtherTextIsNotWritten() {
        Desk desk = one("a,b,1,1,1").telling(1, "x".repeat(90));
        text(desk, "[m=1?y|@7@0@1@1]", "y");
        text(desk, "[m=2?@7@0@1@1|y]", "y");
        text(desk, "[m=1?[m=2?@7|a]|@7]b[m=2?@7|[m=1?c|@7]]d", "abcd");
        text(desk, "[m=1?|@7]", "");
        text(desk, "[m=2?@7|]", "");
        text(desk, "x[m=1?|y]z", "xz");
    }

    private static void trouble(Desk desk, String template, String told) {
        desk.telling(0, template);
        due.is("18: the trouble of " + template, desk.trouble(0, 0), told);
    }

    private static void textsUpTo160() {
        Desk desk = withLengths(one("Ann,Elm,123,2,45"));
        text(desk, ofLength(159), "x".repeat(159));
        text(desk, ofLength(160), "x".repeat(160));
        trouble(desk, ofLength(161), "3: 0@6 7@0");
        trouble(desk, ofLength(162), "3: 0@6 6@0");
        trouble(desk, ofLength(159) + "@6", "3: 0@" + ofLength(159).length() + " 6@1");
        trouble(desk, ofLength(192), "3: 0@4 1@32");
        text(desk, ofLength(160) + "[m=2?x|]", "x".repeat(160));
        trouble(desk, ofLength(160) + "[m=1?x|]", "3: 0@11");
        trouble(desk, ofLength(160) + "[m=2?|x]", "3: 0@12");
    }

    /** Each field ends at 160 signs, and then at 161. */
    private static void longByEachKindOfPart() {
        Desk desk = withLengths(one("Ann Lee,Elm Street,123,2,45"));
        String[] fields = {"<n>", "<s>", "<h>", "<z>", "<p>", "<m>"};
        String[] written = {"Ann Lee", "Elm Street", "123", "2", "45", "1"};
        for (int i = 0; i < 6; i++) {
            String head = ofLength(160 - written[i].length());
            text(desk, head + fields[i], "x".repeat(160 - written[i].length()) + written[i]);
            String longer = ofLength(161 - written[i].length());
            trouble(desk, longer + fields[i], "3: 0@" + longer.length());
            trouble(desk, longer + "[z=2?" + fields[i] + "|]", "3: 0@" + (longer.length() + 5));
            trouble(desk, ofLength(160) + fields[i], "3: 0@6");
        }
        trouble(desk, ofLength(159) + "yz", "3: 0@" + (ofLength(159).length() + 1));
        trouble(desk, ofLength(159) + "yzab<n>", "3: 0@" + (ofLength(159).length() + 1));
        trouble(desk, ofLength(160) + ">", "3: 0@6");
    }

    private static void longAtEachLevel() {
        Desk desk = one("Ann,Elm,1,2,1").telling(7, "x".repeat(80)).telling(6, "");
        desk.telling(5, "@7[m=1?@7<s>|]");
        trouble(desk, "@5", "3: 0@0 5@9");
        desk.telling(4, "@5");
        trouble(desk, "@4", "3: 0@0 4@0 5@9");
        desk.telling(3, "@6@4");
        trouble(desk, "<s>@3", "3: 0@3 3@2 4@0 5@7 7@77");
        trouble(desk, "@3", "3: 0@0 3@2 4@0 5@9");
        desk.telling(5, "@7@7!");
        trouble(desk, "[m=2?|@6@3]", "3: 0@8 3@2 4@0 5@4");
        desk.telling(5, "@7@7");
        trouble(desk, "@3@6!", "3: 0@4");
        trouble(desk, "@3@6[m=1?!|]", "3: 0@9");
        trouble(desk, "!@3", "3: 0@1 3@2 4@0 5@2 7@79");
    }

    /** A chain of templates, each naming the next one behind as many signs as its number. */
    private static Desk chain(int last) {
        Desk desk = one("Ann,Elm,1,2,1");
        for (int template = 0; template <= last; template++) {
            desk.telling(template, "x".repeat(template) + (template < last ? "@" + (template + 1) : ""));
        }
        return desk;
    }

    private static void missingAtEachLevel() {
        String[] told = {"1: 0@0", "1: 0@0 1@1", "1: 0@0 1@1 2@2", "1: 0@0 1@1 2@2 3@3", "1: 0@0 1@1 2@2 3@3 4@4"};
        for (int last = 0; last < 5; last++) {
            Desk desk = chain(last);
            due.is("18: no trouble of a chain", desk.trouble(0, 0), "0:");
            desk.telling(last, "x".repeat(last) + "@7<n>");
            due.is("18: missing at the level " + last, desk.trouble(0, 0), told[last]);
            desk.telling(last, "x".repeat(last) + "[m=2?@6|@7]");
            String within = told[last].substring(0, told[last].length() - 1) + (last + 8);
            due.is("18: missing within a choice", desk.trouble(0, 0), within);
            desk.telling(7, "");
            due.is("18: told, and deep only within 5 others", desk.trouble(0, 0), last < 4 ? "0:" : "2" + within.substring(1));
        }
    }

    private static void deepByEveryWay() {
        Desk desk = chain(4);
        due.is("18: within 4 others", desk.trouble(0, 0), "0:");
        desk.telling(5, "");
        desk.telling(4, "xxxx@5");
        due.is("18: within 5 others, though empty", desk.trouble(0, 0), "2: 0@0 1@1 2@2 3@3 4@4");
        desk.telling(0, "@2@1");
        due.is("18: by the second way only", desk.trouble(0, 0), "2: 0@2 1@1 2@2 3@3 4@4");
        desk.telling(0, "[m=1?@2|@1]");
        due.is("18: not by the way that is not taken", desk.trouble(0, 0), "0:");
        desk.telling(0, "@2@2@2@3@4@5");
        due.is("18: side by side is not within", desk.trouble(0, 0), "0:");
        desk.telling(0, "x@0");
        due.is("18: within itself", desk.trouble(0, 0), "2: 0@1 0@1 0@1 0@1 0@1");
        desk.telling(0, "ab@1").telling(1, "@0");
        due.is("18: within one another", desk.trouble(0, 0), "2: 0@2 1@0 0@2 1@0 0@2");
        desk.telling(0, "[m=1?y|@0]");
        due.is("18: itself, but not by the way that is taken", desk.text(0, 0), "y");
    }

    private static void whichTroubleComesFirst() {
        Desk desk = withLengths(one("Ann,Elm,1,2,1"));
        desk.post.franking(BILLION, 0);
        trouble(desk, "", "4: 0@0");
        trouble(desk, "ab@0", "2: 0@2 0@2 0@2 0@2 0@2");
        trouble(desk, "a@1@1@1", "3: 0@5 1@31");
        Desk missing = one("Ann,Elm,1,2,1").telling(1, "x".repeat(80)).telling(2, "@0");
        missing.post.franking(BILLION, 0);
        trouble(missing, "@7", "1: 0@0");
        trouble(missing, "@1@1@7@0y", "1: 0@4");
        trouble(missing, "@1@1y@7", "3: 0@4");
        trouble(missing, "@2@7", "2: 0@0 2@0 0@0 2@0 0@0");
        trouble(missing, "@7@2", "1: 0@0");
        trouble(missing, "@1@2", "2: 0@2 2@0 0@2 2@0 0@0");
    }

    private static void inTrouble(Desk desk, int trouble) {
        due.is("15: the trouble", desk.post.letter(0, 0, 1), trouble);
        due.is("15: its members", desk.post.letter(0, 0, 0), 1);
        for (int what = 2; what <= 4; what++) {
            due.is("15: NONE of " + what + " in the trouble " + trouble, desk.post.letter(0, 0, what), -1);
        }
        due.is("16: the first sign in the trouble " + trouble, desk.post.sign(0, 0, 0), 0);
        due.is("16: a far one", desk.post.sign(0, 0, GREATEST), 0);
        due.is("17: 0 in the trouble " + trouble, desk.post.anew(0, 0), 0);
        due.is("14: it is a letter", desk.post.letters(0), 1);
        due.is("19: it is not posted", desk.post.post(0), 0);
        due.is("14: it is none then", desk.post.letters(0), 0);
        due.is("20: it costs nothing", desk.post.spent(), 0);
        due.is("21: its member was posted none", desk.post.reasons(0), 0);
    }

    private static void troubleOfEachKindByEachCall() {
        inTrouble(one("Ann,Elm,1,2,1"), 1);
        inTrouble(one("Ann,Elm,1,2,1").telling(0, "ab@7"), 1);
        inTrouble(one("Ann,Elm,1,2,1").telling(0, "ab@0"), 2);
        inTrouble(one("Ann,Elm,1,2,1").telling(1, "x".repeat(81)).telling(0, "@1@1"), 3);
        Desk costly = one("Ann,Elm,1,2,1").telling(0, "ab");
        costly.post.franking(BILLION, 0);
        inTrouble(costly, 4);
    }

    private static void levelsAskedFor() {
        Desk desk = one("Ann,Elm,1,2,1").telling(0, "x@0");
        for (boolean place : new boolean[] {false, true}) {
            for (int level = 0; level < 5; level++) {
                due.is("18: the level " + level, desk.post.trouble(0, 0, level, place), place ? 1 : 0);
            }
            for (int level : new int[] {5, 6, 8, 31, 32, 64, GREATEST}) {
                due.is("18: not so many levels, " + level, desk.post.trouble(0, 0, level, place), -1);
            }
            for (int level : new int[] {-1, -2, 1 << 31}) {
                due.refused("18: the level " + level, INDEX, () -> desk.post.trouble(0, 0, level, place));
            }
        }
        desk.telling(0, "x@7");
        due.is("18: fewer levels now", desk.post.trouble(0, 0, 1, true), -1);
        desk.telling(0, "x");
        for (boolean place : new boolean[] {false, true}) {
            due.is("18: not in trouble", desk.post.trouble(0, 0, 0, place), -1);
            due.is("18: not in trouble, far", desk.post.trouble(0, 0, GREATEST, place), -1);
            due.refused("18: below 0 and not in trouble", INDEX, () -> desk.post.trouble(0, 0, -1, place));
        }
        desk.post.post(0);
        due.is("18: posted, not in trouble", desk.post.trouble(0, 0, 0, false), -1);
        due.refused("18: below 0 and posted", INDEX, () -> desk.post.trouble(0, 0, -1, false));
    }

    private static void signsAskedFor() {
        Desk desk = withLengths(one("Ann,Elm,1,2,1")).telling(0, "");
        for (int length : new int[] {0, 1, 159, 160}) {
            desk.telling(0, ofLength(length));
            due.is("16: the last sign", desk.post.sign(0, 0, Math.max(length - 1, 0)), length == 0 ? 0 : 'x');
            for (int behind : new int[] {length, length + 1, 160, 161, GREATEST}) {
                due.is("16: behind " + length, desk.post.sign(0, 0, behind), 0);
            }
            for (int below : new int[] {-1, 1 << 31}) {
                due.refused("16: the place " + below, INDEX, () -> desk.post.sign(0, 0, below));
            }
        }
        desk.telling(0, "abc").post.post(0);
        due.is("16: the last of a posted one", desk.post.sign(0, 0, 2), 'c');
        due.is("16: behind a posted one", desk.post.sign(0, 0, 3), 0);
        due.refused("16: ahead of a posted one", INDEX, () -> desk.post.sign(0, 0, -1));
    }

    private static void anewByAllTroubles() {
        Desk desk = one("Ann,Elm,1,2,1").telling(0, "abc").telling(1, "x".repeat(81));
        due.is("17: of an open one", desk.post.anew(0, 0), 0);
        desk.post.post(0);
        for (String template : new String[] {"abc@7", "abc@0", "@1@1", "abc@7@0"}) {
            desk.telling(0, template);
            due.is("17: anew in trouble, " + template, desk.post.anew(0, 0), -1);
        }
        desk.telling(0, "abc").post.franking(BILLION, 0);
        due.is("17: anew costly", desk.post.anew(0, 0), -1);
        due.is("18: the kept one has no trouble", desk.trouble(0, 0), "0:");
        due.is("15: it costs what it did", desk.post.letter(0, 0, 4), 40);
        desk.post.franking(0, 0);
        due.is("17: anew the same", desk.post.anew(0, 0), 0);
        desk.address(0, "Ann,Elm,1,5,1");
        desk.post.franking(GREATEST / 7 + 1, 0);
        due.is("17: anew costly by the zone of now", desk.post.anew(0, 0), -1);
    }

    private static void anewByLengths() {
        Desk none = withLengths(one("Ann,Elm,1,2,1")).telling(0, "");
        none.post.post(0);
        due.is("17: none and none", none.post.anew(0, 0), 0);
        none.telling(0, ofLength(160));
        due.is("17: 160 more", none.post.anew(0, 0), 160);
        Desk all = withLengths(one("Ann,Elm,1,2,1")).telling(0, ofLength(160));
        all.post.post(0);
        for (int length : new int[] {160, 159, 100, 1, 0}) {
            all.telling(0, ofLength(length));
            due.is("17: less than 160", all.post.anew(0, 0), 160 - length);
        }
        all.telling(7, "y").telling(0, "@7@1@7@2");
        due.is("17: two unlike, and 62 less", all.post.anew(0, 0), 64);
        all.telling(0, "@7@1@1@3@4@5@6@7");
        due.is("17: unlike at both ends", all.post.anew(0, 0), 2);
    }
}
