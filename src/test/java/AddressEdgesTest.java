/** The edges of addresses and matches: "Terms" on them, and promises 4 to 11. */
public final class AddressEdgesTest {

    private static final Class<?> INDEX = IndexOutOfBoundsException.class;
    private static final Class<?> ARGUMENT = IllegalArgumentException.class;
    private static final Class<?> STATE = IllegalStateException.class;
    private static final String DIGITS = "0123456789";
    private static final int[] FAR = {-1, -2, 1 << 31, 12, 13, 31, 32, Integer.MAX_VALUE};

    private static final Due due = new Due();

    public static void main(String[] args) {
        everySignOfAnAddress();
        lengthsOfItsParts();
        somethingIsMissingAtTheEnd();
        aFaultChangesNothing();
        upTo12Addresses();
        noSuchAddress();
        addressesWithAMatch();
        whatWasPostedStays();
        everySignCleaned();
        cleanedToTheEnd();
        apartOfAllLengths();
        apartByEachWay();
        likenessesOfAllLengths();
        likenessOfHousesAndZones();
        likenessesAroundOneHalf();
        pairsAtEachHundredth();
        pairsAsFloats();
        pairsOfFew();
        matchesGivenAndTakenBack();
        matchesRefused();
        groupsByWaysOfMatches();
        groupsOfAll();
        due.end();
    }

    /** What a new address answers with each sign behind its head: a fault there, or one behind that. */
    private static void eachSignBehind(String head, String allowed) {
        for (char sign = 32; sign < 127; sign++) {
            int fault = allowed.indexOf(sign) >= 0 ? head.length() + 1 : head.length();
            due.is("4: " + head + sign, new Desk().address(0, head + sign), -1 - fault);
        }
    }

    private static String allSigns(String but) {
        StringBuilder signs = new StringBuilder();
        for (char sign = 32; sign < 127; sign++) {
            signs.append(but.indexOf(sign) >= 0 ? "" : String.valueOf(sign));
        }
        return signs.toString();
    }

    private static void everySignOfAnAddress() {
        eachSignBehind("", allSigns(","));
        eachSignBehind("a", allSigns(""));
        eachSignBehind("a".repeat(12), ",");
        eachSignBehind("a,", allSigns(","));
        eachSignBehind("a,b", allSigns(""));
        eachSignBehind("a," + "b".repeat(12), ",");
        eachSignBehind("a,b,", DIGITS);
        eachSignBehind("a,b,1", DIGITS + ",");
        eachSignBehind("a,b,12", DIGITS + ",");
        eachSignBehind("a,b,123", ",");
        eachSignBehind("a,b,123,", "012345");
        eachSignBehind("a,b,123,0", ",");
        for (char sign = 32; sign < 127; sign++) {
            boolean digit = DIGITS.indexOf(sign) >= 0;
            due.is("4: points " + sign, new Desk().address(0, "a,b,1,5," + sign), digit ? 0 : -9);
            due.is("4: points 1" + sign, new Desk().address(0, "a,b,1,5,1" + sign), digit ? 0 : -10);
            due.is("4: points 12" + sign, new Desk().address(0, "a,b,1,5,12" + sign), -11);
        }
    }

    private static void lengthsOfItsParts() {
        for (int length = 1; length <= 14; length++) {
            String word = "abcdefghijklmn".substring(0, length);
            Desk desk = new Desk().telling(0, "<n>/<s>");
            desk.post.run(0, 0);
            due.is("4: a name of " + length, desk.address(0, word + ",b,1,1,1"), length <= 12 ? 0 : -13);
            due.is("4: a street of " + length, desk.address(0, "a," + word + ",1,1,1"), length <= 12 ? 0 : -15);
            due.is("4: both of " + length, desk.address(0, word + "," + word + ",1,1,1"), length <= 12 ? 0 : -13);
            if (length <= 12) {
                due.is("4: as they were told", desk.text(0, 0), word + "/" + word);
            }
        }
        for (String number : new String[] {"0", "9", "00", "10", "99"}) {
            Desk desk = new Desk().telling(0, "<h>/<z>/<p>").with("a,b," + number + ",5," + number);
            desk.post.run(0, 0);
            int value = Integer.parseInt(number);
            due.is("4: house and points " + number, desk.text(0, 0), value + "/5/" + value);
            due.is("4: a house of 3", desk.address(0, "a,b,0" + number + ",0,1"), 0);
            due.is("4: its value", desk.text(0, 0), value + "/0/1");
            due.is("4: points of more", desk.address(0, "a,b,1,0,00" + number), -11);
        }
    }

    private static void somethingIsMissingAtTheEnd() {
        String whole = "Ann Lee,Elm St,012,5,99";
        for (int length = 0; length <= whole.length(); length++) {
            int answer = length >= whole.length() - 1 ? 0 : -1 - length;
            due.is("4: " + whole.substring(0, length), new Desk().address(0, whole.substring(0, length)), answer);
        }
    }

    private static String parts(Desk desk) {
        return desk.text(0, 0) + "/" + desk.cleaned(0, false) + "/" + desk.cleaned(0, true) + "/" + desk.post.addresses();
    }

    private static void aFaultChangesNothing() {
        Desk desk = new Desk().telling(0, "<n>/<s>/<h>/<z>/<p>/<m>").with("Ann-A,Elm-E,11,2,33");
        desk.post.run(0, 0);
        String before = parts(desk);
        due.is("4: as it was told", before, "Ann-A/Elm-E/11/2/33/1/anna/elme/1");
        for (String line : new String[] {"Bob,", "Bob,Oak,", "Bob,Oak,55,", "Bob,Oak,55,4,", "Bob,Oak,55,4,66x", ",", "Bob,Oak,55,6"}) {
            due.is("4: a fault", desk.address(0, line) < 0 ? 1 : 0, 1);
            due.is("4: as it was behind " + line, parts(desk), before);
            due.is("4: a fault of a new one", desk.address(1, line) < 0 ? 1 : 0, 1);
            due.is("4: none is new behind " + line, parts(desk), before);
        }
    }

    private static void upTo12Addresses() {
        Desk desk = new Desk();
        for (int address = 0; address < 12; address++) {
            due.is("5: so many", desk.post.addresses(), address);
            due.is("4: a new one", desk.address(address, "Name" + address + ",Elm,1,0,1"), address);
        }
        due.is("5: 12", desk.post.addresses(), 12);
        for (String line : new String[] {"Bob,Oak,1,1,1", "", "?"}) {
            desk.typed(line);
            due.refused("4: there are 12", STATE, () -> desk.post.address(12));
            due.refused("4: 13 is not as many as there are", INDEX, () -> desk.post.address(13));
            due.is("4: the line stays", desk.post.type(0), line.length());
            desk.post.template(7);
        }
        for (int address = 0; address < 12; address++) {
            due.is("4: none has changed", desk.cleaned(address, false), "name" + address);
            due.is("4: it becomes another one", desk.address(address, "New" + address + ",Elm,1,0,1"), address);
            due.is("4: that one", desk.cleaned(address, false), "new" + address);
        }
        due.is("5: still 12", desk.post.addresses(), 12);
    }

    private static void noSuchAddress() {
        Desk desk = new Desk();
        for (int count = 0; count < 3; count++) {
            for (int outside : new int[] {-1, count + 1, count + 2, 12, 13, 1 << 31, Integer.MAX_VALUE}) {
                due.refused("4: " + outside + " of " + count, INDEX, () -> desk.post.address(outside));
            }
            int none = count;
            due.refused("6: not yet there", INDEX, () -> desk.post.cleaned(none, false, 0));
            due.refused("7: first not yet there", INDEX, () -> desk.post.apart(none, 0, false));
            due.refused("7: second not yet there", INDEX, () -> desk.post.apart(0, none, true));
            due.refused("8: first not yet there", INDEX, () -> desk.post.likeness(none, 0));
            due.refused("8: second not yet there", INDEX, () -> desk.post.likeness(0, none));
            due.refused("10: first not yet there", INDEX, () -> desk.post.match(none, 0) ? 1 : 0);
            due.refused("10: second not yet there", INDEX, () -> desk.post.match(0, none) ? 1 : 0);
            due.refused("10: both not yet there", INDEX, () -> desk.post.match(none, none) ? 1 : 0);
            due.refused("11: not yet there", INDEX, () -> desk.post.group(none));
            due.refused("21: not yet there", INDEX, () -> desk.post.reasons(none));
            desk.with("Ann,Elm,1,1,1");
        }
        for (int outside : FAR) {
            due.refused("6: far outside", INDEX, () -> desk.post.cleaned(outside, true, 0));
            due.refused("11: far outside", INDEX, () -> desk.post.group(outside));
            due.refused("21: far outside", INDEX, () -> desk.post.reasons(outside));
        }
    }

    private static void addressesWithAMatch() {
        Desk desk = new Desk();
        for (int i = 0; i < 4; i++) {
            desk.with("Ann,Elm,1,1,1");
        }
        desk.post.match(0, 1);
        desk.post.match(1, 2);
        desk.typed("Bob,Oak,2,2,2");
        for (int matched = 0; matched < 3; matched++) {
            int address = matched;
            due.refused("4: it has a match, " + address, STATE, () -> desk.post.address(address));
        }
        due.is("4: the line stays", desk.post.type(0), 13);
        desk.post.match(0, 1);
        due.refused("4: it has still a match", STATE, () -> desk.post.address(1));
        due.is("4: its last match was taken back", desk.post.address(0), 0);
        due.is("4: it is another one", desk.cleaned(0, false), "bob");
        due.is("4: one that never had a match", desk.address(3, "Bob,Oak,2,2,2"), 3);
        due.is("4: a new one, while others have matches", desk.address(4, "Bob,Oak,2,2,2"), 4);
        due.is("4: the matches stay", desk.post.group(1), 6);
        desk.typed("]");
        due.refused("4: a match, whatever the line is", STATE, () -> desk.post.address(1));
        due.is("4: that line stays", desk.post.type(0), 1);
    }

    private static void whatWasPostedStays() {
        Desk desk = new Desk().telling(0, "<n>").with("Ann,Elm,1,1,1").with("Bob,Oak,2,2,2");
        desk.post.run(0, 3);
        desk.post.post(0);
        desk.address(0, "Cid,Fir,3,3,3");
        desk.address(1, "Dee,");
        due.is("4: its reasons stay", desk.post.reasons(0), 8);
        due.is("4: the other one's stay behind a fault", desk.post.reasons(1), 8);
        desk.post.run(0, 3);
        due.is("4: no letter for it again", desk.post.letters(1), 0);
        desk.with("Cid,Fir,3,3,3");
        due.is("4: one for a new one", desk.post.letter(1, 0, 0), 4);
        due.is("21: a new one was posted none", desk.post.reasons(2), 0);
    }

    private static void everySignCleaned() {
        for (char sign = 32; sign < 127; sign++) {
            if (sign == ',') {
                continue;
            }
            boolean kept = Character.isLetterOrDigit(sign);
            String clean = kept ? "a" + Character.toLowerCase(sign) + "b" : "ab";
            Desk desk = new Desk().with("A" + sign + "B,B,1,1,1").with("B,A" + sign + "B,1,1,1");
            due.is("6: a name with " + sign, desk.cleaned(0, false), clean);
            due.is("6: a street with " + sign, desk.cleaned(1, true), clean);
            due.is("6: the other street", desk.cleaned(0, true), "b");
        }
    }

    private static void cleanedToTheEnd() {
        for (int length = 0; length <= 12; length++) {
            String clean = "abcdefghijkl".substring(0, length);
            String word = length == 0 ? "-" : clean;
            Desk desk = new Desk().with(word + ",--,1,1,1").with("--," + word + ",1,1,1");
            for (int place = 0; place <= 13; place++) {
                char sign = place < length ? clean.charAt(place) : ' ';
                due.is("6: a name of " + length + " at " + place, desk.post.cleaned(0, false, place), sign);
                due.is("6: a street of " + length + " at " + place, desk.post.cleaned(1, true, place), sign);
            }
            due.is("6: far behind", desk.post.cleaned(0, false, Integer.MAX_VALUE), ' ');
            due.is("6: a street of none", desk.post.cleaned(0, true, 0), ' ');
            due.is("6: a name of none", desk.post.cleaned(1, false, 0), ' ');
            due.refused("6: a place below 0", INDEX, () -> desk.post.cleaned(0, false, -1));
            due.refused("6: a place far below 0", INDEX, () -> desk.post.cleaned(0, true, 1 << 31));
        }
    }

    private static void apartWords(String first, String second, int apart) {
        Desk desk = new Desk().with(first + "," + second + ",1,1,1").with(second + "," + first + ",1,1,1");
        for (boolean street : new boolean[] {false, true}) {
            due.is("7: " + first + " and " + second, desk.post.apart(0, 1, street), apart);
            due.is("7: " + second + " and " + first, desk.post.apart(1, 0, street), apart);
            due.is("7: one with itself", desk.post.apart(0, 0, street), 0);
        }
    }

    private static void apartOfAllLengths() {
        for (int first = 0; first <= 12; first++) {
            for (int second = 0; second <= 12; second++) {
                String a = first == 0 ? "-" : "a".repeat(first);
                apartWords(a, second == 0 ? "." : "A".repeat(second), Math.abs(first - second));
                apartWords(a, second == 0 ? "." : "b".repeat(second), Math.max(first, second));
            }
        }
    }

    private static void apartByEachWay() {
        apartWords("abc", "xabc", 1);
        apartWords("abc", "abxc", 1);
        apartWords("abc", "abcx", 1);
        apartWords("abc", "xbc", 1);
        apartWords("abc", "axc", 1);
        apartWords("abc", "abx", 1);
        apartWords("abcd", "abdc", 2);
        apartWords("abcdef", "bcdefg", 2);
        apartWords("aXbXcX", "abc", 3);
        apartWords("saturday", "sunday", 3);
        apartWords("intention", "execution", 5);
        apartWords("a-b c", "A.BC", 0);
        apartWords("abcabcabcabc", "bcabcabcabca", 2);
        apartWords("0a1b2c3d4e5f", "a0b1c2d3e4f5", 7);
    }

    /** A word of a length that is so far apart from as many times the sign a. */
    private static String word(int length, int apart) {
        return length == 0 ? "-" : "b".repeat(apart) + "a".repeat(length - apart);
    }

    private static float like(int length, int apart) {
        return length == 0 ? 1f : 1f - (float) apart / (float) length;
    }

    private static String address(String name, String street, boolean first, boolean second) {
        return name + "," + street + "," + (first ? "1" : "2") + "," + (second ? "1" : "2") + ",1";
    }

    private static float likeness(float names, float streets, boolean houses, boolean zones) {
        float likeness = 0.4f * names;
        likeness = likeness + 0.3f * streets;
        likeness = likeness + 0.2f * (houses ? 1f : 0f);
        return likeness + 0.1f * (zones ? 1f : 0f);
    }

    private static void likenessesOfAllLengths() {
        for (int length = 0; length <= 12; length++) {
            for (int apart = 0; apart <= length; apart++) {
                for (int other = 0; other <= 12; other++) {
                    likenessOfWords(length, apart, other, (apart * 5 + length) % (other + 1));
                }
            }
        }
    }

    private static void likenessOfWords(int length, int apart, int streetLength, int streetApart) {
        for (int same = 0; same < 4; same++) {
            boolean houses = (same & 1) != 0;
            boolean zones = (same & 2) != 0;
            Desk desk = new Desk().with(address(word(length, 0), word(streetLength, 0), true, true))
                    .with(address(word(length, apart), word(streetLength, streetApart), houses, zones));
            float want = likeness(like(length, apart), like(streetLength, streetApart), houses, zones);
            String what = "8: " + apart + " of " + length + ", " + streetApart + " of " + streetLength + ", " + same;
            due.is(what, desk.post.likeness(0, 1), Float.floatToIntBits(want));
            due.is(what + ", the other way", desk.post.likeness(1, 0), Float.floatToIntBits(want));
        }
    }

    private static void likenessOfHousesAndZones() {
        Desk desk = new Desk().with("a,b,1,0,1").with("c,d,001,1,1").with("c,d,10,0,2").with("c,d,01,0,3");
        due.is("8: houses the same as numbers", desk.post.likeness(0, 1), Float.floatToIntBits(0.2f));
        due.is("8: zones the same, not houses", desk.post.likeness(0, 2), Float.floatToIntBits(0.1f));
        due.is("8: both the same, whatever the points", desk.post.likeness(0, 3), Float.floatToIntBits(0.2f + 0.1f));
        due.is("8: nothing the same", desk.post.likeness(0, 1) == desk.post.likeness(0, 0) ? 1 : 0, 0);
        Desk none = new Desk().with("-,.,1,0,1").with("?,!,2,1,1").with("a,b,3,2,1");
        due.is("8: both names and streets empty", none.post.likeness(0, 1), Float.floatToIntBits(0.4f + 0.3f));
        due.is("8: one name and street empty", none.post.likeness(0, 2), 0);
        Desk cleaned = new Desk().with("A.B-,?,1,1,1").with("a c,x!!!,2,2,1").with("..a..,(X-y),3,3,1");
        due.is("8: the length of a cleaned name", cleaned.post.likeness(0, 1), Float.floatToIntBits(0.4f * (1f - 1f / 2f)));
        due.is("8: of a cleaned street", cleaned.post.likeness(1, 2), Float.floatToIntBits(likeness(0.5f, 0.5f, false, false)));
    }

    /** What is one half by numbers is below that by floats, if the names are 2/3 like and the streets 4/9. */
    private static void likenessesAroundOneHalf() {
        Desk desk = new Desk().with(address("aaa", "aaaaaaaaa", true, true))
                .with(address("baa", "bbbbbaaaa", false, true));
        due.is("8: just below one half", desk.post.likeness(0, 1), Float.floatToIntBits(0.5f) - 1);
        due.is("9: not at least 0.5", desk.post.pairs(50), 0);
        due.is("9: at least 0.49", desk.post.pairs(49), 1);
        due.refused("10: just below one half", STATE, () -> desk.post.match(0, 1) ? 1 : 0);
        due.refused("10: the other way", STATE, () -> desk.post.match(1, 0) ? 1 : 0);
        due.is("11: not matched", desk.post.group(0), 1);
        Desk half = new Desk().with(address("a", "a", true, true)).with(address("a", "b", false, true));
        due.is("8: one half", half.post.likeness(0, 1), Float.floatToIntBits(0.5f));
        due.is("9: at least 0.5 then", half.post.pairs(50), 1);
        due.is("10: at least one half", half.post.match(0, 1) ? 1 : 0, 1);
        Desk above = new Desk().with(address("aaaaaaaa", "aaaaaa", true, true)).with(address("bbbbbaaa", "baaaaa", true, true));
        due.is("8: just above one half", above.post.likeness(0, 1) > Float.floatToIntBits(0.5f) ? 1 : 0, 1);
        due.is("10: above one half", above.post.match(1, 0) ? 1 : 0, 1);
    }

    private static void pairsAtEachHundredth() {
        Desk desk = new Desk();
        for (int i = 0; i < 12; i++) {
            desk.with(address(word(12, i), word(10, i % 11), i % 3 > 0, i % 4 > 1));
        }
        float[] likenesses = new float[66];
        int pair = 0;
        for (int first = 0; first < 12; first++) {
            for (int second = first + 1; second < 12; second++) {
                likenesses[pair] = Float.intBitsToFloat(desk.post.likeness(first, second));
                pair++;
            }
        }
        for (int hundredths = 0; hundredths <= 100; hundredths++) {
            int want = 0;
            for (float likeness : likenesses) {
                want += likeness >= (float) hundredths / 100f ? 1 : 0;
            }
            due.is("9: at least " + hundredths, desk.post.pairs(hundredths), want);
        }
        for (int outside : new int[] {-1, -100, 101, 102, 1 << 31, Integer.MAX_VALUE}) {
            due.refused("9: " + outside, ARGUMENT, () -> desk.post.pairs(outside));
        }
    }

    private static void pairAt(String first, String second, int least) {
        Desk desk = new Desk().with(first).with(second);
        due.is("9: at least " + least + ", " + second, desk.post.pairs(least), 1);
        due.is("9: not at least " + (least + 1) + ", " + second, desk.post.pairs(least + 1), 0);
    }

    /** The first three are their hundredths as floats, not by doubles; the others not, but by another way of floats. */
    private static void pairsAsFloats() {
        pairAt(address("-", "aaa", true, true), address("-", "bba", true, false), 70);
        pairAt(address("-", "aaaaa", true, true), address("-", "baaaa", true, true), 94);
        pairAt(address("a", "aaaaa", true, true), address("b", "bbbba", false, false), 6);
        pairAt(address("-", "aaaaa", true, true), address("-", "bbbaa", true, false), 71);
        pairAt(address("aaa", "aaaaaaaaa", true, true), address("baa", "bbbbbaaaa", true, false), 59);
        pairAt(address("aaaaaaaaaa", "-", true, true), address("baaaaaaaaa", "-", false, false), 65);
    }

    private static void pairsOfFew() {
        Desk desk = new Desk();
        int[] wants = {0, 0, 1, 3, 6, 10, 15, 21, 28, 36, 45, 55, 66};
        for (int want : wants) {
            due.is("9: each pair once", desk.post.pairs(0), want);
            due.is("9: pairs of the same", desk.post.pairs(100), want);
            if (desk.post.addresses() < 12) {
                desk.with("Ann,Elm,1,1,1");
            }
        }
        Desk unlike = new Desk().with("a,b,1,0,1").with("c,d,2,1,1");
        due.is("9: a likeness of 0 is at least 0", unlike.post.pairs(0), 1);
        due.is("9: it is not at least 0.01", unlike.post.pairs(1), 0);
    }

    private static Desk alike(int count) {
        Desk desk = new Desk();
        for (int i = 0; i < count; i++) {
            desk.with("Ann,Elm,1,1,1");
        }
        return desk;
    }

    private static void matchesGivenAndTakenBack() {
        Desk desk = alike(12);
        for (int second : new int[] {1, 6, 11}) {
            due.is("10: matched", desk.post.match(0, second) ? 1 : 0, 1);
            due.is("10: taken back", desk.post.match(0, second) ? 1 : 0, 0);
            due.is("10: matched the other way", desk.post.match(second, 0) ? 1 : 0, 1);
            due.is("11: matched", desk.post.group(second), 1 | 1 << second);
            due.is("10: taken back the one way", desk.post.match(0, second) ? 1 : 0, 0);
            due.is("11: alone", desk.post.group(second), 1 << second);
        }
        desk.post.match(0, 1);
        desk.post.match(1, 2);
        due.is("10: matched by others, then directly", desk.post.match(0, 2) ? 1 : 0, 1);
        due.is("10: by others is no match with one another", desk.post.match(0, 2) ? 1 : 0, 0);
        due.is("11: still by others", desk.post.group(0), 7);
    }

    private static void matchesRefused() {
        Desk desk = alike(3).with("Bob,Oak,2,2,2");
        desk.post.match(0, 1);
        for (int same = 0; same < 4; same++) {
            int address = same;
            due.refused("10: both are the same", STATE, () -> desk.post.match(address, address) ? 1 : 0);
        }
        for (int outside : FAR) {
            due.refused("10: first is named first", INDEX, () -> desk.post.match(outside, 3) ? 1 : 0);
            due.refused("10: second is named first", INDEX, () -> desk.post.match(3, outside) ? 1 : 0);
            due.refused("10: not there ahead of the same", INDEX, () -> desk.post.match(outside, outside) ? 1 : 0);
        }
        due.refused("10: likeness below 0.5", STATE, () -> desk.post.match(3, 0) ? 1 : 0);
        for (int address = 0; address < 4; address++) {
            due.is("11: as they were", desk.post.group(address), address < 2 ? 3 : 1 << address);
        }
    }

    private static void groupsByWaysOfMatches() {
        Desk desk = alike(5);
        desk.post.match(4, 2);
        desk.post.match(0, 4);
        due.is("11: by others", desk.post.group(0), 1 + 4 + 16);
        due.is("11: the same of each member", desk.post.group(2), 1 + 4 + 16);
        due.is("11: one without a match is alone", desk.post.group(1), 2);
        desk.post.match(0, 2);
        desk.post.match(4, 2);
        due.is("11: round a ring", desk.post.group(4), 1 + 4 + 16);
        desk.post.match(0, 4);
        due.is("11: undone", desk.post.group(4), 16);
        due.is("11: the others stay", desk.post.group(2), 1 + 4);
        desk.post.match(1, 3);
        due.is("11: two groups", desk.post.group(3), 2 + 8);
        desk.post.match(3, 2);
        due.is("11: joined", desk.post.group(0), 15);
        desk.post.match(2, 3);
        due.is("11: parted", desk.post.group(0), 5);
        desk.with("Ann,Elm,1,1,1");
        due.is("11: a new one is alone", desk.post.group(5), 32);
    }

    private static void groupsOfAll() {
        int[] ways = {7, 0, 11, 3, 9, 1, 5, 10, 2, 8, 4, 6};
        Desk desk = alike(12);
        for (int i = 1; i < 12; i++) {
            desk.post.match(ways[i - 1], ways[i]);
        }
        for (int address = 0; address < 12; address++) {
            due.is("11: all 12, of " + address, desk.post.group(address), 4095);
        }
        Desk star = alike(12);
        for (int i = 0; i < 11; i++) {
            star.post.match(11, i);
        }
        due.is("11: all 12 round the last", star.post.group(0), 4095);
    }
}
