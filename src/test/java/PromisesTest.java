/** Each promise of the document by itself: ordinary inputs, the edges that it names, and wrong inputs. */
public final class PromisesTest {

    private static final Class<?> INDEX = IndexOutOfBoundsException.class;
    private static final Class<?> ARGUMENT = IllegalArgumentException.class;
    private static final Class<?> STATE = IllegalStateException.class;
    private static final int[] OUTSIDE = {-1, Integer.MIN_VALUE, 8, 12, 100, Integer.MAX_VALUE};

    private static final Due due = new Due();

    public static void main(String[] args) {
        aNewObject();
        typing();
        typingRefused();
        templates();
        templateFaults();
        templateBehindFaults();
        templateNesting();
        addresses();
        addressFaults();
        addressRefused();
        addressCount();
        cleaning();
        cleaningAgain();
        apart();
        likeness();
        pairs();
        matching();
        groups();
        franking();
        runs();
        letters();
        texts();
        choices();
        letterNumbers();
        weightsAndCosts();
        signs();
        anew();
        troubleMissingAndDeep();
        troubleLong();
        troubleCostly();
        troubleRefused();
        manySilentTemplatesEnd();
        posting();
        spending();
        reasons();
        due.end();
    }

    private static Desk desk() {
        return new Desk();
    }

    private static String times(String part, int times) {
        return part.repeat(times);
    }

    /** 12 addresses that are all alike. */
    private static Desk full() {
        Desk desk = desk();
        for (int i = 0; i < 12; i++) {
            desk.with("Ann,Elm,1,0,1");
        }
        return desk;
    }

    private static void aNewObject() {
        Desk desk = desk();
        due.is("1: empty line", desk.post.type(0), 0);
        due.is("1: no addresses", desk.post.addresses(), 0);
        due.is("1: nothing spent", desk.post.spent(), 0);
        due.is("1: no pairs", desk.post.pairs(0), 0);
        due.refused("1: no runs", INDEX, () -> desk.post.letters(0));
        desk.with("Ann,Elm,1,5,1").post.run(0, 0);
        due.is("1: no templates", desk.trouble(0, 0), "1: 0@0");
        desk.telling(0, times("x", 20));
        due.is("1: base 10", desk.post.letter(0, 0, 4), 70);
        desk.telling(0, times("x", 81));
        due.is("1: step 5", desk.post.letter(0, 0, 4), 105);
        due.is("1: NONE", MergePost.NONE, -1);
        due.is("1: MISSING", MergePost.MISSING, 1);
        due.is("1: DEEP", MergePost.DEEP, 2);
        due.is("1: LONG", MergePost.LONG, 3);
        due.is("1: COSTLY", MergePost.COSTLY, 4);
    }

    private static void typing() {
        Desk desk = desk();
        due.is("2: one sign", desk.post.type(' '), 1);
        due.is("2: eight signs", desk.post.type(Desk.packed("~bcdefgh")), 9);
        due.is("2: no sign", desk.post.type(0), 9);
        due.is("2: the order, from the lowest bits on", desk.template(0, ""), 9);
        desk.with("a,b,1,1,1").post.run(0, 0);
        due.is("2: the text", desk.text(0, 0), " ~bcdefgh");
        due.is("2: emptied", desk.post.type('x'), 1);
        Desk whole = desk().typed(times("y", 95));
        due.is("2: 96 signs", whole.post.type('y'), 96);
        due.is("2: none more of 96", whole.post.type(0), 96);
    }

    private static void typingRefused() {
        Desk desk = desk().typed(times("y", 90));
        due.refused("2: a sign below 32", ARGUMENT, () -> desk.post.type(31));
        due.refused("2: a sign above 126", ARGUMENT, () -> desk.post.type(127));
        due.refused("2: a sign of 255", ARGUMENT, () -> desk.post.type(-1));
        due.refused("2: the eighth sign out of range", ARGUMENT, () -> desk.post.type(Long.MIN_VALUE + Desk.packed("abcdefg")));
        due.refused("2: behind 8 bits of 0", ARGUMENT, () -> desk.post.type('a' + ((long) 'b' << 16)));
        due.refused("2: ahead 8 bits of 0", ARGUMENT, () -> desk.post.type((long) 'b' << 8));
        due.refused("2: the last behind 8 bits of 0", ARGUMENT, () -> desk.post.type('a' + ((long) 'b' << 56)));
        due.refused("2: 97 signs", STATE, () -> desk.post.type(Desk.packed("abcdefg")));
        due.is("2: nothing was added", desk.post.type(Desk.packed("abcdef")), 96);
        due.refused("2: one more of 96", STATE, () -> desk.post.type('a'));
        due.refused("2: out of range ahead of full", ARGUMENT, () -> desk.post.type(31));
        due.is("2: still 96", desk.post.type(0), 96);
    }

    private static void templates() {
        due.is("3: empty", desk().template(7, ""), 0);
        due.is("3: any sign but some", desk().template(0, " !?>=,~a0Z"), 10);
        due.is("3: fields", desk().template(0, "<n><s><h><z><p><m>"), 18);
        due.is("3: templates", desk().template(0, "@0@7"), 4);
        due.is("3: choices", desk().template(0, "[n=1?|][s<12?a|b][h>123?|]"), 26);
        due.is("3: 96 signs", desk().template(0, times("x", 96)), 96);
        Desk desk = desk().telling(3, "old").with("a,b,1,1,1");
        desk.post.run(3, 0);
        due.is("3: a fault", desk.template(3, "new]"), -4);
        due.is("3: as it was behind a fault", desk.text(0, 0), "old");
        due.is("3: the line is empty behind a fault", desk.post.type(0), 0);
        desk.telling(3, "newer");
        due.is("3: another one then", desk.text(0, 0), "newer");
        due.is("3: the line is empty", desk.post.type(0), 0);
        desk.telling(3, "");
        due.is("3: an empty one is told", desk.trouble(0, 0), "0:");
        desk.typed("abc");
        for (int outside : OUTSIDE) {
            due.refused("3: " + outside, INDEX, () -> desk.post.template(outside));
        }
        due.is("3: the line stays", desk.post.type(0), 3);
    }

    private static void fault(String line, int place) {
        Desk desk = desk();
        due.is("3: the fault of " + line, desk.template(0, line), -1 - place);
        due.is("3: the line is empty behind " + line, desk.post.type(0), 0);
    }

    private static void templateFaults() {
        fault("a|", 1);
        fault("]", 0);
        fault("<", 1);
        fault("<x>", 1);
        fault("<N>", 1);
        fault("<n", 2);
        fault("<n<", 2);
        fault("<nn>", 2);
        fault("a@", 2);
        fault("@8", 1);
        fault("@@1", 1);
        fault("@ 1", 1);
        fault("[", 1);
        fault("[q=1?|]", 1);
        fault("[n", 2);
        fault("[n?1?|]", 2);
        fault("[n=", 3);
        fault("[n=?|]", 3);
        fault("[n=x?|]", 3);
        fault("[n=1", 4);
        fault("[n=123", 6);
        fault("[n=1234?|]", 6);
        fault("[n=1 ?|]", 4);
        fault("[n=1?", 5);
        fault("[n=1?]", 5);
        fault("[n=1?a|", 7);
        fault("[n=1?a|b", 8);
        fault("[n=1?a|b|c]", 8);
        fault("[n=1?a|b]]", 9);
        fault("[n=1?[m=2?a|b]", 14);
        fault("[n=1?[m=2?a|b]]", 14);
        fault("[n=1?<|]", 6);
        fault("[n=1?@|]", 6);
        fault("< n>", 1);
        fault("[ n=1?|]", 1);
    }

    private static void templateBehindFaults() {
        Desk desk = desk().with("a,b,1,1,1");
        desk.post.run(0, 0);
        due.is("3: a fault within choices", desk.template(0, "[m=1?x|[m=1?y"), -14);
        due.is("3: a choice cannot go on behind a fault", desk.template(0, "z|]"), -2);
        due.is("3: it is not told", desk.trouble(0, 0), "1: 0@0");
        for (int i = 0; i < 6; i++) {
            desk.template(1, "[m=1?");
            due.is("3: " + i + " faults ahead", desk.template(0, "[m=1?[m=2?x|y]|]"), 16);
            due.is("3: the text behind faults", desk.text(0, 0), "y");
        }
    }

    private static void templateNesting() {
        String open = times("[m=1?", 5);
        due.is("3: within 4 others, by the first texts", desk().template(0, open + times("|]", 5)), 35);
        String second = times("[m=1?|", 5) + times("]", 5);
        due.is("3: within 4 others, by the second texts", desk().template(0, second), 35);
        fault(open + "[m=1?|]" + times("|]", 5), 25);
        fault(times("[m=1?|", 5) + "x[m=1?|]", 31);
        due.is("3: side by side", desk().template(0, times("[m=1?|]", 13)), 91);
        String both = times("[m=1?", 4) + "[m=1?|][m=1?|]" + times("|]", 4);
        due.is("3: side by side within 4", desk().template(0, both), both.length());
    }

    private static void addresses() {
        Desk desk = desk();
        due.is("4: a new one", desk.address(0, "Ann <[|]@>,12 Elm Rd.,007,5,09"), 0);
        due.is("4: another one", desk.address(1, "123456789012,ABCDEFGHIJKL,999,0,99"), 1);
        due.is("4: shortest", desk.address(2, " , ,0,0,0"), 2);
        due.is("4: the line is empty", desk.post.type(0), 0);
        desk.telling(0, "<n>/<s>/<h>/<z>/<p>").post.run(0, 0);
        due.is("4: its parts", desk.text(0, 0), "Ann <[|]@>/12 Elm Rd./7/5/9");
        due.is("4: the longest", desk.text(0, 1), "123456789012/ABCDEFGHIJKL/999/0/99");
        due.is("4: the shortest", desk.text(0, 2), " / /0/0/0");
        due.is("4: becomes another one", desk.address(1, "Bob,Oak,3,1,2"), 1);
        due.is("4: as it is now", desk.text(0, 1), "Bob/Oak/3/1/2");
        due.is("4: its cleaned name", desk.cleaned(1, false), "bob");
        desk.post.post(0);
        desk.address(1, "Cid,Fir,4,2,3");
        due.is("4: what was posted to it stays", desk.post.reasons(1), 1);
        due.is("4: and its letter", desk.text(0, 1), "Bob/Oak/3/1/2");
    }

    private static void addressFault(String line, int place) {
        Desk desk = desk().with("Old,Way,1,1,1").telling(0, "<n><s><h><z><p>");
        desk.post.run(0, 0);
        due.is("4: the fault of " + line, desk.address(1, line), -1 - place);
        due.is("4: none more behind " + line, desk.post.addresses(), 1);
        due.is("4: the fault again of " + line, desk.address(0, line), -1 - place);
        due.is("4: as it was behind " + line, desk.text(0, 0), "OldWay111");
        due.is("4: the line is empty behind " + line, desk.post.type(0), 0);
    }

    private static void addressFaults() {
        addressFault("", 0);
        addressFault(",b,1,1,1", 0);
        addressFault("a", 1);
        addressFault("a,", 2);
        addressFault("a,,1,1,1", 2);
        addressFault("1234567890123,b,1,1,1", 12);
        addressFault("a,1234567890123,1,1,1", 14);
        addressFault("a,b", 3);
        addressFault("a,b,", 4);
        addressFault("a,b,,1,1", 4);
        addressFault("a,b,x,1,1", 4);
        addressFault("a,b,1234,1,1", 7);
        addressFault("a,b,12x,1,1", 6);
        addressFault("a,b,123", 7);
        addressFault("a,b,1,", 6);
        addressFault("a,b,1,6,1", 6);
        addressFault("a,b,1,12,1", 7);
        addressFault("a,b,1,5", 7);
        addressFault("a,b,1,5,", 8);
        addressFault("a,b,1,5,x", 8);
        addressFault("a,b,1,5,123", 10);
        addressFault("a,b,1,5,1,", 9);
        addressFault("a,b,1,5,1 ", 9);
    }

    private static void addressRefused() {
        Desk desk = desk().with("Ann,Elm,1,1,1").with("Ann,Elm,1,1,1").with("Ann,Elm,1,1,1").typed("Bob,Oak,2,2,2");
        for (int outside : OUTSIDE) {
            due.refused("4: " + outside, INDEX, () -> desk.post.address(outside));
        }
        due.refused("4: more than there are", INDEX, () -> desk.post.address(4));
        desk.post.match(0, 1);
        due.refused("4: one with a match", STATE, () -> desk.post.address(0));
        due.refused("4: the other one with a match", STATE, () -> desk.post.address(1));
        due.is("4: the line stays", desk.post.type(0), 13);
        due.is("4: one without a match", desk.post.address(2), 2);
        desk.post.match(0, 1);
        due.is("4: its match was taken back", desk.address(0, "Bob,Oak,2,2,2"), 0);
        Desk full = full().typed("Bob,Oak,2,2,2");
        due.refused("4: there are 12", STATE, () -> full.post.address(12));
        due.refused("4: more than 12", INDEX, () -> full.post.address(13));
        due.is("4: the line stays of 12", full.post.type(0), 13);
        due.is("4: the last one becomes another one", full.post.address(11), 11);
        full.typed("?");
        due.refused("4: there are 12, whatever the line is", STATE, () -> full.post.address(12));
        due.is("4: there are still 12", full.post.addresses(), 12);
    }

    private static void addressCount() {
        Desk desk = desk();
        for (int i = 0; i < 12; i++) {
            due.is("5: the count", desk.post.addresses(), i);
            desk.with("Ann,Elm,1,0,1");
        }
        due.is("5: the count of 12", desk.post.addresses(), 12);
        desk.address(3, "Bob,Oak,2,2,2");
        due.is("5: the same behind another one", desk.post.addresses(), 12);
    }

    private static void cleaning() {
        Desk desk = desk().with("A.z-B@Z`[a{,09:/ Q,1,1,1").with("!?,.. ..,1,1,1");
        due.is("6: a name", desk.cleaned(0, false), "azbza");
        due.is("6: a street", desk.cleaned(0, true), "09q");
        due.is("6: a name of none", desk.cleaned(1, false), "");
        due.is("6: the first sign", desk.post.cleaned(0, false, 0), 'a');
        due.is("6: the last sign", desk.post.cleaned(0, false, 4), 'a');
        due.is("6: behind its end", desk.post.cleaned(0, false, 5), ' ');
        due.is("6: far behind its end", desk.post.cleaned(0, true, Integer.MAX_VALUE), ' ');
        due.is("6: behind 12", desk.post.cleaned(0, true, 12), ' ');
        for (int outside : OUTSIDE) {
            due.refused("6: address " + outside, INDEX, () -> desk.post.cleaned(outside, false, 0));
        }
        due.refused("6: not yet there", INDEX, () -> desk.post.cleaned(2, true, 0));
        due.refused("6: place -1", INDEX, () -> desk.post.cleaned(0, true, -1));
        due.refused("6: place far below", INDEX, () -> desk.post.cleaned(0, false, Integer.MIN_VALUE));
    }

    private static void cleaningAgain() {
        Desk desk = desk().with("Long Name 12,Long Street,1,1,1");
        for (String name : new String[] {"Abcdef", "-", "Xy", "abcdefghijkl", "q"}) {
            desk.address(0, name + "," + name + ",1,1,1");
            due.is("6: the name now, " + name, desk.cleaned(0, false), name.toLowerCase().replace("-", ""));
            due.is("6: the street now, " + name, desk.cleaned(0, true), name.toLowerCase().replace("-", ""));
        }
    }

    private static void apartNames(String first, String second, int apart) {
        Desk desk = desk().with(first + ",a,1,1,1").with(second + ",b,1,1,1");
        due.is("7: " + first + " and " + second, desk.post.apart(0, 1, false), apart);
        due.is("7: " + second + " and " + first, desk.post.apart(1, 0, false), apart);
        due.is("7: the streets", desk.post.apart(0, 1, true), 1);
        due.is("7: the same", desk.post.apart(0, 0, false), 0);
    }

    private static void apart() {
        apartNames("kitten", "sitting", 3);
        apartNames("Sunday", "saturday", 3);
        apartNames("abc", "abc", 0);
        apartNames("A-B.C", "abc", 0);
        apartNames("---", "abc", 3);
        apartNames("---", "...", 0);
        apartNames("abcdefghijkl", "mnopqrstuvwx", 12);
        apartNames("abcdefghijkl", "bcdefghijkla", 2);
        apartNames("ab", "ba", 2);
        Desk desk = desk().with("a,b,1,1,1");
        for (int outside : OUTSIDE) {
            due.refused("7: first " + outside, INDEX, () -> desk.post.apart(outside, 0, false));
            due.refused("7: second " + outside, INDEX, () -> desk.post.apart(0, outside, true));
        }
    }

    private static void likenessOf(String first, String second, float want) {
        Desk desk = desk().with(first).with(second);
        due.is("8: " + first + " and " + second, desk.post.likeness(0, 1), Float.floatToIntBits(want));
        due.is("8: " + second + " and " + first, desk.post.likeness(1, 0), Float.floatToIntBits(want));
    }

    private static void likeness() {
        likenessOf("Ann,Elm,1,1,1", "Ann,Elm,1,1,1", 1f);
        likenessOf("Ann,Elm,1,1,1", "a.n.n,ELM,001,1,2", 1f);
        likenessOf("abc,def,1,1,1", "xyz,uvw,2,2,1", 0f);
        likenessOf("abc,def,1,1,1", "xyz,uvw,2,1,1", 0.1f);
        likenessOf("abc,def,1,1,1", "xyz,uvw,1,2,1", 0.2f);
        likenessOf("abc,def,1,1,1", "abc,uvw,2,2,1", 0.4f);
        likenessOf("abc,def,1,1,1", "xyz,def,2,2,1", 0.3f);
        likenessOf("-,-,1,1,1", ".,.,2,2,1", 0.4f + 0.3f);
        likenessOf("-,def,1,1,1", "abc,uvw,2,2,1", 0f);
        likenessOf("kitten,def,1,1,1", "sitting,uvw,2,2,1", 0.4f * (1f - 3f / 7f));
        likenessOf("kitten,defghijklmno,1,1,1", "sitting,xyo,1,1,1",
                ((0.4f * (1f - 3f / 7f) + 0.3f * (1f - 11f / 12f)) + 0.2f) + 0.1f);
        likenessOf("q,abcdefghijkl,1,1,1", "r,l,2,2,1", 0.3f * (1f - 11f / 12f));
        Desk desk = desk().with("a,b,1,1,1");
        due.is("8: with itself", desk.post.likeness(0, 0), Float.floatToIntBits(1f));
        for (int outside : OUTSIDE) {
            due.refused("8: first " + outside, INDEX, () -> desk.post.likeness(outside, 0));
            due.refused("8: second " + outside, INDEX, () -> desk.post.likeness(0, outside));
        }
    }

    private static void pairs() {
        Desk desk = desk().with("abc,def,1,1,1").with("abc,def,1,1,1").with("abc,uvw,2,1,1").with("xyz,rst,3,3,3");
        due.is("9: at least 0", desk.post.pairs(0), 6);
        due.is("9: at least 0.01", desk.post.pairs(1), 3);
        due.is("9: at least 0.5", desk.post.pairs(50), 3);
        due.is("9: at least 0.51", desk.post.pairs(51), 1);
        due.is("9: at least 1", desk.post.pairs(100), 1);
        due.is("9: all of 12", full().post.pairs(100), 66);
        due.refused("9: -1", ARGUMENT, () -> desk.post.pairs(-1));
        due.refused("9: 101", ARGUMENT, () -> desk.post.pairs(101));
        due.refused("9: least", ARGUMENT, () -> desk.post.pairs(Integer.MIN_VALUE));
        due.refused("9: greatest", ARGUMENT, () -> desk.post.pairs(Integer.MAX_VALUE));
    }

    private static void matching() {
        Desk desk = desk().with("abc,def,1,1,1").with("abc,uvw,2,1,1").with("xyz,uvw,2,1,1").with("abc,uvw,2,2,1");
        due.is("10: likeness of 0.5", desk.post.likeness(0, 1), Float.floatToIntBits(0.5f));
        due.is("10: matched", desk.post.match(0, 1) ? 1 : 0, 1);
        due.is("10: taken back", desk.post.match(1, 0) ? 1 : 0, 0);
        due.is("10: alone again", desk.post.group(0), 1);
        due.is("10: matched again", desk.post.match(1, 0) ? 1 : 0, 1);
        due.is("10: another match", desk.post.match(1, 2) ? 1 : 0, 1);
        due.is("10: too little like", desk.post.pairs(50), 4);
        due.refused("10: matched by others alone", STATE, () -> desk.post.match(0, 2) ? 1 : 0);
        due.refused("10: likeness below 0.5", STATE, () -> desk.post.match(0, 3) ? 1 : 0);
        due.refused("10: the same", STATE, () -> desk.post.match(1, 1) ? 1 : 0);
        due.is("10: as they were", desk.post.group(0), 7);
        for (int outside : OUTSIDE) {
            due.refused("10: first " + outside, INDEX, () -> desk.post.match(outside, 0) ? 1 : 0);
            due.refused("10: second " + outside, INDEX, () -> desk.post.match(0, outside) ? 1 : 0);
            due.refused("10: both " + outside, INDEX, () -> desk.post.match(outside, outside) ? 1 : 0);
        }
        due.is("10: taken back of three", desk.post.match(0, 1) ? 1 : 0, 0);
        due.is("10: the others are matched", desk.post.group(2), 6);
    }

    private static void groups() {
        Desk desk = full();
        due.is("11: alone", desk.post.group(11), 1 << 11);
        for (int i = 11; i > 0; i--) {
            desk.post.match(i, i - 1);
        }
        due.is("11: all by others", desk.post.group(0), 4095);
        due.is("11: all by others, the last", desk.post.group(11), 4095);
        desk.post.match(5, 6);
        due.is("11: below", desk.post.group(3), 63);
        due.is("11: above", desk.post.group(6), 4095 - 63);
        desk.post.match(0, 5);
        desk.post.match(2, 3);
        due.is("11: still by the other way", desk.post.group(2), 63);
        for (int outside : new int[] {-1, 12, Integer.MIN_VALUE, Integer.MAX_VALUE}) {
            due.refused("11: " + outside, INDEX, () -> desk.post.group(outside));
        }
        due.refused("11: not yet there", INDEX, () -> desk().post.group(0));
    }

    private static void franking() {
        Desk desk = desk();
        due.is("12: base alone", desk.post.franking(3, 1000000000), 21);
        due.is("12: nothing", desk.post.franking(0, 0), 0);
        due.is("12: the greatest int", desk.post.franking(306783378, 0), 2147483646);
        due.is("12: no int", desk.post.franking(306783379, 0), -1);
        due.is("12: the greatest base", desk.post.franking(1000000000, 1000000000), -1);
        desk.with("a,b,1,0,1").telling(0, times("x", 81)).post.run(0, 0);
        due.is("12: set, though it is no int", desk.trouble(0, 0), "4: 0@0");
        desk.post.franking(7, 11);
        due.is("12: set", desk.post.letter(0, 0, 4), 36);
        due.refused("12: base -1", ARGUMENT, () -> desk.post.franking(-1, 0));
        due.refused("12: step -1", ARGUMENT, () -> desk.post.franking(0, -1));
        due.refused("12: base too great", ARGUMENT, () -> desk.post.franking(1000000001, 0));
        due.refused("12: step too great", ARGUMENT, () -> desk.post.franking(0, 1000000001));
        due.is("12: as it was", desk.post.letter(0, 0, 4), 36);
    }

    private static void runs() {
        Desk desk = desk();
        for (int outside : new int[] {-1, 8, Integer.MIN_VALUE, Integer.MAX_VALUE}) {
            due.refused("13: template " + outside, INDEX, () -> desk.post.run(outside, 0));
            due.refused("13: reason " + outside, ARGUMENT, () -> desk.post.run(0, outside));
            due.refused("13: both " + outside, INDEX, () -> desk.post.run(outside, outside));
        }
        for (int run = 0; run < 8; run++) {
            due.is("13: its number", desk.post.run(7 - run, run), run);
        }
        due.refused("13: there are 8", STATE, () -> desk.post.run(0, 0));
        due.refused("13: template ahead of 8", INDEX, () -> desk.post.run(8, 0));
        due.refused("13: reason ahead of 8", ARGUMENT, () -> desk.post.run(0, 8));
        due.is("13: the last one is there", desk.post.letters(7), 0);
        due.refused("13: none more", INDEX, () -> desk.post.letters(8));
    }

    private static void letters() {
        Desk desk = full().telling(0, "x");
        desk.post.run(0, 0);
        desk.post.run(0, 0);
        desk.post.run(0, 1);
        due.is("14: each alone", desk.post.letters(0), 12);
        desk.post.match(3, 9);
        desk.post.match(1, 9);
        due.is("14: of groups", desk.post.letters(0), 10);
        due.is("14: by rising lowest members", desk.post.letter(0, 1, 0), 2 + 8 + 512);
        due.is("14: the next", desk.post.letter(0, 2, 0), 4);
        due.is("14: the last", desk.post.letter(0, 9, 0), 1 << 11);
        due.is("14: posted", desk.post.post(0), 10);
        due.is("14: as many as were posted", desk.post.letters(0), 10);
        due.is("14: none of the same reason", desk.post.letters(1), 0);
        due.is("14: as many of another reason", desk.post.letters(2), 10);
        desk.post.match(3, 9);
        due.is("14: none though unmatched", desk.post.letters(1), 0);
        due.is("14: more of another reason", desk.post.letters(2), 11);
        due.is("14: the posted ones stay", desk.post.letter(0, 1, 0), 2 + 8 + 512);
        for (int outside : new int[] {-1, 3, 8, Integer.MIN_VALUE, Integer.MAX_VALUE}) {
            due.refused("14: " + outside, INDEX, () -> desk.post.letters(outside));
        }
        memberWithALetter();
    }

    private static void memberWithALetter() {
        Desk desk = desk().with("Ann,Elm,1,0,1").telling(0, "x");
        desk.post.run(0, 0);
        desk.post.post(0);
        desk.with("Ann,Elm,1,0,1").with("Ann,Elm,1,0,1").post.run(0, 0);
        due.is("14: of those without a letter", desk.post.letters(1), 2);
        desk.post.match(0, 2);
        due.is("14: none if a member has one", desk.post.letters(1), 1);
        due.is("14: the other's", desk.post.letter(1, 0, 0), 2);
    }

    private static void text(Desk desk, String template, String text) {
        desk.telling(0, template);
        due.is("16: the text of " + template, desk.text(0, 0), text);
        due.is("15: the signs of " + template, desk.post.letter(0, 0, 2), text.length());
    }

    private static void texts() {
        Desk desk = desk().with("Cy,Low Rd,050,3,90").with("Bo,Elm,1,1,1").with("Cy,Low Rd,7,3,20");
        desk.post.run(0, 0);
        text(desk, "<n> <s> <h> <z> <p> <m>", "Cy Low Rd 50 3 90 1");
        desk.post.match(2, 0);
        text(desk, "<n>;<s>;<h>;<z>;<p>;<m>", "Cy & Cy;Low Rd;50;3;110;2");
        text(desk, "", "");
        desk.address(1, "Bo,Elm,100,1,10");
        due.is("16: numbers of zeros behind", desk.post.match(0, 2) ? 1 : 0, 0);
        desk.address(0, "Cy,Elm,010,1,00");
        text(desk, "<h> <p>", "10 0");
        desk.address(0, "Cy,Elm,100,1,10");
        text(desk, "<h> <p>", "100 10");
        desk.address(0, "Cy,Elm,000,0,01");
        text(desk, "<h> <z> <p>", "0 0 1");
        desk.address(0, "Cy,Low Rd,050,3,90");
        desk.post.match(2, 0);
        text(desk, "?>=,", "?>=,");
        desk.telling(1, "(@2)").telling(2, "<m>@3@3").telling(3, "");
        text(desk, "@1-@2@3@1", "(2)-2(2)");
        desk.telling(4, "4@5").telling(5, "5@6").telling(6, "6@7").telling(7, "7");
        text(desk, "@4", "4567");
    }

    private static void choices() {
        Desk desk = desk().with("Ann Lee,Elm,012,4,9").with("Ann Lea,Elm,012,4,9");
        desk.post.run(0, 0);
        desk.post.match(0, 1);
        text(desk, "[m=2?a|b][m=02?a|b][m=1?a|b][m=3?a|b]", "aabb");
        text(desk, "[m<2?a|b][m<3?a|b][m>2?a|b][m>1?a|b]", "baba");
        text(desk, "[n=17?a|b][n>16?a|b][s=3?a|b]", "aaa");
        text(desk, "[h=12?a|b][h=012?a|b][z=4?a|b][p=18?a|b]", "aaaa");
        text(desk, "[p>999?a|b][p<999?a|b]", "ba");
        text(desk, "1[m=2?2[z=4?3|4]5|6]7", "12357");
        text(desk, "1[m=1?2[z=4?3|4]5|6[z>4?7|8]9]0", "16890");
        text(desk, "[m=1?@7|<m>][m=2?<h>|@7]", "212");
        text(desk, "[m=2?[m=2?[m=2?[m=2?[m=2?x|]|]|]|]|]y", "xy");
        text(desk, "[m=1?|[m=1?|[m=1?|[m=1?|[m=1?|x]]]]]y", "xy");
        text(desk, "[m=2?|]", "");
        text(desk, "a[m=2?|q][m=3?q|]b", "ab");
        Desk longest = full().telling(0, "[n>176?a|b][n<178?a|b][n=177?a|b]");
        for (int i = 0; i < 12; i++) {
            longest.address(i, "ANN45678901x,Elm,1,0,1");
        }
        for (int i = 1; i < 12; i++) {
            longest.post.match(0, i);
        }
        longest.post.run(0, 0);
        fourDigits();
        due.is("16: names of 177 signs", longest.text(0, 0), "aaa");
        longest.telling(0, "x<n>");
        due.is("18: names of 177 signs", longest.trouble(0, 0), "3: 0@1");
    }

    private static void fourDigits() {
        Desk desk = full();
        for (int i = 0; i < 12; i++) {
            desk.address(i, "Ann,Elm,1,0," + (i < 10 ? 99 : i < 11 ? 10 : 0));
        }
        for (int i = 1; i < 12; i++) {
            desk.post.match(i - 1, i);
        }
        desk.telling(0, "<p> <m>").post.run(0, 0);
        due.is("16: points of 1000", desk.text(0, 0), "1000 12");
        desk.post.match(10, 11);
        due.is("16: points of 1000 of 11", desk.text(0, 0), "1000 11");
        due.is("16: points of none", desk.text(0, 1), "0 1");
        desk.post.match(9, 10);
        due.is("16: points of 990", desk.text(0, 0), "990 10");
    }

    private static void letterNumbers() {
        Desk desk = desk().with("Ann,Elm,1,2,1").with("Ann,Elm,1,2,1").telling(0, "x");
        desk.post.match(0, 1);
        desk.post.run(0, 0);
        desk.post.run(1, 0);
        due.is("15: members", desk.post.letter(0, 0, 0), 3);
        due.is("15: no trouble", desk.post.letter(0, 0, 1), 0);
        due.is("15: signs", desk.post.letter(0, 0, 2), 1);
        due.is("15: weight", desk.post.letter(0, 0, 3), 13);
        due.is("15: cost", desk.post.letter(0, 0, 4), 40);
        due.is("15: members in trouble", desk.post.letter(1, 0, 0), 3);
        due.is("15: trouble", desk.post.letter(1, 0, 1), 1);
        for (int what = 2; what < 5; what++) {
            due.is("15: in trouble " + what, desk.post.letter(1, 0, what), -1);
        }
        due.refused("15: what -1", ARGUMENT, () -> desk.post.letter(0, 0, -1));
        due.refused("15: what 5", ARGUMENT, () -> desk.post.letter(0, 0, 5));
        due.refused("15: letter ahead of what", INDEX, () -> desk.post.letter(0, 1, 5));
        due.refused("15: run ahead of what", INDEX, () -> desk.post.letter(2, 0, 5));
        for (int outside : OUTSIDE) {
            due.refused("15: run " + outside, INDEX, () -> desk.post.letter(outside, 0, 0));
            due.refused("15: letter " + outside, INDEX, () -> desk.post.letter(0, outside, 0));
        }
        desk.post.post(0);
        desk.post.franking(1, 1);
        desk.telling(0, "xyz");
        due.is("15: kept members", desk.post.letter(0, 0, 0), 3);
        due.is("15: kept signs", desk.post.letter(0, 0, 2), 1);
        due.is("15: kept weight", desk.post.letter(0, 0, 3), 13);
        due.is("15: kept cost", desk.post.letter(0, 0, 4), 40);
        due.refused("15: letter 1 of a posted run", INDEX, () -> desk.post.letter(0, 1, 0));
        due.refused("15: letter -1 of a posted run", INDEX, () -> desk.post.letter(0, -1, 0));
        due.refused("15: no letter is left", INDEX, () -> desk.post.letter(1, 0, 0));
    }

    private static void weighed(Desk desk, int signs, int weight, int cost) {
        desk.telling(1, times("x", signs / 2)).telling(0, "@1@1" + times("y", signs % 2));
        due.is("15: signs " + signs, desk.post.letter(0, 0, 2), signs);
        due.is("15: the weight of " + signs, desk.post.letter(0, 0, 3), weight);
        due.is("15: the cost of " + signs, desk.post.letter(0, 0, 4), cost);
    }

    private static void weightsAndCosts() {
        Desk desk = desk().with("Ann,Elm,1,1,1");
        desk.post.run(0, 0);
        desk.post.franking(1000, 1);
        weighed(desk, 0, 8, 3000);
        weighed(desk, 1, 11, 3000);
        weighed(desk, 20, 11, 3000);
        weighed(desk, 21, 14, 3000);
        weighed(desk, 80, 20, 3000);
        weighed(desk, 81, 23, 3003);
        weighed(desk, 140, 29, 3003);
        weighed(desk, 141, 32, 3006);
        weighed(desk, 160, 32, 3006);
        Desk all = full();
        all.post.run(0, 0);
        all.post.franking(1000, 1);
        for (int i = 1; i < 12; i++) {
            weighed(all, 0, 6 + 2 * i, 2 * (1000 + (6 + 2 * i > 20 ? 1 : 0)));
            all.post.match(0, i);
        }
        weighed(all, 0, 30, 2002);
        weighed(all, 1, 33, 2004);
        weighed(all, 60, 39, 2004);
        weighed(all, 61, 42, 2006);
        weighed(all, 160, 54, 2008);
    }

    private static void signs() {
        Desk desk = desk().with("Ann,Elm,1,2,1").telling(0, "abc");
        desk.post.run(0, 0);
        desk.post.run(1, 0);
        due.is("16: the first", desk.post.sign(0, 0, 0), 'a');
        due.is("16: the last", desk.post.sign(0, 0, 2), 'c');
        due.is("16: behind its end", desk.post.sign(0, 0, 3), 0);
        due.is("16: far behind its end", desk.post.sign(0, 0, Integer.MAX_VALUE), 0);
        due.is("16: in trouble", desk.post.sign(1, 0, 0), 0);
        desk.telling(2, times("x", 80)).telling(0, "@2@2");
        due.is("16: the 160th", desk.post.sign(0, 0, 159), 'x');
        due.is("16: behind 160", desk.post.sign(0, 0, 160), 0);
        desk.telling(0, "@2@2y");
        due.is("16: in trouble behind some", desk.post.sign(0, 0, 0), 0);
        for (int outside : OUTSIDE) {
            due.refused("16: run " + outside, INDEX, () -> desk.post.sign(outside, 0, 0));
            due.refused("16: letter " + outside, INDEX, () -> desk.post.sign(0, outside, 0));
        }
        due.refused("16: place -1", INDEX, () -> desk.post.sign(0, 0, -1));
        due.refused("16: place far below", INDEX, () -> desk.post.sign(0, 0, Integer.MIN_VALUE));
        desk.telling(0, "abc").post.post(0);
        desk.telling(0, "xyz");
        due.is("16: kept", desk.text(0, 0), "abc");
        due.is("16: behind the end of a kept one", desk.post.sign(0, 0, 3), 0);
    }

    private static void anew() {
        Desk desk = desk().with("Ann,Elm,1,2,1").with("Ann,Elm,1,2,1").telling(0, "<n>:<p>");
        desk.post.match(0, 1);
        desk.post.run(0, 0);
        desk.post.run(1, 1);
        due.is("17: an open one", desk.post.anew(0, 0), 0);
        due.is("17: one in trouble", desk.post.anew(1, 0), 0);
        desk.post.post(0);
        due.is("17: a posted one", desk.post.anew(0, 0), 0);
        desk.post.match(0, 1);
        due.is("17: the same members though unmatched", desk.post.anew(0, 0), 0);
        desk.address(1, "Bob,Elm,1,2,1");
        due.is("17: two unlike signs and one", desk.post.anew(0, 0), 3);
        desk.address(1, "Anna,Elm,1,2,1");
        due.is("17: one sign more", desk.post.anew(0, 0), 3);
        desk.telling(0, "Ann");
        due.is("17: less signs", desk.post.anew(0, 0), 8);
        desk.telling(0, "<n>:<p>!!");
        desk.address(1, "Ann,Elm,1,2,1");
        due.is("17: more signs", desk.post.anew(0, 0), 2);
        desk.telling(0, "");
        due.is("17: none anew", desk.post.anew(0, 0), 11);
        desk.telling(0, "@5");
        due.is("17: anew a template is missing", desk.post.anew(0, 0), -1);
        desk.telling(0, "@0");
        due.is("17: anew it is deep", desk.post.anew(0, 0), -1);
        desk.telling(2, times("x", 81)).telling(0, "@2@2");
        due.is("17: anew it is long", desk.post.anew(0, 0), -1);
        desk.telling(0, "Ann & Ann:3");
        due.is("17: anew one is another", desk.post.anew(0, 0), 1);
        desk.post.franking(1000000000, 0);
        due.is("17: anew it is costly", desk.post.anew(0, 0), -1);
        due.is("17: the kept one stays", desk.text(0, 0), "Ann & Ann:2");
        for (int outside : OUTSIDE) {
            due.refused("17: run " + outside, INDEX, () -> desk.post.anew(outside, 0));
            due.refused("17: letter " + outside, INDEX, () -> desk.post.anew(0, outside));
        }
    }

    private static void trouble(Desk desk, String template, String told) {
        desk.telling(0, template);
        due.is("18: the trouble of " + template, desk.trouble(0, 0), told);
    }

    private static void troubleMissingAndDeep() {
        Desk desk = desk().with("Ann,Elm,1,2,1");
        desk.post.run(3, 0);
        due.is("18: the run's template is missing", desk.trouble(0, 0), "1: 3@0");
        Desk other = desk().with("Ann,Elm,1,2,1");
        other.post.run(0, 0);
        trouble(other, "ab", "0:");
        trouble(other, "ab@1", "1: 0@2");
        other.telling(1, "<n>[m=1?x@2|@3]");
        trouble(other, "ab@1", "1: 0@2 1@9");
        trouble(other, "[m=2?@1|]", "0:");
        trouble(other, "@0", "2: 0@0 0@0 0@0 0@0 0@0");
        trouble(other, "x@0", "2: 0@1 0@1 0@1 0@1 0@1");
        trouble(other, "x@0@7", "2: 0@1 0@1 0@1 0@1 0@1");
        trouble(other, "x@7@0", "1: 0@1");
        other.telling(2, "@3").telling(3, "y@4").telling(4, "<n>@5").telling(5, "");
        other.telling(1, "@2");
        trouble(other, "-@1", "2: 0@1 1@0 2@0 3@1 4@3");
        other.telling(4, "<n>@6");
        trouble(other, "-@1", "1: 0@1 1@0 2@0 3@1 4@3");
        other.telling(4, "<n>");
        trouble(other, "-@1@6", "1: 0@3");
        trouble(other, "@5@5@1@5@6", "1: 0@8");
        trouble(other, "@1[m=1?@2@6|]", "1: 0@9");
    }

    private static void troubleLong() {
        Desk desk = desk().with("Ann,Elm,123,2,1").telling(1, times("x", 80)).telling(2, times("x", 79)).telling(3, "");
        desk.post.run(0, 0);
        trouble(desk, "@1@1", "0:");
        trouble(desk, "@1@1@3", "0:");
        trouble(desk, "@1@1!", "3: 0@4");
        trouble(desk, "@1@1@7", "1: 0@4");
        trouble(desk, "!@1@1", "3: 0@3 1@79");
        trouble(desk, "@1@2<m>", "0:");
        trouble(desk, "@1@2<h>", "3: 0@4");
        trouble(desk, "@1@2ab", "3: 0@5");
        trouble(desk, "@1@2[m=1?<m>|]", "0:");
        trouble(desk, "@1@2[m=1?[z=2?a<h>|]|]", "3: 0@15");
        trouble(desk, "[m=1?@1@1|]<n>", "3: 0@11");
        desk.telling(4, "@1@1<h>");
        trouble(desk, "-@4", "3: 0@1 4@2 1@79");
        trouble(desk, "@4", "3: 0@0 4@4");
        desk.telling(5, times("x", 5));
        trouble(desk, "@1@2@0", "3: 0@4 0@0 1@1");
    }

    private static void troubleCostly() {
        Desk desk = desk().with("Ann,Elm,123,2,1").telling(1, times("x", 41)).telling(5, "ab@1@1");
        desk.post.run(5, 0);
        desk.post.franking(0, 536870911);
        due.is("18: not costly", desk.trouble(0, 0), "0:");
        due.is("15: the cost of that", desk.post.letter(0, 0, 4), 2147483644);
        desk.post.franking(0, 536870912);
        due.is("18: costly by the zone", desk.trouble(0, 0), "4: 5@0");
        due.is("16: costly has no text", desk.text(0, 0), "");
        desk.post.franking(536870911, 0);
        due.is("18: not costly by the base", desk.trouble(0, 0), "0:");
        desk.post.franking(536870911, 1);
        due.is("18: costly by the base", desk.trouble(0, 0), "4: 5@0");
        desk.telling(5, "ab@7");
        due.is("18: missing ahead of costly", desk.trouble(0, 0), "1: 5@2");
        Desk near = desk().with("Ann,Elm,123,0,1").telling(1, times("x", 80)).telling(0, "@1@1");
        near.post.run(0, 0);
        near.post.franking(0, 1000000000);
        due.is("18: costly by the steps", near.trouble(0, 0), "4: 0@0");
        near.post.franking(73741823, 500000000);
        due.is("18: costly by 2 steps", near.post.letter(0, 0, 4), 2147483646);
        near.post.franking(73741824, 500000000);
        due.is("18: costly by one more", near.trouble(0, 0), "4: 0@0");
    }

    private static void troubleRefused() {
        Desk desk = desk().with("Ann,Elm,123,2,1").telling(0, "x");
        desk.post.run(0, 0);
        desk.post.run(1, 0);
        due.is("18: not in trouble", desk.post.trouble(0, 0, 0, true), -1);
        due.is("18: the level", desk.post.trouble(1, 0, 0, false), 1);
        due.is("18: a level too far", desk.post.trouble(1, 0, 1, false), -1);
        due.is("18: a level far too far", desk.post.trouble(1, 0, Integer.MAX_VALUE, true), -1);
        due.refused("18: level -1", INDEX, () -> desk.post.trouble(1, 0, -1, true));
        due.refused("18: level -1 without trouble", INDEX, () -> desk.post.trouble(0, 0, -1, true));
        for (int outside : OUTSIDE) {
            due.refused("18: run " + outside, INDEX, () -> desk.post.trouble(outside, 0, 0, true));
            due.refused("18: letter " + outside, INDEX, () -> desk.post.trouble(0, outside, 0, false));
        }
        desk.post.post(0);
        desk.telling(0, "@7");
        due.is("18: of a posted one", desk.trouble(0, 0), "0:");
    }

    /** 48 times 48 times 48 times 48 texts of nothing would take hours for all calls. */
    private static void manySilentTemplatesEnd() {
        Desk desk = full();
        for (int template = 0; template < 4; template++) {
            desk.telling(template, times("@" + (template + 1), 48));
        }
        desk.telling(4, times("[m=1?|]", 13));
        desk.post.run(0, 0);
        for (int call = 0; call < 300; call++) {
            due.is("16: nothing, of many", desk.post.letter(0, call % 12, 2), 0);
        }
        desk.telling(0, times("@1", 47) + "x");
        due.is("16: a sign behind many", desk.text(0, 11), "x");
        desk.telling(0, "x" + times("@1", 46) + "y").telling(4, times("[m=1?|]", 13));
        due.is("16: many between signs", desk.text(0, 11), "xy");
        desk.telling(0, times("@1", 47) + "x");
        desk.telling(4, times("[m=1?|]", 13) + "@5");
        due.is("18: deep behind many", desk.trouble(0, 0), "1: 0@0 1@0 2@0 3@0 4@91");
        due.is("19: none of many is posted", desk.post.post(0), 0);
    }

    private static void posting() {
        Desk desk = desk().with("Ann,Elm,1,2,1").with("Bob,Oak,2,2,1").with("Cid,Fir,3,2,1").telling(0, "[h=2?@7|<n>]");
        desk.post.run(0, 4);
        desk.post.run(0, 4);
        due.is("19: without those in trouble", desk.post.post(0), 2);
        due.is("19: its letters", desk.post.letters(0), 2);
        due.is("19: the first", desk.text(0, 0), "Ann");
        due.is("19: the next", desk.text(0, 1), "Cid");
        due.is("19: the next one's members", desk.post.letter(0, 1, 0), 4);
        due.refused("19: none more", INDEX, () -> desk.post.letter(0, 2, 0));
        due.refused("19: posted", STATE, () -> desk.post.post(0));
        due.is("19: the one in trouble is due again", desk.post.letters(1), 1);
        due.is("19: that one", desk.post.letter(1, 0, 0), 2);
        desk.telling(7, "<n>");
        due.is("19: it is posted then", desk.post.post(1), 1);
        due.is("19: none has changed", desk.text(0, 1), "Cid");
        desk.post.run(0, 4);
        due.is("19: none is left", desk.post.post(2), 0);
        due.refused("19: posted of none", STATE, () -> desk.post.post(2));
        desk.with("Dee,Ash,4,2,1");
        due.is("19: a posted one gets no more", desk.post.letters(2), 0);
        for (int outside : new int[] {-1, 3, 8, Integer.MIN_VALUE, Integer.MAX_VALUE}) {
            due.refused("19: " + outside, INDEX, () -> desk.post.post(outside));
        }
        everyLetterIsKept();
    }

    private static void everyLetterIsKept() {
        Desk desk = full();
        for (int run = 0; run < 8; run++) {
            desk.telling(run, run + ":<n><p>").post.run(run, run);
        }
        for (int i = 0; i < 12; i++) {
            desk.address(i, "Ann,Elm,1,0," + i);
        }
        for (int run = 0; run < 8; run++) {
            due.is("19: 12 letters", desk.post.post(run), 12);
        }
        for (int run = 0; run < 8; run++) {
            due.is("19: the last letter", desk.text(run, 11), run + ":Ann11");
        }
        due.is("20: 96 letters", desk.post.spent(), 96 * 20);
        due.is("21: all reasons", desk.post.reasons(11), 255);
    }

    private static void spending() {
        Desk desk = desk().with("Ann,Elm,1,0,1").telling(0, "x");
        for (int run = 0; run < 4; run++) {
            desk.post.run(0, run);
        }
        desk.post.franking(536870912, 0);
        desk.post.post(0);
        due.is("20: half", desk.post.spent(), 1073741824);
        desk.post.franking(536870911, 0);
        desk.post.post(1);
        due.is("20: one less than the greatest", desk.post.spent(), 2147483646);
        desk.post.franking(0, 0);
        desk.post.post(2);
        due.is("20: a letter for nothing", desk.post.spent(), 2147483646);
        desk.post.franking(1, 0);
        desk.post.post(3);
        due.is("20: no int", desk.post.spent(), 2147483647);
        desk.post.run(0, 5);
        desk.post.post(4);
        due.is("20: from that on", desk.post.spent(), 2147483647);
        Desk two = desk().with("Ann,Elm,1,0,1").with("Ann,Elm,1,3,1").telling(0, "x");
        two.post.run(0, 0);
        due.is("20: an open run costs nothing", two.post.spent(), 0);
        two.post.post(0);
        due.is("20: together", two.post.spent(), 70);
    }

    private static void reasons() {
        Desk desk = desk().with("Ann,Elm,1,0,1").with("Ann,Elm,1,0,1").with("Bob,Oak,2,0,1").telling(0, "[h=2?@7|x]");
        due.is("21: none", desk.post.reasons(0), 0);
        desk.post.match(0, 1);
        desk.post.run(0, 7);
        desk.post.run(0, 0);
        due.is("21: none of an open run", desk.post.reasons(0), 0);
        desk.post.post(0);
        due.is("21: the seventh", desk.post.reasons(0), 128);
        due.is("21: of each member", desk.post.reasons(1), 128);
        due.is("21: none in trouble", desk.post.reasons(2), 0);
        desk.post.match(0, 1);
        desk.post.post(1);
        due.is("21: two", desk.post.reasons(1), 129);
        desk.address(1, "Cid,Fir,2,0,1");
        due.is("21: it stays", desk.post.reasons(1), 129);
        for (int outside : OUTSIDE) {
            due.refused("21: " + outside, INDEX, () -> desk.post.reasons(outside));
        }
        due.refused("21: not yet there", INDEX, () -> desk.post.reasons(3));
    }
}
