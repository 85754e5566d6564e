/** The edges of the line and of templates: "Terms" on them, and promises 1 to 3. */
public final class TemplateEdgesTest {

    private static final Class<?> INDEX = IndexOutOfBoundsException.class;
    private static final Class<?> ARGUMENT = IllegalArgumentException.class;
    private static final Class<?> STATE = IllegalStateException.class;
    private static final String FIELDS = "nshzpm";
    private static final String DIGITS = "0123456789";

    private static final Due due = new Due();

    public static void main(String[] args) {
        everyCodeInEveryPlace();
        everyLengthOfALongOfSigns();
        noSignBehindZeros();
        theLineUpTo96();
        theLineIsEmptyInAnyCase();
        theLineStaysIfRefused();
        noTemplateIsToldAtFirst();
        everySignAsAText();
        everySignOfAField();
        everySignOfAChoice();
        everySignOfATemplateWithin();
        numbersOfAsManyDigitsAsCome();
        somethingIsMissingAtTheEnd();
        nothingStandsBetween();
        choicesWithinChoices();
        choicesWithinFreedAgain();
        choicesWithinByTemplates();
        aFaultLeavesTheTemplate();
        theLongestTemplates();
        templatesOutOfRange();
        due.end();
    }

    private static boolean isSign(int code) {
        return code >= 32 && code <= 126;
    }

    /** As many signs as a place says ahead of a code, and others up to 8 behind it. */
    private static long with(int code, int place) {
        long others = Desk.packed("aaaaaaaa") & ~(255L << 8 * place);
        return others | (long) code << 8 * place;
    }

    private static void everyCodeInEveryPlace() {
        for (int place = 0; place < 8; place++) {
            for (int code = 0; code < 256; code++) {
                MergePost post = new MergePost();
                long signs = with(code, place);
                String what = "2: the code " + code + " at the place " + place;
                if (isSign(code)) {
                    due.is(what, post.type(signs), 8);
                } else if (code == 0 && place == 7) {
                    due.is(what, post.type(signs), 7);
                } else {
                    due.refused(what, ARGUMENT, () -> post.type(signs));
                    due.is(what + " adds nothing", post.type(0), 0);
                }
            }
        }
    }

    private static void everyLengthOfALongOfSigns() {
        for (int length = 0; length <= 8; length++) {
            Desk desk = new Desk().with("a,b,1,1,1");
            String signs = " ~Bcd=f}".substring(0, length);
            due.is("2: so many signs", desk.post.type(Desk.packed(signs)), length);
            due.is("3: a template of them", desk.post.template(2), length);
            desk.post.run(2, 0);
            due.is("2: from the lowest ones on", desk.text(0, 0), signs);
        }
    }

    private static void noSignBehindZeros() {
        for (int ahead = 0; ahead < 7; ahead++) {
            for (int behind = ahead + 1; behind < 8; behind++) {
                MergePost post = new MergePost();
                long signs = Desk.packed("a".repeat(ahead)) | (long) 'b' << 8 * behind;
                due.refused("2: a sign at " + behind + " behind " + ahead, ARGUMENT, () -> post.type(signs));
            }
        }
        MergePost post = new MergePost();
        due.refused("2: a sign out of range behind 0", ARGUMENT, () -> post.type(255L << 56));
        due.is("2: 8 bits of 0 alone", post.type(0), 0);
    }

    private static void theLineUpTo96() {
        for (int length = 86; length <= 96; length++) {
            for (int more = 0; more <= 8; more++) {
                MergePost post = new Desk().typed("x".repeat(length)).post;
                long signs = Desk.packed("y".repeat(more));
                String what = "2: " + more + " behind " + length;
                if (length + more <= 96) {
                    due.is(what, post.type(signs), length + more);
                } else {
                    due.refused(what, STATE, () -> post.type(signs));
                    due.is(what + " stay", post.type(0), length);
                }
            }
        }
        MergePost full = new Desk().typed("x".repeat(96)).post;
        due.refused("2: out of range is named first", ARGUMENT, () -> full.type(with(127, 7)));
        due.refused("2: behind 8 bits of 0 is named first", ARGUMENT, () -> full.type('a' << 8));
    }

    private static void theLineIsEmptyInAnyCase() {
        for (String line : new String[] {"", "abc", "ab]", "Ann,Elm,1,1,1", "x".repeat(96), "x".repeat(95) + "<"}) {
            Desk desk = new Desk().typed(line);
            desk.post.template(0);
            due.is("3: empty behind the template " + line, desk.post.type(0), 0);
            desk.typed(line).post.address(0);
            due.is("4: empty behind the address " + line, desk.post.type(0), 0);
            due.is("3: an empty one then", desk.post.template(0), 0);
            due.is("4: a fault at 0 then", desk.post.address(0), -1);
        }
    }

    private static void theLineStaysIfRefused() {
        Desk desk = new Desk().with("Ann,Elm,1,1,1").typed("abc");
        desk.post.run(5, 0);
        for (int outside : new int[] {-1, 8, 9, 1 << 31, Integer.MAX_VALUE}) {
            due.refused("3: template " + outside, INDEX, () -> desk.post.template(outside));
        }
        for (int outside : new int[] {-1, 2, 12, 13, 1 << 31, Integer.MAX_VALUE}) {
            due.refused("4: address " + outside, INDEX, () -> desk.post.address(outside));
        }
        due.refused("2: a sign of 127", ARGUMENT, () -> desk.post.type(127));
        due.is("3: as it was typed", desk.post.template(5), 3);
        due.is("3: its signs", desk.text(0, 0), "abc");
    }

    private static void noTemplateIsToldAtFirst() {
        Desk desk = new Desk().with("Ann,Elm,1,1,1");
        for (int template = 0; template < 8; template++) {
            int run = desk.post.run(template, 0);
            due.is("1: template " + template, desk.trouble(run, 0), "1: " + template + "@0");
        }
        for (int template = 7; template >= 0; template--) {
            desk.telling(template, "x" + template);
            due.is("3: it is told", desk.text(template, 0), "x" + template);
            due.is("3: no other one", desk.post.letter(Math.max(template - 1, 0), 0, 1), template > 0 ? 1 : 0);
        }
    }

    private static void everySignAsAText() {
        for (char sign = 32; sign < 127; sign++) {
            Desk desk = new Desk().with("Ann,Elm,1,1,1");
            desk.post.run(0, 0);
            if ("<[@".indexOf(sign) >= 0) {
                due.is("3: something is missing behind " + sign, desk.template(0, "a" + sign), -3);
            } else if ("|]".indexOf(sign) >= 0) {
                due.is("3: it cannot stand there, " + sign, desk.template(0, "a" + sign), -2);
            } else {
                due.is("3: it can stand there, " + sign, desk.template(0, "a" + sign), 2);
                due.is("3: it is itself", desk.text(0, 0), "a" + sign);
            }
        }
    }

    /** What a line answers with each sign behind its head: a fault there, or one behind that, if it can stand there. */
    private static void eachSignBehind(String head, String allowed) {
        for (char sign = 32; sign < 127; sign++) {
            int fault = allowed.indexOf(sign) >= 0 ? head.length() + 1 : head.length();
            due.is("3: " + head + sign, new Desk().template(0, head + sign), -1 - fault);
        }
    }

    private static void everySignOfAField() {
        eachSignBehind("<", FIELDS);
        for (char sign = 32; sign < 127; sign++) {
            due.is("3: <n" + sign, new Desk().template(0, "<n" + sign), sign == '>' ? 3 : -3);
        }
    }

    private static void everySignOfAChoice() {
        eachSignBehind("[", FIELDS);
        for (char field : FIELDS.toCharArray()) {
            eachSignBehind("[" + field, "=<>");
        }
        for (char relation : "=<>".toCharArray()) {
            eachSignBehind("[n" + relation, DIGITS);
        }
        eachSignBehind("[n=0", DIGITS + "?");
        eachSignBehind("[n=00", DIGITS + "?");
        eachSignBehind("[n=000", "?");
        for (char sign = 32; sign < 127; sign++) {
            signWithinAChoice(sign);
        }
    }

    /** What opens a part lacks its rest, and a plain sign the rest of the choice: a fault behind it. */
    private static void signWithinAChoice(char sign) {
        due.is("3: the first text, " + sign, new Desk().template(0, "[n=1?" + sign), sign == ']' ? -6 : -7);
        due.is("3: the second text, " + sign, new Desk().template(0, "[n=1?|" + sign), sign == ']' ? 7 : sign == '|' ? -7 : -8);
        boolean opens = "<[@".indexOf(sign) >= 0;
        boolean stray = "|]".indexOf(sign) >= 0;
        due.is("3: behind a choice, " + sign, new Desk().template(0, "[n=1?|]" + sign), opens ? -9 : stray ? -8 : 8);
    }

    private static void everySignOfATemplateWithin() {
        for (char sign = 32; sign < 127; sign++) {
            boolean digit = sign >= '0' && sign <= '7';
            due.is("3: @" + sign, new Desk().template(0, "@" + sign), digit ? 2 : -2);
            due.is("3: [n=1?@" + sign, new Desk().template(0, "[n=1?@" + sign + "|]"), digit ? 9 : -7);
        }
    }

    private static void numbersOfAsManyDigitsAsCome() {
        for (String number : new String[] {"0", "9", "00", "10", "99", "000", "001", "100", "999"}) {
            String line = "[n=" + number + "?|]";
            due.is("3: " + line, new Desk().template(0, line), line.length());
        }
        for (String number : new String[] {"0000", "1234", "00000"}) {
            due.is("3: a fourth digit of " + number, new Desk().template(0, "[n=" + number + "?|]"), -7);
        }
        due.is("3: no digit", new Desk().template(0, "[n=?|]"), -4);
    }

    private static void somethingIsMissingAtTheEnd() {
        String whole = "a<n>@1[m=1?b<s>[h>22?|@3]|c[z<333?|]]d";
        String standAlone = " 0 1 4 6 37 38 ";
        for (int length = 0; length <= whole.length(); length++) {
            String line = whole.substring(0, length);
            boolean template = standAlone.contains(" " + length + " ");
            due.is("3: " + line, new Desk().template(0, line), template ? length : -1 - length);
        }
    }

    private static void nothingStandsBetween() {
        String[] parts = {"<", "n", ">", "[", "m", "=", "1", "?"};
        String all = String.join("", parts);
        for (int place : new int[] {1, 2, 4, 5, 6, 7}) {
            String line = all.substring(0, place) + " " + all.substring(place) + "|]";
            due.is("3: " + line, new Desk().template(0, line), -1 - place);
        }
        due.is("3: @ 1", new Desk().template(0, "@ 1"), -2);
        due.is("3: blanks of the texts", new Desk().template(0, " <n> [m=1? | ] @1 "), 18);
    }

    private static String open(int choices, boolean second) {
        return (second ? "[m=1?|" : "[m=1?").repeat(choices);
    }

    private static String shut(int choices, boolean second) {
        return (second ? "]" : "|]").repeat(choices);
    }

    private static void choicesWithinChoices() {
        for (boolean second : new boolean[] {false, true}) {
            for (int choices = 1; choices <= 5; choices++) {
                String line = open(choices, second) + "x" + shut(choices, second);
                due.is("3: " + line, new Desk().template(0, line), line.length());
            }
            String head = open(5, second);
            due.is("3: within 5 others", new Desk().template(0, head + "[m=1?|]" + shut(5, second)), -1 - head.length());
            due.is("3: behind a sign within 5 others", new Desk().template(0, head + "x[m=1?|]"), -2 - head.length());
            due.is("3: within 5 others, at the end", new Desk().template(0, head + "["), -1 - head.length());
        }
        String mixed = "[m=1?|[m=1?[m=1?|[m=1?[m=1?";
        due.is("3: within first and second texts", new Desk().template(0, mixed + "|]|]]|]]"), mixed.length() + 8);
        due.is("3: within 5 others, of both", new Desk().template(0, mixed + "|["), -2 - mixed.length());
    }

    /** A choice that has ended counts no more. */
    private static void choicesWithinFreedAgain() {
        String head = open(4, false) + "[m=1?|]";
        String line = head + "[m=1?|]|[m=1?|]]";
        due.is("3: side by side", new Desk().template(0, line + shut(3, false)), line.length() + 6);
        String deep = open(5, false) + "|][m=1?";
        due.is("3: again within 5 others", new Desk().template(0, deep + "["), -1 - deep.length());
        String row = "[m=1?|]".repeat(13);
        due.is("3: 13 side by side", new Desk().template(0, row), 91);
        due.is("3: behind 13", new Desk().template(0, row + "]"), -92);
        due.is("3: behind 13, another", new Desk().template(0, row + "|"), -92);
    }

    private static void choicesWithinByTemplates() {
        String line = open(5, false) + "@1" + shut(5, false);
        Desk desk = new Desk().with("Ann,Elm,1,1,1").telling(0, line).telling(1, line.replace("@1", "y"));
        desk.post.run(0, 0);
        due.is("3: the others are of one template", desk.text(0, 0), "y");
    }

    private static void aFaultLeavesTheTemplate() {
        Desk desk = new Desk().with("Ann,Elm,1,1,1").telling(4, "[m=1?a|b]c");
        desk.post.run(4, 0);
        desk.post.run(5, 0);
        for (String line : new String[] {"|", "x<", "[m=1?[m=1?xxxx", "[m=1?x|[m=2?y|z]", "[m=1?x|y]]", "[m=2?xxxx|"}) {
            due.is("3: a fault", desk.template(4, line) < 0 ? 1 : 0, 1);
            due.is("3: as it was behind " + line, desk.text(0, 0), "ac");
            desk.template(5, line);
            due.is("3: not told behind " + line, desk.trouble(1, 0), "1: 5@0");
        }
        due.is("3: the same line again", desk.template(4, "[m=2?a|b]d"), 10);
        due.is("3: another one then", desk.text(0, 0), "bd");
        desk.telling(4, "");
        due.is("3: an empty one then", desk.text(0, 0), "");
        due.is("3: it is told", desk.post.letter(0, 0, 1), 0);
    }

    private static void theLongestTemplates() {
        String[] heads = {"", "[m=1?|]", "<n>", "@2"};
        for (String head : heads) {
            due.is("3: 96 signs", new Desk().template(0, head + "x".repeat(96 - head.length())), 96);
        }
        String ahead = "x".repeat(93);
        due.is("3: a field at the end", new Desk().template(0, ahead + "<m>"), 96);
        due.is("3: a template at the end", new Desk().template(0, ahead + "x@7"), 96);
        due.is("3: a choice at the end", new Desk().template(0, "x".repeat(89) + "[n<1?|]"), 96);
        due.is("3: missing behind 96", new Desk().template(0, ahead + "xx<"), -97);
        due.is("3: missing behind 96, a field", new Desk().template(0, ahead + "x<n"), -97);
        due.is("3: missing behind 96, a digit", new Desk().template(0, ahead + "xx@"), -97);
        due.is("3: missing behind 96, a choice", new Desk().template(0, "x".repeat(90) + "[n<1?|"), -97);
        due.is("3: the last of 96", new Desk().template(0, ahead + "xx]"), -96);
        Desk desk = new Desk().with("Ann,Elm,1,1,1").telling(0, "x".repeat(82) + "[m=2?y|abcdef]");
        desk.post.run(0, 0);
        due.is("3: the end of 96", desk.text(0, 0), "x".repeat(82) + "abcdef");
    }

    private static void templatesOutOfRange() {
        for (int outside : new int[] {-1, 8, 1 << 31, Integer.MAX_VALUE}) {
            Desk desk = new Desk().typed("]");
            due.refused("3: whatever the line is", INDEX, () -> desk.post.template(outside));
            due.is("3: the line stays", desk.post.type(0), 1);
        }
        due.is("3: the lowest", new Desk().template(0, "x"), 1);
        due.is("3: the highest", new Desk().template(7, "x"), 1);
    }
}
