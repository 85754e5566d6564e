/**
 * "A call that throws an exception changes nothing", and neither does one that only tells: behind such a call
 * everything is read, and has to be as it is without that call.
 */
public final class RefusalsTest {

    private static final Class<?> INDEX = IndexOutOfBoundsException.class;
    private static final Class<?> ARGUMENT = IllegalArgumentException.class;
    private static final Class<?> STATE = IllegalStateException.class;
    private static final int[] OUTSIDE = {-1, 1 << 31, 12, 13, Integer.MAX_VALUE};

    private static final Due due = new Due();

    /** A call on a desk; a boolean counts 1 or 0. */
    private interface Try {
        long answer(MergePost post);
    }

    public static void main(String[] args) {
        typing();
        readingTheLine();
        askingForAddresses();
        matching();
        frankingAndRuns();
        askingForLetters();
        posting();
        onAFullDesk();
        due.end();
    }

    /** Two that are matched, one that could be, one alone; a posted run, an open one, and one in trouble. */
    private static Desk some() {
        Desk desk = new Desk().telling(0, "<n>,<p>").telling(1, "[m=2?@0|@5]");
        desk.with("Ann,Elm,1,0,1").with("ann!,Elm,1,0,2").with("Ann,Elm,1,1,3").with("Bob,Oak,2,2,4");
        desk.post.match(0, 1);
        desk.post.franking(7, 3);
        desk.post.run(0, 2);
        desk.post.post(0);
        desk.post.run(0, 3);
        desk.post.run(1, 4);
        return desk.typed("<n>/" + "x".repeat(86));
    }

    /** 12 addresses, 8 runs, and a line of 96. */
    private static Desk full() {
        Desk desk = new Desk().telling(0, "<n>");
        for (int i = 0; i < 12; i++) {
            desk.with("Ann,Elm,1,0,1");
        }
        desk.post.match(0, 1);
        for (int run = 0; run < 8; run++) {
            desk.post.run(0, run);
        }
        desk.post.post(0);
        return desk.typed("x".repeat(93) + "<n>");
    }

    /** All that can be told, the line last, as that is read as a template of an open run. */
    private static String told(Desk desk) {
        StringBuilder told = new StringBuilder();
        for (int i = 0; i < Math.min(desk.post.addresses(), 4); i++) {
            told.append(desk.cleaned(i, false)).append(' ').append(desk.cleaned(i, true)).append(' ');
            told.append(desk.post.group(i)).append(' ').append(desk.post.reasons(i)).append(' ');
            told.append(desk.post.likeness(0, i)).append(' ').append(desk.post.apart(i, 2, false)).append('\n');
        }
        told.append(desk.post.addresses()).append(' ').append(desk.post.spent()).append(' ').append(desk.post.pairs(50));
        for (int run = 0; run < 3; run++) {
            told.append('\n').append(desk.post.letters(run)).append(' ');
            for (int letter = 0; letter < Math.min(desk.post.letters(run), 3); letter++) {
                tellLetter(told, desk, run, letter);
            }
        }
        told.append('\n').append(desk.post.type(0)).append(' ').append(desk.post.template(0)).append(' ');
        return told.append(desk.text(1, 0)).append(desk.post.letter(2, 0, 1)).toString();
    }

    private static void tellLetter(StringBuilder told, Desk desk, int run, int letter) {
        for (int what = 0; what < 5; what++) {
            told.append(desk.post.letter(run, letter, what)).append(' ');
        }
        told.append(desk.post.sign(run, letter, 0)).append(desk.post.sign(run, letter, 2));
        told.append(desk.post.anew(run, letter)).append(' ').append(desk.post.trouble(run, letter, 0, true)).append("; ");
    }

    private static void changesNothing(String what, Desk desk, Desk untouched, Class<?> want, Try call) {
        if (want == null) {
            call.answer(desk.post);
        } else {
            due.refused(what, want, () -> call.answer(desk.post));
        }
        due.is(what + " changes nothing", told(desk), told(untouched));
    }

    private static void refused(String what, Class<?> want, Try call) {
        changesNothing(what, some(), some(), want, call);
    }

    private static void asked(String what, Try call) {
        changesNothing(what, some(), some(), null, call);
    }

    private static void typing() {
        refused("2: a sign of 31", ARGUMENT, post -> post.type(31));
        refused("2: a sign of 127 behind others", ARGUMENT, post -> post.type(Desk.packed("abc") | 127L << 24));
        refused("2: a sign behind 0", ARGUMENT, post -> post.type(Desk.packed("abc") | (long) 'd' << 32));
        refused("2: 97 signs", STATE, post -> post.type(Desk.packed("abcdefg")));
        refused("2: 98 signs", STATE, post -> post.type(Desk.packed("abcdefgh")));
        asked("2: no sign", post -> post.type(0));
    }

    private static void readingTheLine() {
        for (int outside : new int[] {-1, 8, 1 << 31, Integer.MAX_VALUE}) {
            refused("3: template " + outside, INDEX, post -> post.template(outside));
        }
        for (int outside : new int[] {-1, 5, 12, 13, 1 << 31, Integer.MAX_VALUE}) {
            refused("4: address " + outside, INDEX, post -> post.address(outside));
        }
        refused("4: it has a match", STATE, post -> post.address(0));
        refused("4: the other one has", STATE, post -> post.address(1));
    }

    private static void askingForAddresses() {
        asked("5: how many", post -> post.addresses());
        asked("6: behind the end", post -> post.cleaned(3, true, 99));
        asked("7: apart", post -> post.apart(3, 1, false));
        asked("8: like", post -> post.likeness(3, 1));
        asked("9: pairs", post -> post.pairs(100));
        asked("11: group", post -> post.group(1));
        asked("21: reasons", post -> post.reasons(3));
        for (int outside : OUTSIDE) {
            refused("6: cleaned " + outside, INDEX, post -> post.cleaned(outside, false, 0));
            refused("7: first " + outside, INDEX, post -> post.apart(outside, 0, true));
            refused("7: second " + outside, INDEX, post -> post.apart(0, outside, false));
            refused("8: first " + outside, INDEX, post -> post.likeness(outside, 0));
            refused("8: second " + outside, INDEX, post -> post.likeness(0, outside));
            refused("11: group " + outside, INDEX, post -> post.group(outside));
            refused("21: reasons " + outside, INDEX, post -> post.reasons(outside));
        }
        refused("6: a place below 0", INDEX, post -> post.cleaned(0, false, -1));
        refused("9: -1", ARGUMENT, post -> post.pairs(-1));
        refused("9: 101", ARGUMENT, post -> post.pairs(101));
    }

    private static void matching() {
        for (int outside : OUTSIDE) {
            refused("10: first " + outside, INDEX, post -> post.match(outside, 0) ? 1 : 0);
            refused("10: second " + outside, INDEX, post -> post.match(2, outside) ? 1 : 0);
            refused("10: both " + outside, INDEX, post -> post.match(outside, outside) ? 1 : 0);
        }
        for (int same = 0; same < 4; same++) {
            int address = same;
            refused("10: the same, " + same, STATE, post -> post.match(address, address) ? 1 : 0);
        }
        refused("10: too little like", STATE, post -> post.match(0, 3) ? 1 : 0);
        refused("10: too little like, the other way", STATE, post -> post.match(3, 2) ? 1 : 0);
    }

    private static void frankingAndRuns() {
        refused("12: base -1", ARGUMENT, post -> post.franking(-1, 100));
        refused("12: base too great", ARGUMENT, post -> post.franking(1000000001, 100));
        refused("12: step -1", ARGUMENT, post -> post.franking(100, -1));
        refused("12: step too great", ARGUMENT, post -> post.franking(100, 1000000001));
        for (int outside : new int[] {-1, 8, 1 << 31, Integer.MAX_VALUE}) {
            refused("13: template " + outside, INDEX, post -> post.run(outside, 0));
            refused("13: reason " + outside, ARGUMENT, post -> post.run(0, outside));
            refused("13: both " + outside, INDEX, post -> post.run(outside, outside));
        }
    }

    private static void askingForLetters() {
        for (int number = 0; number < 3; number++) {
            int run = number;
            asked("14: letters", post -> post.letters(run));
            asked("15: signs", post -> post.letter(run, 1, 2));
            asked("16: sign", post -> post.sign(run, 1, 7));
            asked("17: anew", post -> post.anew(run, 1));
            asked("18: trouble", post -> post.trouble(run, 1, 3, true));
            refused("15: what 5", ARGUMENT, post -> post.letter(run, 0, 5));
            refused("15: letter 3", INDEX, post -> post.letter(run, 3, 5));
            refused("16: letter 3", INDEX, post -> post.sign(run, 3, 0));
            refused("16: a place below 0", INDEX, post -> post.sign(run, 0, -1));
            refused("17: letter 3", INDEX, post -> post.anew(run, 3));
            refused("18: letter 3", INDEX, post -> post.trouble(run, 3, 0, true));
            refused("18: a level below 0", INDEX, post -> post.trouble(run, 0, -1, true));
        }
        asked("20: spent", post -> post.spent());
    }

    private static void posting() {
        for (int outside : new int[] {-1, 3, 8, 1 << 31, Integer.MAX_VALUE}) {
            refused("14: run " + outside, INDEX, post -> post.letters(outside));
            refused("15: run " + outside, INDEX, post -> post.letter(outside, 0, 0));
            refused("16: run " + outside, INDEX, post -> post.sign(outside, 0, 0));
            refused("17: run " + outside, INDEX, post -> post.anew(outside, 0));
            refused("18: run " + outside, INDEX, post -> post.trouble(outside, 0, 0, false));
            refused("19: run " + outside, INDEX, post -> post.post(outside));
        }
        refused("19: it was posted", STATE, post -> post.post(0));
    }

    private static void onAFullDesk() {
        changesNothing("2: the line is full", full(), full(), STATE, post -> post.type('x'));
        changesNothing("2: full, and out of range", full(), full(), ARGUMENT, post -> post.type(200));
        changesNothing("2: full, and no sign", full(), full(), null, post -> post.type(0));
        changesNothing("4: there are 12", full(), full(), STATE, post -> post.address(12));
        changesNothing("4: 13 of 12", full(), full(), INDEX, post -> post.address(13));
        changesNothing("4: a match of 12", full(), full(), STATE, post -> post.address(0));
        changesNothing("13: there are 8", full(), full(), STATE, post -> post.run(0, 0));
        changesNothing("13: 8, and the reason", full(), full(), ARGUMENT, post -> post.run(0, 8));
        changesNothing("13: 8, and the template", full(), full(), INDEX, post -> post.run(8, 0));
        changesNothing("14: the run 8", full(), full(), INDEX, post -> post.letters(8));
        changesNothing("19: it was posted", full(), full(), STATE, post -> post.post(0));
    }
}
