/** Long runs of calls, the same ones each time, each answered as the model answers it. */
public final class ModelTest {

    private static final int RUNS = 4000;
    private static final int CALLS = 512;
    private static final String[] NAMES = {"Ann Lee", "ANN-LEE", "Anna Lee", "Bob", "bob.", "-", "x", "Maximilian X", "abcdefghijkl"};
    private static final String[] STREETS = {"Elm St", "Elm Str.", "ELM", "Oak Rd 7", "?", "Long Lane 12", "y"};
    private static final String SIGNS = " aZ9<[|]@>?=,nshzpm017~";

    private long state;
    private int wrong;
    private int answers;
    private int refusals;
    private MergePost program;
    private Model model;
    private StringBuilder told;
    private int calls;
    private int names;
    private int streets;

    public static void main(String[] args) {
        ModelTest test = new ModelTest();
        for (int run = 0; run < RUNS && test.wrong == 0; run++) {
            test.oneRun(run);
        }
        System.out.println(test.wrong == 0
                ? test.answers + " answers are the model's, " + test.refusals + " of them refusals"
                : "the run above is not the model's");
        if (test.wrong != 0 || test.refusals == 0) {
            System.exit(1);
        }
    }

    private int below(int bound) {
        state = state * 6364136223846793005L + 1442695040888963407L;
        return (int) ((state >>> 33) % bound);
    }

    private boolean oneIn(int many) {
        return below(many) == 0;
    }

    private void oneRun(int run) {
        state = 88172645463325252L + run;
        program = new MergePost();
        model = new Model();
        told = new StringBuilder();
        calls = 0;
        names = 1 + below(NAMES.length);
        streets = 1 + below(STREETS.length);
        if (!oneIn(4)) {
            furnish();
        }
        while (calls < CALLS && wrong == 0) {
            anyCall();
        }
    }

    /** Addresses and templates ahead, so that later calls have something to be about. */
    private void furnish() {
        int count = below(13);
        for (int i = 0; i < count; i++) {
            typed(someAddress());
            int number = i;
            call("address(" + number + ")", () -> program.address(number), () -> model.address(number));
        }
        for (int i = oneIn(3) ? below(8) : 0; i < 8; i++) {
            typed(someTemplate());
            int number = i;
            call("template(" + number + ")", () -> program.template(number), () -> model.template(number));
        }
        for (int i = below(8); i > 0; i--) {
            int template = below(8);
            int reason = below(3);
            call("run(" + template + "," + reason + ")", () -> program.run(template, reason), () -> model.run(template, reason));
        }
    }

    private void call(String what, Due.Call asked, Due.Call due) {
        if (calls >= CALLS || wrong > 0) {
            return;
        }
        calls++;
        answers++;
        String got = Due.outcome(asked);
        String want = Due.outcome(due);
        told.append(what).append(" ").append(got).append('\n');
        if (want.startsWith("throws")) {
            refusals++;
        }
        if (!got.equals(want)) {
            wrong++;
            System.out.println(told + "due is: " + want);
        }
    }

    private void typed(String line) {
        for (int from = 0; from < line.length(); from += 8) {
            type(Desk.packed(line.substring(from, Math.min(from + 8, line.length()))));
        }
    }

    private void type(long signs) {
        call("type(" + signs + ")", () -> program.type(signs), () -> model.type(signs));
    }

    private String someAddress() {
        String zone = String.valueOf(oneIn(30) ? below(10) : below(3));
        String house = oneIn(3) ? "00" + below(10) : String.valueOf(oneIn(30) ? below(3000) : below(20));
        String line = NAMES[below(names)] + "," + STREETS[below(streets)] + "," + house + "," + zone + ","
                + below(oneIn(30) ? 300 : 100);
        return oneIn(20) ? spoilt(line) : line;
    }

    private String someTemplate() {
        String line = someText(0);
        if (oneIn(6)) {
            line = line + "x".repeat(below(97));
        }
        line = line.substring(0, Math.min(line.length(), 96));
        return oneIn(8) ? spoilt(line) : line;
    }

    /** The model takes each @ anew, so that there are only some. */
    private String someText(int depth) {
        StringBuilder text = new StringBuilder();
        for (int parts = below(5); parts >= 0 && text.length() < 60; parts--) {
            int kind = below(9);
            if (kind < (oneIn(3) ? 3 : 4)) {
                text.append("abc xyz!?>".substring(0, 1 + below(9)));
            } else if (kind < 6) {
                text.append('<').append("nshzpm".charAt(below(6))).append('>');
            } else if (kind < 7) {
                text.append('@').append(below(8));
            } else if (depth < 6) {
                text.append('[').append("nshzpm".charAt(below(6))).append("=<>".charAt(below(3)));
                text.append(below(oneIn(3) ? 200 : 20)).append('?').append(someText(depth + 1));
                text.append('|').append(someText(depth + 1)).append(']');
            }
        }
        return text.toString();
    }

    private String spoilt(String line) {
        int place = below(line.length() + 1);
        String sign = String.valueOf(SIGNS.charAt(below(SIGNS.length())));
        String head = line.substring(0, place);
        String rest = line.substring(place);
        int way = below(3);
        String spoilt = way == 0 ? head : way == 1 || rest.isEmpty() ? head + sign + rest : head + sign + rest.substring(1);
        return spoilt.substring(0, Math.min(spoilt.length(), 96));
    }

    /** One of the bound, or seldom a number that is none of it. */
    private int some(int bound) {
        if (oneIn(60)) {
            return new int[] {-1, bound, bound + 1, Integer.MIN_VALUE, Integer.MAX_VALUE, -bound}[below(6)];
        }
        return below(bound);
    }

    private int someAddressNumber() {
        int count = program.addresses();
        return count == 0 ? some(12) : some(count);
    }

    private void anyCall() {
        int kind = below(100);
        if (kind < 10) {
            furnishingCall(below(25));
        } else if (kind < 35) {
            addressCall(kind - 10);
        } else {
            runCall(kind - 35);
        }
    }

    private void furnishingCall(int kind) {
        if (kind < 3) {
            type(oneIn(2) ? below(2000) : state);
        } else if (kind < 5) {
            call("addresses()", () -> program.addresses(), () -> model.addresses());
        } else if (kind < 14) {
            typed(someTemplate());
            int template = some(8);
            call("template(" + template + ")", () -> program.template(template), () -> model.template(template));
        } else {
            typed(someAddress());
            int address = oneIn(3) ? program.addresses() : someAddressNumber();
            call("address(" + address + ")", () -> program.address(address), () -> model.address(address));
        }
    }

    private void addressCall(int kind) {
        int first = someAddressNumber();
        int second = someAddressNumber();
        boolean street = oneIn(2);
        if (kind < 3) {
            int place = some(13);
            call("cleaned(" + first + "," + street + "," + place + ")",
                    () -> program.cleaned(first, street, place), () -> model.cleaned(first, street, place));
        } else if (kind < 6) {
            call("apart(" + first + "," + second + "," + street + ")",
                    () -> program.apart(first, second, street), () -> model.apart(first, second, street));
        } else if (kind < 9) {
            call("likeness(" + first + "," + second + ")",
                    () -> program.likeness(first, second), () -> model.likeness(first, second));
        } else if (kind < 11) {
            int hundredths = some(101);
            call("pairs(" + hundredths + ")", () -> program.pairs(hundredths), () -> model.pairs(hundredths));
        } else if (kind < 19) {
            call("match(" + first + "," + second + ")",
                    () -> program.match(first, second) ? 1 : 0, () -> model.match(first, second));
        } else if (kind < 22) {
            call("group(" + first + ")", () -> program.group(first), () -> model.group(first));
        } else {
            call("reasons(" + first + ")", () -> program.reasons(first), () -> model.reasons(first));
        }
    }

    private void runCall(int kind) {
        int run = some(oneIn(2) ? 4 : 8);
        if (kind < 2) {
            int base = some(oneIn(3) ? 1000000001 : 100);
            int step = some(oneIn(3) ? 1000000001 : 100);
            call("franking(" + base + "," + step + ")", () -> program.franking(base, step), () -> model.franking(base, step));
        } else if (kind < 5) {
            int template = some(8);
            int reason = some(oneIn(3) ? 8 : 3);
            call("run(" + template + "," + reason + ")", () -> program.run(template, reason), () -> model.run(template, reason));
        } else if (kind < 12) {
            call("letters(" + run + ")", () -> program.letters(run), () -> model.letters(run));
        } else if (kind < 14 && oneIn(calls < 200 ? 10 : 3)) {
            call("post(" + run + ")", () -> program.post(run), () -> model.post(run));
        } else if (kind < 16) {
            call("spent()", () -> program.spent(), () -> model.spent());
        } else {
            letterCall((kind - 14) / 2, run, some(oneIn(2) ? 2 : 12));
        }
    }

    private void letterCall(int kind, int run, int letter) {
        String of = "(" + run + "," + letter + ",";
        if (kind < 10) {
            int what = some(5);
            call("letter" + of + what + ")", () -> program.letter(run, letter, what), () -> model.letter(run, letter, what));
        } else if (kind < 18) {
            int place = some(oneIn(3) ? 170 : 30);
            call("sign" + of + place + ")", () -> program.sign(run, letter, place), () -> model.sign(run, letter, place));
        } else if (kind < 23) {
            call("anew" + of + ")", () -> program.anew(run, letter), () -> model.anew(run, letter));
        } else {
            int level = some(6);
            boolean place = oneIn(2);
            call("trouble" + of + level + "," + place + ")",
                    () -> program.trouble(run, letter, level, place), () -> model.trouble(run, letter, level, place));
        }
    }
}
