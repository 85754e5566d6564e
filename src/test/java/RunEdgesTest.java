/** The edges of runs, of what is posted, and of what is spent: "Letters", and promises 13, 14 and 19 to 21. */
public final class RunEdgesTest {

    private static final Class<?> INDEX = IndexOutOfBoundsException.class;
    private static final Class<?> ARGUMENT = IllegalArgumentException.class;
    private static final Class<?> STATE = IllegalStateException.class;
    private static final int GREATEST = Integer.MAX_VALUE;
    private static final int[] NO_RANGE = {-1, -2, 1 << 31, 8, 9, GREATEST};

    private static final Due due = new Due();

    public static void main(String[] args) {
        runsFromTo();
        eightRunsAtMost();
        noSuchRun();
        noSuchLetter();
        noSuchWhat();
        lettersOfNone();
        lettersByLowestMembers();
        openLettersComeNow();
        openLettersAfterMatches();
        everPosted();
        aGroupWithOnePosted();
        aRunOfTheSameReason();
        postedLettersAreKept();
        lettersInTroubleAreNone();
        postedAgain();
        spentTogether();
        spentAroundNoInt();
        everyReason();
        due.end();
    }

    /** So many addresses that are all alike, of the zone 0, and the template 0 with the name. */
    private static Desk alike(int count) {
        Desk desk = new Desk().telling(0, "<n>");
        for (int i = 0; i < count; i++) {
            desk.with("Ann" + (char) ('A' + i) + ",Elm,1,0,1");
        }
        return desk;
    }

    private static void runsFromTo() {
        for (int template = 0; template < 8; template++) {
            Desk desk = alike(1);
            for (int reason = 0; reason < 8; reason++) {
                due.is("13: its number", desk.post.run(template, reason), reason);
            }
            due.is("13: told or not", desk.post.letter(7, 0, 1), template == 0 ? 0 : 1);
        }
        Desk desk = alike(1);
        for (int outside : NO_RANGE) {
            due.refused("13: template " + outside, INDEX, () -> desk.post.run(outside, 0));
            due.refused("13: reason " + outside, ARGUMENT, () -> desk.post.run(0, outside));
            for (int reason : NO_RANGE) {
                due.refused("13: template is named first", INDEX, () -> desk.post.run(outside, reason));
            }
        }
        due.is("13: none has begun", desk.post.run(7, 7), 0);
    }

    private static void eightRunsAtMost() {
        Desk desk = alike(1);
        for (int run = 0; run < 8; run++) {
            due.is("13: of one template and reason", desk.post.run(0, 5), run);
        }
        due.refused("13: there are 8", STATE, () -> desk.post.run(0, 5));
        for (int run = 0; run < 8; run++) {
            desk.post.post(run);
        }
        due.refused("13: there are 8, though posted", STATE, () -> desk.post.run(1, 1));
        for (int outside : NO_RANGE) {
            due.refused("13: template ahead of 8", INDEX, () -> desk.post.run(outside, 0));
            due.refused("13: reason ahead of 8", ARGUMENT, () -> desk.post.run(0, outside));
            due.refused("13: template ahead of both", INDEX, () -> desk.post.run(outside, outside));
        }
    }

    private static void runRefused(Desk desk, int run) {
        due.refused("14: run " + run, INDEX, () -> desk.post.letters(run));
        due.refused("15: run " + run, INDEX, () -> desk.post.letter(run, 0, 0));
        due.refused("15: run " + run + " ahead of what", INDEX, () -> desk.post.letter(run, 0, 5));
        due.refused("16: run " + run, INDEX, () -> desk.post.sign(run, 0, 0));
        due.refused("17: run " + run, INDEX, () -> desk.post.anew(run, 0));
        due.refused("18: run " + run, INDEX, () -> desk.post.trouble(run, 0, 0, true));
        due.refused("19: run " + run, INDEX, () -> desk.post.post(run));
    }

    private static void noSuchRun() {
        for (int count = 0; count <= 8; count++) {
            Desk desk = alike(1);
            for (int run = 0; run < count; run++) {
                desk.post.run(0, run);
            }
            for (int none : new int[] {count, count + 1, 8, 9, 32, GREATEST, -1, 1 << 31}) {
                runRefused(desk, none);
            }
            for (int run = 0; run < count; run++) {
                due.is("14: the run " + run, desk.post.letters(run), 1);
            }
        }
    }

    private static void letterRefused(Desk desk, int run, int letter) {
        String of = " letter " + letter + " of " + run;
        due.refused("15:" + of, INDEX, () -> desk.post.letter(run, letter, 1));
        due.refused("15: ahead of what," + of, INDEX, () -> desk.post.letter(run, letter, -1));
        due.refused("16:" + of, INDEX, () -> desk.post.sign(run, letter, 0));
        due.refused("17:" + of, INDEX, () -> desk.post.anew(run, letter));
        due.refused("18:" + of, INDEX, () -> desk.post.trouble(run, letter, 0, false));
    }

    private static void noSuchLetter() {
        for (int count = 0; count <= 12; count += 4) {
            Desk desk = alike(count);
            desk.post.run(0, 0);
            desk.post.run(7, 1);
            for (int none : new int[] {count, count + 1, 12, 13, GREATEST, -1, 1 << 31}) {
                letterRefused(desk, 0, none);
                letterRefused(desk, 1, none);
            }
            desk.post.post(0);
            for (int none : new int[] {count, count + 1, 12, 13, GREATEST, -1, 1 << 31}) {
                letterRefused(desk, 0, none);
            }
            if (count > 0) {
                due.is("15: the last one of a posted run", desk.post.letter(0, count - 1, 0), 1 << count - 1);
                due.is("15: the last one in trouble", desk.post.letter(1, count - 1, 1), 1);
            }
        }
    }

    private static void noSuchWhat() {
        Desk desk = alike(1);
        desk.post.run(0, 0);
        desk.post.run(7, 0);
        desk.post.run(0, 1);
        desk.post.post(2);
        for (int what : new int[] {-1, 5, 6, 1 << 31, GREATEST}) {
            due.refused("15: what " + what, ARGUMENT, () -> desk.post.letter(0, 0, what));
            due.refused("15: what in trouble " + what, ARGUMENT, () -> desk.post.letter(1, 0, what));
            due.refused("15: what of a posted one " + what, ARGUMENT, () -> desk.post.letter(2, 0, what));
        }
        int[] wants = {1, 0, 4, 11, 20};
        for (int what = 0; what < 5; what++) {
            due.is("15: what " + what, desk.post.letter(0, 0, what), wants[what]);
            due.is("15: kept, what " + what, desk.post.letter(2, 0, what), wants[what]);
        }
    }

    private static void lettersOfNone() {
        Desk desk = new Desk().telling(0, "x");
        desk.post.run(0, 0);
        due.is("14: no addresses", desk.post.letters(0), 0);
        due.is("19: none", desk.post.post(0), 0);
        due.refused("19: it was posted", STATE, () -> desk.post.post(0));
        desk.with("Ann,Elm,1,0,1");
        due.is("14: none comes to a posted one", desk.post.letters(0), 0);
        due.is("21: none", desk.post.reasons(0), 0);
        due.is("20: nothing", desk.post.spent(), 0);
    }

    private static String sets(Desk desk, int run) {
        StringBuilder sets = new StringBuilder();
        for (int letter = 0; letter < desk.post.letters(run); letter++) {
            sets.append(desk.post.letter(run, letter, 0)).append(' ');
        }
        return sets.toString();
    }

    private static void lettersByLowestMembers() {
        Desk desk = alike(6);
        desk.post.run(0, 0);
        due.is("14: each alone", sets(desk, 0), "1 2 4 8 16 32 ");
        desk.post.match(5, 0);
        due.is("14: the last with the first", sets(desk, 0), "33 2 4 8 16 ");
        desk.post.match(1, 4);
        desk.post.match(4, 2);
        due.is("14: two groups and one alone", sets(desk, 0), "33 22 8 ");
        desk.post.match(0, 5);
        due.is("14: its last one by itself", sets(desk, 0), "1 22 8 32 ");
        desk.post.match(1, 4);
        due.is("14: without its lowest one", sets(desk, 0), "1 2 20 8 32 ");
        Desk all = alike(12);
        for (int i = 1; i < 12; i++) {
            all.post.match(0, i);
        }
        all.post.run(0, 0);
        due.is("14: one of 12", sets(all, 0), "4095 ");
    }

    private static void openLettersComeNow() {
        Desk desk = alike(1);
        desk.post.run(0, 0);
        due.is("14: one", desk.post.letters(0), 1);
        desk.with("Bob,Oak,2,0,2");
        due.is("14: one more by a new address", desk.text(0, 1), "Bob");
        desk.telling(0, "<n>!");
        due.is("16: by the template of now", desk.text(0, 1), "Bob!");
        desk.address(1, "Cid,Oak,2,0,2");
        due.is("16: by the address of now", desk.text(0, 1), "Cid!");
        due.is("15: the cost", desk.post.letter(0, 1, 4), 20);
        desk.post.franking(30, 0);
        due.is("15: by the franking of now", desk.post.letter(0, 1, 4), 60);
        desk.telling(0, "@1");
        due.is("15: in trouble now", desk.post.letter(0, 1, 1), 1);
        desk.telling(1, "<h>");
        due.is("15: in trouble no more", desk.text(0, 1), "2");
        desk.telling(1, "<p>");
        due.is("16: by a template within, of now", desk.text(0, 1), "2");
        desk.template(1, "<q>");
        due.is("16: not by a fault", desk.text(0, 1), "2");
    }

    private static void openLettersAfterMatches() {
        Desk desk = alike(3);
        desk.post.run(0, 0);
        desk.post.match(0, 2);
        due.is("16: by the matches of now", desk.text(0, 0), "AnnA & AnnC");
        due.is("16: the next", desk.text(0, 1), "AnnB");
        desk.post.match(0, 2);
        due.is("16: undone", desk.text(0, 0), "AnnA");
        due.is("16: the last", desk.text(0, 2), "AnnC");
    }

    private static void everPosted() {
        Desk desk = alike(2);
        desk.post.run(0, 2);
        desk.post.run(0, 3);
        desk.post.post(0);
        desk.address(0, "Bob,Oak,2,0,2");
        for (int run = 2; run < 6; run++) {
            desk.post.run(0, 2);
            due.is("14: none was ever posted one", desk.post.letters(run), 0);
        }
        due.is("14: for the other reason", sets(desk, 1), "1 2 ");
        desk.with("Cid,Fir,3,0,3");
        due.is("14: the new one alone", sets(desk, 5), "4 ");
        due.is("16: its text", desk.text(5, 0), "Cid");
        due.is("19: it is posted", desk.post.post(5), 1);
        due.is("14: none then", desk.post.letters(4), 0);
    }

    private static void aGroupWithOnePosted() {
        Desk desk = alike(1);
        desk.post.run(0, 6);
        desk.post.post(0);
        desk.with("Ann,Elm,1,0,1").with("Ann,Elm,1,0,1").with("Ann,Elm,1,0,1");
        desk.post.run(0, 6);
        due.is("14: those without one", sets(desk, 1), "2 4 8 ");
        desk.post.match(3, 0);
        due.is("14: not of a group with one", sets(desk, 1), "2 4 ");
        desk.post.match(2, 3);
        due.is("14: not by others", sets(desk, 1), "2 ");
        desk.post.match(0, 3);
        due.is("14: again, once it is undone", sets(desk, 1), "2 12 ");
        desk.post.match(1, 0);
        desk.post.match(2, 3);
        due.is("19: two are posted", desk.post.post(1), 2);
        due.is("21: none to the other one of the group", desk.post.reasons(1), 0);
        desk.post.match(0, 1);
        desk.post.run(0, 6);
        due.is("14: it has one then", sets(desk, 2), "2 ");
    }

    private static void aRunOfTheSameReason() {
        Desk desk = alike(3);
        desk.telling(1, "[n=4?@7|x]").telling(2, "2");
        desk.address(1, "Bobby,Elm,1,0,1");
        desk.post.run(1, 4);
        desk.post.run(2, 4);
        desk.post.run(2, 5);
        due.is("14: all", desk.post.letters(1), 3);
        due.is("19: the one without trouble", desk.post.post(0), 1);
        due.is("14: those in trouble", sets(desk, 1), "1 4 ");
        due.is("14: all of another reason", sets(desk, 2), "1 2 4 ");
        due.is("19: the others", desk.post.post(1), 2);
        due.is("14: no more of the first", sets(desk, 0), "2 ");
        due.is("19: all of another reason", desk.post.post(2), 3);
        due.is("14: these stay", sets(desk, 1), "1 4 ");
    }

    private static String kept(Desk desk) {
        StringBuilder kept = new StringBuilder();
        for (int letter = 0; letter < desk.post.letters(0); letter++) {
            for (int what = 0; what < 5; what++) {
                kept.append(desk.post.letter(0, letter, what)).append(' ');
            }
            kept.append(desk.text(0, letter)).append(desk.trouble(0, letter)).append("; ");
        }
        return kept.toString();
    }

    private static void postedLettersAreKept() {
        Desk desk = alike(3).telling(1, "<n><m>");
        desk.post.match(0, 2);
        desk.post.run(1, 0);
        due.is("19: two", desk.post.post(0), 2);
        String before = kept(desk);
        due.is("19: as they were", before, "5 0 12 13 20 AnnA & AnnC20:; 2 0 5 11 20 AnnB10:; ");
        desk.telling(1, "@7");
        due.is("19: kept by templates", kept(desk), before);
        desk.address(1, "Bob,Oak,2,5,2");
        due.is("19: kept by addresses", kept(desk), before);
        desk.post.franking(1000000000, 1000000000);
        due.is("19: kept by the franking", kept(desk), before);
        desk.post.match(0, 2);
        due.is("19: kept by matches", kept(desk), before);
        desk.post.run(0, 0);
        desk.post.run(0, 1);
        desk.post.franking(1, 1);
        due.is("19: another run", desk.post.post(2), 3);
        due.is("19: none of the same reason", desk.post.post(1), 0);
        due.is("19: kept by other runs", kept(desk), before);
        due.is("19: they are posted once", Due.outcome(() -> desk.post.post(0)), "throws " + STATE.getName());
        due.is("19: kept by that", kept(desk), before);
    }

    private static void lettersInTroubleAreNone() {
        Desk desk = alike(0).telling(1, "x".repeat(80)).telling(2, "@2").telling(0, "[h=1?@7|[h=2?@2|[h=3?@1@1<n>|<n>]]]");
        for (int house = 0; house < 6; house++) {
            desk.with("Ann,Elm," + house + "," + (house == 5 ? 5 : 0) + ",1");
        }
        desk.post.franking(500000000, 0);
        desk.post.run(0, 7);
        StringBuilder troubles = new StringBuilder();
        for (int letter = 0; letter < 6; letter++) {
            troubles.append(desk.post.letter(0, letter, 1));
        }
        due.is("15: their troubles", troubles.toString(), "012304");
        due.is("19: those without", desk.post.post(0), 2);
        due.is("19: by their order", sets(desk, 0), "1 16 ");
        for (int address = 0; address < 6; address++) {
            due.is("21: posted or not", desk.post.reasons(address), address == 0 || address == 4 ? 128 : 0);
        }
        due.is("20: those that were posted", desk.post.spent(), 2000000000);
        desk.post.run(0, 7);
        due.is("14: the others are due again", sets(desk, 1), "2 4 8 32 ");
    }

    private static void postedAgain() {
        Desk desk = alike(1);
        for (int run = 0; run < 8; run++) {
            desk.post.run(0, run);
        }
        for (int run = 7; run >= 0; run--) {
            int number = run;
            due.is("19: one", desk.post.post(run), 1);
            due.refused("19: it was posted", STATE, () -> desk.post.post(number));
        }
        due.is("20: each once", desk.post.spent(), 8 * 20);
    }

    private static void spentTogether() {
        Desk desk = alike(2);
        desk.address(1, "Bob,Elm,1,5,1");
        desk.post.run(0, 0);
        desk.post.run(0, 1);
        due.is("20: nothing of open ones", desk.post.spent(), 0);
        desk.post.post(0);
        due.is("20: both", desk.post.spent(), 20 + 70);
        desk.post.franking(0, 0);
        due.is("20: as it was then", desk.post.spent(), 90);
        desk.post.post(1);
        due.is("20: letters for nothing", desk.post.spent(), 90);
    }

    private static void spentAroundNoInt() {
        Desk desk = new Desk().telling(0, "x").with("Ann,Elm,1,0,1").with("Bob,Oak,2,1,1");
        for (int run = 0; run < 4; run++) {
            desk.post.run(0, run);
        }
        desk.post.franking(429496729, 0);
        desk.post.post(0);
        due.is("20: 2 and 3 times the base", desk.post.spent(), 2147483645);
        desk.post.franking(0, 0);
        desk.post.post(1);
        due.is("20: nothing more", desk.post.spent(), 2147483645);
        desk.post.franking(1, 0);
        desk.post.post(2);
        due.is("20: no int", desk.post.spent(), GREATEST);
        desk.post.post(3);
        due.is("20: from that on", desk.post.spent(), GREATEST);
        due.is("15: the letters' costs are what they were", desk.post.letter(3, 1, 4), 3);
        twoOfTheGreatest();
    }

    private static void twoOfTheGreatest() {
        Desk desk = new Desk().telling(0, "x").with("Ann,Elm,1,0,1").with("Bob,Oak,2,0,1").with("Cid,Fir,3,0,1");
        desk.post.franking(1000000000, 0);
        desk.post.run(0, 0);
        due.is("19: three", desk.post.post(0), 3);
        due.is("20: 6000000000 is no int", desk.post.spent(), GREATEST);
        due.is("15: each one's cost", desk.post.letter(0, 2, 4), 2000000000);
        Desk exact = new Desk().telling(0, "x").with("Ann,Elm,1,2,1").with("Bob,Oak,2,1,1");
        exact.post.franking(306783378, 0);
        exact.post.run(0, 0);
        exact.post.post(0);
        due.is("20: 7 times the base", exact.post.spent(), 2147483646);
    }

    private static void everyReason() {
        Desk desk = alike(2);
        int set = 0;
        for (int reason : new int[] {7, 0, 3, 1, 6, 2, 5, 4}) {
            int run = desk.post.run(0, reason);
            due.is("21: not yet", desk.post.reasons(0), set);
            desk.post.post(run);
            set |= 1 << reason;
            due.is("21: the reasons", desk.post.reasons(0), set);
            due.is("21: of the other", desk.post.reasons(1), set);
        }
        due.is("21: all", desk.post.reasons(1), 255);
        for (int outside : new int[] {-1, 2, 3, 12, 31, 32, 1 << 31, GREATEST}) {
            due.refused("21: " + outside, INDEX, () -> desk.post.reasons(outside));
        }
    }
}
