import java.util.ArrayList;
import java.util.List;
import java.util.TreeSet;
import java.util.regex.Matcher;
import java.util.regex.Pattern;

/** The document told once more, by other means than the program's, to hold that against. */
final class Model {

    private static final Pattern ADDRESS = Pattern.compile("([^,]{1,12}),([^,]{1,12}),([0-9]{1,3}),([0-5]),([0-9]{1,2})");
    private static final Pattern TEMPLATE = Pattern.compile(templatePattern(5));

    private static String templatePattern(int choices) {
        String plain = "[^<\\[|\\]@]|<[nshzpm]>|@[0-7]";
        if (choices == 0) {
            return "(?:" + plain + ")*";
        }
        String within = templatePattern(choices - 1);
        return "(?:" + plain + "|\\[[nshzpm][=<>][0-9]{1,3}\\?" + within + "\\|" + within + "\\])*";
    }

    private record Address(String name, String street, int house, int zone, int points) { }

    private record Level(int template, int place) { }

    private record Written(TreeSet<Integer> members, String text, int weight, int cost) { }

    private static final class Run {
        private final int template;
        private final int reason;
        private List<Written> posted;

        private Run(int template, int reason) {
            this.template = template;
            this.reason = reason;
        }
    }

    private static final class Trouble extends Exception {
        private static final long serialVersionUID = 1;
        private final int kind;
        private final List<Level> levels;

        private Trouble(int kind, List<Level> levels) {
            this.kind = kind;
            this.levels = levels;
        }
    }

    private String line = "";
    private final String[] templates = new String[8];
    private final List<Address> addresses = new ArrayList<>();
    private final List<TreeSet<Integer>> reasons = new ArrayList<>();
    private final TreeSet<String> matches = new TreeSet<>();
    private final List<Run> runs = new ArrayList<>();
    private long base = 10;
    private long step = 5;
    private long spent = 0;

    long type(long signs) {
        StringBuilder typed = new StringBuilder();
        long left = signs;
        for (int i = 0; i < 8 && left != 0; i++) {
            int sign = (int) (left & 255);
            if (sign < 32 || sign > 126) {
                throw new IllegalArgumentException();
            }
            typed.append((char) sign);
            left >>>= 8;
        }
        if (line.length() + typed.length() > 96) {
            throw new IllegalStateException();
        }
        line += typed;
        return line.length();
    }

    /** The place of the first sign with which no line can go on as asked; -1 if the line is as asked. */
    private int fault(Pattern pattern) {
        if (pattern.matcher(line).matches()) {
            return -1;
        }
        for (int length = 1; length <= line.length(); length++) {
            Matcher matcher = pattern.matcher(line.substring(0, length));
            if (!matcher.matches() && !matcher.hitEnd()) {
                return length - 1;
            }
        }
        return line.length();
    }

    long template(int template) {
        need(template >= 0 && template < 8);
        int fault = fault(TEMPLATE);
        if (fault < 0) {
            templates[template] = line;
        }
        int length = line.length();
        line = "";
        return fault < 0 ? length : -1 - fault;
    }

    long address(int address) {
        need(address >= 0 && address <= addresses.size());
        if (address == 12 || address < addresses.size() && groupOf(address).size() > 1) {
            throw new IllegalStateException();
        }
        int fault = fault(ADDRESS);
        Matcher parts = ADDRESS.matcher(line);
        line = "";
        if (fault >= 0 || !parts.matches()) {
            return -1 - fault;
        }
        Address told = new Address(parts.group(1), parts.group(2), Integer.parseInt(parts.group(3)),
                Integer.parseInt(parts.group(4)), Integer.parseInt(parts.group(5)));
        if (address == addresses.size()) {
            addresses.add(told);
            reasons.add(new TreeSet<>());
        } else {
            addresses.set(address, told);
        }
        return address;
    }

    long addresses() {
        return addresses.size();
    }

    private static void need(boolean there) {
        if (!there) {
            throw new IndexOutOfBoundsException();
        }
    }

    private Address at(int address) {
        need(address >= 0 && address < addresses.size());
        return addresses.get(address);
    }

    private static String clean(Address address, boolean street) {
        return (street ? address.street : address.name).toLowerCase(java.util.Locale.ROOT).replaceAll("[^a-z0-9]", "");
    }

    long cleaned(int address, boolean street, int place) {
        String clean = clean(at(address), street);
        need(place >= 0);
        return place < clean.length() ? clean.charAt(place) : ' ';
    }

    private static int apart(String first, String second) {
        int[][] table = new int[first.length() + 1][second.length() + 1];
        for (int i = 0; i <= first.length(); i++) {
            for (int j = 0; j <= second.length(); j++) {
                if (i == 0 || j == 0) {
                    table[i][j] = i + j;
                } else if (first.charAt(i - 1) == second.charAt(j - 1)) {
                    table[i][j] = table[i - 1][j - 1];
                } else {
                    table[i][j] = 1 + Math.min(table[i - 1][j - 1], Math.min(table[i - 1][j], table[i][j - 1]));
                }
            }
        }
        return table[first.length()][second.length()];
    }

    long apart(int first, int second, boolean street) {
        return apart(clean(at(first), street), clean(at(second), street));
    }

    private static float like(String first, String second) {
        float longer = Math.max(first.length(), second.length());
        float apart = apart(first, second);
        return longer == 0 ? 1 : 1 - apart / longer;
    }

    private float likenessOf(int first, int second) {
        Address one = at(first);
        Address other = at(second);
        float names = 0.4f * like(clean(one, false), clean(other, false));
        float streets = 0.3f * like(clean(one, true), clean(other, true));
        float houses = one.house == other.house ? 0.2f : 0f;
        float zones = one.zone == other.zone ? 0.1f : 0f;
        return names + streets + houses + zones;
    }

    long likeness(int first, int second) {
        return Float.floatToIntBits(likenessOf(first, second));
    }

    long pairs(int hundredths) {
        if (hundredths < 0 || hundredths > 100) {
            throw new IllegalArgumentException();
        }
        int pairs = 0;
        for (int i = 0; i < addresses.size(); i++) {
            for (int j = i + 1; j < addresses.size(); j++) {
                pairs += likenessOf(i, j) >= hundredths / 100.0f ? 1 : 0;
            }
        }
        return pairs;
    }

    private static String pair(int first, int second) {
        return Math.min(first, second) + "-" + Math.max(first, second);
    }

    long match(int first, int second) {
        at(first);
        at(second);
        if (first == second) {
            throw new IllegalStateException();
        }
        if (matches.remove(pair(first, second))) {
            return 0;
        }
        if (likenessOf(first, second) < 0.5f) {
            throw new IllegalStateException();
        }
        matches.add(pair(first, second));
        return 1;
    }

    private TreeSet<Integer> groupOf(int address) {
        TreeSet<Integer> members = new TreeSet<>();
        join(address, members);
        return members;
    }

    private void join(int address, TreeSet<Integer> members) {
        if (members.add(address)) {
            for (int other = 0; other < addresses.size(); other++) {
                if (matches.contains(pair(address, other))) {
                    join(other, members);
                }
            }
        }
    }

    private static long set(TreeSet<Integer> members) {
        long set = 0;
        for (int member : members) {
            set += 1L << member;
        }
        return set;
    }

    long group(int address) {
        at(address);
        return set(groupOf(address));
    }

    /** -1 if it is no int. */
    private long cost(int weight, int zone) {
        long begun = 0;
        for (int above = weight - 20; above > 0; above -= 10) {
            begun++;
        }
        long steps = step * begun;
        long together = base + steps;
        long cost = together * (zone + 2);
        return steps == (int) steps && together == (int) together && cost == (int) cost ? cost : -1;
    }

    long franking(int newBase, int newStep) {
        if (newBase < 0 || newBase > 1000000000 || newStep < 0 || newStep > 1000000000) {
            throw new IllegalArgumentException();
        }
        base = newBase;
        step = newStep;
        return cost(11, 5);
    }

    long run(int template, int reason) {
        need(template >= 0 && template < 8);
        if (reason < 0 || reason > 7) {
            throw new IllegalArgumentException();
        }
        if (runs.size() == 8) {
            throw new IllegalStateException();
        }
        runs.add(new Run(template, reason));
        return runs.size() - 1;
    }

    private Run runAt(int run) {
        need(run >= 0 && run < runs.size());
        return runs.get(run);
    }

    private List<TreeSet<Integer>> due(Run run) {
        List<TreeSet<Integer>> due = new ArrayList<>();
        for (int address = 0; address < addresses.size(); address++) {
            TreeSet<Integer> members = groupOf(address);
            boolean posted = false;
            for (int member : members) {
                posted |= reasons.get(member).contains(run.reason);
            }
            if (members.first() == address && !posted) {
                due.add(members);
            }
        }
        return due;
    }

    long letters(int run) {
        Run asked = runAt(run);
        return asked.posted != null ? asked.posted.size() : due(asked).size();
    }

    /** The letter as it was posted or comes now. */
    private Written letterOf(int run, int letter) throws Trouble {
        Run asked = runAt(run);
        return asked.posted != null ? asked.posted.get(letter) : written(asked.template, due(asked).get(letter));
    }

    private Written written(int template, TreeSet<Integer> members) throws Trouble {
        List<Level> levels = new ArrayList<>();
        levels.add(new Level(template, 0));
        if (templates[template] == null) {
            throw new Trouble(1, levels);
        }
        StringBuilder text = new StringBuilder();
        levels.clear();
        write(template, 0, templates[template].length(), levels, members, text);
        int weight = 8 + 3 * (int) Math.ceil(text.length() / 20.0) + 2 * (members.size() - 1);
        long cost = cost(weight, addresses.get(members.first()).zone);
        if (cost < 0) {
            throw new Trouble(4, List.of(new Level(template, 0)));
        }
        return new Written(members, text.toString(), weight, (int) cost);
    }

    /** Writes a part of a template, from a place to another one, within the levels above. */
    private void write(int template, int from, int to, List<Level> above, TreeSet<Integer> members, StringBuilder text)
            throws Trouble {
        String signs = templates[template];
        int place = from;
        while (place < to) {
            List<Level> here = new ArrayList<>(above);
            here.add(new Level(template, place));
            char sign = signs.charAt(place);
            if (sign == '@') {
                int named = signs.charAt(place + 1) - '0';
                if (templates[named] == null) {
                    throw new Trouble(1, here);
                }
                if (here.size() == 5) {
                    throw new Trouble(2, here);
                }
                write(named, 0, templates[named].length(), here, members, text);
                place += 2;
            } else if (sign == '[') {
                int question = signs.indexOf('?', place);
                int bar = closing(signs, question + 1, '|');
                int end = closing(signs, bar + 1, ']');
                if (holds(signs.substring(place + 1, question), members)) {
                    write(template, question + 1, bar, above, members, text);
                } else {
                    write(template, bar + 1, end, above, members, text);
                }
                place = end + 1;
            } else {
                text.append(sign == '<' ? field(signs.charAt(place + 1), members) : String.valueOf(sign));
                if (text.length() > 160) {
                    throw new Trouble(3, here);
                }
                place += sign == '<' ? 3 : 1;
            }
        }
    }

    private static int closing(String signs, int from, char wanted) {
        int open = 0;
        int place = from;
        while (open > 0 || signs.charAt(place) != wanted) {
            open += signs.charAt(place) == '[' ? 1 : signs.charAt(place) == ']' ? -1 : 0;
            place++;
        }
        return place;
    }

    private boolean holds(String condition, TreeSet<Integer> members) {
        String field = field(condition.charAt(0), members);
        boolean text = condition.charAt(0) == 'n' || condition.charAt(0) == 's';
        int order = Integer.compare(text ? field.length() : Integer.parseInt(field), Integer.parseInt(condition.substring(2)));
        return "<=>".charAt(order + 1) == condition.charAt(1);
    }

    private String field(char field, TreeSet<Integer> members) {
        Address lowest = addresses.get(members.first());
        List<String> names = new ArrayList<>();
        int points = 0;
        for (int member : members) {
            names.add(addresses.get(member).name);
            points += addresses.get(member).points;
        }
        switch (field) {
            case 'n': return String.join(" & ", names);
            case 's': return lowest.street;
            case 'h': return String.valueOf(lowest.house);
            case 'z': return String.valueOf(lowest.zone);
            case 'p': return String.valueOf(points);
            default: return String.valueOf(members.size());
        }
    }

    private void needLetter(int run, int letter) {
        need(letter >= 0 & letter < letters(run));
    }

    long letter(int run, int letter, int what) {
        needLetter(run, letter);
        if (what < 0 || what > 4) {
            throw new IllegalArgumentException();
        }
        Run asked = runAt(run);
        if (what == 0) {
            return set(asked.posted != null ? asked.posted.get(letter).members : due(asked).get(letter));
        }
        try {
            Written written = letterOf(run, letter);
            return new long[] {0, 0, written.text.length(), written.weight, written.cost}[what];
        } catch (Trouble trouble) {
            return what == 1 ? trouble.kind : -1;
        }
    }

    long sign(int run, int letter, int place) {
        needLetter(run, letter);
        need(place >= 0);
        try {
            String text = letterOf(run, letter).text;
            return place < text.length() ? text.charAt(place) : 0;
        } catch (Trouble trouble) {
            return 0;
        }
    }

    long anew(int run, int letter) {
        needLetter(run, letter);
        Written kept;
        try {
            kept = letterOf(run, letter);
        } catch (Trouble trouble) {
            return 0;
        }
        try {
            String now = written(runAt(run).template, kept.members).text;
            int shorter = Math.min(now.length(), kept.text.length());
            int unlike = Math.max(now.length(), kept.text.length()) - shorter;
            for (int place = 0; place < shorter; place++) {
                unlike += now.charAt(place) == kept.text.charAt(place) ? 0 : 1;
            }
            return unlike;
        } catch (Trouble trouble) {
            return -1;
        }
    }

    long trouble(int run, int letter, int level, boolean place) {
        needLetter(run, letter);
        need(level >= 0);
        try {
            letterOf(run, letter);
            return -1;
        } catch (Trouble trouble) {
            if (level >= trouble.levels.size()) {
                return -1;
            }
            Level told = trouble.levels.get(level);
            return place ? told.place : told.template;
        }
    }

    long post(int run) {
        Run asked = runAt(run);
        if (asked.posted != null) {
            throw new IllegalStateException();
        }
        List<Written> posted = new ArrayList<>();
        for (TreeSet<Integer> members : due(asked)) {
            try {
                posted.add(written(asked.template, members));
            } catch (Trouble trouble) {
                continue;
            }
        }
        for (Written letter : posted) {
            spent = Math.min(Integer.MAX_VALUE, spent + letter.cost);
            for (int member : letter.members) {
                reasons.get(member).add(asked.reason);
            }
        }
        asked.posted = posted;
        return posted.size();
    }

    long spent() {
        return spent;
    }

    long reasons(int address) {
        at(address);
        return set(reasons.get(address));
    }
}
