/** Calls of a MergePost by texts instead of by signs. */
final class Desk {

    final MergePost post = new MergePost();

    static long packed(String signs) {
        long packed = 0;
        for (int i = 0; i < signs.length(); i++) {
            packed |= (long) (signs.charAt(i) & 255) << 8 * i;
        }
        return packed;
    }

    Desk typed(String line) {
        for (int from = 0; from < line.length(); from += 8) {
            post.type(packed(line.substring(from, Math.min(from + 8, line.length()))));
        }
        return this;
    }

    int template(int number, String line) {
        return typed(line).post.template(number);
    }

    int address(int number, String line) {
        return typed(line).post.address(number);
    }

    /** An address that is told without a fault. */
    Desk with(String line) {
        int number = post.addresses();
        if (address(number, line) != number) {
            throw new AssertionError("no address: " + line);
        }
        return this;
    }

    /** A template that is told without a fault. */
    Desk telling(int number, String line) {
        if (template(number, line) != line.length()) {
            throw new AssertionError("no template: " + line);
        }
        return this;
    }

    String text(int run, int letter) {
        StringBuilder text = new StringBuilder();
        for (int place = 0; place < 200; place++) {
            char sign = post.sign(run, letter, place);
            if (sign == 0) {
                break;
            }
            text.append(sign);
        }
        return text.toString();
    }

    String cleaned(int address, boolean street) {
        StringBuilder text = new StringBuilder();
        for (int place = 0; place < 12; place++) {
            text.append(post.cleaned(address, street, place));
        }
        return text.toString().stripTrailing();
    }

    /** The trouble and its levels, as "2: 0@1 1@2". */
    String trouble(int run, int letter) {
        StringBuilder told = new StringBuilder().append(post.letter(run, letter, 1)).append(":");
        for (int level = 0; level < 8; level++) {
            int template = post.trouble(run, letter, level, false);
            int place = post.trouble(run, letter, level, true);
            if (template != MergePost.NONE || place != MergePost.NONE) {
                told.append(' ').append(template).append('@').append(place);
            }
        }
        return told.toString();
    }
}
