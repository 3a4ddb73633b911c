import java.util.ArrayList;
import java.util.HashMap;
import java.util.List;
import java.util.Map;

/**
 * The document's lines, kept as near to its own text as can be and read by a small interpreter, so that a
 * slip in the class is not repeated here.
 */
final class DocumentLines {
    /** Which halves; the word; its immediate i; what must not be 0 ("none" alone: never a word). */
    private static final String[][] LINES = {
        {"h[1:0]=0 h[15:13]=0", "I(19, s, 0, 2, i)", "6: h[10:7], 4: h[12:11], 3: h[5], 2: h[6]", "i"},
        {"h[1:0]=0 h[15:13]=1", "I(7, s, 3, p, i)", "6: h[6:5], 3: h[12:10]", ""},
        {"h[1:0]=0 h[15:13]=2", "I(3, s, 2, p, i)", "6: h[5], 3: h[12:10], 2: h[6]", ""},
        {"h[1:0]=0 h[15:13]=3", "I(3, s, 3, p, i)", "6: h[6:5], 3: h[12:10]", ""},
        {"h[1:0]=0 h[15:13]=5", "S(39, 3, p, s, i)", "6: h[6:5], 3: h[12:10]", ""},
        {"h[1:0]=0 h[15:13]=6", "S(35, 2, p, s, i)", "6: h[5], 3: h[12:10], 2: h[6]", ""},
        {"h[1:0]=0 h[15:13]=7", "S(35, 3, p, s, i)", "6: h[6:5], 3: h[12:10]", ""},
        {"h[1:0]=0 h[15:13]=4", "none", "", ""},

        {"h[1:0]=1 h[15:13]=0", "I(19, r, 0, r, n)", "", ""},
        {"h[1:0]=1 h[15:13]=1", "I(27, r, 0, r, n)", "", "r"},
        {"h[1:0]=1 h[15:13]=2", "I(19, r, 0, 0, n)", "", ""},
        {"h[1:0]=1 h[15:13]=3 h[11:7]=2", "I(19, 2, 0, 2, i)",
            "- 9: h[12], 7: h[4:3], 6: h[5], 5: h[2], 4: h[6]", "i"},
        {"h[1:0]=1 h[15:13]=3 h[11:7]!2", "U(55, r, n * 4096)", "", "n"},
        {"h[1:0]=1 h[15:13]=4 h[11:10]=0", "I(19, p, 5, p, z)", "", ""},
        {"h[1:0]=1 h[15:13]=4 h[11:10]=1", "I(19, p, 5, p, z + 1024)", "", ""},
        {"h[1:0]=1 h[15:13]=4 h[11:10]=2", "I(19, p, 7, p, n)", "", ""},
        {"h[1:0]=1 h[15:13]=4 h[11:10]=3 h[12]=0 h[6:5]=0", "R(51, p, 0, p, s, 32)", "", ""},
        {"h[1:0]=1 h[15:13]=4 h[11:10]=3 h[12]=0 h[6:5]=1", "R(51, p, 4, p, s, 0)", "", ""},
        {"h[1:0]=1 h[15:13]=4 h[11:10]=3 h[12]=0 h[6:5]=2", "R(51, p, 6, p, s, 0)", "", ""},
        {"h[1:0]=1 h[15:13]=4 h[11:10]=3 h[12]=0 h[6:5]=3", "R(51, p, 7, p, s, 0)", "", ""},
        {"h[1:0]=1 h[15:13]=4 h[11:10]=3 h[12]=1 h[6:5]=0", "R(59, p, 0, p, s, 32)", "", ""},
        {"h[1:0]=1 h[15:13]=4 h[11:10]=3 h[12]=1 h[6:5]=1", "R(59, p, 0, p, s, 0)", "", ""},
        {"h[1:0]=1 h[15:13]=4 h[11:10]=3 h[12]=1 h[6:5]=2", "none", "", ""},
        {"h[1:0]=1 h[15:13]=4 h[11:10]=3 h[12]=1 h[6:5]=3", "none", "", ""},
        {"h[1:0]=1 h[15:13]=5", "J(0, i)",
            "- 11: h[12], 10: h[8], 8: h[10:9], 7: h[6], 6: h[7], 5: h[2], 4: h[11], 1: h[5:3]", ""},
        {"h[1:0]=1 h[15:13]=6", "B(0, p, 0, i)", "- 8: h[12], 6: h[6:5], 5: h[2], 3: h[11:10], 1: h[4:3]", ""},
        {"h[1:0]=1 h[15:13]=7", "B(1, p, 0, i)", "- 8: h[12], 6: h[6:5], 5: h[2], 3: h[11:10], 1: h[4:3]", ""},

        {"h[1:0]=2 h[15:13]=0", "I(19, r, 1, r, z)", "", ""},
        {"h[1:0]=2 h[15:13]=1", "I(7, r, 3, 2, i)", "6: h[4:2], 5: h[12], 3: h[6:5]", ""},
        {"h[1:0]=2 h[15:13]=2", "I(3, r, 2, 2, i)", "6: h[3:2], 5: h[12], 2: h[6:4]", "r"},
        {"h[1:0]=2 h[15:13]=3", "I(3, r, 3, 2, i)", "6: h[4:2], 5: h[12], 3: h[6:5]", "r"},
        {"h[1:0]=2 h[15:13]=4 h[12]=0 h[6:2]=0", "I(103, 0, 0, r, 0)", "", "r"},
        {"h[1:0]=2 h[15:13]=4 h[12]=0 h[6:2]!0", "R(51, r, 0, 0, q, 0)", "", ""},
        {"h[1:0]=2 h[15:13]=4 h[12]=1 h[6:2]=0 h[11:7]=0", "I(115, 0, 0, 0, 1)", "", ""},
        {"h[1:0]=2 h[15:13]=4 h[12]=1 h[6:2]=0 h[11:7]!0", "I(103, 1, 0, r, 0)", "", ""},
        {"h[1:0]=2 h[15:13]=4 h[12]=1 h[6:2]!0", "R(51, r, 0, r, q, 0)", "", ""},
        {"h[1:0]=2 h[15:13]=5", "S(39, 3, 2, q, i)", "6: h[9:7], 3: h[12:10]", ""},
        {"h[1:0]=2 h[15:13]=6", "S(35, 2, 2, q, i)", "6: h[8:7], 2: h[12:9]", ""},
        {"h[1:0]=2 h[15:13]=7", "S(35, 3, 2, q, i)", "6: h[9:7], 3: h[12:10]", ""},

        {"h[1:0]=3", "none", "", ""},
    };

    /** Where each form's arguments go: "argument: its lowest bit, how many bits, the word's lowest bit". */
    private static final Map<Character, String> PLACES = Map.of(
        'I', "0: 0 7 0; 1: 0 5 7; 2: 0 3 12; 3: 0 5 15; 4: 0 12 20",
        'R', "0: 0 7 0; 1: 0 5 7; 2: 0 3 12; 3: 0 5 15; 4: 0 5 20; 5: 0 7 25",
        'S', "0: 0 7 0; 1: 0 3 12; 2: 0 5 15; 3: 0 5 20; 4: 0 5 7; 4: 5 7 25",
        'U', "0: 0 7 0; 1: 0 5 7; 2: 12 20 12",
        'B', "0: 0 3 12; 1: 0 5 15; 2: 0 5 20; 3: 11 1 7; 3: 1 4 8; 3: 5 6 25; 3: 12 1 31",
        'J', "0: 0 5 7; 1: 12 8 12; 1: 11 1 20; 1: 1 10 21; 1: 20 1 31");

    private static final int[] WORDS = makeWords();

    private DocumentLines() {
    }

    static int word(int half) {
        return WORDS[half];
    }

    /** Every word that is stood for, with its halves in rising order. */
    static Map<Integer, List<Integer>> halvesByWord() {
        Map<Integer, List<Integer>> all = new HashMap<>();
        for (int half = 0; half < WORDS.length; half++) {
            if (WORDS[half] != 0) {
                all.computeIfAbsent(WORDS[half], w -> new ArrayList<>()).add(half);
            }
        }
        return all;
    }

    private static int[] makeWords() {
        int[] words = new int[65536];
        int[] linesOfHalf = new int[65536];
        for (String[] line : LINES) {
            String[] guards = line[0].split(" ");
            for (int half = 0; half < 65536; half++) {
                if (fits(half, guards)) {
                    linesOfHalf[half]++;
                    words[half] = read(half, line);
                }
            }
        }
        for (int half = 0; half < 65536; half++) {
            if (linesOfHalf[half] != 1) {
                throw new IllegalStateException("half " + half + " is in " + linesOfHalf[half] + " lines");
            }
        }
        return words;
    }

    private static boolean fits(int half, String[] guards) {
        for (String guard : guards) {
            boolean equal = guard.indexOf('=') >= 0;
            int at = equal ? guard.indexOf('=') : guard.indexOf('!');
            boolean same = part(half, guard.substring(0, at)) == Integer.parseInt(guard.substring(at + 1));
            if (same != equal) {
                return false;
            }
        }
        return true;
    }

    private static int read(int half, String[] line) {
        String form = line[1];
        if (form.equals("none") || !line[3].isEmpty() && value(half, line[3], line[2]) == 0) {
            return 0;
        }
        String[] arguments = form.substring(2, form.length() - 1).split(", ");
        int word = form.charAt(0) == 'B' ? 99 : form.charAt(0) == 'J' ? 111 : 0;
        for (String place : PLACES.get(form.charAt(0)).split("; ")) {
            String[] argumentAndBits = place.split(": ");
            String[] bits = argumentAndBits[1].split(" ");
            int argument = value(half, arguments[Integer.parseInt(argumentAndBits[0])], line[2]);
            for (int k = 0; k < Integer.parseInt(bits[1]); k++) {
                if ((argument >> Integer.parseInt(bits[0]) + k & 1) != 0) {
                    word |= 1 << Integer.parseInt(bits[2]) + k;
                }
            }
        }
        return word;
    }

    private static int value(int half, String name, String immediate) {
        switch (name) {
            case "r": return part(half, "h[11:7]");
            case "q": return part(half, "h[6:2]");
            case "p": return 8 + part(half, "h[9:7]");
            case "s": return 8 + part(half, "h[4:2]");
            case "z": return told(half, "5: h[12], 0: h[6:2]");
            case "n": return told(half, "- 5: h[12], 0: h[6:2]");
            case "i": return told(half, immediate);
            case "z + 1024": return value(half, "z", immediate) + 1024;
            case "n * 4096": return value(half, "n", immediate) * 4096;
            default: return Integer.parseInt(name);
        }
    }

    private static int told(int half, String text) {
        boolean signed = text.startsWith("- ");
        int sum = 0;
        int highest = 0;
        for (String piece : (signed ? text.substring(2) : text).split(", ")) {
            String[] placeAndBits = piece.split(": ");
            int place = Integer.parseInt(placeAndBits[0]);
            sum += part(half, placeAndBits[1]) << place;
            highest = Math.max(highest, place + size(placeAndBits[1]) - 1);
        }
        return signed && sum >= 1 << highest ? sum - (2 << highest) : sum;
    }

    private static int part(int half, String bits) {
        String[] ends = bits.substring(2, bits.length() - 1).split(":");
        return half >> Integer.parseInt(ends[ends.length - 1]) & (1 << size(bits)) - 1;
    }

    private static int size(String bits) {
        String[] ends = bits.substring(2, bits.length() - 1).split(":");
        return Integer.parseInt(ends[0]) - Integer.parseInt(ends[ends.length - 1]) + 1;
    }
}
