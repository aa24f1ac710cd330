import java.util.HashMap;
import java.util.Map;

/**
 * "FAULT: the place (from 0) of the first byte with which no TEXT goes on; the length, if it ends too
 * early", held against its own words: what is ahead of the FAULT can be ended so that it is a TEXT,
 * what has the byte at the FAULT too can't be ended at all.
 */
public final class FaultTest {
    private static final int MOST_CALLS = 512;
    private static final int MOST_OPEN = 6;
    private static int wrong = 0;
    private static int asked = 0;

    private static DoorPost post = new DoorPost();
    private static int calls = 0;
    private static final Map<String, Integer> answers = new HashMap<>();

    public static void main(String[] args) {
        allShortTexts("", "a1(!-;?<", 5);
        allShortTexts("", "ah0)(*|=", 4);
        allShortTexts("a?1;2345", "6a+);?", 3);
        allShortTexts("((!--", "(!-a)<", 4);
        allShortTexts("-(a<1", "<=>+*&|);?", 3);
        everyByteBehind("");
        everyByteBehind("a");
        everyByteBehind("a<");
        everyByteBehind("a<1");
        everyByteBehind("(a");
        everyByteBehind("(a)");
        everyByteBehind("1234");
        everyByteBehind("!");
        everyByteBehind("(!-(!-");
        everyByteBehind("a?");
        everyByteBehind("a?1");
        everyByteBehind("a;");
        System.out.println(wrong == 0 ? asked + " answers are as due" : wrong + " answers are not as due");
        if (wrong != 0) {
            System.exit(1);
        }
    }

    private static void allShortTexts(String begun, String letters, int more) {
        holds(begun);
        if (more > 0) {
            for (int k = 0; k < letters.length(); k++) {
                allShortTexts(begun + letters.charAt(k), letters, more - 1);
            }
        }
    }

    private static void everyByteBehind(String begun) {
        for (int letter = 0; letter < 256; letter++) {
            holds(begun + (char) letter);
        }
    }

    private static void holds(String text) {
        asked++;
        int answer = law(text);
        int fault = -100 - answer;
        if (answer == 1) {
            due(true, goesOn(text), text, "a TEXT, all of it goes on");
            return;
        }
        if (fault < 0 || fault > text.length()) {
            due(true, false, text, "the FAULT is a place of it, or its length: " + fault);
            return;
        }
        due(true, goesOn(text.substring(0, fault)), text, "what is ahead of " + fault + " goes on");
        if (fault < text.length()) {
            due(false, goesOn(text.substring(0, fault + 1)), text, "with the byte at " + fault + " it goes on");
        }
    }

    /** Whatever can be ended at all can be ended by an operand, or none, and what closes. */
    private static boolean goesOn(String begun) {
        StringBuilder ended = new StringBuilder(begun);
        for (int closed = 0; closed <= MOST_OPEN; closed++) {
            if (law(ended.toString()) == 1 || law(begun + "a" + ended.substring(begun.length())) == 1) {
                return true;
            }
            ended.append(')');
        }
        return false;
    }

    private static int law(String text) {
        Integer known = answers.get(text);
        if (known == null) {
            known = ask(text);
            answers.put(text, known);
        }
        return known;
    }

    private static int ask(String text) {
        if (calls + text.length() + 1 > MOST_CALLS) {
            post = new DoorPost();
            calls = 0;
        }
        for (int k = 0; k < text.length(); k++) {
            post.feed(text.charAt(k));
        }
        calls += text.length() + 1;
        return post.law();
    }

    private static void due(boolean want, boolean got, String text, String what) {
        if (want != got) {
            wrong++;
            if (wrong < 40) {
                System.out.println("\"" + text + "\" (law() " + law(text) + "): " + what + ": " + got);
            }
        }
    }
}
