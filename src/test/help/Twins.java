import java.util.ArrayList;
import java.util.List;
import java.util.function.Consumer;

/**
 * Two objects that were brought to the same state: one is asked for what is refused, the other is not. Then all that
 * can be asked is asked of both, from what changes nothing to what changes much, and must be answered alike.
 */
final class Twins {
    final Calls refused = new Calls();
    final Calls other = new Calls();

    Twins(Consumer<Calls> state) {
        state.accept(refused);
        state.accept(other);
    }

    /** The first answer in which they differ, or nothing; entry is left out of the AUDIT. */
    String difference(int entry) {
        List<String> first = answers(refused, entry);
        List<String> second = answers(other, entry);
        for (int i = 0; i < first.size(); i++) {
            if (!first.get(i).equals(second.get(i))) {
                return first.get(i) + ", the other " + second.get(i);
            }
        }
        return "";
    }

    private static List<String> answers(Calls x, int entry) {
        List<String> answers = new ArrayList<>();
        addCounts(x, answers);
        addAudit(x, answers, entry);
        addUsers(x, answers);
        addTape(x, answers);
        addRights(x, answers);
        addValues(x, answers);
        return answers;
    }

    private static void addCounts(Calls x, List<String> answers) {
        for (int what = 0; what < 5; what++) {
            answers.add("told(" + what + ") answered " + x.told(what));
        }
        answers.add("place() answered " + x.place());
        for (int i = 0; i < 4; i++) {
            answers.add("found(" + i + ") answered " + x.found(i));
        }
    }

    private static void addAudit(Calls x, List<String> answers, int left) {
        int entries = x.told(3);
        for (int i = Math.max(0, entries - 6); i < entries; i++) {
            for (int what = 0; i != left && what < 5; what++) {
                answers.add("audit(" + i + ", " + what + ") answered " + x.audit(i, what));
            }
        }
    }

    private static void addUsers(Calls x, List<String> answers) {
        int objects = Math.min(4, x.told(0));
        for (int user = 0; user < Math.min(2, x.told(1)); user++) {
            for (int what = 0; what < 3; what++) {
                answers.add("seen(" + user + ", " + what + ") answered " + x.seen(user, what));
            }
            for (int field = 0; field < 4; field++) {
                answers.add("rows(" + user + ", " + field + ") answered " + x.rows(user, field));
            }
            for (int object = 0; object < objects; object++) {
                answers.add("solved(" + user + ", 0, " + object + ") answered " + x.solved(user, 0, object));
                for (int k = 0; k < objects; k++) {
                    answers.add("world(" + user + ", 0, " + object + ", " + k + ") answered " + x.world(user, 0, object, k));
                }
            }
        }
    }

    /** What is on the tape shows by what it is as the first user's RULE, with a ) behind it. */
    private static void addTape(Calls x, List<String> answers) {
        answers.add("type(41, 1) answered " + x.type(41, 1));
        answers.add("rule(0) of the tape answered " + x.rule(0));
        answers.add("place() answered " + x.place());
        answers.add("told(2) answered " + x.told(2));
    }

    private static void addRights(Calls x, List<String> answers) {
        for (int user = 0; user < Math.min(2, x.told(1)); user++) {
            answers.add("close(" + user + ", 0) answered " + x.close(user, 0));
            for (int i = 0; i < 4; i++) {
                answers.add("step(" + user + ") answered " + x.step(user));
            }
        }
    }

    private static void addValues(Calls x, List<String> answers) {
        answers.add("set(0, 0, 3) answered " + x.set(0, 0, 3));
        answers.add("object() answered " + x.object());
        answers.add("user() answered " + x.user());
        String[] texts = {"a>2", "a>4", "b>1", "b>2", "c=0", "d=0"};
        for (String text : texts) {
            answers.add("rule(0) of " + text + " answered " + x.rule(0, text));
        }
        answers.add("rule(0) of true answered " + x.rule(0, "true"));
        for (int object = 0; object < Math.min(4, x.told(0)); object++) {
            for (int field = 0; field < 4; field++) {
                answers.add("value(0, " + object + ", " + field + ") answered " + x.value(0, object, field));
            }
        }
    }
}
