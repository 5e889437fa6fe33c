import java.util.ArrayList;
import java.util.List;
import java.util.function.Consumer;

/** A registry that the same calls make anew as often as a test needs one, and all that it answers. */
final class Scene {
    private final Checks checks;
    private final String name;
    private final Consumer<ShadowLeases> recipe;
    private List<List<String>> answers;

    Scene(Checks checks, String name, Consumer<ShadowLeases> recipe) {
        this.checks = checks;
        this.name = name;
        this.recipe = recipe;
    }

    ShadowLeases make() {
        ShadowLeases x = new ShadowLeases();
        recipe.accept(x);
        return x;
    }

    private List<List<String>> all() {
        if (answers == null) {
            answers = new ArrayList<>();
            for (int part = 0; part < Answers.parts(); part++) {
                answers.add(Answers.toPart(part, make()));
            }
        }
        return answers;
    }

    /** On a new registry the call must answer this. */
    void answers(String sentence, Object due, Answers.Call call) {
        String got = Answers.to(call, make());
        checks.isTrue(sentence + ": " + name + " answered " + got + ", due is " + due,
            got.equals(String.valueOf(due)));
    }

    /** The call must throw just this exception and leave every answer as it was. */
    void refuses(String sentence, Class<? extends RuntimeException> due, Answers.Call call) {
        answers(sentence, due.getSimpleName(), call);
        isLeftAlone(sentence, call);
    }

    void isLeftAlone(String sentence, Answers.Call call) {
        for (int part = 0; part < Answers.parts(); part++) {
            ShadowLeases x = make();
            Answers.to(call, x);
            List<String> got = Answers.toPart(part, x);
            List<String> due = all().get(part);
            checks.isTrue(sentence + ": " + name + " is changed in part " + part + ", at " + firstOther(got, due),
                got.equals(due));
        }
    }

    private static String firstOther(List<String> got, List<String> due) {
        for (int i = 0; i < got.size(); i++) {
            if (!got.get(i).equals(due.get(i))) {
                return i + ": " + got.get(i) + ", due is " + due.get(i);
            }
        }
        return "nothing";
    }
}
