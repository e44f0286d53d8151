import java.util.ArrayList;
import java.util.List;

/** One call of the face, told as text, such as "put(0, 2, 1, 0, 2)"; a boolean answer counts 1 or 0. */
final class Call {
    final String text;
    private final String name;
    private final int[] with;

    Call(String text) {
        this.text = text;
        int open = text.indexOf('(');
        name = text.substring(0, open);
        String inside = text.substring(open + 1, text.length() - 1).trim();
        String[] parts = inside.isEmpty() ? new String[0] : inside.split(",");
        with = new int[parts.length];
        for (int i = 0; i < parts.length; i++) {
            String part = parts[i].trim();
            with[i] = part.equals("true") ? 1 : part.equals("false") ? 0 : Integer.parseInt(part);
        }
    }

    static List<Call> all(String... texts) {
        List<Call> calls = new ArrayList<>();
        for (String text : texts) {
            calls.add(new Call(text));
        }
        return calls;
    }

    int on(ThreeValues x) {
        switch (name) {
            case "universe": return bit(x.universe(with[0], with[1]));
            case "summary": return bit(x.summary(with[0], with[1], with[2] == 1));
            case "put": return bit(x.put(with[0], with[1], with[2], with[3], with[4]));
            case "get": return x.get(with[0], with[1], with[2], with[3]);
            case "size": return x.size(with[0]);
            case "formula": return x.formula(with[0], with[1], with[2], with[3], with[4]);
            case "free": return x.free(with[0]);
            case "value": return x.value(with[0], with[1], with[2], with[3]);
            case "blur": return x.blur(with[0]);
            case "embeds": return bit(x.embeds(with[0], with[1]));
            case "rule": return x.rule(with[0], with[1], with[2]);
            case "coerce": return bit(x.coerce(with[0]));
            case "edge": return x.edge(with[0], with[1], with[2], with[3]);
            case "change": return x.change(with[0], with[1], with[2]);
            case "apply": return x.apply(with[0], with[1]);
            case "pile": return bit(x.pile(with[0], with[1]));
            case "start": return x.start(with[0], with[1]);
            case "run": return x.run();
            case "recorded": return x.recorded(with[0]);
            case "show": return bit(x.show(with[0], with[1], with[2]));
            case "known": return x.known(with[0], with[1]);
            default: throw new IllegalArgumentException(text);
        }
    }

    /** Whether false is one of its answers, and means that it is refused. */
    boolean answersYesOrNo() {
        return "universe summary put embeds coerce pile show".contains(name);
    }

    private static int bit(boolean yes) {
        return yes ? 1 : 0;
    }
}
