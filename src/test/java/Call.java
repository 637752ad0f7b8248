import java.util.Arrays;

/** One call of the face; its text is as it stands in a program: "parts(0, 1, 5)". */
final class Call {
    final String name;
    final long[] arguments;

    Call(String name, long... arguments) {
        this.name = name;
        this.arguments = arguments;
    }

    static Call of(String text) {
        String inner = text.substring(text.indexOf('(') + 1, text.indexOf(')')).trim();
        String[] parts = inner.isEmpty() ? new String[0] : inner.split(", *");
        return new Call(text.substring(0, text.indexOf('(')), Arrays.stream(parts).mapToLong(Long::parseLong).toArray());
    }

    /** The answer of an object; a boolean counts 1 or 0. */
    long on(AshMetals x) {
        long[] a = arguments;
        int[] i = new int[4];
        for (int k = 0; k < a.length; k++) {
            i[k] = (int) a[k];
        }
        switch (name) {
            case "batch": return x.batch(a[0]);
            case "parts": return x.parts(i[0], i[1], i[2]) ? 1 : 0;
            case "today": return x.today(i[0]) ? 1 : 0;
            case "stage": return x.stage(i[0], i[1], i[2]);
            case "run": return x.run(i[0]);
            case "taken": return x.taken(i[0], i[1], i[2]);
            case "left": return x.left(i[0], i[1]);
            case "grams": return x.grams(i[0]);
            case "stock": return x.stock(i[0], i[1]);
            case "price": return x.price(i[0], i[1], a[2]) ? 1 : 0;
            case "worth": return x.worth(i[0], i[1]);
            case "sell": return x.sell(i[0]);
            case "money": return x.money();
            case "assay": return x.assay(i[0], i[1], i[2], i[3]) ? 1 : 0;
            case "settled": return x.settled(i[0], i[1]);
            case "disputed": return x.disputed(i[0], i[1]) ? 1 : 0;
            case "tolerance": return x.tolerance(i[0]) ? 1 : 0;
            case "rule": return x.rule(i[0], i[1], i[2], i[3]);
            case "cls": return x.cls(i[0]);
            case "mix": return x.mix(i[0], i[1]);
            case "dispute": return x.dispute(i[0]);
            default: throw new IllegalArgumentException(name);
        }
    }

    boolean answersYesOrNo() {
        switch (name) {
            case "parts": case "today": case "price": case "assay": case "disputed": case "tolerance": return true;
            default: return false;
        }
    }

    /** Whether the call only tells something, whatever it answers. */
    boolean onlyAsks() {
        switch (name) {
            case "taken": case "left": case "grams": case "stock": case "worth": case "money":
            case "settled": case "disputed": case "cls": case "dispute": return true;
            default: return false;
        }
    }

    /** What the call answers when it is refused. */
    long refusal() {
        return answersYesOrNo() ? 0 : -1;
    }

    @Override
    public String toString() {
        String inner = Arrays.toString(arguments);
        return name + "(" + inner.substring(1, inner.length() - 1) + ")";
    }
}
