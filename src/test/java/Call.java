/** One call of the face by its name, so that tests can hold tables of calls, and tell them. */
final class Call {
    private final String name;
    private final int[] args;

    Call(String name, int... args) {
        this.name = name;
        this.args = args;
    }

    /** The same call with another argument at one place. */
    Call with(int place, int arg) {
        int[] others = args.clone();
        others[place] = arg;
        return new Call(name, others);
    }

    int arg(int place) {
        return args[place];
    }

    int countArgs() {
        return args.length;
    }

    boolean is(String other) {
        return name.equals(other);
    }

    /** What the call answers; a boolean counts 1 or 0. */
    int on(ShardGroups x) {
        return switch (name) {
            case "crash" -> x.crash(args[0]) ? 1 : 0;
            case "recover" -> x.recover(args[0]) ? 1 : 0;
            case "elect" -> x.elect(args[0]);
            case "ship" -> x.ship(args[0], args[1]);
            case "change" -> x.change(args[0], args[1], args[2], args[3]);
            case "request" -> x.request(args[0], args[1], args[2], args[3], args[4], args[5]);
            case "poll" -> x.poll(args[0], args[1]);
            case "pull" -> x.pull(args[0], args[1], args[2]);
            case "confirm" -> x.confirm(args[0], args[1], args[2]);
            case "length" -> x.length(args[0]);
            case "known" -> x.known(args[0]);
            case "term" -> x.term(args[0]);
            case "configuration" -> x.configuration(args[0]);
            case "owner" -> x.owner(args[0], args[1], args[2]);
            case "condition" -> x.condition(args[0], args[1]);
            case "value" -> x.value(args[0], args[1]);
            case "latest" -> x.latest(args[0], args[1], args[2]);
            case "answer" -> x.answer(args[0], args[1], args[2]);
            default -> throw new IllegalArgumentException(name);
        };
    }

    @Override
    public String toString() {
        StringBuilder text = new StringBuilder(name).append('(');
        for (int i = 0; i < args.length; i++) {
            text.append(i == 0 ? "" : ", ").append(args[i]);
        }
        return text.append(')').toString();
    }
}
