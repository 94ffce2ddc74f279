/** Zoos that are made by many calls, written in a row: "come 9 4 3; pass 1; alter 4 7; .." */
final class Calls {
    private Calls() {
    }

    static RuleZoo zooBy(String calls) {
        RuleZoo zoo = new RuleZoo();
        for (String call : calls.split(";")) {
            String[] words = call.trim().split(" ");
            int[] given = new int[3];
            for (int at = 1; at < words.length; at++) {
                given[at - 1] = Integer.parseInt(words[at]);
            }
            make(zoo, words[0], given);
        }
        return zoo;
    }

    private static void make(RuleZoo zoo, String name, int[] given) {
        switch (name) {
            case "come":
                zoo.come(given[0], given[1], given[2]);
                break;
            case "move":
                zoo.move(given[0], given[1]);
                break;
            case "feed":
                zoo.feed(given[0]);
                break;
            case "alter":
                zoo.alter(given[0], given[1]);
                break;
            case "free":
                zoo.free(given[0]);
                break;
            case "pass":
                zoo.pass(given[0]);
                break;
            default:
                throw new IllegalArgumentException(name);
        }
    }
}
