/** A call of the face from its words, "divide 2 3 0 1" or "addProduct 0 1 2 true", on an object or on the model. */
final class Calls {
    private Calls() {
    }

    private static int number(String[] words, int place) {
        return Integer.parseInt(words[place]);
    }

    static Due.Call on(PackedNumbers x, String row) {
        String[] w = row.split(" ");
        return switch (w[0]) {
            case "set" -> () -> x.set(number(w, 1), Long.parseLong(w[2]));
            case "push" -> () -> x.push(number(w, 1), number(w, 2));
            case "copy" -> () -> x.copy(number(w, 1), number(w, 2));
            case "swap" -> () -> x.swap(number(w, 1), number(w, 2));
            case "negate" -> () -> x.negate(number(w, 1));
            case "add" -> () -> x.add(number(w, 1), number(w, 2), number(w, 3));
            case "subtract" -> () -> x.subtract(number(w, 1), number(w, 2), number(w, 3));
            case "multiply" -> () -> x.multiply(number(w, 1), number(w, 2), number(w, 3));
            case "addProduct" ->
                () -> x.addProduct(number(w, 1), number(w, 2), number(w, 3), Boolean.parseBoolean(w[4]));
            case "divide" -> () -> x.divide(number(w, 1), number(w, 2), number(w, 3), number(w, 4));
            case "exact" -> () -> x.exact(number(w, 1), number(w, 2), number(w, 3));
            case "nearest" -> () -> x.nearest(number(w, 1), number(w, 2), number(w, 3));
            case "gcd" -> () -> x.gcd(number(w, 1), number(w, 2), number(w, 3));
            case "compare" -> () -> x.compare(number(w, 1), number(w, 2));
            case "sign" -> () -> x.sign(number(w, 1));
            case "length" -> () -> x.length(number(w, 1));
            case "limb" -> () -> x.limb(number(w, 1), number(w, 2));
            case "rest" -> () -> x.rest(number(w, 1), number(w, 2));
            case "print" -> () -> x.print(number(w, 1));
            case "character" -> () -> x.character(number(w, 1));
            default -> throw new IllegalStateException("no such call: " + row);
        };
    }

    static Due.Call on(Model m, String row) {
        String[] w = row.split(" ");
        return switch (w[0]) {
            case "set" -> () -> m.set(number(w, 1), Long.parseLong(w[2]));
            case "push" -> () -> m.push(number(w, 1), number(w, 2));
            case "copy" -> () -> m.copy(number(w, 1), number(w, 2));
            case "swap" -> () -> m.swap(number(w, 1), number(w, 2));
            case "negate" -> () -> m.negate(number(w, 1));
            case "add" -> () -> m.add(number(w, 1), number(w, 2), number(w, 3));
            case "subtract" -> () -> m.subtract(number(w, 1), number(w, 2), number(w, 3));
            case "multiply" -> () -> m.multiply(number(w, 1), number(w, 2), number(w, 3));
            case "addProduct" ->
                () -> m.addProduct(number(w, 1), number(w, 2), number(w, 3), Boolean.parseBoolean(w[4]));
            case "divide" -> () -> m.divide(number(w, 1), number(w, 2), number(w, 3), number(w, 4));
            case "exact" -> () -> m.exact(number(w, 1), number(w, 2), number(w, 3));
            case "nearest" -> () -> m.nearest(number(w, 1), number(w, 2), number(w, 3));
            case "gcd" -> () -> m.gcd(number(w, 1), number(w, 2), number(w, 3));
            case "compare" -> () -> m.compare(number(w, 1), number(w, 2));
            case "sign" -> () -> m.sign(number(w, 1));
            case "length" -> () -> m.length(number(w, 1));
            case "limb" -> () -> m.limb(number(w, 1), number(w, 2));
            case "rest" -> () -> m.rest(number(w, 1), number(w, 2));
            case "print" -> () -> m.print(number(w, 1));
            case "character" -> () -> m.character(number(w, 1));
            default -> throw new IllegalStateException("no such call: " + row);
        };
    }
}
