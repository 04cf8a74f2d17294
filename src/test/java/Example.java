/** The example of README.md, which ReadmeTest compares with it. */
public final class Example {
    private Example() {
    }

    public static void main(String[] args) {
        PackedNumbers x = new PackedNumbers();
        x.set(0, 1);            // answers 1
        x.push(0, 5);           // answers 33: register 0 is 2^32 + 5
        x.multiply(1, 0, 0);    // answers 65: register 1 is its square
        x.set(2, -10);          // answers 4
        x.set(3, 4);            // answers 3
        x.divide(4, 5, 2, 3);   // answers 2: register 4 is -3, register 5 is 2, for -10 = -3 * 4 + 2
        x.nearest(6, 2, 3);     // answers 2: -2.5 is as near to -3 as to -2, and register 6 is -2, the even one
        x.compare(4, 6);        // answers -1: -3 is less than -2
        x.rest(2, 4);           // answers 2
        int n = x.print(1);     // answers 20
        for (int i = 0; i < n; i++) {
            System.out.print((char) x.character(i));
        }
        System.out.println();
        try {
            x.exact(2, 2, 3);
        } catch (ArithmeticException e) {
            System.out.println("something is left of -10 / 4, and register 2 is still 4 bits long: " + x.length(2));
        }
    }
}
