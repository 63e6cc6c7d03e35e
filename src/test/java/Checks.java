/** Counts the answers of one test, prints those that are not due, and makes hexadecimal rows to fill registers with. */
final class Checks {
    private int wrong = 0;
    private int right = 0;

    void due(String what, long got, long want) {
        if (got == want) {
            right++;
        } else {
            wrong++;
            System.out.println(what + " answered " + got + ", due is " + want);
        }
    }

    void due(String what, String got, String want) {
        if (got.equals(want)) {
            right++;
        } else {
            wrong++;
            System.out.println(what + " is " + got + ", due is " + want);
        }
    }

    /** Exit code 1 if an answer was wrong, or if there was none at all. */
    void end(String test) {
        System.out.println(test + ": " + right + " answers as due, " + wrong + " not");
        if (wrong != 0 || right == 0) {
            System.exit(1);
        }
    }

    /** n bytes of one value. */
    static String same(int value, int n) {
        return hex(value).repeat(n);
    }

    /** n bytes that count up from a first one. */
    static String rising(int first, int n) {
        StringBuilder hex = new StringBuilder();
        for (int i = 0; i < n; i++) {
            hex.append(hex((first + i) & 255));
        }
        return hex.toString();
    }

    static String ofText(String text) {
        StringBuilder hex = new StringBuilder();
        for (int i = 0; i < text.length(); i++) {
            hex.append(hex(text.charAt(i)));
        }
        return hex.toString();
    }

    /** A byte's two signs; what is no byte shows as the number that it is. */
    static String hex(int b) {
        if (b < 0 || b > 255) {
            return "<" + b + ">";
        }
        return "" + Character.forDigit(b >> 4, 16) + Character.forDigit(b & 15, 16);
    }

    static String hex(byte[] bytes) {
        StringBuilder hex = new StringBuilder();
        for (byte b : bytes) {
            hex.append(hex(b & 255));
        }
        return hex.toString();
    }

    static byte[] bytes(String hex) {
        byte[] out = new byte[hex.length() / 2];
        for (int i = 0; i < out.length; i++) {
            out[i] = (byte) Integer.parseInt(hex.substring(2 * i, 2 * i + 2), 16);
        }
        return out;
    }
}
