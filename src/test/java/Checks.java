import java.util.NoSuchElementException;

/** What the tests share: how an answer is compared, how an exception is told, how a text is fed. */
final class Checks {
    static final long NO_SUCH_ELEMENT = 1L << 40;
    static final long ILLEGAL_ARGUMENT = 2L << 40;
    static final long SOMETHING_ELSE = 3L << 40;

    private static int asked = 0;
    private static int wrong = 0;

    private Checks() { }

    interface Call {
        int run();
    }

    /** A call's answer, or the code of what it throws. */
    static long answer(Call call) {
        try {
            return call.run();
        } catch (NoSuchElementException e) {
            return e.getClass() == NoSuchElementException.class ? NO_SUCH_ELEMENT : SOMETHING_ELSE;
        } catch (IllegalArgumentException e) {
            return e.getClass() == IllegalArgumentException.class ? ILLEGAL_ARGUMENT : SOMETHING_ELSE;
        } catch (RuntimeException e) {
            e.printStackTrace(System.out);
            return SOMETHING_ELSE;
        }
    }

    static void due(String what, long got, long want) {
        asked++;
        if (got != want) {
            wrong++;
            System.out.println(what + " answered " + got + ", due is " + want);
        }
    }

    static void none(String what, Call call) {
        due(what + " (throws)", answer(call), NO_SUCH_ELEMENT);
    }

    static void illegal(String what, Call call) {
        due(what + " (throws)", answer(call), ILLEGAL_ARGUMENT);
    }

    /** The numbers that feed a text, five for each twenty bytes, blanks behind it. */
    static int[] numbers(String text) {
        int feeds = (text.length() + 19) / 20;
        int[] numbers = new int[feeds * 5];
        for (int k = 0; k < feeds * 20; k++) {
            int letter = k < text.length() ? text.charAt(k) & 255 : ' ';
            numbers[k / 4] = numbers[k / 4] << 8 | letter;
        }
        return numbers;
    }

    static void feed(TermBank bank, String text) {
        int[] n = numbers(text);
        for (int k = 0; k + 4 < n.length; k += 5) {
            bank.feed(n[k], n[k + 1], n[k + 2], n[k + 3], n[k + 4]);
        }
    }

    /** What bank() answers for a text. */
    static int told(TermBank bank, String text) {
        feed(bank, text);
        return bank.bank(text.length());
    }

    /** A new object that was told a text, which has no fault. */
    static TermBank bankOf(String text) {
        TermBank bank = new TermBank();
        due("bank of " + text, told(bank, text), 0);
        return bank;
    }

    static void end() {
        System.out.println((asked - wrong) + " answers as due, " + wrong + " not");
        if (wrong != 0) {
            System.exit(1);
        }
    }
}
