import java.util.Arrays;

/** The text of a double, made from its exact decimal digits and rounded once. */
public final class DecimalText {
    private static final int PLAIN = 0;
    private static final int WITH_LARGE_E = 2;
    private static final int MOST_DECIMALS = 15;
    private static final int MOST_WIDTH = 400;

    private static final int BLANKS_BEHIND = 1;
    private static final int PLUS_SIGN = 2;
    private static final int BLANK_SIGN = 4;
    private static final int ZEROS = 8;
    private static final int POINT_ALWAYS = 16;
    private static final int ALL_FLAGS = 31;

    private static final int FRACTION_BITS = 52;
    private static final long FRACTION_MASK = (1L << FRACTION_BITS) - 1;
    private static final int EXPONENT_MASK = 2047;

    private final Worth worth;
    private final Line line;

    public DecimalText() {
        worth = new Worth();
        line = new Line();
    }

    public int make(long bits, int how, int p, int width, int flags) {
        if (!isForm(how, p, width, flags) || isNoNumber(bits)) {
            return -1;
        }
        line.clear();
        putSign(bits, flags);
        int bodyStart = line.length();
        boolean finite = isFinite(bits);
        if (finite) {
            worth.take(bits);
            putBody(how, p, p > 0 || has(flags, POINT_ALWAYS));
        } else {
            putInfinite();
        }
        pad(bodyStart, width - line.length(), finite, flags);
        return line.length();
    }

    public int at(int i) {
        return line.codeAt(i);
    }

    public int digits(long bits) {
        if (!isFinite(bits)) {
            return -1;
        }
        worth.take(bits);
        return worth.digitCount();
    }

    private static boolean isForm(int how, int p, int width, int flags) {
        return isWithin(how, WITH_LARGE_E) && isWithin(p, MOST_DECIMALS)
                && isWithin(width, MOST_WIDTH) && isWithin(flags, ALL_FLAGS);
    }

    private static boolean isWithin(int number, int most) {
        return number >= 0 && number <= most;
    }

    private static boolean has(int flags, int flag) {
        return (flags & flag) != 0;
    }

    private static int exponentField(long bits) {
        return (int) (bits >>> FRACTION_BITS) & EXPONENT_MASK;
    }

    private static boolean isFinite(long bits) {
        return exponentField(bits) != EXPONENT_MASK;
    }

    private static boolean isNoNumber(long bits) {
        return !isFinite(bits) && (bits & FRACTION_MASK) != 0;
    }

    private void putSign(long bits, int flags) {
        if (bits < 0) {
            line.put('-');
        } else if (has(flags, PLUS_SIGN)) {
            line.put('+');
        } else if (has(flags, BLANK_SIGN)) {
            line.put(' ');
        }
    }

    private void putInfinite() {
        line.put('i');
        line.put('n');
        line.put('f');
    }

    private void putBody(int how, int p, boolean point) {
        if (how == PLAIN) {
            putPlain(p, point);
        } else {
            putWithExponent(p, point, how == WITH_LARGE_E ? 'E' : 'e');
        }
    }

    private void putPlain(int p, boolean point) {
        worth.roundTo(-p);
        putDigits(Math.max(worth.highestPower(), 0), 0);
        putDecimals(0, p, point);
    }

    private void putWithExponent(int p, boolean point, char mark) {
        worth.roundTo(worth.highestPower() - p);
        // Asked again, because rounding may have carried: 9.99 becomes 10.0.
        int power = worth.highestPower();
        putDigits(power, power);
        putDecimals(power, p, point);
        putExponent(power, mark);
    }

    private void putDecimals(int unitPower, int p, boolean point) {
        if (point) {
            line.put('.');
        }
        putDigits(unitPower - 1, unitPower - p);
    }

    private void putDigits(int fromPower, int toPower) {
        for (int power = fromPower; power >= toPower; power--) {
            putDigit(worth.digitOf(power));
        }
    }

    private void putExponent(int power, char mark) {
        int amount = Math.abs(power);
        line.put(mark);
        line.put(power < 0 ? '-' : '+');
        if (amount >= 100) {
            putDigit(amount / 100);
        }
        putDigit(amount / 10 % 10);
        putDigit(amount % 10);
    }

    private void putDigit(int digit) {
        line.put((char) ('0' + digit));
    }

    private void pad(int bodyStart, int missing, boolean finite, int flags) {
        if (has(flags, BLANKS_BEHIND)) {
            line.insert(line.length(), missing, ' ');
        } else if (has(flags, ZEROS) && finite) {
            line.insert(bodyStart, missing, '0');
        } else {
            line.insert(0, missing, ' ');
        }
    }

    /** The characters of the text, in a row that every call uses again. */
    private static final class Line {
        // The longest text without padding has 326 characters: 1 sign, 309 + 15 digits, 1 point.
        private final char[] codes;
        private int length;

        Line() {
            codes = new char[MOST_WIDTH];
            length = 0;
        }

        int length() {
            return length;
        }

        int codeAt(int i) {
            if (i < 0 || i >= length || i >= codes.length) {
                return -1;
            }
            return codes[i];
        }

        void clear() {
            length = 0;
        }

        void put(char code) {
            if (length >= 0 && length < codes.length) {
                codes[length] = code;
                length++;
            }
        }

        /** Puts fillers before the character at place; what stands from there on moves back. */
        void insert(int place, int amount, char filler) {
            if (amount <= 0 || amount > codes.length - length || place < 0 || place > length) {
                return;
            }
            for (int i = length - 1; i >= place; i--) {
                codes[i + amount] = codes[i];
            }
            for (int i = place; i < place + amount; i++) {
                codes[i] = filler;
            }
            length += amount;
        }
    }

    /** The exact worth of a finite double without its sign, as decimal digits. */
    private static final class Worth {
        private static final int LIMB = 1_000_000_000;
        private static final int LIMB_DIGITS = 9;
        // No double has more than 767 digits, which is 86 limbs with room for a carry above them.
        private static final int MOST_LIMBS = 86;
        // A factor up to this can still be multiplied by 2 or 5 without passing a limb,
        // and with factors up to a limb a product's carry always fits into one limb.
        private static final int FACTOR_WITH_ROOM = LIMB / 5;
        private static final int LEAST_POWER_OF_2 = -1074;

        // The whole number in limbs of nine digits, the lowest first.
        private final int[] limbs;
        private int limbCount;
        // The same number in single digits, the lowest first; 0 from index count on.
        private final int[] row;
        private int count;
        // The worth is that whole number divided by 10 so many times.
        private int decimals;

        Worth() {
            limbs = new int[MOST_LIMBS];
            limbCount = 0;
            row = new int[MOST_LIMBS * LIMB_DIGITS];
            count = 0;
            decimals = 0;
        }

        void take(long bits) {
            int field = exponentField(bits);
            long whole = bits & FRACTION_MASK;
            int power = LEAST_POWER_OF_2;
            if (field > 0) {
                whole += 1L << FRACTION_BITS;
                power += field - 1;
            }
            // Halving first spares most everyday doubles the long multiplication.
            while (power < 0 && (whole & 1) == 0) {
                whole >>= 1;
                power++;
            }
            setLimbs(whole);
            // w / 2^n is w * 5^n / 10^n, so both ways the digits are those of a whole number.
            multiplyByPower(power < 0 ? 5 : 2, Math.abs(power));
            decimals = Math.max(-power, 0);
            spreadLimbs();
        }

        /** How many digits from the first to the last that is not 0. */
        int digitCount() {
            return count - lowestIndex();
        }

        /** The power of 10 of the first digit that is not 0; 0 if the worth is 0. */
        int highestPower() {
            return count == 0 ? 0 : count - 1 - decimals;
        }

        int digitOf(int power) {
            return digitIn(power + decimals);
        }

        /** Rounds to the power of 10, ties to even; the digits below it stay, and mean nothing more. */
        void roundTo(int power) {
            int cut = power + decimals;
            if (cut > 0 && isNearerAbove(cut)) {
                addOneAt(cut);
            }
        }

        private boolean isNearerAbove(int cut) {
            int firstDropped = digitIn(cut - 1);
            if (firstDropped != 5) {
                return firstDropped > 5;
            }
            boolean tie = lowestIndex() == cut - 1;
            return !tie || digitIn(cut) % 2 == 1;
        }

        private void addOneAt(int index) {
            int i = index;
            while (i < row.length && digitIn(i) == 9) {
                row[i] = 0;
                i++;
            }
            if (i >= 0 && i < row.length) {
                row[i]++;
                count = Math.max(count, i + 1);
            }
        }

        private int digitIn(int index) {
            if (index < 0 || index >= row.length) {
                return 0;
            }
            return row[index];
        }

        private int lowestIndex() {
            int index = 0;
            while (index < count && digitIn(index) == 0) {
                index++;
            }
            return index;
        }

        private void setLimbs(long whole) {
            limbCount = 0;
            addLimb((int) (whole % LIMB));
            addLimb((int) (whole / LIMB));
        }

        private void addLimb(int limb) {
            if (limbCount >= 0 && limbCount < limbs.length) {
                limbs[limbCount] = limb;
                limbCount++;
            }
        }

        private void multiplyByPower(int base, int exponent) {
            int factor = 1;
            for (int i = 0; i < exponent; i++) {
                if (factor > FACTOR_WITH_ROOM) {
                    multiplyBy(factor);
                    factor = 1;
                }
                factor *= base;
            }
            multiplyBy(factor);
        }

        private void multiplyBy(int factor) {
            long carry = 0;
            for (int i = 0; i < limbCount && i < limbs.length; i++) {
                long product = (long) limbs[i] * factor + carry;
                carry = product / LIMB;
                limbs[i] = (int) (product - carry * LIMB);
            }
            if (carry > 0) {
                addLimb((int) carry);
            }
        }

        private void spreadLimbs() {
            Arrays.fill(row, 0);
            count = 0;
            for (int i = 0; i < limbCount && i < limbs.length; i++) {
                spreadLimb(limbs[i], i * LIMB_DIGITS);
            }
        }

        private void spreadLimb(int limb, int from) {
            int rest = limb;
            for (int i = from; rest > 0 && i >= 0 && i < row.length; i++) {
                row[i] = rest % 10;
                rest /= 10;
                count = i + 1;
            }
        }
    }
}
