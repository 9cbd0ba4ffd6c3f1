import java.math.BigDecimal;
import java.math.MathContext;
import java.math.RoundingMode;

/** What the document asks for, worked out with BigDecimal. */
final class Oracle {
    private Oracle() {
    }

    static String text(long bits, int how, int p, int width, int flags) {
        double value = Double.longBitsToDouble(bits);
        boolean infinite = Double.isInfinite(value);
        String sign = bits < 0 ? "-" : (flags & 2) != 0 ? "+" : (flags & 4) != 0 ? " " : "";
        String body = infinite ? "inf" : body(new BigDecimal(Math.abs(value)), how, p, (flags & 16) != 0);
        int missing = Math.max(width - sign.length() - body.length(), 0);
        if ((flags & 1) != 0) {
            return sign + body + " ".repeat(missing);
        }
        if ((flags & 8) != 0 && !infinite) {
            return sign + "0".repeat(missing) + body;
        }
        return " ".repeat(missing) + sign + body;
    }

    static int digits(long bits) {
        double value = Double.longBitsToDouble(bits);
        if (Double.isInfinite(value) || Double.isNaN(value)) {
            return -1;
        }
        BigDecimal worth = new BigDecimal(Math.abs(value));
        return worth.signum() == 0 ? 0 : worth.stripTrailingZeros().precision();
    }

    private static String body(BigDecimal worth, int how, int p, boolean point) {
        String dot = p > 0 || point ? "." : "";
        if (how == 0) {
            String plain = worth.setScale(p, RoundingMode.HALF_EVEN).toPlainString();
            return p > 0 ? plain : plain + dot;
        }
        BigDecimal rounded = worth.round(new MathContext(p + 1, RoundingMode.HALF_EVEN));
        boolean zero = rounded.signum() == 0;
        String digits = zero ? "0" : rounded.unscaledValue().toString();
        int exponent = zero ? 0 : rounded.precision() - rounded.scale() - 1;
        String all = digits + "0".repeat(p + 1 - digits.length());
        String amount = Integer.toString(Math.abs(exponent));
        return all.charAt(0) + dot + all.substring(1) + (how == 2 ? "E" : "e") + (exponent < 0 ? "-" : "+")
                + (amount.length() < 2 ? "0" : "") + amount;
    }
}
