import java.util.Arrays;

/** Rows of bytes put together from parts. */
final class Row {
    private Row() {
    }

    static int[] of(int... bytes) {
        return bytes;
    }

    static int[] join(int[]... parts) {
        int[] all = {};
        for (int[] part : parts) {
            int before = all.length;
            all = Arrays.copyOf(all, before + part.length);
            System.arraycopy(part, 0, all, before, part.length);
        }
        return all;
    }

    static int[] times(int n, int... part) {
        int[] all = {};
        for (int i = 0; i < n; i++) {
            all = join(all, part);
        }
        return all;
    }

    static int[] first(int n, int... bytes) {
        return Arrays.copyOf(bytes, n);
    }

    /** As Use.bytes tells them. */
    static String told(int... bytes) {
        return Arrays.toString(bytes).replaceAll("[^0-9 ]", "");
    }

    /** Four bytes, highest first. */
    static int[] wide(int n) {
        return of(n >>> 24, n >>> 16 & 255, n >>> 8 & 255, n & 255);
    }

    /** A varint, with bytes 128 before its end until it has so many bytes. */
    static int[] varint(long bits, int length) {
        int[] all = new int[length];
        for (int i = 0; i < length; i++) {
            int seven = i * 7 < 64 ? (int) (bits >>> (i * 7)) & 127 : 0;
            all[i] = i < length - 1 ? seven + 128 : seven;
        }
        return all;
    }
}
