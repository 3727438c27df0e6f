/** Makes rows of bytes as the document tells, apart from the class that is tested. */
final class Rows {
    private Rows() {
    }

    static int[] of(int... bytes) {
        return bytes;
    }

    static int[] join(int[]... parts) {
        int length = 0;
        for (int[] part : parts) {
            length += part.length;
        }
        int[] all = new int[length];
        int at = 0;
        for (int[] part : parts) {
            System.arraycopy(part, 0, all, at, part.length);
            at += part.length;
        }
        return all;
    }

    static int[] part(int tag, int[]... contents) {
        int[] content = join(contents);
        int[] head = content.length < 128 ? of(tag, content.length) : of(tag, 129, content.length);
        return join(head, content);
    }

    static int[] list(int[]... parts) {
        return part(48, parts);
    }

    static int[] number(int tag, int value) {
        byte[] bytes = java.math.BigInteger.valueOf(value).toByteArray();
        int[] content = new int[bytes.length];
        for (int i = 0; i < bytes.length; i++) {
            content[i] = bytes[i] & 255;
        }
        return part(tag, content);
    }

    static int[] integer(int value) {
        return number(2, value);
    }

    static int[] octets(String signs) {
        return part(4, signs.chars().toArray());
    }

    static int[] empty(int tag) {
        return part(tag, of());
    }

    static int[] name(int... numbers) {
        int[] content = of();
        for (int number : numbers) {
            content = join(content, number < 128 ? of(number) : of(128 + number / 128, number % 128));
        }
        return part(6, content);
    }

    static int[] name(String text) {
        return name(Talk.numbers(text));
    }

    static int[] binding(String name, int[] value) {
        return list(name(name), value);
    }

    static int[] pdu(int kind, int request, int status, int index, int[]... bindings) {
        return part(160 + kind, integer(request), integer(status), integer(index), list(bindings));
    }

    static int[] scope(int context, int[] pdu) {
        return list(integer(context), pdu);
    }

    /** A MESSAGE of the LEVEL 0. */
    static int[] open(int id, int engine, int boots, int time, int user, int[] scope) {
        return list(integer(3), integer(id), integer(0), integer(engine), integer(boots), integer(time), integer(user),
                octets(""), integer(0), scope);
    }

    /** A MESSAGE to the agent (ENGINE 7). */
    static int[] plain(int id, int user, int[] scope) {
        return open(id, 7, 1, 0, user, scope);
    }

    static int[] sealed(int id, int level, int engine, int boots, int time, int user, int key, int salt, int[] scope) {
        int[] inner = level == 2 ? part(4, ciphered(scope, key, boots, salt)) : scope;
        int[] front = join(integer(3), integer(id), integer(level), integer(engine), integer(boots), integer(time),
                integer(user));
        int[] row = list(front, of(4, 2, 0, 0), integer(level == 2 ? salt : 0), inner);
        int place = (row[1] < 128 ? 2 : 3) + front.length + 2;
        int sum = sum(row, key, place);
        row[place] = sum / 256;
        row[place + 1] = sum % 256;
        return row;
    }

    static int sum(int[] row, int key, int sumPlace) {
        long h = key;
        for (int i = 0; i < row.length; i++) {
            boolean isSum = sumPlace >= 0 && (i == sumPlace || i == sumPlace + 1);
            h = (h * 257 + (isSum ? 0 : row[i]) + 1) % 65521;
        }
        h = (h * 257 + key / 256 + 1) % 65521;
        h = (h * 257 + key % 256 + 1) % 65521;
        return (int) h;
    }

    static int[] ciphered(int[] bytes, int key, int boots, int salt) {
        int[] out = bytes.clone();
        long x = Math.floorMod(key * 7L + boots * 11L + salt * 13L + 5, 65536L);
        for (int i = 0; i < out.length; i++) {
            x = (x * 1103 + 12345) % 65536;
            out[i] ^= (int) (x / 256);
        }
        return out;
    }
}
