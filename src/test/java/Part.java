import java.util.ArrayList;
import java.util.List;

/** A part of a row, with parts within or a CONTENT, that can be put wrong. */
final class Part {
    final int tag;
    final int[] content;
    final List<Part> parts = new ArrayList<>();
    // In place of TAG, LENGTH and CONTENT, if it is put wrong.
    int[] wrong;
    // What stands behind the last part within.
    int[] behind = {};

    private Part(int tag, int[] content, Part... parts) {
        this.tag = tag;
        this.content = content;
        this.parts.addAll(List.of(parts));
    }

    static Part list(int tag, Part... parts) {
        return new Part(tag, new int[0], parts);
    }

    /** A part without parts within, from its bytes. */
    static Part leaf(int[] bytes) {
        int from = bytes[1] < 128 ? 2 : 3;
        return new Part(bytes[0], java.util.Arrays.copyOfRange(bytes, from, bytes.length));
    }

    int[] bytes() {
        if (wrong != null) {
            return wrong;
        }
        int[] inner = content;
        for (Part part : parts) {
            inner = Rows.join(inner, part.bytes());
        }
        return Rows.part(tag, inner, behind);
    }

    private int headLength() {
        int length = bytes().length;
        return length < 130 ? 2 : 3;
    }

    /** Where a part within begins, this one beginning at a place; -1 if it is not within. */
    int placeOf(Part sought, int begin) {
        if (sought == this) {
            return begin;
        }
        int at = begin + headLength();
        for (Part part : parts) {
            int found = part.placeOf(sought, at);
            if (found >= 0) {
                return found;
            }
            at += part.bytes().length;
        }
        return -1;
    }

    List<Part> all() {
        List<Part> all = new ArrayList<>();
        all.add(this);
        for (Part part : parts) {
            all.addAll(part.all());
        }
        return all;
    }
}
