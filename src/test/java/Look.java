/** All that can be seen of a land, told as one text. To see a sheet, the tape or an image is to use it up: look last. */
final class Look {
    /** Places in a sheet at which one looks: its edges, and those of the room. */
    private static final int[] PLACES = {0, 1, 2, 3, 11, 12, 39};
    private static final int[] SIZES = {0, 1, 2, 3, 4, 12, 13, 39, 40};
    private static final int MISSING = -1000006;

    private Look() {
    }

    static String at(Land land) {
        StringBuilder seen = new StringBuilder();
        room(land, seen);
        for (int s = 0; s < 4; s++) sheet(land, s, seen);
        tell(seen, "text", land.call("text"));
        tell(seen, "fall by it", land.call("law", 0, 0));
        tell(seen, "image", land.call("undo"));
        room(land, seen);
        return seen.toString();
    }

    private static void tell(StringBuilder seen, String what, long answer) {
        seen.append(what).append(' ').append(answer).append('\n');
    }

    private static void room(Land land, StringBuilder seen) {
        for (int what = 0; what <= 7; what++) tell(seen, "count " + what, land.call("count", what));
        for (int s = 0; s < 12; s++) tell(seen, "dust of " + s, land.call("surface", s, 0));
        for (int spot = 0; spot < 10; spot++) tell(seen, "spot " + spot, land.call("as", spot, 0));
        int tenants = land.ask("count", 1);
        for (int t = 0; t < tenants; t++) tenant(land, t, seen);
        for (int what = 0; what <= 1; what++) {
            int law = land.ask("law", what, 0);
            land.call("law", what, law);
            tell(seen, "law " + what, law);
        }
    }

    private static void tenant(Land land, int t, StringBuilder seen) {
        for (int what = 0; what <= 2; what++) tell(seen, "of " + t + ", " + what, land.call("of", t, what));
        for (int s = 0; s < 12; s++) tell(seen, "mark of " + t + " on " + s, land.call("mark", t, s));
    }

    private static void sheet(Land land, int s, StringBuilder seen) {
        if (land.call("load", s) == MISSING) {
            tell(seen, "missing sheet", s);
            return;
        }
        for (int n : SIZES) tell(seen, "size of " + s, land.call("copy", s, 0, s, 0, n));
        for (int i : PLACES) {
            if (land.call("copy", s, i, s, 0, 1) != 1) continue;
            long came = land.call("load", s);
            tell(seen, "number " + i + " of " + s, came == 0 ? -1 : land.call("surface", 0, 0));
        }
        // 5 but for 32 bits, then 128 but for 8: so the bits are told.
        for (int v : new int[] {65541, 128}) {
            land.call("write", s, 0, v);
            tell(seen, "bits of " + s, land.call("load", s));
        }
    }
}
