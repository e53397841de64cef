/** Everything that the calls tell of a tree without changing it, as one text. */
final class Observed {

    private Observed() {
    }

    static String of(QuotaTree x) {
        return of(Caller.of(x));
    }

    static String of(Caller x) {
        StringBuilder all = new StringBuilder();
        for (int what = 0; what < 8; what++) {
            add(all, x, "count", what);
        }
        for (int folder = 0; folder < x.call("count", 0); folder++) {
            all.append("\nfolder ").append(folder).append(':');
            for (int what = 0; what < 10; what++) {
                add(all, x, "folder", folder, what);
            }
            add(all, x, "walked", folder);
            add(all, x, "room", folder);
            add(all, x, "heaviest", folder);
        }
        for (int file = 0; file < x.call("count", 1); file++) {
            all.append("\nfile ").append(file).append(':');
            for (int what = 0; what < 3; what++) {
                add(all, x, "file", file, what);
            }
        }
        for (int gift = 0; gift < x.call("count", 5); gift++) {
            all.append("\ngift ").append(gift).append(':');
            for (int what = 0; what < 4; what++) {
                add(all, x, "giftOf", gift, what);
            }
        }
        for (int account = 0; account < 16; account++) {
            int project = account / 2;
            int kind = account % 2;
            all.append("\naccount ").append(project).append(' ').append(kind).append(':');
            for (String name : new String[] {"used", "counted", "state", "graceLeft", "share"}) {
                add(all, x, name, project, kind);
            }
            add(all, x, "limit", project, kind, 0);
            add(all, x, "limit", project, kind, 1);
            add(all, x, "greatest", project);
        }
        all.append("\nnext");
        add(all, x, "nextEvent");
        return all.toString();
    }

    private static void add(StringBuilder all, Caller x, String name, long... arguments) {
        all.append(' ').append(Checks.answer(() -> x.call(name, arguments)));
    }
}
