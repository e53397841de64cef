/** Everything that the calls tell of a tree without changing it, as one text. */
final class Observed {

    private Observed() {
    }

    static String of(QuotaTree x) {
        StringBuilder all = new StringBuilder();
        for (int what = 0; what < 8; what++) {
            add(all, x.count(what));
        }
        for (int folder = 0; folder < x.count(0); folder++) {
            all.append("\nfolder ").append(folder).append(':');
            for (int what = 0; what < 10; what++) {
                add(all, x.folder(folder, what));
            }
            add(all, x.walked(folder));
            add(all, x.room(folder));
            final int number = folder;
            all.append(' ').append(Checks.answer(() -> x.heaviest(number)));
        }
        for (int file = 0; file < x.count(1); file++) {
            all.append("\nfile ").append(file).append(':');
            for (int what = 0; what < 3; what++) {
                add(all, x.file(file, what));
            }
        }
        for (int gift = 0; gift < x.count(5); gift++) {
            all.append("\ngift ").append(gift).append(':');
            for (int what = 0; what < 4; what++) {
                add(all, x.giftOf(gift, what));
            }
        }
        for (int account = 0; account < 16; account++) {
            int project = account / 2;
            int kind = account % 2;
            all.append("\naccount ").append(project).append(' ').append(kind).append(':');
            add(all, x.used(project, kind));
            add(all, x.counted(project, kind));
            add(all, x.limit(project, kind, false));
            add(all, x.limit(project, kind, true));
            add(all, x.state(project, kind));
            add(all, x.graceLeft(project, kind));
            all.append(' ').append(Checks.answer(() -> Float.floatToRawIntBits(x.share(project, kind))));
            all.append(' ').append(Checks.answer(() -> x.greatest(project)));
        }
        all.append("\nnext ").append(x.nextEvent());
        return all.toString();
    }

    private static void add(StringBuilder all, long number) {
        all.append(' ').append(number);
    }
}
