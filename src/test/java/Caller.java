/** Something that answers the calls of the document by name: the class, or the model of it. */
interface Caller {

    long call(String name, long... arguments);

    /** The class itself. A float is answered by its bits. */
    static Caller of(QuotaTree x) {
        return (name, a) -> callClass(x, name, a);
    }

    private static long callClass(QuotaTree x, String name, long[] a) {
        int p = a.length > 0 ? (int) a[0] : 0;
        int q = a.length > 1 ? (int) a[1] : 0;
        int r = a.length > 2 ? (int) a[2] : 0;
        int s = a.length > 3 ? (int) a[3] : 0;
        switch (name) {
            case "append": return x.append(p, q, r, s, (int) a[4]);
            case "load": return x.load(p);
            case "errorPosition": return x.errorPosition();
            case "count": return x.count(p);
            case "find": return x.find(a[0]);
            case "folder": return x.folder(p, q);
            case "walked": return x.walked(p);
            case "heaviest": return x.heaviest(p);
            case "addFolder": return x.addFolder(p, a[1]);
            case "removeFolder": return x.removeFolder(p);
            case "tagReason": return x.tagReason(p, q);
            case "tag": return x.tag(p, q);
            case "moveReason": return x.moveReason(p, q);
            case "moveFolder": return x.moveFolder(p, q);
            case "file": return x.file(p, q);
            case "writeReason": return x.writeReason(p, q);
            case "write": return x.write(p, q);
            case "room": return x.room(p);
            case "resize": return x.resize(p, q);
            case "delete": return x.delete(p);
            case "moveFile": return x.moveFile(p, q);
            case "greatest": return x.greatest(p);
            case "used": return x.used(p, q);
            case "counted": return x.counted(p, q);
            case "limit": return x.limit(p, q, r != 0);
            case "setLimit": return x.setLimit(p, q, r, s);
            case "state": return x.state(p, q);
            case "graceLeft": return x.graceLeft(p, q);
            case "setGrace": return x.setGrace(p);
            case "tick": return x.tick(p);
            case "nextEvent": return x.nextEvent();
            case "share": return Float.floatToRawIntBits(x.share(p, q));
            case "gift": return x.gift(p, q, r, s);
            case "giftOf": return x.giftOf(p, q);
            case "endGift": return x.endGift(p);
            case "adjust": return x.adjust(p, q, r);
            case "repair": return x.repair();
            case "writePath": return x.writePath(p);
            case "writeAccounts": return x.writeAccounts(p);
            case "writtenByte": return x.writtenByte(p);
            case "undo": return x.undo();
            default: throw new AssertionError(name);
        }
    }
}
