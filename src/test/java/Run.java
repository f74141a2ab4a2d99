/** A run of calls, to be made on one object after another. */
interface Run {
    void on(Face face);

    default Run then(Run next) {
        return face -> {
            on(face);
            next.on(face);
        };
    }

    /** A call with the answer that is due. */
    static Run due(String what, int want, Call call) {
        return face -> Due.is(what, want, call.on(face));
    }

    /** The bytes as input, eight at a time, the rest in one call. */
    static Run feed(byte[] bytes) {
        return face -> {
            for (int at = 0; at < bytes.length; at += 8) {
                int n = Math.min(8, bytes.length - at);
                long number = 0;
                for (int i = 0; i < n; i++) {
                    number = number << 8 | bytes[at + i] & 0xFF;
                }
                face.feed(number, n);
            }
        };
    }

    static Run seed(byte[] bytes) {
        return feed(bytes).then(Face::seed);
    }

    static Run own(byte[] bytes) {
        return feed(bytes).then(Face::own);
    }

    /** One call and its answer. */
    interface Call {
        int on(Face face);
    }
}
