import java.nio.charset.StandardCharsets;

/** Puts texts into the text buffer of a market, and tells all that can be seen of a market. */
final class Setups {
    private Setups() {
    }

    /** Appends a text to an empty text buffer. */
    static void put(PromiseMarket market, String text) {
        byte[] bytes = text.getBytes(StandardCharsets.ISO_8859_1);
        for (int i = 0; i < bytes.length; i += 4) {
            int four = 0;
            for (int k = i; k < i + 4; k++) {
                four = four << 8 | (k < bytes.length ? bytes[k] & 255 : ' ');
            }
            market.appendText(four);
        }
        market.truncateText(bytes.length);
    }

    /** What read() answers to a text, the error code and the error position. */
    static String read(PromiseMarket market, String text) {
        put(market, text);
        return market.read() + " " + market.errorCode() + " " + market.errorPosition();
    }

    /** A market that a text has set up. */
    static PromiseMarket market(String text) {
        PromiseMarket market = new PromiseMarket();
        if (read(market, text).startsWith("-1")) {
            throw new AssertionError("not a setup: " + text);
        }
        return market;
    }

    static String processOf(PromiseMarket market, int process) {
        StringBuilder told = new StringBuilder();
        for (int what = 0; what <= 11; what++) {
            told.append(what == 0 ? "" : " ").append(market.process(process, what));
        }
        return told.toString();
    }

    static String promiseOf(PromiseMarket market, int promise) {
        StringBuilder told = new StringBuilder();
        for (int what = 0; what <= 16; what++) {
            told.append(what == 0 ? "" : " ").append(market.told(promise, what));
        }
        return told.toString();
    }

    static String countsOf(PromiseMarket market) {
        StringBuilder told = new StringBuilder();
        for (int what = 0; what <= 12; what++) {
            told.append(what == 0 ? "" : " ").append(market.count(what));
        }
        return told.toString();
    }

    static String salesOf(PromiseMarket market) {
        StringBuilder told = new StringBuilder();
        int processes = market.count(1);
        for (int seller = 0; seller < processes; seller++) {
            for (int buyer = 0; buyer < processes; buyer++) {
                told.append(market.sales(seller, buyer)).append(' ');
            }
        }
        return told.append(market.partners()).append(' ').append(market.meanPrice()).toString();
    }

    /** All that can be seen without the text buffer and the saved states. */
    static String everythingOf(PromiseMarket market) {
        StringBuilder told = new StringBuilder(countsOf(market));
        told.append("; bank ").append(market.bank()).append("; load ").append(market.load());
        told.append("; spare ").append(market.spare()).append("; sales ").append(salesOf(market));
        told.append("; error ").append(market.errorCode()).append(' ').append(market.errorPosition());
        int processes = market.count(1);
        for (int i = 0; i < processes; i++) {
            told.append("; process ").append(processOf(market, i));
        }
        int promises = market.count(2);
        for (int i = 0; i < promises; i++) {
            told.append("; promise ").append(promiseOf(market, i));
        }
        return told.toString();
    }
}
