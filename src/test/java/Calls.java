/** Calls by their names. */
final class Calls {
    private Calls() {
    }

    static int ask(FiddlerDebts x, String name, int[] a) {
        switch (name) {
            case "tune": return x.tune(a[0]);
            case "length": return x.length(a[0]);
            case "owe": return x.owe(a[0], a[1], a[2], a[3]);
            case "of": return x.of(a[0], a[1]);
            case "pay": return x.pay(a[0], a[1]);
            case "funeral": return x.funeral(a[0]);
            case "terms": return x.terms(a[0], a[1]);
            case "feed": return x.feed(a[0], a[1], a[2], a[3], a[4]);
            case "end": return x.end(a[0]);
            case "row": return x.row();
            case "sung": return x.sung();
            case "law": return x.law();
            case "fault": return x.fault();
            case "force": return x.force(a[0]);
            case "balance": return x.balance(a[0]);
            case "richest": return x.richest();
            case "net": return x.net(a[0], a[1]);
            case "left": return x.left(a[0], a[1]);
            case "ring": return x.ring(a[0], a[1]);
            case "cancel": return x.cancel(a[0]);
            case "best": return x.best(a[0], a[1], a[2], a[3]);
            case "play": return x.play(a[0], a[1], a[2]);
            case "bands": return x.bands(a[0], a[1]);
            case "wedding": return x.wedding(a[0], a[1]);
            case "divorce": return x.divorce();
            case "free": return x.free(a[0]);
            case "dance": return x.dance(a[0], a[1]);
            case "ahead": return x.ahead(a[0], a[1]);
            case "forget": return x.forget();
            case "orders": return x.orders(a[0], a[1]);
            case "can": return x.can(a[0]);
            case "evenings": return x.evenings(a[0], a[1]);
            case "owed": return x.owed(a[0], a[1]);
            case "image": return x.image(a[0]);
            case "back": return x.back(a[0]);
            case "count": return x.count(a[0]);
            case "status": return x.status();
            default: throw new IllegalArgumentException(name);
        }
    }

    static int ask(SlowVillage x, String name, int[] a) {
        switch (name) {
            case "tune": return x.tune(a[0]);
            case "length": return x.length(a[0]);
            case "owe": return x.owe(a[0], a[1], a[2], a[3]);
            case "of": return x.of(a[0], a[1]);
            case "pay": return x.pay(a[0], a[1]);
            case "funeral": return x.funeral(a[0]);
            case "terms": return x.terms(a[0], a[1]);
            case "feed": return x.feed(a[0], a[1], a[2], a[3], a[4]);
            case "end": return x.end(a[0]);
            case "row": return x.row();
            case "sung": return x.sung();
            case "law": return x.law();
            case "fault": return x.fault();
            case "force": return x.force(a[0]);
            case "balance": return x.balance(a[0]);
            case "richest": return x.richest();
            case "net": return x.net(a[0], a[1]);
            case "left": return x.left(a[0], a[1]);
            case "ring": return x.ring(a[0], a[1]);
            case "cancel": return x.cancel(a[0]);
            case "best": return x.best(a[0], a[1], a[2], a[3]);
            case "play": return x.play(a[0], a[1], a[2]);
            case "bands": return x.bands(a[0], a[1]);
            case "wedding": return x.wedding(a[0], a[1]);
            case "divorce": return x.divorce();
            case "free": return x.free(a[0]);
            case "dance": return x.dance(a[0], a[1]);
            case "ahead": return x.ahead(a[0], a[1]);
            case "forget": return x.forget();
            case "orders": return x.orders(a[0], a[1]);
            case "can": return x.can(a[0]);
            case "evenings": return x.evenings(a[0], a[1]);
            case "owed": return x.owed(a[0], a[1]);
            case "image": return x.image(a[0]);
            case "back": return x.back(a[0]);
            case "count": return x.count(a[0]);
            case "status": return x.status();
            default: throw new IllegalArgumentException(name);
        }
    }
}
