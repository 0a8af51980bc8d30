/** Tells in a text what a registry holds, by what can be asked of it: by less than 300 calls. */
final class View {
    private View() {
    }

    /** All of it, then STEP BACK by STEP BACK what was ahead. */
    static String trail(Licenceweave x) {
        StringBuilder text = new StringBuilder(whole(x));
        for (int k = 0; k <= 8; k++) {
            try {
                text.append("\nback ").append(x.undo());
            } catch (RuntimeException e) {
                return text.append("\nback ").append(e.getClass().getName()).toString();
            }
            text.append(' ').append(brief(x));
        }
        return text.append(" and more").toString();
    }

    static String brief(Licenceweave x) {
        StringBuilder text = new StringBuilder().append(x.digest()).append(' ').append(x.typed());
        for (int k = 0; k + 1 < x.house(0); k += 2) {
            text.append(' ').append(x.likeness(k, k + 1, 1));
        }
        return text.toString();
    }

    static String whole(Licenceweave x) {
        StringBuilder text = new StringBuilder().append(x.digest()).append(' ').append(x.typed());
        for (int what = 0; what <= 8; what++) {
            text.append("\nhouse ").append(what).append(' ').append(x.house(what));
        }
        for (int k = 0; k < x.house(1); k++) {
            text.append("\nlicence ").append(k).append(' ').append(x.line(k));
        }
        int works = x.house(0);
        for (int k = 0; k < works; k++) {
            text.append("\nwork ").append(k).append(':');
            for (int land = 0; land < 3; land++) {
                text.append(' ').append(x.choice(k, land, 80, 1)).append(", ").append(x.notices(k, land, 80));
            }
            for (int hand = 0; hand <= 8; hand++) {
                text.append(' ').append(x.share(k, 2, 95, hand));
            }
            text.append(' ').append(x.chain(k, (k + 3) % 8, 100));
            for (int m = 0; m < works; m++) {
                text.append(' ').append(x.likeness(k, m, 1)).append(' ').append(x.likeness(k, m, 3));
            }
        }
        return text.toString();
    }

    /** All but the STEPS BACK, in three parts, each asked of its own object: so none has more than 512 calls. */
    static String still(Edge.Start start) {
        return facts(start.make()) + wholes(start.make()) + title(start.make());
    }

    private static String facts(Licenceweave x) {
        StringBuilder text = new StringBuilder(x.typed());
        int works = x.house(0);
        int licences = x.house(1);
        for (int what = 0; what <= 8; what++) {
            text.append(what == 6 ? "\nhouse" : " " + x.house(what));
        }
        for (int k = 0; k < works; k++) {
            text.append("\nwork ").append(k).append(':');
            for (int what = 0; what <= 9; what++) {
                text.append(' ').append(x.ofWork(k, what));
            }
            text.append(' ').append(x.likeness(k, 0, 1)).append(' ').append(x.likeness(k, 0, 3));
        }
        for (int k = 0; k <= 8; k++) {
            text.append("\nhand ").append(k).append(':');
            for (int what = 0; what <= 4; what++) {
                text.append(' ').append(x.ofHand(k, what));
            }
        }
        for (int k = 0; k < licences; k++) {
            text.append("\nlicence ").append(k).append(' ').append(x.line(k)).append(' ').append(x.fits(k, 0));
            text.append(x.fits(0, k)).append(x.joined(k, licences - 1));
        }
        return text.append(probes(x)).toString();
    }

    private static String wholes(Licenceweave x) {
        StringBuilder text = new StringBuilder();
        int works = x.house(0);
        for (int k = 0; k < works; k++) {
            for (int land = 0; land <= 2; land++) {
                text.append("\nwhole ").append(k).append(' ').append(land).append(": ");
                text.append(x.end(k, land)).append(' ');
                text.append(x.parts(k, land, 100, false)).append(' ').append(x.next(k, land, 0)).append(' ');
                text.append(x.choice(k, land, 80, 0)).append(", ").append(x.notices(k, land, 80)).append(' ');
                text.append(x.may(k, land, 80, false)).append(' ').append(x.clash(k, land, 80));
            }
            for (int hand = 0; hand <= 8; hand++) {
                text.append(' ').append(x.share(k, 2, 95, hand));
            }
        }
        return text.toString();
    }

    private static String title(Licenceweave x) {
        StringBuilder text = new StringBuilder();
        int works = x.house(0);
        int entries = x.house(2);
        for (int k = 0; k < entries; k++) {
            text.append("\nentry ").append(k).append(':');
            for (int what = 0; what <= 7; what++) {
                text.append(' ').append(x.ofEntry(k, what));
            }
        }
        for (int k = 0; k < works; k++) {
            text.append("\ntitle of ").append(k).append(':');
            for (int person = 0; person <= 7; person++) {
                text.append(' ').append(x.holds(k, person, 95)).append(' ').append(x.chain(k, person, 105));
            }
        }
        return text.toString();
    }

    /** What calls tell that change something: the LISTS and the LIFE of each LAND, and who was SHOWN. */
    static String probes(Licenceweave x) {
        StringBuilder text = new StringBuilder();
        int works = x.house(0);
        for (int land = 0; land < 3; land++) {
            text.append("\nland ").append(land).append(' ').append(x.land(land, 1, 1, 1, false));
            for (int k = 0; k < works; k++) {
                text.append(' ').append(x.list(land, k, 0));
            }
        }
        for (int k = 0; k < works; k++) {
            text.append("\nshown ").append(k).append(' ').append(x.shown(k, -1)).append(' ').append(x.floor(k, 0));
        }
        for (int k = 0; k < 8; k++) {
            text.append("\nperson ").append(k).append(' ').append(x.death(k, -1)).append(' ').append(x.cap(k, -1));
            text.append(' ').append(x.advance(k, 0));
        }
        return text.append("\nbehind ").append(x.behind(0)).append(" knocks ").append(x.knock()).toString();
    }
}
