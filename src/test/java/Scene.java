/** States to start from, from nothing to everything full; each can be made again as often as wanted. */
enum Scene {
    /** Nothing there yet: no listener, no entry, no saved state, an empty buffer. */
    NEW {
        @Override
        void set(ConcertUsher x) {
        }
    },
    /** Every setting other than at first, two other ushers, five saved states, and half an event in the buffer. */
    BUSY {
        @Override
        void set(ConcertUsher x) {
            x.setTimes(12, 4, 7);
            x.setQuick(true);
            x.setPresent(1, true);
            x.setPresent(2, true);
            Check.runText(x, "c00;c00;c11;s11;o3;c22;p2;t5;c35;l00");
            Check.write(x, "o1;c2");
        }
    },
    /** Entries that fade in this minute, which is also the minute of a question; a text that can be run. */
    LAST_MINUTE {
        @Override
        void set(ConcertUsher x) {
            x.setTimes(5, 2, 5);
            x.come(1, 1);
            x.come(2, 2);
            x.leave(2, 2, false);
            x.pass(4);
            Check.write(x, "p1;t60");
        }
    },
    /** Nine listeners, all rows open, six saved states of more, a full buffer, and a question that is overdue. */
    FULL {
        @Override
        void set(ConcertUsher x) {
            for (int n = 0; n < 9; n++) {
                x.come(0, 0);
                x.come(7, 5);
            }
            x.setTimes(60, 10, 30);
            x.pass(25);
            for (int row = 0; row < 8; row++) {
                x.setOpen(row, true);
            }
            x.come(3, 3);
            x.leave(3, 3, true);
            x.play(3);
            x.setTimes(50, 9, 5);
            Check.write(x, "t10;".repeat(12) + "t1;o7;c33;p5");
        }
    };

    abstract void set(ConcertUsher x);

    ConcertUsher make() {
        ConcertUsher x = new ConcertUsher();
        set(x);
        return x;
    }
}
