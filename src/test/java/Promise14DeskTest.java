public final class Promise14DeskTest {
    public static void main(String[] args) {
        Script script = new Script("promise 14");
        script.fresh("desk(-1)=REFUSED desk(14)=REFUSED desk(MAX)=REFUSED desk(MIN)=REFUSED");
        // 0 to 4, 12 and 13 through the life of two missions.
        script.fresh("handler(3, 2, 1, 0, 1)=true step(3, 0, 2)=1 desk(0)=0 begin(1, 5)=1 desk(0)=1 desk(2)=1 desk(4)=NONE"
                + " run(2)=2 desk(1)=2 desk(13)=2 call(3)=1 call(3)=2 desk(3)=2 desk(4)=3 run(1)=1 desk(1)=3 desk(13)=2"
                + " stop()=true desk(0)=2 desk(3)=1 desk(4)=3 desk(12)=1 run(5)=1 desk(0)=0 desk(1)=4 desk(3)=0 desk(4)=NONE"
                + " begin(1, 6)=2 desk(2)=2 desk(1)=4 desk(6)=6 run(1)=1 desk(13)=3 desk(12)=1");
        // 5 to 8: what is in the mission's area goes with it, what was made is counted on.
        script.fresh("handler(0, 2, 1, 0, 1)=true step(0, 2, 2)=1 step(0, 2, 3)=2 step(0, 9, 0)=3 step(0, 1, 1)=4"
                + " step(0, 9, 0)=5 begin(1, 20)=1 call(0)=1 run(1)=1 desk(5)=2 desk(6)=15 desk(7)=2 desk(8)=3 call(0)=1"
                + " run(1)=1 desk(5)=4 desk(6)=10 desk(7)=4 desk(8)=6 stop()=true desk(5)=0 desk(6)=0 desk(7)=4 desk(8)=6"
                + " begin(1, 20)=2 call(0)=1 run(1)=1 desk(5)=2 desk(6)=15 desk(7)=6 desk(8)=9");
        // 9 to 11.
        script.fresh("handler(0, 2, 1, 0, 1)=true step(0, 0, 3)=1 frame(1, 2)=true place(1, 0)=1 frame(2, 2)=true"
                + " desk(9)=NONE desk(10)=0 begin(0, 0)=1 desk(9)=NONE desk(10)=0 run(1)=1 desk(9)=1 desk(10)=1 run(3)=3"
                + " desk(9)=2 desk(10)=2 desk(11)=1 run(1)=1 stop()=true desk(0)=2 desk(9)=1 desk(10)=3 run(5)=2 desk(9)=NONE"
                + " desk(10)=0 desk(11)=1 begin(1, 0)=2 run(2)=2 desk(9)=NONE desk(10)=0 desk(11)=1");
        // 4 tells what would be chosen now, before what comes in the next tick.
        script.fresh("handler(0, 0, 9, 1, 9)=true step(0, 0, 1)=1 handler(1, 2, 1, 0, 1)=true step(1, 0, 5)=1 begin(1, 0)=1"
                + " desk(4)=NONE call(1)=1 desk(4)=1 run(1)=1 desk(4)=1 run(1)=1 of(0, 9)=1 desk(4)=1");
        // A tick with steps that are not work is one without work.
        script.fresh("handler(0, 2, 1, 0, 1)=true step(0, 1, 1)=1 begin(1, 0)=1 call(0)=1 run(1)=1 of(0, 9)=1 desk(13)=1");
        script.end();
    }
}
