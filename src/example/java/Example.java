/** An aircraft from its empty weight to a flight that is shown to be safe. */
public final class Example {
    public static void main(String[] args) {
        TrimSheet sheet = new TrimSheet();
        sheet.empty(1000, 2000);                    // EMPTY WEIGHT and ARM

        int front = sheet.hold(500, 300);           // MOST 500; two neighbouring SLOTS bear 300 at most
        sheet.slot(front, 1900, 200);               // SLOT 0, at the DOOR: ARM and MOST
        sheet.slot(front, 1950, 200);
        int rear = sheet.hold(900, 900);
        sheet.slot(rear, 2300, 400);

        sheet.apart(0, 1, 2);                       // KINDS 0 and 1: two SLOTS or more from one to the other
        int crate = sheet.item(150, 0, 1);          // WEIGHT, KIND, STOP
        int drum = sheet.item(120, 1, 2);
        System.out.println("crate at the door: " + sheet.load(crate, front, 0));
        System.out.println("drum next to it:   " + sheet.fits(drum, front, 1));
        System.out.println("loaded by rule:    " + sheet.loadAll(2000));
        System.out.println("drum lies at:      " + sheet.where(drum));

        int tank = sheet.tank(2100, 300);
        sheet.fuel(tank, 200);
        sheet.row(1800, 3);
        System.out.println("late passengers:   " + sheet.late(2, 2000));

        sheet.point(0, 1000, 1900, 2100);           // LIMITS of the DRY state: WEIGHT, least and greatest ARM
        sheet.point(0, 2000, 1800, 2200);
        sheet.point(1, 1000, 1900, 2050);           // LIMITS when FLYING
        sheet.point(1, 2000, 1950, 2100);
        System.out.println("within dry limits: " + sheet.within(0));
        System.out.println("safe:              " + sheet.safe(200));
        System.out.println("first wrong:       " + sheet.wrong(200));
        System.out.println("pushed at stop 1:  " + sheet.pushed(1));

        if (sheet.item(0, 0, 1) == TrimSheet.BAD) { // an ITEM weighs 1 at least
            System.out.println("refused:           BAD");
        }
    }
}
