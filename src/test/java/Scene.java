/** Brings a new object to the point where a call is looked at. */
interface Scene {
    void set(BarrierDispatch x);
}
