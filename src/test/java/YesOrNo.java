/** One call on an object that answers true or false. */
interface YesOrNo {
    boolean on(BarrierDispatch x);
}
