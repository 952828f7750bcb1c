abbrev rkp (so wo wm : Nat → Int32) (n : Int) : Prop := rk so wo wm n
