def rm_Ix (w : Int32) (G : Nat → Nat → Int32) (t k u : Int32) : Prop := w.toInt = 2 → rm_Ex G t k u
