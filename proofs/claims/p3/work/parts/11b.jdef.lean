abbrev inb (bs p : Int32) : Prop := wth p 0 7 ∧ (bs >>> (p &&& 31)) &&& 1 = 1
abbrev pC (P p : Int32) : Prop := wth p 0 7 ∧ ¬ inb P p
def pT (P p : Int32) : Int32 := if pC P p then P ||| ((1 : Int32) <<< (p &&& 31)) else P
theorem pT_t {P p : Int32} (h : pC P p) : pT P p = P ||| ((1 : Int32) <<< (p &&& 31)) := if_pos h
theorem pT_f {P p : Int32} (h : ¬ pC P p) : pT P p = P := if_neg h
abbrev hC (P y kd ow : Int32) : Prop := wth y 0 7 ∧ wth kd 0 3 ∧ inb P ow
def hT (P H y kd ow : Int32) : Int32 := if hC P y kd ow then H ||| ((1 : Int32) <<< (y &&& 31)) else H
theorem hT_t {P H y kd ow : Int32} (h : hC P y kd ow) : hT P H y kd ow = H ||| ((1 : Int32) <<< (y &&& 31)) := if_pos h
theorem hT_f {P H y kd ow : Int32} (h : ¬ hC P y kd ow) : hT P H y kd ow = H := if_neg h
def fT (H y : Int32) : Int32 := if inb H y then H &&& (((1 : Int32) <<< (y &&& 31)) ^^^ (-1 : Int32)) else H
theorem fT_t {H y : Int32} (h : inb H y) : fT H y = H &&& (((1 : Int32) <<< (y &&& 31)) ^^^ (-1 : Int32)) := if_pos h
theorem fT_f {H y : Int32} (h : ¬ inb H y) : fT H y = H := if_neg h
def uT (k x y : Int32) : Int32 := if k = 0 then x else y
theorem uT_t {k x y : Int32} (h : k = 0) : uT k x y = x := if_pos h
theorem uT_f {k x y : Int32} (h : ¬ k = 0) : uT k x y = y := if_neg h
theorem wth_hi {j : Nat} (h : 8 ≤ j) (hj : j < 2 ^ 31) : ¬ wth (nI j) 0 7 := fun q => absurd (wth_le (a := 0) (b := 7) q hj (by decide) (by decide)).2 (by omega)
theorem wth_lo {j : Nat} (h : j < 8) : wth (nI j) 0 7 := wth_n (a := 0) (b := 7) (by omega) (by omega) (by decide)
/-- the class's flag and told sets: now's people and hens, kept's people and hens -/
def JX (a : Nat → Nat) (w : va_W) (k P H Pk Hk : Int32) : Prop := w[0]? = some (ob (a 0) 10 [.ref (a 1), .ref (a 3), .ref (a 5), .ref (a 27), .ref (a 49), .int k, .ref (a 71), .ref (a 79), .ref (a 87), .ref (a 92), .ref (a 103), .ref (a 105), .ref (a 106), .ref (a 107), .ref (a 108), .ref (a 109), .ref (a 110), .ref (a 111), .ref (a 112)]) ∧ w[6]? = some (ob (a 6) 2 [.int H, .ref (a 7), .ref (a 8)]) ∧ w[9]? = some (ob (a 9) 4 [.int P, .ref (a 10), .ref (a 11), .ref (a 12), .ref (a 13)]) ∧ w[28]? = some (ob (a 28) 2 [.int Hk, .ref (a 29), .ref (a 30)]) ∧ w[31]? = some (ob (a 31) 4 [.int Pk, .ref (a 32), .ref (a 33), .ref (a 34), .ref (a 35)])
theorem JX_keep {a : Nat → Nat} {ws w : va_W} {k P H Pk Hk : Int32} (h : JX a ws k P H Pk Hk) (hk : keeps ws w (fun q => ¬ (q = 0 ∨ q = 6 ∨ q = 9 ∨ q = 28 ∨ q = 31))) : JX a w k P H Pk Hk :=
  ⟨keeps_at hk h.1 (fun z => z (by decide)), keeps_at hk h.2.1 (fun z => z (by decide)), keeps_at hk h.2.2.1 (fun z => z (by decide)), keeps_at hk h.2.2.2.1 (fun z => z (by decide)), keeps_at hk h.2.2.2.2 (fun z => z (by decide))⟩
