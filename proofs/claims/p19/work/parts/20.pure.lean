/-! the class's methods as functions: statics, and the net -/
theorem vpz0 : vp_nar .boolean 0 = 0 := by decide
theorem vpz1 : vp_nar .boolean 1 = 1 := by decide
def pHouse (x : Int32) : Int32 := if x < 1 then 0 else if 12 ≤ x then 0 else 1
def pWithin (v a b : Int32) : Int32 := if v < a then 0 else if b < v then 0 else 1
def pWant (a t : Int32) : Int32 := if t < 18 then (a * (18 - t) + 9) / 10 else 0
def imin (x y : Int32) : Int32 := if y < x then y else x
def imax (x y : Int32) : Int32 := if x < y then y else x
def hStep (sr : Nat → Nat) (sh : Nat → Int32) (n : Nat) (h : Nat → Int32) : Nat → Int32 := upd h (n + 1) (if (pHouse (nI (sr (n + 1))) = 0 ∨ ¬ h (sr (n + 1)) = 0) ∧ sh (n + 1) = 0 then 1 else 0)
def hFun (sr : Nat → Nat) (sh h : Nat → Int32) : Nat → Int32 := itr (hStep sr sh) h 11
def cIni (dm : Nat → Int32) (n : Nat) (c : Nat → Int32) : Nat → Int32 := upd c (n + 1) (if dm (n + 1) ≤ 0 then 0 else 1)
def cStep (sr : Nat → Nat) (n : Nat) (c : Nat → Int32) : Nat → Int32 := if c (11 - n) = 0 then c else if pHouse (nI (sr (11 - n))) = 0 then c else upd c (sr (11 - n)) 1
def cFun (sr : Nat → Nat) (dm c : Nat → Int32) : Nat → Int32 := itr (cStep sr) (itr (cIni dm) c 11) 11
def pCL (ca lo : Nat → Int32) (k : Nat) : Int32 := if pHouse (nI k) = 0 then 0 else if ca k = 0 then 0 else lo k
def dStep (ht ar : Nat → Int32) (t : Int32) (n : Nat) (d : (Nat → Int32) × Int32) : (Nat → Int32) × Int32 := (upd d.1 (n + 1) (if ht (n + 1) = 0 then 0 else pWant (ar (n + 1)) t), d.2 + (if ht (n + 1) = 0 then 0 else pWant (ar (n + 1)) t))
def dFun (ht ar : Nat → Int32) (t : Int32) (d : Nat → Int32) : (Nat → Int32) × Int32 := itr (dStep ht ar t) (d, 0) 11
def lStep (ca lo : Nat → Int32) (n : Nat) (s : Int32) : Int32 := s + pCL ca lo (n + 1)
def lFun (ca lo : Nat → Int32) : Int32 := itr (lStep ca lo) 0 11
def sStep (dm : Nat → Int32) (n : Nat) (v : (Nat → Int32) × Int32) : (Nat → Int32) × Int32 := (upd v.1 (n + 1) (imin (dm (n + 1)) v.2), v.2 - imin (dm (n + 1)) v.2)
def sFun (dm v : Nat → Int32) (left : Int32) : Nat → Int32 := (itr (sStep dm) (v, left) 11).1
def nStep (ar ht : Nat → Int32) (n : Nat) (c : Int32) : Int32 := if ar (n + 1) ≤ 0 then c else if ht (n + 1) = 0 then c + 1 else c
def nFun (ar ht : Nat → Int32) : Int32 := itr (nStep ar ht) 0 11
def eStep (n : Nat) (s : Nat → Int32) : Nat → Int32 := if s (n + 1) ≤ 0 then s else upd s (n + 1) (s (n + 1) - 1)
def eFun (s : Nat → Int32) : Nat → Int32 := itr eStep s 11
/-- survey: demands and their sum, pipes that carry, losses, the load -/
def oD (sr : Nat → Nat) (ar sh ht dm : Nat → Int32) (t : Int32) : (Nat → Int32) × Int32 := dFun (hFun sr sh ht) ar t dm
def oC (sr : Nat → Nat) (ar sh ht dm ca : Nat → Int32) (t : Int32) : Nat → Int32 := cFun sr (oD sr ar sh ht dm t).1 ca
def oL (sr : Nat → Nat) (lo ar sh ht dm ca : Nat → Int32) (t : Int32) : Int32 := lFun (oC sr ar sh ht dm ca t) lo
def oW (sr : Nat → Nat) (lo ar sh ht dm ca : Nat → Int32) (t : Int32) : Int32 := (oD sr ar sh ht dm t).2 + oL sr lo ar sh ht dm ca t
def lIni (n : Nat) (f : Nat → Int32) : Nat → Int32 := upd f (n + 1) 1
theorem upd_at_ne {f : Nat → Int32} {j k : Nat} {x : Int32} (h : k ≠ j) : upd f j x k = f k := pk_un h
