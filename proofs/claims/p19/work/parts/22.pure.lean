/-! the class's methods as functions: meters, bills, boilers -/
def rIni (sv : Nat → Int32) (n : Nat) (f : (Nat → Int32) × (Nat → Int32)) : (Nat → Int32) × (Nat → Int32) := (upd f.1 (n + 1) (sv (n + 1)), upd f.2 (n + 1) (sv (n + 1)))
/-- told, suspected, flow, accounted -/
def rTold (ca er : Nat → Int32) (j : Nat) (fl : Nat → Int32) : Int32 := if ca j = 0 then 0 else fl j + er j
def rStep (sr : Nat → Nat) (lo ca er : Nat → Int32) (n : Nat) (x : ((Nat → Int32) × (Nat → Int32)) × ((Nat → Int32) × (Nat → Int32))) : ((Nat → Int32) × (Nat → Int32)) × ((Nat → Int32) × (Nat → Int32)) :=
  ((upd x.1.1 (11 - n) (rTold ca er (11 - n) x.2.1), upd x.1.2 (11 - n) (if rTold ca er (11 - n) x.2.1 = x.2.2 (11 - n) then 0 else 1)),
   (if pHouse (nI (sr (11 - n))) = 0 then x.2.1 else upd x.2.1 (sr (11 - n)) (x.2.1 (sr (11 - n)) + (x.2.1 (11 - n) + pCL ca lo (11 - n))),
    if pHouse (nI (sr (11 - n))) = 0 then x.2.2 else upd x.2.2 (sr (11 - n)) (x.2.2 (sr (11 - n)) + (rTold ca er (11 - n) x.2.1 + pCL ca lo (11 - n)))))
def rFun (sr : Nat → Nat) (lo ca er sv to su fl ac : Nat → Int32) : ((Nat → Int32) × (Nat → Int32)) × ((Nat → Int32) × (Nat → Int32)) := itr (rStep sr lo ca er) ((to, su), itr (rIni sv) (fl, ac) 11) 11
def pPeak (w ap : Int32) : Int32 := if 2 * w ≤ ap then 0 else 1
def gStep (ht sv ar : Nat → Int32) (t pr : Int32) (n : Nat) (b : Nat → Int32) : Nat → Int32 := if ht (n + 1) = 0 then (if pWant (ar (n + 1)) t ≤ 0 then b else upd b (n + 1) (b (n + 1) - 3)) else upd b (n + 1) (b (n + 1) + pr * sv (n + 1))
def gFun (ht sv ar : Nat → Int32) (t pk : Int32) (b : Nat → Int32) : Nat → Int32 := itr (gStep ht sv ar t (if pk = 0 then 2 else 3)) b 11
def pf (stp pow left : Int32) : Nat → Int32 → Int32
  | 0, f => f
  | d + 1, f => if stp ≤ f then f else if left ≤ f * pow then f else pf stp pow left d (f + 1)
def pFire (stp pow left : Int32) : Int32 := pf stp pow left 6 0
def pUsed (stp pow left : Int32) : Int32 := imin left (pFire stp pow left * pow)
def lfb (cst : Nat → Int32) (p : Int32) : Option Nat → List Nat → Option Nat
  | last, [] => last
  | last, k :: ks => if p < cst k then last else lfb cst p (some k) ks
def findL (x : Int32) : List Nat → Option Nat
  | [] => none
  | k :: ks => if nI k = x then some k else findL x ks
/-- left, spent, steps fired -/
def fireL (stp pow cst : Nat → Int32) : List Nat → Int32 → Int32 → (Nat → Int32) → Int32 × (Nat → Int32)
  | [], _, s, f => (s, f)
  | k :: ks, l, s, f => fireL stp pow cst ks (l - pUsed (stp k) (pow k) l) (s + pUsed (stp k) (pow k) l * cst k) (va_up f k (pFire (stp k) (pow k) l))
