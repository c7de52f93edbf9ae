/-! the reference's methods as functions -/
theorem pHouse_eq (x : Int32) : pWithin x 1 11 = pHouse x := by
  have h : (12 ≤ x) ↔ (11 < x) := by
    rw [Int32.le_iff_toInt_le, Int32.lt_iff_toInt_lt, show (12 : Int32).toInt = 12 from rfl, show (11 : Int32).toInt = 11 from rfl]
    omega
  simp only [pWithin, pHouse]
  split
  · rfl
  · by_cases h1 : 11 < x
    · rw [if_pos h1, if_pos (h.mpr h1)]
    · rw [if_neg h1, if_neg (fun h2 => h1 (h.mp h2))]
theorem if00 {α : Type} {a b : α} : (if (0 : Int32) ≤ 0 then a else b) = a := if_pos (by decide)
def pHolds (x : Int32) : Int32 := if x = 0 then 1 else 0
def mhStep (sr : Nat → Nat) (sh : Nat → Int32) (n : Nat) (h : Nat → Int32) : Nat → Int32 := upd h (n + 1) (if sh (n + 1) = 0 then (if h (sr (n + 1)) = 0 then 0 else 1) else 0)
def mhFun (sr : Nat → Nat) (sh h : Nat → Int32) : Nat → Int32 := itr (mhStep sr sh) (upd h 0 1) 11
def mdRepair (j h sh ph lt : Int32) : Int32 := if pHouse j = 0 then 1 else if pWithin h 1 20 = 0 then 1 else if sh = 0 then (if ph = 0 then 0 else if lt < 10 then 2 else 0) else 2
def mdBoiler (s p c cn : Int32) : Int32 := if pWithin s 1 5 = 0 then 1 else if pWithin p 1 100 = 0 then 1 else if pWithin c 1 100 = 0 then 1 else if cn = 4 then 2 else 0
def mdFired (x : Int32) (n : Nat) : Int32 := if pWithin x 0 (nI n - 1) = 0 then 1 else 0
def mnStep (ar ht : Nat → Int32) (n : Nat) (c : Int32) : Int32 := c + (if ar (n + 1) ≤ 0 then 0 else if ht (n + 1) = 0 then 1 else 0)
def mnFun (ar ht : Nat → Int32) : Int32 := itr (mnStep ar ht) 0 11
/-- demands, carries, load -/
def mV (ht ar : Nat → Int32) (t : Int32) (n : Nat) : Int32 := if ht (n + 1) = 0 then 0 else pWant (ar (n + 1)) t
def m1Step (ht ar : Nat → Int32) (t : Int32) (n : Nat) (x : (Nat → Int32) × (Nat → Int32) × Int32) : (Nat → Int32) × (Nat → Int32) × Int32 := (upd x.1 (n + 1) (mV ht ar t n), upd x.2.1 (n + 1) (if mV ht ar t n ≤ 0 then 0 else 1), x.2.2 + mV ht ar t n)
def m1Fun (ht ar : Nat → Int32) (t : Int32) (d c : Nat → Int32) : (Nat → Int32) × (Nat → Int32) × Int32 := itr (m1Step ht ar t) (d, c, 0) 11
def m2C (sr : Nat → Nat) (n : Nat) (c : Nat → Int32) : Nat → Int32 := upd c (sr (11 - n)) (if c (sr (11 - n)) = 0 then (if c (11 - n) = 0 then 0 else 1) else 1)
def m2Step (sr : Nat → Nat) (lo : Nat → Int32) (n : Nat) (x : (Nat → Int32) × Int32) : (Nat → Int32) × Int32 := (m2C sr n x.1, x.2 + (if m2C sr n x.1 (11 - n) = 0 then 0 else lo (11 - n)))
def m2Fun (sr : Nat → Nat) (lo c : Nat → Int32) (s : Int32) : (Nat → Int32) × Int32 := itr (m2Step sr lo) (c, s) 11
/-- lays: hasHeat, demands, carries, load -/
def yH (sr : Nat → Nat) (sh ht : Nat → Int32) : Nat → Int32 := mhFun sr sh ht
def yM (sr : Nat → Nat) (ar sh ht dm ca : Nat → Int32) (t : Int32) : (Nat → Int32) × (Nat → Int32) × Int32 := m1Fun (yH sr sh ht) ar t dm ca
def yC (sr : Nat → Nat) (lo ar sh ht dm ca : Nat → Int32) (t : Int32) : (Nat → Int32) × Int32 := m2Fun sr lo (yM sr ar sh ht dm ca t).2.1 (yM sr ar sh ht dm ca t).2.2
/-- next -/
def nxB (cst : Nat → Int32) (last : Option Nat) (b : Nat) : Bool := match last with
  | none => true
  | some g => if cst g < cst b then true else if cst b = cst g then (if b ≤ g then false else true) else false
def nxStep (n : Nat) (cst : Nat → Int32) (last : Option Nat) (i : Nat) (f : Option Nat) : Option Nat := if nxB cst last (n - 1 - i) = true then (match f with
  | none => some (n - 1 - i)
  | some g => if cst g < cst (n - 1 - i) then some g else some (n - 1 - i)) else f
def nxF (n : Nat) (cst : Nat → Int32) (last : Option Nat) : Option Nat := itr (nxStep n cst last) none n
def eO : Option Nat → Int32
  | none => -1
  | some k => nI k
theorem nxI_lt {n : Nat} {cst : Nat → Int32} {last : Option Nat} {i f : Nat} (hi : i ≤ n) (h : itr (nxStep n cst last) none i = some f) : f < n := by
  have K := itr_inv (s1 := nxStep n cst last) (a := none) (fun i x => ∀ f, x = some f → f < n) n (fun f h => by cases h) (fun i x hi hx f h => ?_) i hi
  · exact K f h
  · simp only [nxStep] at h
    split at h
    · split at h
      · cases h; omega
      · split at h
        · cases h; exact hx _ rfl
        · cases h; omega
    · exact hx f h
/-- fires -/
def mIts (s p l : Int32) : Int32 := if (l + p - 1) / p ≤ s then (l + p - 1) / p else s
def mUsed (s p l : Int32) : Int32 := if l ≤ mIts s p l * p then l else mIts s p l * p
def mfireL (stp pow cst : Nat → Int32) : List Nat → Int32 → Int32 → (Nat → Int32) → Int32 × (Nat → Int32)
  | [], _, s, f => (s, f)
  | k :: ks, l, s, f => mfireL stp pow cst ks (l - mUsed (stp k) (pow k) l) (s + mUsed (stp k) (pow k) l * cst k) (upd f k (mIts (stp k) (pow k) l))
/-- power -/
def mpStep (stp pow : Nat → Int32) (i : Nat) (s : Int32) : Int32 := s + stp i * pow i
def mpFun (stp pow : Nat → Int32) (n : Nat) : Int32 := itr (mpStep stp pow) 0 n
/-- serves -/
def mlsStep (ca lo : Nat → Int32) (n : Nat) (s : Int32) : Int32 := s + (if ca (n + 1) = 0 then 0 else lo (n + 1))
def mlsFun (ca lo : Nat → Int32) : Int32 := itr (mlsStep ca lo) 0 11
def mLeft (P w ls : Int32) : Int32 := if w ≤ P then w else P - ls
def mgV (dm : Nat → Int32) (n : Nat) (left : Int32) : Int32 := if (if 0 ≤ left then left else 0) ≤ dm (n + 1) then (if 0 ≤ left then left else 0) else dm (n + 1)
def mgStep (dm : Nat → Int32) (n : Nat) (x : (Nat → Int32) × Int32) : (Nat → Int32) × Int32 := (upd x.1 (n + 1) (mgV dm n x.2), x.2 - mgV dm n x.2)
def mgFun (dm g : Nat → Int32) (left : Int32) : Nat → Int32 := (itr (mgStep dm) (g, left) 11).1
/-- measures -/
def me1 (go : Nat → Int32) (n : Nat) (m : Nat → Int32) : Nat → Int32 := upd m (n + 1) (go (n + 1))
def me2 (sr : Nat → Nat) (ca lo : Nat → Int32) (n : Nat) (m : Nat → Int32) : Nat → Int32 := if nI (sr (11 - n)) ≤ 0 then m else if ca (11 - n) = 0 then m else upd m (sr (11 - n)) (m (sr (11 - n)) + (m (11 - n) + lo (11 - n)))
def biStep (sr : Nat → Nat) (ca er : Nat → Int32) (n i : Nat) (b : Int32) : Int32 := b + (if nI (sr (n + 2 + i)) = nI (n + 1) then (if ca (n + 2 + i) = 0 then 0 else er (n + 2 + i)) else 0)
def wrong (ca er : Nat → Int32) (n : Nat) : Int32 := if ca (n + 1) = 0 then 0 else er (n + 1)
def me3 (sr : Nat → Nat) (ca er : Nat → Int32) (n : Nat) (x : (Nat → Int32) × (Nat → Int32)) : (Nat → Int32) × (Nat → Int32) := (upd x.1 (n + 1) (x.1 (n + 1) + wrong ca er n), upd x.2 (n + 1) (if wrong ca er n = itr (biStep sr ca er n) 0 (10 - n) then 0 else 1))
def meFun (sr : Nat → Nat) (lo ca er go me su : Nat → Int32) : (Nat → Int32) × (Nat → Int32) := itr (me3 sr ca er) (itr (me2 sr ca lo) (itr (me1 go) me 11) 11, su) 11
/-- bills -/
def mPr (w P : Int32) : Int32 := if 2 * w ≤ P then 2 else 3
def mbStep (ht go ar : Nat → Int32) (t pr : Int32) (n : Nat) (b : Nat → Int32) : Nat → Int32 := upd b (n + 1) (b (n + 1) + (pr * go (n + 1) - (if ht (n + 1) = 0 then (if pWant (ar (n + 1)) t ≤ 0 then 0 else 3) else 0)))
def mbFun (ht go ar : Nat → Int32) (t pr : Int32) (b : Nat → Int32) : Nat → Int32 := itr (mbStep ht go ar t pr) b 11
def mSh (n : Nat) (s : Nat → Int32) : Nat → Int32 := upd s (n + 1) (s (n + 1) - (if s (n + 1) ≤ 0 then 0 else 1))
def mShF (s : Nat → Int32) : Nat → Int32 := itr mSh s 11
theorem pW_in {x : Int32} {n : Nat} (hn : n ≤ 4) (h : ¬ pWithin x 0 (nI n - 1) = 0) : vp_in x 4 := by
  rw [vp_in_iff]
  simp only [pWithin] at h
  split at h
  · simp at h
  · split at h
    · simp at h
    · rename_i h1 h2
      rw [Int32.lt_iff_toInt_lt, show (0 : Int32).toInt = 0 from rfl] at h1
      rcases (show n = 0 ∨ n = 1 ∨ n = 2 ∨ n = 3 ∨ n = 4 by omega) with rfl | rfl | rfl | rfl | rfl
      · rw [Int32.lt_iff_toInt_lt, show (nI 0 - 1 : Int32).toInt = -1 from by decide] at h2; omega
      · rw [Int32.lt_iff_toInt_lt, show (nI 1 - 1 : Int32).toInt = 0 from by decide] at h2; omega
      · rw [Int32.lt_iff_toInt_lt, show (nI 2 - 1 : Int32).toInt = 1 from by decide] at h2; omega
      · rw [Int32.lt_iff_toInt_lt, show (nI 3 - 1 : Int32).toInt = 2 from by decide] at h2; omega
      · rw [Int32.lt_iff_toInt_lt, show (nI 4 - 1 : Int32).toInt = 3 from by decide] at h2; omega
