/-! the law of p19: its arrays, its loops as functions -/
def nF (sr : Nat → Nat) (lo ar er b : Nat → Int32) : Nat → Int32 := fun i => if i < 12 then nI (sr i) else if i < 24 then lo (i - 12) else if i < 36 then ar (i - 24) else if i < 48 then er (i - 36) else b (i - 48)
def bF (stp pow cst : Nat → Int32) : Nat → Int32 := fun i => if i < 4 then stp i else if i < 8 then pow (i - 4) else cst (i - 8)
def cF (ph lt : Int32) (n : Nat) (sp : Int32) : Nat → Int32 := fun i => if i = 0 then ph else if i = 1 then lt else if i = 2 then nI n else if i = 3 then sp else 0
section NF
variable {sr : Nat → Nat} {lo ar er b stp pow cst : Nat → Int32} {j : Nat} {x : Int32}
theorem nF_0 (h : j < 12) : nF sr lo ar er b j = nI (sr j) := by simp only [nF, if_pos h]
theorem nF_12 (h : j < 12) : nF sr lo ar er b (12 + j) = lo j := by
  simp only [nF, if_neg (show ¬ 12 + j < 12 by omega), if_pos (show 12 + j < 24 by omega), Nat.add_sub_cancel_left]
theorem nF_24 (h : j < 12) : nF sr lo ar er b (24 + j) = ar j := by
  simp only [nF, if_neg (show ¬ 24 + j < 12 by omega), if_neg (show ¬ 24 + j < 24 by omega), if_pos (show 24 + j < 36 by omega), Nat.add_sub_cancel_left]
theorem nF_36 (h : j < 12) : nF sr lo ar er b (36 + j) = er j := by
  simp only [nF, if_neg (show ¬ 36 + j < 12 by omega), if_neg (show ¬ 36 + j < 24 by omega), if_neg (show ¬ 36 + j < 36 by omega), if_pos (show 36 + j < 48 by omega), Nat.add_sub_cancel_left]
theorem nF_48 : nF sr lo ar er b (48 + j) = b j := by
  simp only [nF, if_neg (show ¬ 48 + j < 12 by omega), if_neg (show ¬ 48 + j < 24 by omega), if_neg (show ¬ 48 + j < 36 by omega), if_neg (show ¬ 48 + j < 48 by omega), Nat.add_sub_cancel_left]
theorem nF_u0 {f : Nat} (h : j < 12) : upd (nF sr lo ar er b) j (nI f) = nF (va_up sr j f) lo ar er b := by
  funext i
  by_cases hi : i = j
  · subst hi; simp only [upd, nF, va_up, if_true, if_pos h]
  · simp only [upd, nF, va_up, if_neg hi]
theorem nF_u12 (h : j < 12) : upd (nF sr lo ar er b) (12 + j) x = nF sr (upd lo j x) ar er b := by
  funext i
  by_cases hi : i = 12 + j
  · subst hi; rw [nF_12 h]; simp only [upd, if_true]
  · simp only [upd, nF, if_neg hi]
    by_cases h1 : i < 12
    · simp only [if_pos h1]
    · by_cases h2 : i < 24
      · simp only [if_neg h1, if_pos h2, if_neg (show ¬ i - 12 = j by omega)]
      · simp only [if_neg h1, if_neg h2]
theorem nF_u24 (h : j < 12) : upd (nF sr lo ar er b) (24 + j) x = nF sr lo (upd ar j x) er b := by
  funext i
  by_cases hi : i = 24 + j
  · subst hi; rw [nF_24 h]; simp only [upd, if_true]
  · simp only [upd, nF, if_neg hi]
    by_cases h1 : i < 12
    · simp only [if_pos h1]
    · by_cases h2 : i < 24
      · simp only [if_neg h1, if_pos h2]
      · by_cases h3 : i < 36
        · simp only [if_neg h1, if_neg h2, if_pos h3, if_neg (show ¬ i - 24 = j by omega)]
        · simp only [if_neg h1, if_neg h2, if_neg h3]
theorem nF_u36 (h : j < 12) : upd (nF sr lo ar er b) (36 + j) x = nF sr lo ar (upd er j x) b := by
  funext i
  by_cases hi : i = 36 + j
  · subst hi; rw [nF_36 h]; simp only [upd, if_true]
  · simp only [upd, nF, if_neg hi]
    by_cases h1 : i < 12
    · simp only [if_pos h1]
    · by_cases h2 : i < 24
      · simp only [if_neg h1, if_pos h2]
      · by_cases h3 : i < 36
        · simp only [if_neg h1, if_neg h2, if_pos h3]
        · by_cases h4 : i < 48
          · simp only [if_neg h1, if_neg h2, if_neg h3, if_pos h4, if_neg (show ¬ i - 36 = j by omega)]
          · simp only [if_neg h1, if_neg h2, if_neg h3, if_neg h4]
theorem nF_u48 : upd (nF sr lo ar er b) (48 + j) x = nF sr lo ar er (upd b j x) := by
  funext i
  by_cases hi : i = 48 + j
  · subst hi; rw [nF_48]; simp only [upd, if_true]
  · simp only [upd, nF, if_neg hi]
    by_cases h1 : i < 12
    · simp only [if_pos h1]
    · by_cases h2 : i < 24
      · simp only [if_neg h1, if_pos h2]
      · by_cases h3 : i < 36
        · simp only [if_neg h1, if_neg h2, if_pos h3]
        · by_cases h4 : i < 48
          · simp only [if_neg h1, if_neg h2, if_neg h3, if_pos h4]
          · simp only [if_neg h1, if_neg h2, if_neg h3, if_neg h4, if_neg (show ¬ i - 48 = j by omega)]
theorem bF_0 (h : j < 4) : bF stp pow cst j = stp j := by simp only [bF, if_pos h]
theorem bF_4 (h : j < 4) : bF stp pow cst (4 + j) = pow j := by
  simp only [bF, if_neg (show ¬ 4 + j < 4 by omega), if_pos (show 4 + j < 8 by omega), Nat.add_sub_cancel_left]
theorem bF_8 : bF stp pow cst (8 + j) = cst j := by
  simp only [bF, if_neg (show ¬ 8 + j < 4 by omega), if_neg (show ¬ 8 + j < 8 by omega), Nat.add_sub_cancel_left]
theorem bF_u0 (h : j < 4) : upd (bF stp pow cst) j x = bF (va_up stp j x) pow cst := by
  funext i
  by_cases hi : i = j
  · subst hi; simp only [upd, bF, va_up, if_true, if_pos h]
  · simp only [upd, bF, va_up, if_neg hi]
theorem bF_u4 (h : j < 4) : upd (bF stp pow cst) (4 + j) x = bF stp (va_up pow j x) cst := by
  funext i
  by_cases hi : i = 4 + j
  · subst hi; rw [bF_4 h]; simp only [upd, va_up, if_true]
  · simp only [upd, bF, va_up, if_neg hi]
    by_cases h1 : i < 4
    · simp only [if_pos h1]
    · by_cases h2 : i < 8
      · simp only [if_neg h1, if_pos h2, if_neg (show ¬ i - 4 = j by omega)]
      · simp only [if_neg h1, if_neg h2]
theorem bF_u8 : upd (bF stp pow cst) (8 + j) x = bF stp pow (va_up cst j x) := by
  funext i
  by_cases hi : i = 8 + j
  · subst hi; rw [bF_8]; simp only [upd, va_up, if_true]
  · simp only [upd, bF, va_up, if_neg hi]
    by_cases h1 : i < 4
    · simp only [if_pos h1]
    · by_cases h2 : i < 8
      · simp only [if_neg h1, if_pos h2]
      · simp only [if_neg h1, if_neg h2, if_neg (show ¬ i - 8 = j by omega)]
end NF
section CF
variable {ph lt sp x : Int32} {n k : Nat}
theorem cF_u0 : upd (cF ph lt n sp) 0 x = cF x lt n sp := by
  funext i; simp only [upd, cF]; by_cases h : i = 0 <;> simp only [h, if_true, if_false]
theorem cF_u1 : upd (cF ph lt n sp) 1 x = cF ph x n sp := by
  funext i; simp only [upd, cF]
  by_cases h : i = 1
  · subst h; rfl
  · simp only [if_neg h]
theorem cF_u2 : upd (cF ph lt n sp) 2 (nI k) = cF ph lt k sp := by
  funext i; simp only [upd, cF]
  by_cases h : i = 2
  · subst h; rfl
  · simp only [if_neg h]
theorem cF_u3 : upd (cF ph lt n sp) 3 x = cF ph lt n x := by
  funext i; simp only [upd, cF]
  by_cases h : i = 3
  · subst h; rfl
  · simp only [if_neg h]
end CF
/-- 'a && b' as an int -/
def and2 (a b : Int32) : Int32 := if a = 0 then 0 else if b = 0 then 0 else 1
/-- ways: where a junction's heat stands when the n highest junctions have handed theirs down -/
def pN (sr : Nat → Nat) : Nat → Nat → Nat
  | 0, y => y
  | n + 1, y => if pN sr n y = 11 - n then sr (11 - n) else pN sr n y
def onw (sr : Nat → Nat) (k y : Nat) : Prop := pN sr (11 - k) y = k
/-- heat on the way of a junction -/
def hq (sr : Nat → Nat) (sh ht : Nat → Int32) (k : Nat) : Int32 := if k = 0 then 1 else hFun sr sh ht k
/-- a bit of a set -/
def sb (S : Int32) (k : Nat) : Int32 := (S >>> (nI k &&& 31)) &&& 1
/-- losses by the set -/
def bL (S : Int32) (lo : Nat → Int32) : Int32 := itr (fun i s => s + (if sb S (i + 1) = 1 then lo (i + 1) else 0)) 0 11
/-- serving -/
def kS (left d : Int32) : Int32 := if left < 0 then 0 else if left < d then left else d
def jStep (n : Nat) (v : (Nat → Int32) × Int32) : (Nat → Int32) × Int32 := (upd v.1 (n + 1) (kS v.2 (v.1 (n + 1))), v.2 - kS v.2 (v.1 (n + 1)))
def jFun (d : Nat → Int32) (left : Int32) (n : Nat) : (Nat → Int32) × Int32 := itr jStep (d, left) n
def coldF (h ar : Nat → Int32) (t : Int32) (j : Nat) : Int32 := if h j = 0 then (if ar j ≤ 0 then 0 else if t < 18 then 1 else 0) else 0
def bStp (d : Nat → Int32) (left : Int32) (h ar : Nat → Int32) (t pr : Int32) (n : Nat) (b : Nat → Int32) : Nat → Int32 := upd b (n + 1) (b (n + 1) + (pr * (jFun d left (n + 1)).1 (n + 1) - (if coldF h ar t (n + 1) = 0 then 0 else 3)))
def bFun (d : Nat → Int32) (left : Int32) (h ar : Nat → Int32) (t pr : Int32) (b : Nat → Int32) (n : Nat) : Nat → Int32 := itr (bStp d left h ar t pr) b n
/-- meters -/
def tq (sr : Nat → Nat) (lo dd : Nat → Int32) (S : Int32) (j o : Nat) : Int32 := if pN sr (11 - j) o = j ∧ sb S o = 1 then dd o + (if o = j then 0 else lo o) else 0
def mT (sr : Nat → Nat) (lo er dd : Nat → Int32) (S : Int32) (j n : Nat) : Int32 := itr (fun i s => s + tq sr lo dd S j (j + i)) (if sb S j = 1 then er j else 0) n
def bq (sr : Nat → Nat) (er : Nat → Int32) (S : Int32) (j o : Nat) : Int32 := if sr o = j ∧ sb S o = 1 then er o else 0
def mB (sr : Nat → Nat) (er : Nat → Int32) (S : Int32) (j n : Nat) : Int32 := itr (fun i s => s + bq sr er S j (j + i)) 0 n
def mS9 (sr : Nat → Nat) (er : Nat → Int32) (S : Int32) (j n : Nat) : Int32 := if sb S j = 1 then (if er j = mB sr er S j n then 0 else 1) else 0
/-- boilers -/
def isA (cst : Nat → Int32) (k o : Nat) : Int32 := if cst o < cst k then 1 else if cst o = cst k then (if nI k ≤ nI o then 0 else 1) else 0
def ahd (stp pow cst : Nat → Int32) (k n : Nat) : Int32 := itr (fun o s => s + (if isA cst k o = 0 then 0 else stp o * pow o)) 0 n
def lft (w a : Int32) : Int32 := if w ≤ a then 0 else w - a
def gvn (stp pow cst : Nat → Int32) (w : Int32) (N n : Nat) : Int32 := itr (fun k s => s + (if stp k * pow k ≤ lft w (ahd stp pow cst k N) then stp k * pow k else lft w (ahd stp pow cst k N)) * cst k) 0 n
/-- houses without heat -/
def dueF (h ar : Nat → Int32) (n : Nat) : Int32 := itr (fun i s => s + (if ar (i + 1) ≤ 0 then 0 else if h (i + 1) = 0 then 1 else 0)) 0 n
theorem ite_0 {p : Prop} [Decidable p] (h : (if p then (1 : Int32) else 0) = 0) : ¬ p := fun hp => by rw [if_pos hp] at h; exact absurd h (by decide)
theorem ite_n0 {p : Prop} [Decidable p] (h : ¬ (if p then (1 : Int32) else 0) = 0) : p := Classical.byContradiction (fun hp => h (if_neg hp))
theorem ite01 {p : Prop} [Decidable p] : (if p then (1 : Int32) else 0) = 0 ∨ (if p then (1 : Int32) else 0) = 1 := by
  by_cases h : p
  · exact Or.inr (if_pos h)
  · exact Or.inl (if_neg h)
theorem and2_step {a s q : Int32} : (if and2 a (if s = 0 then 1 else 0) = 0 then 0 else q) = if a = 0 then 0 else (if s = 0 then q else 0) := by
  have h10 : ¬ (1 : Int32) = 0 := by decide
  unfold and2
  by_cases h : a = 0
  · simp only [if_pos h, if_true]
  · by_cases h2 : s = 0
    · simp only [if_neg h, if_pos h2, if_neg h10]
    · simp only [if_neg h, if_neg h2, if_true]
theorem and2_01 {a b : Int32} : and2 a b = 0 ∨ and2 a b = 1 := by
  unfold and2
  by_cases h : a = 0
  · exact Or.inl (if_pos h)
  · rw [if_neg h]
    by_cases h2 : b = 0
    · exact Or.inl (if_pos h2)
    · exact Or.inr (if_neg h2)
section PW
variable {sr : Nat → Nat}
theorem hq_pos {sh ht : Nat → Int32} {k : Nat} (h : 1 ≤ k) : hq sr sh ht k = hFun sr sh ht k := if_neg (by omega)
theorem pN_small : ∀ n, n ≤ 11 → ∀ y, y ≤ 11 - n → pN sr n y = y := by
  intro n
  induction n with
  | zero => intro _ y _; rfl
  | succ n ih =>
    intro hn y hy
    simp only [pN, ih (by omega) y (by omega)]
    rw [if_neg (by omega)]
theorem pN_src (hsr : ∀ j, 1 ≤ j → j < 12 → sr j < j) {y : Nat} (h1 : 1 ≤ y) (h2 : y ≤ 11) : ∀ n, n ≤ 11 → 11 - n < y → pN sr n y = pN sr n (sr y) := by
  intro n
  induction n with
  | zero => intro _ h; omega
  | succ n ih =>
    intro hn h
    have hs := hsr y h1 (by omega)
    by_cases hy : 11 - n < y
    · simp only [pN, ih (by omega) hy]
    · have e : 11 - n = y := by omega
      simp only [pN, pN_small n (by omega) y (by omega), pN_small n (by omega) (sr y) (by omega), e, if_true]
      rw [if_neg (by omega)]
theorem onw_rec (hsr : ∀ j, 1 ≤ j → j < 12 → sr j < j) {k y : Nat} (hk : 1 ≤ k) (hk2 : k ≤ 11) (h1 : 1 ≤ y) (h2 : y ≤ 11) : onw sr k y ↔ (k = y ∨ onw sr k (sr y)) := by
  have hs := hsr y h1 (by omega)
  unfold onw
  by_cases h : y ≤ k
  · rw [pN_small (11 - k) (by omega) y (by omega), pN_small (11 - k) (by omega) (sr y) (by omega)]
    omega
  · rw [pN_src hsr h1 h2 (11 - k) (by omega) (by omega)]
    constructor
    · exact Or.inr
    · rintro (h9 | h9)
      · omega
      · exact h9
theorem onw_0 {k : Nat} (hk : 1 ≤ k) : ¬ onw sr k 0 := by
  unfold onw
  rw [pN_small (11 - k) (by omega) 0 (by omega)]
  omega
theorem pN_step (hsr : ∀ j, 1 ≤ j → j < 12 → sr j < j) {k y : Nat} (hk2 : k ≤ 11) (h1 : k < y) (h2 : y ≤ 11) : pN sr (11 - k) y = pN sr (11 - k) (sr y) := pN_src hsr (by omega) h2 (11 - k) (by omega) (by omega)
theorem pN_at {k : Nat} (hk2 : k ≤ 11) {y : Nat} (h : y ≤ k) : pN sr (11 - k) y = y := pN_small (11 - k) (by omega) y (by omega)
/-- heat, junction by junction -/
theorem h_at (hsr : ∀ j, 1 ≤ j → j < 12 → sr j < j) (sh ht : Nat → Int32) : ∀ n, n ≤ 11 → ∀ j, 1 ≤ j → j ≤ n → itr (hStep sr sh) ht n j = if (sr j = 0 ∨ ¬ itr (hStep sr sh) ht n (sr j) = 0) ∧ sh j = 0 then 1 else 0 := by
  intro n
  induction n with
  | zero => intro _ j a b; omega
  | succ n ih =>
    intro hn j a b
    have hs := hsr j a (by omega)
    have e : ∀ i, i ≠ n + 1 → itr (hStep sr sh) ht (n + 1) i = itr (hStep sr sh) ht n i := fun i hi => by
      show upd _ (n + 1) _ i = _
      simp only [upd, if_neg hi]
    rw [e (sr j) (by omega)]
    by_cases hj : j = n + 1
    · subst hj
      show upd _ (n + 1) _ (n + 1) = _
      simp only [upd, if_true]
      have hp : pHouse (nI (sr (n + 1))) = 0 ↔ sr (n + 1) = 0 := by
        have K : ∀ k, k < 12 → (pHouse (nI k) = 0 ↔ k = 0) := by decide
        exact K _ (by omega)
      simp only [hp]
    · rw [e j hj]
      exact ih (by omega) j a (by omega)
theorem hq_01 (hsr : ∀ j, 1 ≤ j → j < 12 → sr j < j) {sh ht : Nat → Int32} {k : Nat} (h : k ≤ 11) : hq sr sh ht k = 0 ∨ hq sr sh ht k = 1 := by
  unfold hq
  by_cases h0 : k = 0
  · rw [if_pos h0]; exact Or.inr rfl
  · rw [if_neg h0]
    unfold hFun
    rw [h_at hsr sh ht 11 (Nat.le_refl _) k (by omega) h]
    split
    · exact Or.inr rfl
    · exact Or.inl rfl
theorem hq_rec (hsr : ∀ j, 1 ≤ j → j < 12 → sr j < j) {sh ht : Nat → Int32} {k : Nat} (h1 : 1 ≤ k) (h : k ≤ 11) : hq sr sh ht k = if sh k = 0 then hq sr sh ht (sr k) else 0 := by
  have hs := hsr k h1 (by omega)
  have e : hq sr sh ht k = if (sr k = 0 ∨ ¬ hFun sr sh ht (sr k) = 0) ∧ sh k = 0 then 1 else 0 := by
    unfold hq
    rw [if_neg (by omega)]
    exact h_at hsr sh ht 11 (Nat.le_refl _) k h1 h
  rw [e]
  by_cases h9 : sh k = 0
  · rw [if_pos h9]
    unfold hq
    by_cases h0 : sr k = 0
    · rw [if_pos ⟨Or.inl h0, h9⟩, if_pos h0]
    · rw [if_neg h0]
      rcases hq_01 hsr (sh := sh) (ht := ht) (k := sr k) (by omega) with h8 | h8
      · unfold hq at h8
        rw [if_neg h0] at h8
        rw [if_neg (fun h7 => h7.1.elim h0 (fun h6 => h6 h8)), h8]
      · unfold hq at h8
        rw [if_neg h0] at h8
        rw [if_pos ⟨Or.inr (by rw [h8]; decide), h9⟩, h8]
  · rw [if_neg h9, if_neg (fun h8 => h9 h8.2)]
end PW
