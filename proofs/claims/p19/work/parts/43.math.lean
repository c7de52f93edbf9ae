/-! numbers; sums; the net: class and reference alike -/
theorem i_add {a b : Int32} (h1 : -2147483648 ≤ a.toInt + b.toInt) (h2 : a.toInt + b.toInt < 2147483648) : (a + b).toInt = a.toInt + b.toInt := by
  rw [Int32.toInt_add]
  exact Int.bmod_eq_of_le (by omega) (by omega)
theorem i_sub {a b : Int32} (h1 : -2147483648 ≤ a.toInt - b.toInt) (h2 : a.toInt - b.toInt < 2147483648) : (a - b).toInt = a.toInt - b.toInt := by
  rw [Int32.toInt_sub]
  exact Int.bmod_eq_of_le (by omega) (by omega)
theorem i_lt {a b : Int32} : a < b ↔ a.toInt < b.toInt := Int32.lt_iff_toInt_lt
theorem i_le {a b : Int32} : a ≤ b ↔ a.toInt ≤ b.toInt := Int32.le_iff_toInt_le
theorem i_eq {a b : Int32} : a = b ↔ a.toInt = b.toInt := Int32.toInt_inj.symm
theorem i_0 : (0 : Int32).toInt = 0 := rfl
theorem i_min {a b : Int32} : (imin a b).toInt = min a.toInt b.toInt := by
  unfold imin
  split
  · rename_i h; rw [i_lt] at h; omega
  · rename_i h; rw [i_lt] at h; omega
theorem i_max {a b : Int32} : (imax a b).toInt = max a.toInt b.toInt := by
  unfold imax
  split
  · rename_i h; rw [i_lt] at h; omega
  · rename_i h; rw [i_lt] at h; omega
theorem pH_nI : ∀ k, k < 12 → pHouse (nI k) = if k = 0 then 0 else 1 := by decide
theorem nI_le0 : ∀ k, k < 12 → (nI k ≤ 0 ↔ k = 0) := by decide
def sumUp (f : Nat → Int32) (n : Nat) : Int32 := itr (fun i s => s + f (i + 1)) 0 n
def sumDn (f : Nat → Int32) (n : Nat) : Int32 := itr (fun i s => s + f (11 - i)) 0 n
def sumFr (f : Nat → Int32) (a n : Nat) : Int32 := itr (fun i s => s + f (a + i)) 0 n
theorem sumUp_s (f : Nat → Int32) (n : Nat) : sumUp f (n + 1) = sumUp f n + f (n + 1) := rfl
theorem sumDn_s (f : Nat → Int32) (n : Nat) : sumDn f (n + 1) = sumDn f n + f (11 - n) := rfl
theorem sumFr_s (f : Nat → Int32) (a n : Nat) : sumFr f a (n + 1) = sumFr f a n + f (a + n) := rfl
theorem sum_dn_up (f : Nat → Int32) : sumDn f 11 = sumUp f 11 := by
  simp only [sumDn, sumUp, itr]
  simp only [Nat.reduceSub, Nat.reduceAdd, Nat.zero_add, Nat.sub_zero, Int32.zero_add]
  ac_rfl
theorem sum_fr_up (f : Nat → Int32) : sumFr f 1 11 = sumUp f 11 := by
  simp only [sumFr, sumUp, itr, Nat.reduceAdd, Nat.zero_add, Nat.add_zero]
theorem sumUp_congr {f g : Nat → Int32} : ∀ n, (∀ j, 1 ≤ j → j ≤ n → f j = g j) → sumUp f n = sumUp g n := by
  intro n
  induction n with
  | zero => intro _; rfl
  | succ n ih => intro h; rw [sumUp_s, sumUp_s, ih (fun j h1 h2 => h j h1 (by omega)), h (n + 1) (by omega) (by omega)]
theorem sumFr_congr {f g : Nat → Int32} {a : Nat} : ∀ n, (∀ i, i < n → f (a + i) = g (a + i)) → sumFr f a n = sumFr g a n := by
  intro n
  induction n with
  | zero => intro _; rfl
  | succ n ih => intro h; rw [sumFr_s, sumFr_s, ih (fun i hi => h i (by omega)), h n (by omega)]
theorem sumFr_split (f : Nat → Int32) (a m : Nat) : ∀ n, sumFr f a (m + n) = sumFr f a m + sumFr f (a + m) n := by
  intro n
  induction n with
  | zero => show sumFr f a m = sumFr f a m + 0; rw [Int32.add_zero]
  | succ n ih => rw [show m + (n + 1) = (m + n) + 1 by omega, sumFr_s, ih, sumFr_s, Int32.add_assoc, show a + (m + n) = a + m + n by omega]
theorem sumFr_zero {f : Nat → Int32} {a : Nat} : ∀ n, (∀ i, i < n → f (a + i) = 0) → sumFr f a n = 0 := by
  intro n
  induction n with
  | zero => intro _; rfl
  | succ n ih => intro h; rw [sumFr_s, ih (fun i hi => h i (by omega)), h n (by omega)]; rfl
theorem sumDn_stop {f : Nat → Int32} {j : Nat} (hf : ∀ o, 1 ≤ o → o ≤ j → f o = 0) : ∀ d, d ≤ j → j ≤ 11 → sumDn f (11 - j + d) = sumDn f (11 - j) := by
  intro d
  induction d with
  | zero => intro _ _; rfl
  | succ d ih =>
    intro h1 h2
    rw [show 11 - j + (d + 1) = (11 - j + d) + 1 by omega, sumDn_s, ih (by omega) h2, hf _ (by omega) (by omega), Int32.add_zero]
theorem sumUp_bd {f : Nat → Int32} {B : Int} (hB : B ≤ 1000) : ∀ n, n ≤ 11 → (∀ j, 1 ≤ j → j ≤ n → 0 ≤ (f j).toInt ∧ (f j).toInt ≤ B) → 0 ≤ (sumUp f n).toInt ∧ (sumUp f n).toInt ≤ B * n := by
  intro n
  induction n with
  | zero => intro _ _; exact ⟨by show 0 ≤ (0 : Int32).toInt; rw [i_0]; omega, by show (0 : Int32).toInt ≤ _; rw [i_0]; simp⟩
  | succ n ih =>
    intro hn h
    obtain ⟨h1, h2⟩ := ih (by omega) (fun j a b => h j a (by omega))
    obtain ⟨h3, h4⟩ := h (n + 1) (by omega) (by omega)
    have hB0 : 0 ≤ B := by omega
    have h5 : B * n ≤ 1000 * n := Int.mul_le_mul_of_nonneg_right hB (by omega)
    have h6 : B * ((n + 1 : Nat) : Int) = B * n + B := by rw [Int.natCast_add, Int.mul_add]; simp
    rw [sumUp_s, i_add (by omega) (by omega), h6]
    omega
theorem sumUp_mono {f : Nat → Int32} {B : Int} (hB : B ≤ 1000) (h : ∀ j, 1 ≤ j → j ≤ 11 → 0 ≤ (f j).toInt ∧ (f j).toInt ≤ B) {n : Nat} (hn : n < 11) : (sumUp f (n + 1)).toInt = (sumUp f n).toInt + (f (n + 1)).toInt := by
  obtain ⟨h1, h2⟩ := sumUp_bd hB n (by omega) (fun j a b => h j a (by omega))
  obtain ⟨h3, h4⟩ := h (n + 1) (by omega) (by omega)
  have h5 : B * n ≤ 1000 * n := Int.mul_le_mul_of_nonneg_right hB (by omega)
  rw [sumUp_s, i_add (by omega) (by omega)]
theorem sumUp_le {f : Nat → Int32} {B : Int} (hB : B ≤ 1000) (h : ∀ j, 1 ≤ j → j ≤ 11 → 0 ≤ (f j).toInt ∧ (f j).toInt ≤ B) {n : Nat} : ∀ d, n + d ≤ 11 → (sumUp f n).toInt ≤ (sumUp f (n + d)).toInt := by
  intro d
  induction d with
  | zero => intro _; exact Int.le_refl _
  | succ d ih =>
    intro hd
    have := ih (by omega)
    have h1 := sumUp_mono hB h (n := n + d) (by omega)
    have h2 := h (n + d + 1) (by omega) (by omega)
    rw [show n + (d + 1) = n + d + 1 by omega]
    omega
/-- heat -/
theorem heat_eq {sr : Nat → Nat} {sh ht htm : Nat → Int32} (hsr : ∀ j, 1 ≤ j → j < 12 → sr j < j) : ∀ j, 1 ≤ j → j < 12 → hFun sr sh ht j = mhFun sr sh htm j ∧ (hFun sr sh ht j = 0 ∨ hFun sr sh ht j = 1) := by
  have K := itr_eq (s1 := hStep sr sh) (s2 := mhStep sr sh) (a := ht) (b := upd htm 0 1) (fun n x y => y 0 = 1 ∧ ∀ j, 1 ≤ j → j ≤ n → x j = y j ∧ (x j = 0 ∨ x j = 1)) 11 ⟨by simp [upd], fun j h1 h2 => by omega⟩ (by
    intro n x y hn hR
    obtain ⟨h0, hR⟩ := hR
    refine ⟨by simp [mhStep, upd, h0], fun j h1 h2 => ?_⟩
    by_cases hj : j = n + 1
    · subst hj
      have hk := hsr (n + 1) (by omega) (by omega)
      have e1 : hStep sr sh n x (n + 1) = if (pHouse (nI (sr (n + 1))) = 0 ∨ ¬ x (sr (n + 1)) = 0) ∧ sh (n + 1) = 0 then 1 else 0 := by simp only [hStep, upd, if_true]
      have e2 : mhStep sr sh n y (n + 1) = if sh (n + 1) = 0 then (if y (sr (n + 1)) = 0 then 0 else 1) else 0 := by simp only [mhStep, upd, if_true]
      rw [e1, e2, pH_nI _ (by omega)]
      by_cases hz : sr (n + 1) = 0
      · rw [hz, h0]
        by_cases hs : sh (n + 1) = 0 <;> simp [hs]
      · obtain ⟨q1, q2⟩ := hR (sr (n + 1)) (by omega) (by omega)
        rw [← q1]
        rcases q2 with q2 | q2 <;> rw [q2] <;> by_cases hs : sh (n + 1) = 0 <;> simp [hz, hs]
    · have e1 : hStep sr sh n x j = x j := by simp [hStep, upd, hj]
      have e2 : mhStep sr sh n y j = y j := by simp [mhStep, upd, hj]
      rw [e1, e2]
      exact hR j h1 (by omega)) 11 (Nat.le_refl _)
  intro j h1 h2
  exact K.2 j h1 (by omega)
/-- demands -/
def dv (h ar : Nat → Int32) (t : Int32) (j : Nat) : Int32 := if h j = 0 then 0 else pWant (ar j) t
theorem dem_cls (h ar dm : Nat → Int32) (t : Int32) : (∀ j, 1 ≤ j → j ≤ 11 → (dFun h ar t dm).1 j = dv h ar t j) ∧ (dFun h ar t dm).2 = sumUp (dv h ar t) 11 := by
  have K : ∀ n, n ≤ 11 → (∀ j, 1 ≤ j → j ≤ n → (itr (dStep h ar t) (dm, 0) n).1 j = dv h ar t j) ∧ (itr (dStep h ar t) (dm, 0) n).2 = sumUp (dv h ar t) n := by
    intro n
    induction n with
    | zero => intro _; exact ⟨fun j a b => by omega, rfl⟩
    | succ n ih =>
      intro hn
      obtain ⟨h1, h2⟩ := ih (by omega)
      refine ⟨fun j a b => ?_, ?_⟩
      · show upd _ (n + 1) _ j = _
        by_cases hj : j = n + 1
        · subst hj; simp [upd, dv]
        · simp only [upd, if_neg hj]; exact h1 j a (by omega)
      · show _ + _ = _
        rw [h2, sumUp_s]; rfl
  exact K 11 (Nat.le_refl _)
theorem dem_mod (h ar dm ca : Nat → Int32) (t : Int32) : (∀ j, 1 ≤ j → j ≤ 11 → (m1Fun h ar t dm ca).1 j = dv h ar t j ∧ (m1Fun h ar t dm ca).2.1 j = if dv h ar t j ≤ 0 then 0 else 1) ∧ (m1Fun h ar t dm ca).2.2 = sumUp (dv h ar t) 11 := by
  have K : ∀ n, n ≤ 11 → (∀ j, 1 ≤ j → j ≤ n → (itr (m1Step h ar t) (dm, ca, 0) n).1 j = dv h ar t j ∧ (itr (m1Step h ar t) (dm, ca, 0) n).2.1 j = if dv h ar t j ≤ 0 then 0 else 1) ∧ (itr (m1Step h ar t) (dm, ca, 0) n).2.2 = sumUp (dv h ar t) n := by
    intro n
    induction n with
    | zero => intro _; exact ⟨fun j a b => by omega, rfl⟩
    | succ n ih =>
      intro hn
      obtain ⟨h1, h2⟩ := ih (by omega)
      refine ⟨fun j a b => ?_, ?_⟩
      · show upd _ (n + 1) _ j = _ ∧ upd _ (n + 1) _ j = _
        by_cases hj : j = n + 1
        · subst hj; simp only [upd, if_true]; exact ⟨rfl, rfl⟩
        · simp only [upd, if_neg hj]; exact h1 j a (by omega)
      · show _ + _ = _
        rw [h2, sumUp_s]; rfl
  exact K 11 (Nat.le_refl _)
theorem cIni_at (d c : Nat → Int32) : ∀ j, 1 ≤ j → j ≤ 11 → itr (cIni d) c 11 j = if d j ≤ 0 then 0 else 1 := by
  have K : ∀ n, n ≤ 11 → ∀ j, 1 ≤ j → j ≤ n → itr (cIni d) c n j = if d j ≤ 0 then 0 else 1 := by
    intro n
    induction n with
    | zero => intro _ j a b; omega
    | succ n ih =>
      intro hn j a b
      show upd _ (n + 1) _ j = _
      by_cases hj : j = n + 1
      · subst hj; simp [upd]
      · simp only [upd, if_neg hj]; exact ih (by omega) j a (by omega)
  exact K 11 (Nat.le_refl _)
/-- pipes that carry -/
theorem car_stab {sr : Nat → Nat} (hsr : ∀ j, 1 ≤ j → j < 12 → sr j < j) (x0 : Nat → Int32) (n : Nat) : ∀ d, n + d ≤ 11 → ∀ j, 11 - n ≤ j → itr (cStep sr) x0 (n + d) j = itr (cStep sr) x0 n j := by
  intro d
  induction d with
  | zero => intro _ j _; rfl
  | succ d ih =>
    intro h j hj
    rw [show n + (d + 1) = (n + d) + 1 by omega, itr_s, ← ih (by omega) j hj]
    have hk := hsr (11 - (n + d)) (by omega) (by omega)
    unfold cStep
    split
    · rfl
    · split
      · rfl
      · simp only [upd]; rw [if_neg (by omega)]
theorem car_mono {sr : Nat → Nat} (x0 : Nat → Int32) (n : Nat) : ∀ d j, itr (cStep sr) x0 n j ≠ 0 → itr (cStep sr) x0 (n + d) j ≠ 0 := by
  intro d
  induction d with
  | zero => intro j h; exact h
  | succ d ih =>
    intro j h
    rw [show n + (d + 1) = (n + d) + 1 by omega, itr_s]
    have := ih j h
    unfold cStep
    split
    · exact this
    · split
      · exact this
      · simp only [upd]; split
        · decide
        · exact this
theorem car_clos {sr : Nat → Nat} (hsr : ∀ j, 1 ≤ j → j < 12 → sr j < j) (x0 : Nat → Int32) {j : Nat} (h1 : 1 ≤ j) (h2 : j ≤ 11) (hk : 1 ≤ sr j) (h : itr (cStep sr) x0 11 j ≠ 0) : itr (cStep sr) x0 11 (sr j) ≠ 0 := by
  have hs := hsr j h1 (by omega)
  have e := car_stab hsr x0 (11 - j) j (by omega) j (by omega)
  rw [show 11 - j + j = 11 by omega] at e
  have h3 : itr (cStep sr) x0 (11 - j + 1) (sr j) ≠ 0 := by
    rw [itr_s]
    simp only [cStep, show 11 - (11 - j) = j by omega]
    rw [if_neg (by rw [← e]; exact h), pH_nI _ (by omega), if_neg (show sr j ≠ 0 by omega)]
    simp [upd]
  have := car_mono x0 (11 - j + 1) (j - 1) (sr j) h3
  rwa [show 11 - j + 1 + (j - 1) = 11 by omega] at this
theorem car_eq {sr : Nat → Nat} {lo : Nat → Int32} (hsr : ∀ j, 1 ≤ j → j < 12 → sr j < j) {x0 y0 : Nat → Int32} (s : Int32) (h0 : ∀ j, 1 ≤ j → j ≤ 11 → x0 j = y0 j ∧ (x0 j = 0 ∨ x0 j = 1)) : ∀ n, n ≤ 11 → ∀ j, 1 ≤ j → j ≤ 11 → itr (cStep sr) x0 n j = (itr (m2Step sr lo) (y0, s) n).1 j ∧ (itr (cStep sr) x0 n j = 0 ∨ itr (cStep sr) x0 n j = 1) := by
  refine itr_eq (s1 := cStep sr) (s2 := m2Step sr lo) (a := x0) (b := (y0, s)) (fun n x y => ∀ j, 1 ≤ j → j ≤ 11 → x j = y.1 j ∧ (x j = 0 ∨ x j = 1)) 11 h0 ?_
  intro n x y hn hR j h1 h2
  have hk := hsr (11 - n) (by omega) (by omega)
  have e2 : (m2Step sr lo n y).1 = upd y.1 (sr (11 - n)) (if y.1 (sr (11 - n)) = 0 then (if y.1 (11 - n) = 0 then 0 else 1) else 1) := rfl
  obtain ⟨a1, a2⟩ := hR (11 - n) (by omega) (by omega)
  obtain ⟨b1, b2⟩ := hR j h1 h2
  rw [e2]
  simp only [cStep]
  rw [pH_nI _ (by omega)]
  by_cases hz : sr (11 - n) = 0
  · simp only [hz, if_true, ite_self]
    have hj : j ≠ 0 := by omega
    simp only [upd, if_neg hj]
    exact ⟨b1, b2⟩
  · obtain ⟨c1, c2⟩ := hR (sr (11 - n)) (by omega) (by omega)
    rw [if_neg hz]
    by_cases hj : j = sr (11 - n)
    · subst hj
      simp only [upd, if_true]
      rw [← a1, ← c1]
      rcases a2 with a2 | a2 <;> rcases c2 with c2 | c2 <;> simp [a2, c2, upd]
    · simp only [upd, if_neg hj]
      rcases a2 with a2 | a2
      · simp only [a2, if_true]; exact ⟨b1, b2⟩
      · rw [a2, if_neg (by decide), if_neg (by decide)]
        first
        | exact ⟨b1, b2⟩
        | (simp only [if_neg hj]; exact ⟨b1, b2⟩)
        | (simp only [upd, if_neg hj]; exact ⟨b1, b2⟩)
