/-! the law's hour and the class's: loads, the set of pipes, what is served, bills -/
section A1
variable {sr : Nat → Nat} {lo ar sh ht h1 d1 c1 : Nat → Int32} {t : Int32}
theorem W_any (hsr : ∀ j, 1 ≤ j → j < 12 → sr j < j) : oW sr lo ar sh h1 d1 c1 t = zW sr lo ar sh ht t :=
  (net_W (htm := fun _ => 0) (dmm := fun _ => 0) (cam := fun _ => 0) hsr).trans (show _ = oW sr lo ar sh ht (fun _ => 0) (fun _ => 0) t from (net_W (htm := fun _ => 0) (dmm := fun _ => 0) (cam := fun _ => 0) hsr).symm)
theorem L_any (hsr : ∀ j, 1 ≤ j → j < 12 → sr j < j) : oL sr lo ar sh h1 d1 c1 t = zL sr lo ar sh ht t :=
  (net_ls (htm := fun _ => 0) (dmm := fun _ => 0) (cam := fun _ => 0) hsr).trans (show _ = oL sr lo ar sh ht (fun _ => 0) (fun _ => 0) t from (net_ls (htm := fun _ => 0) (dmm := fun _ => 0) (cam := fun _ => 0) hsr).symm)
theorem H_any (hsr : ∀ j, 1 ≤ j → j < 12 → sr j < j) : ∀ j, 1 ≤ j → j ≤ 11 → hFun sr sh h1 j = hFun sr sh ht j := fun j a b =>
  (net_H (htm := fun _ => 0) hsr j a b).trans (net_H (htm := fun _ => 0) hsr j a b).symm
theorem D_any (hsr : ∀ j, 1 ≤ j → j < 12 → sr j < j) : ∀ j, 1 ≤ j → j ≤ 11 → (oD sr ar sh h1 d1 t).1 j = zD sr ar sh ht t j := fun j a b => by
  rw [net_d.1 j a b]
  show _ = (oD sr ar sh ht (fun _ => 0) t).1 j
  rw [net_d.1 j a b]
  unfold dv
  rw [H_any (ht := ht) hsr j a b]
theorem C_any (hsr : ∀ j, 1 ≤ j → j < 12 → sr j < j) : ∀ j, 1 ≤ j → j ≤ 11 → oC sr ar sh h1 d1 c1 t j = oC sr ar sh ht (fun _ => 0) (fun _ => 0) t j := fun j a b =>
  (net_C (lo := fun _ => 0) (htm := fun _ => 0) (dmm := fun _ => 0) (cam := fun _ => 0) hsr j a b).trans (net_C (lo := fun _ => 0) (htm := fun _ => 0) (dmm := fun _ => 0) (cam := fun _ => 0) hsr j a b).symm
theorem zD_dv : ∀ j, 1 ≤ j → j ≤ 11 → zD sr ar sh ht t j = dv (hFun sr sh ht) ar t j := fun j a b => net_d.1 j a b
theorem zS_sum : zS sr ar sh ht t = sumUp (dv (hFun sr sh ht) ar t) 11 := net_d.2
theorem zS_sumD : zS sr ar sh ht t = sumUp (zD sr ar sh ht t) 11 := by
  rw [zS_sum]
  exact sumUp_congr 11 (fun j a b => (zD_dv j a b).symm)
end A1
/-- carries, by the ways of the houses -/
theorem c_run {sr : Nat → Nat} (hsr : ∀ j, 1 ≤ j → j < 12 → sr j < j) {g : Nat → Prop} {c0 : Nat → Int32} (h0 : ∀ j, 1 ≤ j → j ≤ 11 → (¬ c0 j = 0 ↔ g j)) : ∀ n, n ≤ 11 → ∀ j, 1 ≤ j → j ≤ 11 - n → (¬ itr (cStep sr) c0 n j = 0 ↔ ∃ x, 1 ≤ x ∧ x ≤ 11 ∧ g x ∧ pN sr n x = j) := by
  intro n
  induction n with
  | zero =>
    intro _ j a b
    constructor
    · intro h; exact ⟨j, a, by omega, (h0 j a (by omega)).mp h, rfl⟩
    · rintro ⟨x, q1, q2, q3, q4⟩
      have q4 : x = j := q4
      subst q4
      exact (h0 x q1 q2).mpr q3
  | succ n ih =>
    intro hn j a b
    obtain ⟨c, hc⟩ : ∃ c, c = itr (cStep sr) c0 n := ⟨_, rfl⟩
    have hjn : ¬ j = 11 - n := by omega
    have ihj := ih (by omega) j a (by omega)
    have ihk := ih (by omega) (11 - n) (by omega) (Nat.le_refl _)
    rw [← hc] at ihj ihk
    have hs := hsr (11 - n) (by omega) (by omega)
    have e : itr (cStep sr) c0 (n + 1) = if c (11 - n) = 0 then c else if pHouse (nI (sr (11 - n))) = 0 then c else upd c (sr (11 - n)) 1 := by rw [hc]; rfl
    rw [e]
    by_cases hk : c (11 - n) = 0
    · rw [if_pos hk, ihj]
      have hno : ∀ x, 1 ≤ x → x ≤ 11 → g x → ¬ pN sr n x = 11 - n := fun x q1 q2 q3 q4 => ihk.mpr ⟨x, q1, q2, q3, q4⟩ hk
      constructor
      · rintro ⟨x, q1, q2, q3, q4⟩
        exact ⟨x, q1, q2, q3, by simp only [pN, if_neg (hno x q1 q2 q3)]; exact q4⟩
      · rintro ⟨x, q1, q2, q3, q4⟩
        simp only [pN, if_neg (hno x q1 q2 q3)] at q4
        exact ⟨x, q1, q2, q3, q4⟩
    · rw [if_neg hk]
      obtain ⟨x9, z1, z2, z3, z4⟩ := ihk.mp hk
      by_cases hz : sr (11 - n) = 0
      · rw [if_pos (by rw [pH_nI _ (by omega), if_pos hz]), ihj]
        constructor
        · rintro ⟨x, q1, q2, q3, q4⟩
          refine ⟨x, q1, q2, q3, ?_⟩
          simp only [pN]
          rw [if_neg (fun h9 => hjn (q4.symm.trans h9))]
          exact q4
        · rintro ⟨x, q1, q2, q3, q4⟩
          refine ⟨x, q1, q2, q3, ?_⟩
          simp only [pN] at q4
          split at q4
          · omega
          · exact q4
      · rw [if_neg (by rw [pH_nI _ (by omega), if_neg hz]; decide)]
        by_cases hj : j = sr (11 - n)
        · constructor
          · intro _
            refine ⟨x9, z1, z2, z3, ?_⟩
            simp only [pN]
            rw [if_pos z4, hj]
          · intro _
            simp only [upd, if_pos hj]
            decide
        · simp only [upd, if_neg hj]
          rw [ihj]
          constructor
          · rintro ⟨x, q1, q2, q3, q4⟩
            refine ⟨x, q1, q2, q3, ?_⟩
            simp only [pN]
            rw [if_neg (fun h9 => hjn (q4.symm.trans h9))]
            exact q4
          · rintro ⟨x, q1, q2, q3, q4⟩
            refine ⟨x, q1, q2, q3, ?_⟩
            simp only [pN] at q4
            split at q4
            · exact absurd q4.symm hj
            · exact q4
theorem c_stab {sr : Nat → Nat} (hsr : ∀ j, 1 ≤ j → j < 12 → sr j < j) (c0 : Nat → Int32) (n : Nat) : ∀ d, n + d ≤ 11 → ∀ j, 11 - n ≤ j → itr (cStep sr) c0 (n + d) j = itr (cStep sr) c0 n j := by
  intro d
  induction d with
  | zero => intro _ j _; rfl
  | succ d ih =>
    intro h j hj
    have hk := hsr (11 - (n + d)) (by omega) (by omega)
    rw [show n + (d + 1) = (n + d) + 1 by omega, itr_s, ← ih (by omega) j hj]
    show (if _ then _ else if _ then _ else upd _ _ _) j = _
    split
    · rfl
    · split
      · rfl
      · simp only [upd, if_neg (show j ≠ sr (11 - (n + d)) by omega)]
theorem set_C {sr : Nat → Nat} {ar sh ht : Nat → Int32} {t S : Int32} (hsr : ∀ j, 1 ≤ j → j < 12 → sr j < j) (hS : setP sr (dv (hFun sr sh ht) ar t) 11 S) : ∀ k, 1 ≤ k → k ≤ 11 → (sb S k = 1 ↔ ¬ oC sr ar sh ht (fun _ => 0) (fun _ => 0) t k = 0) := fun k a b => by
  rw [sb_1 (by omega), hS k a b]
  have e : oC sr ar sh ht (fun _ => 0) (fun _ => 0) t k = itr (cStep sr) (itr (cIni (oD sr ar sh ht (fun _ => 0) t).1) (fun _ => 0) 11) (11 - k) k := by
    have := c_stab hsr (itr (cIni (oD sr ar sh ht (fun _ => 0) t).1) (fun _ => 0) 11) (11 - k) k (by omega) k (by omega)
    rw [show 11 - k + k = 11 by omega] at this
    exact this
  rw [e, c_run hsr (g := fun j => ¬ dv (hFun sr sh ht) ar t j ≤ 0) (fun j c d => by
    rw [net_c0 j c d]
    by_cases h : dv (hFun sr sh ht) ar t j ≤ 0
    · rw [if_pos h]; exact ⟨fun h9 => absurd rfl h9, fun h9 => absurd h h9⟩
    · rw [if_neg h]; exact ⟨fun _ => h, fun _ => by decide⟩) (11 - k) (by omega) k a (by omega)]
  rfl
theorem los_eq {sr : Nat → Nat} {lo ar sh ht : Nat → Int32} {t S : Int32} (hsr : ∀ j, 1 ≤ j → j < 12 → sr j < j) (hS : setP sr (dv (hFun sr sh ht) ar t) 11 S) : bLn S lo 11 = zL sr lo ar sh ht t := by
  unfold zL
  rw [net_L]
  refine sumUp_congr (f := fun j => if sb S j = 1 then lo j else 0) 11 (fun j a b => ?_)
  have h := set_C hsr hS j a b
  show (if sb S j = 1 then lo j else 0) = if _ then 0 else lo j
  by_cases hc : oC sr ar sh ht (fun _ => 0) (fun _ => 0) t j = 0
  · rw [if_pos hc, if_neg (fun h9 => h.mp h9 hc)]
  · rw [if_neg hc, if_pos (h.mpr hc)]
/-- bounds -/
theorem d_bd {sr : Nat → Nat} {lo ar sh ht : Nat → Int32} {t : Int32} (hN : NInv sr lo ar sh) (hpw : ¬ pWithin t (-20) 30 = 0) : ∀ j, 1 ≤ j → j ≤ 11 → 0 ≤ (dv (hFun sr sh ht) ar t j).toInt ∧ (dv (hFun sr sh ht) ar t j).toInt ≤ 190 := dv_bd hN.2.2.1 (in_bd hpw).1 (in_bd hpw).2
theorem L_bd {sr : Nat → Nat} {lo ar sh ht : Nat → Int32} {t : Int32} (hN : NInv sr lo ar sh) : 0 ≤ (zL sr lo ar sh ht t).toInt ∧ (zL sr lo ar sh ht t).toInt ≤ 220 := by
  unfold zL
  rw [net_L]
  exact sumUp_bd (B := 20) (by omega) 11 (by omega) (fun j a b => by
    show 0 ≤ (if _ then (0 : Int32) else lo j).toInt ∧ (if _ then (0 : Int32) else lo j).toInt ≤ 20
    split
    · rw [i_0]; omega
    · exact hN.2.1 j a (by omega))
theorem W_bd {sr : Nat → Nat} {lo ar sh ht : Nat → Int32} {t : Int32} (hN : NInv sr lo ar sh) (hpw : ¬ pWithin t (-20) 30 = 0) : 0 ≤ (zW sr lo ar sh ht t).toInt ∧ (zW sr lo ar sh ht t).toInt ≤ 100000 := by
  have h1 := L_bd (ht := ht) (t := t) hN
  have h2 := sumUp_bd (B := 190) (by omega) 11 (by omega) (d_bd (ht := ht) hN hpw)
  unfold zW
  rw [zS_sum, i_add (by omega) (by omega)]
  omega
theorem ap_bd {n : Nat} {stp pow cst frd : Nat → Int32} {nx : Nat → Option Nat} {ord : List Nat} {ap : Int32} (hB : BInv n stp pow cst frd nx ord ap) : 0 ≤ ap.toInt ∧ ap.toInt ≤ 2000 := by
  rw [hB.2.2.1]
  exact power_bd hB.1 hB.2.1
/-- what is served -/
theorem kT_min {m x d : Int32} (hd : 0 ≤ d.toInt) (hx : 0 ≤ x.toInt) (h : (x.toInt = max 0 m.toInt) ∨ (d.toInt ≤ x.toInt ∧ d.toInt ≤ m.toInt)) : kT m d = imin d x := by
  rw [i_eq, i_min]
  unfold kT
  by_cases h0 : (0 : Int32) ≤ m
  · rw [if_pos h0]
    rw [i_le, i_0] at h0
    by_cases h1 : d ≤ m
    · rw [if_pos h1]; rw [i_le] at h1; omega
    · rw [if_neg h1]; rw [i_le] at h1; omega
  · rw [if_neg h0, i_0]
    rw [i_le, i_0] at h0
    omega
theorem jF_run {d d2 sv : Nat → Int32} {P L : Int32} (hd : ∀ j, 1 ≤ j → j ≤ 11 → 0 ≤ (d j).toInt ∧ (d j).toInt ≤ 190) (he : ∀ j, 1 ≤ j → j ≤ 11 → d2 j = d j) (hP : 0 ≤ P.toInt ∧ P.toInt ≤ 2000) (hL : 0 ≤ L.toInt ∧ L.toInt ≤ 220) :
    ∀ n, n ≤ 11 → ((∀ j, n < j → j ≤ 11 → (jF d2 (lf9 (sumUp d 11 + L) P (sumUp d 11) L) n).1 j = d j) ∧ (∀ j, 1 ≤ j → j ≤ n → (jF d2 (lf9 (sumUp d 11 + L) P (sumUp d 11) L) n).1 j = (itr (sStep d) (sv, imax 0 (P - L)) n).1 j)) ∧ (0 ≤ (itr (sStep d) (sv, imax 0 (P - L)) n).2.toInt ∧ (itr (sStep d) (sv, imax 0 (P - L)) n).2.toInt ≤ 2000) ∧
      ((sumUp d 11 + L ≤ P ∧ (sumUp d 11).toInt - (sumUp d n).toInt ≤ (itr (sStep d) (sv, imax 0 (P - L)) n).2.toInt ∧ (jF d2 (lf9 (sumUp d 11 + L) P (sumUp d 11) L) n).2.toInt = (sumUp d 11).toInt - (sumUp d n).toInt) ∨ (¬ sumUp d 11 + L ≤ P ∧ (itr (sStep d) (sv, imax 0 (P - L)) n).2.toInt = max 0 (jF d2 (lf9 (sumUp d 11 + L) P (sumUp d 11) L) n).2.toInt ∧ -300 ≤ (jF d2 (lf9 (sumUp d 11 + L) P (sumUp d 11) L) n).2.toInt ∧ (jF d2 (lf9 (sumUp d 11 + L) P (sumUp d 11) L) n).2.toInt ≤ 2000)) ∧
      (n < 11 → kT (jF d2 (lf9 (sumUp d 11 + L) P (sumUp d 11) L) n).2 ((jF d2 (lf9 (sumUp d 11 + L) P (sumUp d 11) L) n).1 (n + 1)) = imin (d (n + 1)) (itr (sStep d) (sv, imax 0 (P - L)) n).2) := by
  have hT := sumUp_bd (B := 190) (by omega) 11 (by omega) hd
  have ePL : (P - L).toInt = P.toInt - L.toInt := i_sub (by omega) (by omega)
  have eM : (imax 0 (P - L)).toInt = max 0 (P.toInt - L.toInt) := by rw [i_max, i_0, ePL]
  have eW : (sumUp d 11 + L).toInt = (sumUp d 11).toInt + L.toInt := i_add (by omega) (by omega)
  obtain ⟨l9, hl9⟩ : ∃ l9, l9 = lf9 (sumUp d 11 + L) P (sumUp d 11) L := ⟨_, rfl⟩
  rw [← hl9]
  have last : ∀ n, n < 11 → (∀ j, n < j → j ≤ 11 → (jF d2 l9 n).1 j = d j) → 0 ≤ (itr (sStep d) (sv, imax 0 (P - L)) n).2.toInt → ((sumUp d 11 + L ≤ P ∧ (sumUp d 11).toInt - (sumUp d n).toInt ≤ (itr (sStep d) (sv, imax 0 (P - L)) n).2.toInt ∧ (jF d2 l9 n).2.toInt = (sumUp d 11).toInt - (sumUp d n).toInt) ∨ (¬ sumUp d 11 + L ≤ P ∧ (itr (sStep d) (sv, imax 0 (P - L)) n).2.toInt = max 0 (jF d2 l9 n).2.toInt ∧ -300 ≤ (jF d2 l9 n).2.toInt ∧ (jF d2 l9 n).2.toInt ≤ 2000)) → kT (jF d2 l9 n).2 ((jF d2 l9 n).1 (n + 1)) = imin (d (n + 1)) (itr (sStep d) (sv, imax 0 (P - L)) n).2 := by
    intro n hn q1 q2 q3
    obtain ⟨g1, g2⟩ := hd (n + 1) (by omega) (by omega)
    rw [q1 (n + 1) (by omega) (by omega)]
    refine kT_min g1 q2 ?_
    rcases q3 with ⟨r1, r2, r3⟩ | ⟨r1, r2, r3⟩
    · right
      have s1 := sumUp_mono (B := 190) (by omega) hd hn
      have s2 := sumUp_le (B := 190) (by omega) hd (n := n + 1) (10 - n) (by omega)
      rw [show n + 1 + (10 - n) = 11 by omega] at s2
      omega
    · exact Or.inl r2
  intro n
  induction n with
  | zero =>
    intro _
    have a1 : ∀ j, 0 < j → j ≤ 11 → (jF d2 l9 0).1 j = d j := fun j a b => he j (by omega) b
    have a2 : 0 ≤ (itr (sStep d) (sv, imax 0 (P - L)) 0).2.toInt ∧ (itr (sStep d) (sv, imax 0 (P - L)) 0).2.toInt ≤ 2000 := by
      show 0 ≤ (imax 0 (P - L)).toInt ∧ (imax 0 (P - L)).toInt ≤ 2000
      rw [eM]; omega
    have a3 : (sumUp d 11 + L ≤ P ∧ (sumUp d 11).toInt - (sumUp d 0).toInt ≤ (itr (sStep d) (sv, imax 0 (P - L)) 0).2.toInt ∧ (jF d2 l9 0).2.toInt = (sumUp d 11).toInt - (sumUp d 0).toInt) ∨ (¬ sumUp d 11 + L ≤ P ∧ (itr (sStep d) (sv, imax 0 (P - L)) 0).2.toInt = max 0 (jF d2 l9 0).2.toInt ∧ -300 ≤ (jF d2 l9 0).2.toInt ∧ (jF d2 l9 0).2.toInt ≤ 2000) := by
      show (_ ∧ _ - (0 : Int32).toInt ≤ (imax 0 (P - L)).toInt ∧ l9.toInt = _ - (0 : Int32).toInt) ∨ (_ ∧ (imax 0 (P - L)).toInt = max 0 l9.toInt ∧ -300 ≤ l9.toInt ∧ l9.toInt ≤ 2000)
      rw [eM, i_0, hl9]
      unfold lf9
      by_cases hW : sumUp d 11 + L ≤ P
      · left
        rw [if_pos hW]
        refine ⟨hW, ?_, by omega⟩
        rw [i_le, eW] at hW
        omega
      · right
        rw [if_neg hW, ePL]
        refine ⟨hW, rfl, ?_, ?_⟩ <;> omega
    exact ⟨⟨a1, fun j a b => by omega⟩, a2, a3, fun h => last 0 h a1 a2.1 a3⟩
  | succ n ih =>
    intro hn
    obtain ⟨⟨p1, p2⟩, p3, p4, p5⟩ := ih (by omega)
    have v := p5 (by omega)
    obtain ⟨g1, g2⟩ := hd (n + 1) (by omega) (by omega)
    obtain ⟨y, hy⟩ : ∃ y, y = jF d2 l9 n := ⟨_, rfl⟩
    obtain ⟨x, hx⟩ : ∃ x, x = itr (sStep d) (sv, imax 0 (P - L)) n := ⟨_, rfl⟩
    have ey : jF d2 l9 (n + 1) = (upd y.1 (n + 1) (kT y.2 (y.1 (n + 1))), y.2 - kT y.2 (y.1 (n + 1))) := by rw [hy]; rfl
    have ex : itr (sStep d) (sv, imax 0 (P - L)) (n + 1) = (upd x.1 (n + 1) (imin (d (n + 1)) x.2), x.2 - imin (d (n + 1)) x.2) := by rw [hx]; rfl
    rw [← hy] at p1 p2 p4 v
    rw [← hx] at p2 p3 p4 v
    have em : (imin (d (n + 1)) x.2).toInt = min (d (n + 1)).toInt x.2.toInt := i_min
    have s1 := sumUp_mono (B := 190) (by omega) hd (show n < 11 by omega)
    have s2 := sumUp_le (B := 190) (by omega) hd (n := n + 1) (10 - n) (by omega)
    rw [show n + 1 + (10 - n) = 11 by omega] at s2
    have s3 := sumUp_bd (B := 190) (by omega) n (by omega) (fun j a b => hd j a (by omega))
    have a1 : ∀ j, n + 1 < j → j ≤ 11 → (jF d2 l9 (n + 1)).1 j = d j := fun j a b => by
      rw [ey]
      simp only [upd, if_neg (show ¬ j = n + 1 by omega)]
      exact p1 j (by omega) b
    have a0 : ∀ j, 1 ≤ j → j ≤ n + 1 → (jF d2 l9 (n + 1)).1 j = (itr (sStep d) (sv, imax 0 (P - L)) (n + 1)).1 j := fun j a b => by
      rw [ey, ex]
      by_cases hj : j = n + 1
      · simp only [upd, if_pos hj]; exact v
      · simp only [upd, if_neg hj]; exact p2 j a (by omega)
    have a2 : 0 ≤ (itr (sStep d) (sv, imax 0 (P - L)) (n + 1)).2.toInt ∧ (itr (sStep d) (sv, imax 0 (P - L)) (n + 1)).2.toInt ≤ 2000 := by
      rw [ex]
      show 0 ≤ (x.2 - imin (d (n + 1)) x.2).toInt ∧ (x.2 - imin (d (n + 1)) x.2).toInt ≤ 2000
      rw [i_sub (by omega) (by omega)]; omega
    have a3 : (sumUp d 11 + L ≤ P ∧ (sumUp d 11).toInt - (sumUp d (n + 1)).toInt ≤ (itr (sStep d) (sv, imax 0 (P - L)) (n + 1)).2.toInt ∧ (jF d2 l9 (n + 1)).2.toInt = (sumUp d 11).toInt - (sumUp d (n + 1)).toInt) ∨ (¬ sumUp d 11 + L ≤ P ∧ (itr (sStep d) (sv, imax 0 (P - L)) (n + 1)).2.toInt = max 0 (jF d2 l9 (n + 1)).2.toInt ∧ -300 ≤ (jF d2 l9 (n + 1)).2.toInt ∧ (jF d2 l9 (n + 1)).2.toInt ≤ 2000) := by
      rw [ey, ex]
      show (_ ∧ _ ≤ (x.2 - imin (d (n + 1)) x.2).toInt ∧ (y.2 - kT y.2 (y.1 (n + 1))).toInt = _) ∨ (_ ∧ (x.2 - imin (d (n + 1)) x.2).toInt = max 0 (y.2 - kT y.2 (y.1 (n + 1))).toInt ∧ -300 ≤ (y.2 - kT y.2 (y.1 (n + 1))).toInt ∧ (y.2 - kT y.2 (y.1 (n + 1))).toInt ≤ 2000)
      rw [v]
      rcases p4 with ⟨r1, r2, r3⟩ | ⟨r1, r2, r3, r4⟩
      · left
        rw [i_sub (by omega) (by omega), i_sub (by omega) (by omega)]
        refine ⟨r1, ?_, ?_⟩ <;> omega
      · right
        rw [i_sub (by omega) (by omega), i_sub (by omega) (by omega)]
        refine ⟨r1, ?_, ?_, ?_⟩ <;> omega
    exact ⟨⟨a1, a0⟩, a2, a3, fun h => last (n + 1) h a1 a2.1 a3⟩
theorem s_stab {d : Nat → Int32} (x0 : (Nat → Int32) × Int32) (n : Nat) : ∀ m j, j ≤ n → (itr (sStep d) x0 (n + m)).1 j = (itr (sStep d) x0 n).1 j := by
  intro m
  induction m with
  | zero => intro j _; rfl
  | succ m ih =>
    intro j hj
    rw [show n + (m + 1) = (n + m) + 1 by omega, itr_s, ← ih j hj]
    show upd _ (n + m + 1) _ j = _
    simp only [upd, if_neg (show ¬ j = n + m + 1 by omega)]
theorem want_0 {a t : Int32} (h1 : 0 ≤ a.toInt) (h2 : a.toInt ≤ 50) (h3 : -20 ≤ t.toInt) (h4 : t.toInt ≤ 30) : pWant a t ≤ 0 ↔ (a ≤ 0 ∨ 18 ≤ t) := by
  unfold pWant
  by_cases h : t < 18
  · rw [if_pos h]
    have e18 : (18 : Int32).toInt = 18 := rfl
    have ht : t.toInt < 18 := by rw [i_lt] at h; exact h
    have e1 : (18 - t).toInt = 18 - t.toInt := by rw [i_sub (by omega) (by omega), e18]
    obtain ⟨A, hA⟩ : ∃ A : Nat, a.toInt = A := ⟨a.toInt.toNat, by omega⟩
    obtain ⟨B, hB⟩ : ∃ B : Nat, 18 - t.toInt = B := ⟨(18 - t.toInt).toNat, by omega⟩
    have ea : a = nI A := i_ext (by rw [nI_toInt (by omega)]; exact hA)
    have eb : 18 - t = nI B := i_ext (by rw [nI_toInt (by omega), e1]; exact hB)
    have hAB : A * B ≤ 50 * 38 := Nat.mul_le_mul (by omega) (by omega)
    have hz : A * B = 0 ↔ A = 0 := by
      constructor
      · intro h; rcases Nat.mul_eq_zero.mp h with h | h
        · exact h
        · omega
      · intro h; rw [h, Nat.zero_mul]
    rw [ea, eb, nI_mul (by omega) (by omega) (by omega), show (10 : Int32) = nI 10 from rfl, show (9 : Int32) = nI 9 from rfl, nI_add, nI_div (by omega) (by omega) (by omega), i_le, i_le, i_le, nI_toInt (by omega), nI_toInt (by omega), i_0, e18]
    obtain ⟨N, hN⟩ : ∃ N, N = A * B := ⟨_, rfl⟩
    rw [← hN] at hAB hz ⊢
    omega
  · rw [if_neg h]
    rw [i_lt] at h
    constructor
    · intro _; right; rw [i_le]; have e18 : (18 : Int32).toInt = 18 := rfl; omega
    · intro _; exact Int32.le_refl _
theorem bills_ok {sr : Nat → Nat} {lo ar sh ht h1 d1 c1 sv b : Nat → Int32} {t ap : Int32} (hN : NInv sr lo ar sh) (hap : 0 ≤ ap.toInt ∧ ap.toInt ≤ 2000) (hpw : ¬ pWithin t (-20) 30 = 0) :
    bG (zD sr ar sh ht t) (lf9 (zW sr lo ar sh ht t) ap (zS sr ar sh ht t) (zL sr lo ar sh ht t)) (hFun sr sh ht) ar t (pr9 (zW sr lo ar sh ht t) ap) b 11 = gFun (hFun sr sh h1) (sFun (oD sr ar sh h1 d1 t).1 sv (imax 0 (ap - oL sr lo ar sh h1 d1 c1 t))) ar t (pPeak (oW sr lo ar sh h1 d1 c1 t) ap) b := by
  have hsr := hN.1
  have hL := L_bd (ht := ht) (t := t) hN
  have htb := in_bd hpw
  rw [W_any (ht := ht) hsr, L_any (ht := ht) hsr]
  obtain ⟨d, hdd⟩ : ∃ d, d = (oD sr ar sh h1 d1 t).1 := ⟨_, rfl⟩
  rw [← hdd]
  have hd : ∀ j, 1 ≤ j → j ≤ 11 → 0 ≤ (d j).toInt ∧ (d j).toInt ≤ 190 := fun j a c => by
    rw [hdd, net_d.1 j a c]; exact d_bd (ht := h1) hN hpw j a c
  have he : ∀ j, 1 ≤ j → j ≤ 11 → zD sr ar sh ht t j = d j := fun j a c => by rw [hdd]; exact (D_any hsr j a c).symm
  have eS : zS sr ar sh ht t = sumUp d 11 := by rw [zS_sumD]; exact sumUp_congr 11 he
  have R := jF_run (sv := sv) hd he hap hL
  have ew : zW sr lo ar sh ht t = sumUp d 11 + zL sr lo ar sh ht t := by unfold zW; rw [eS]
  have hz : ∀ j, 1 ≤ j → j ≤ 11 → hFun sr sh ht j = 0 → sFun d sv (imax 0 (ap - zL sr lo ar sh ht t)) j = 0 := fun j a c hh => by
    refine serve_zero hd ?_ j a c ?_
    · rw [i_max, i_0]; omega
    · rw [hdd, net_d.1 j a c]
      unfold dv
      rw [H_any (ht := ht) hsr j a c, if_pos hh]
  have ep : pr9 (zW sr lo ar sh ht t) ap = if pPeak (zW sr lo ar sh ht t) ap = 0 then 2 else 3 := by
    unfold pr9 pPeak
    by_cases h : 2 * zW sr lo ar sh ht t ≤ ap
    · simp only [if_pos h, if_true]
    · simp only [if_neg h]
      rfl
  rw [eS, ep]
  unfold gFun
  rw [ew]
  obtain ⟨pr, hpr⟩ : ∃ pr : Int32, pr = if pPeak (sumUp d 11 + zL sr lo ar sh ht t) ap = 0 then 2 else 3 := ⟨_, rfl⟩
  rw [← hpr]
  have K : ∀ n, n ≤ 11 → bG (zD sr ar sh ht t) (lf9 (sumUp d 11 + zL sr lo ar sh ht t) ap (sumUp d 11) (zL sr lo ar sh ht t)) (hFun sr sh ht) ar t pr b n = itr (gStep (hFun sr sh h1) (sFun d sv (imax 0 (ap - zL sr lo ar sh ht t))) ar t pr) b n := by
    intro n
    induction n with
    | zero => intro _; rfl
    | succ n ih =>
      intro hn
      obtain ⟨b9, hb9⟩ : ∃ b9, b9 = itr (gStep (hFun sr sh h1) (sFun d sv (imax 0 (ap - zL sr lo ar sh ht t))) ar t pr) b n := ⟨_, rfl⟩
      have ih := ih (by omega)
      rw [← hb9] at ih
      have r5 := (R n (by omega)).2.2.2 (by omega)
      have es : sFun d sv (imax 0 (ap - zL sr lo ar sh ht t)) (n + 1) = imin (d (n + 1)) (itr (sStep d) (sv, imax 0 (ap - zL sr lo ar sh ht t)) n).2 := by
        unfold sFun
        have := s_stab (d := d) (sv, imax 0 (ap - zL sr lo ar sh ht t)) (n + 1) (10 - n) (n + 1) (Nat.le_refl _)
        rw [show n + 1 + (10 - n) = 11 by omega] at this
        rw [this, itr_s]
        show upd _ (n + 1) _ (n + 1) = _
        simp only [upd, if_true]
      rw [itr_s, ← hb9]
      show bSt (zD sr ar sh ht t) (lf9 (sumUp d 11 + zL sr lo ar sh ht t) ap (sumUp d 11) (zL sr lo ar sh ht t)) (hFun sr sh ht) ar t pr n (bG _ _ _ _ _ _ _ n) = _
      rw [ih]
      unfold bSt gStep
      rw [r5, ← es, H_any (ht := ht) hsr (n + 1) (by omega) (by omega)]
      obtain ⟨q1, q2⟩ := hN.2.2.1 (n + 1) (by omega) (by omega)
      have w0 := want_0 q1 q2 htb.1 htb.2
      unfold cG
      by_cases hh : hFun sr sh ht (n + 1) = 0
      · simp only [if_pos hh]
        rw [hz (n + 1) (by omega) (by omega) hh]
        by_cases hw : pWant (ar (n + 1)) t ≤ 0
        · rw [if_pos hw]
          have e0 : (if ar (n + 1) ≤ 0 then (0 : Int32) else if 18 ≤ t then 0 else 1) = 0 := by
            rcases w0.mp hw with h9 | h9
            · rw [if_pos h9]
            · by_cases h8 : ar (n + 1) ≤ 0
              · rw [if_pos h8]
              · rw [if_neg h8, if_pos h9]
          rw [if_pos e0, Int32.mul_zero, Int32.sub_zero, Int32.add_zero]
          exact upd_self rfl
        · rw [if_neg hw]
          have e0 : (if ar (n + 1) ≤ 0 then (0 : Int32) else if 18 ≤ t then 0 else 1) = 1 := by
            rw [if_neg (fun h9 => hw (w0.mpr (Or.inl h9))), if_neg (fun h9 => hw (w0.mpr (Or.inr h9)))]
          rw [e0, if_neg (by decide), Int32.mul_zero, Int32.zero_sub, ← Int32.sub_eq_add_neg]
      · simp only [if_neg hh, if_true, Int32.sub_zero]
  exact K 11 (Nat.le_refl _)
