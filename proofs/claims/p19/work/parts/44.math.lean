/-! loads, losses; what is served; bills -/
theorem m2_load {sr : Nat → Nat} {lo : Nat → Int32} (hsr : ∀ j, 1 ≤ j → j < 12 → sr j < j) {x0 y0 : Nat → Int32} (s : Int32) (h0 : ∀ j, 1 ≤ j → j ≤ 11 → x0 j = y0 j ∧ (x0 j = 0 ∨ x0 j = 1)) : ∀ n, n ≤ 11 → (itr (m2Step sr lo) (y0, s) n).2 = s + sumDn (fun j => if itr (cStep sr) x0 11 j = 0 then 0 else lo j) n := by
  intro n
  induction n with
  | zero => intro _; show s = s + 0; rw [Int32.add_zero]
  | succ n ih =>
    intro hn
    have hk := hsr (11 - n) (by omega) (by omega)
    have e := (car_eq (lo := lo) hsr s h0 n (by omega) (11 - n) (by omega) (by omega)).1
    have e3 := car_stab hsr x0 n (11 - n) (by omega) (11 - n) (by omega)
    rw [show n + (11 - n) = 11 by omega] at e3
    have e2 : m2C sr n (itr (m2Step sr lo) (y0, s) n).1 (11 - n) = itr (cStep sr) x0 11 (11 - n) := by
      rw [e3, e]
      simp only [m2C, upd]
      rw [if_neg (by omega)]
    show (itr (m2Step sr lo) (y0, s) n).2 + (if m2C sr n (itr (m2Step sr lo) (y0, s) n).1 (11 - n) = 0 then 0 else lo (11 - n)) = _
    rw [e2, ih (by omega), sumDn_s, Int32.add_assoc]
theorem lFun_eq (C lo : Nat → Int32) : lFun C lo = sumUp (fun j => if C j = 0 then 0 else lo j) 11 := by
  refine (sumUp_congr (f := fun j => pCL C lo j) 11 (fun j h1 h2 => ?_) : sumUp (fun j => pCL C lo j) 11 = _)
  simp only [pCL, pH_nI j (by omega), if_neg (show j ≠ 0 by omega)]
  rw [if_neg (by decide)]
theorem mls_eq (C lo : Nat → Int32) : mlsFun C lo = sumUp (fun j => if C j = 0 then 0 else lo j) 11 := rfl
theorem want_bd {a t : Int32} (h1 : 0 ≤ a.toInt) (h2 : a.toInt ≤ 50) (h3 : -20 ≤ t.toInt) (h4 : t.toInt ≤ 30) : 0 ≤ (pWant a t).toInt ∧ (pWant a t).toInt ≤ 190 := by
  unfold pWant
  split
  · rename_i h
    rw [i_lt, show (18 : Int32).toInt = 18 from rfl] at h
    obtain ⟨x, hx, rfl⟩ := nI_of (x := a) (by rw [i_lt, i_0]; omega)
    rw [nI_toInt hx] at h2
    have e18 : (18 - t).toInt = 18 - t.toInt := by rw [i_sub] <;> simp only [show (18 : Int32).toInt = 18 from rfl] <;> omega
    obtain ⟨y, hy, e⟩ := nI_of (x := 18 - t) (by rw [i_lt, i_0, e18]; omega)
    have hy2 : y ≤ 38 := by rw [e, nI_toInt hy] at e18; omega
    have hx2 : x ≤ 50 := by omega
    have hxy : x * y ≤ 50 * 38 := Nat.mul_le_mul hx2 hy2
    rw [e, pk_mul, show (9 : Int32) = nI 9 from rfl, nI_add, show (10 : Int32) = nI 10 from rfl, pk_div (by omega) (by omega) (by omega), nI_toInt (by omega)]
    omega
  · rw [i_0]; omega
theorem dv_bd {h ar : Nat → Int32} {t : Int32} (ha : ∀ j, 1 ≤ j → j < 12 → 0 ≤ (ar j).toInt ∧ (ar j).toInt ≤ 50) (h3 : -20 ≤ t.toInt) (h4 : t.toInt ≤ 30) : ∀ j, 1 ≤ j → j ≤ 11 → 0 ≤ (dv h ar t j).toInt ∧ (dv h ar t j).toInt ≤ 190 := by
  intro j a b
  unfold dv
  split
  · rw [i_0]; omega
  · exact want_bd (ha j a (by omega)).1 (ha j a (by omega)).2 h3 h4
/-- class and reference lay the same net -/
theorem net_d {sr : Nat → Nat} {ar sh ht dm : Nat → Int32} {t : Int32} : (∀ j, 1 ≤ j → j ≤ 11 → (oD sr ar sh ht dm t).1 j = dv (hFun sr sh ht) ar t j) ∧ (oD sr ar sh ht dm t).2 = sumUp (dv (hFun sr sh ht) ar t) 11 := by
  unfold oD
  exact dem_cls _ _ _ _
theorem net_m {sr : Nat → Nat} {ar sh htm dmm cam : Nat → Int32} {t : Int32} : (∀ j, 1 ≤ j → j ≤ 11 → (yM sr ar sh htm dmm cam t).1 j = dv (yH sr sh htm) ar t j ∧ (yM sr ar sh htm dmm cam t).2.1 j = if dv (yH sr sh htm) ar t j ≤ 0 then 0 else 1) ∧ (yM sr ar sh htm dmm cam t).2.2 = sumUp (dv (yH sr sh htm) ar t) 11 := by
  unfold yM
  exact dem_mod _ _ _ _ _
theorem net_H {sr : Nat → Nat} {sh ht htm : Nat → Int32} (hsr : ∀ j, 1 ≤ j → j < 12 → sr j < j) : ∀ j, 1 ≤ j → j ≤ 11 → hFun sr sh ht j = yH sr sh htm j := fun j a b => by
  unfold yH
  exact (heat_eq hsr j a (by omega)).1
theorem net_dv {sr : Nat → Nat} {ar sh ht htm : Nat → Int32} {t : Int32} (hsr : ∀ j, 1 ≤ j → j < 12 → sr j < j) : ∀ j, 1 ≤ j → j ≤ 11 → dv (yH sr sh htm) ar t j = dv (hFun sr sh ht) ar t j := fun j a b => by
  unfold dv
  rw [net_H (ht := ht) (htm := htm) hsr j a b]
theorem net_c0 {sr : Nat → Nat} {ar sh ht dm ca : Nat → Int32} {t : Int32} : ∀ j, 1 ≤ j → j ≤ 11 → itr (cIni (oD sr ar sh ht dm t).1) ca 11 j = if dv (hFun sr sh ht) ar t j ≤ 0 then 0 else 1 := fun j a b => by
  rw [cIni_at _ _ j a b, net_d.1 j a b]
theorem net_h0 {sr : Nat → Nat} {ar sh ht htm dm ca dmm cam : Nat → Int32} {t : Int32} (hsr : ∀ j, 1 ≤ j → j < 12 → sr j < j) : ∀ j, 1 ≤ j → j ≤ 11 → itr (cIni (oD sr ar sh ht dm t).1) ca 11 j = (yM sr ar sh htm dmm cam t).2.1 j ∧ (itr (cIni (oD sr ar sh ht dm t).1) ca 11 j = 0 ∨ itr (cIni (oD sr ar sh ht dm t).1) ca 11 j = 1) := fun j a b => by
  rw [net_c0 j a b, (net_m.1 j a b).2, net_dv (ht := ht) hsr j a b]
  refine ⟨rfl, ?_⟩
  split
  · exact Or.inl rfl
  · exact Or.inr rfl
theorem net_C {sr : Nat → Nat} {lo ar sh ht htm dm ca dmm cam : Nat → Int32} {t : Int32} (hsr : ∀ j, 1 ≤ j → j < 12 → sr j < j) : ∀ j, 1 ≤ j → j ≤ 11 → oC sr ar sh ht dm ca t j = (yC sr lo ar sh htm dmm cam t).1 j := fun j a b => by
  unfold oC cFun yC m2Fun
  exact (car_eq (lo := lo) hsr _ (net_h0 hsr) 11 (Nat.le_refl _) j a b).1
theorem net_L {sr : Nat → Nat} {lo ar sh ht dm ca : Nat → Int32} {t : Int32} : oL sr lo ar sh ht dm ca t = sumUp (fun j => if oC sr ar sh ht dm ca t j = 0 then 0 else lo j) 11 := by
  unfold oL
  exact lFun_eq _ _
theorem net_W {sr : Nat → Nat} {lo ar sh ht htm dm ca dmm cam : Nat → Int32} {t : Int32} (hsr : ∀ j, 1 ≤ j → j < 12 → sr j < j) : oW sr lo ar sh ht dm ca t = (yC sr lo ar sh htm dmm cam t).2 := by
  have e1 : oW sr lo ar sh ht dm ca t = (oD sr ar sh ht dm t).2 + oL sr lo ar sh ht dm ca t := by unfold oW; rfl
  have e2 : (yC sr lo ar sh htm dmm cam t).2 = (yM sr ar sh htm dmm cam t).2.2 + sumDn (fun j => if oC sr ar sh ht dm ca t j = 0 then 0 else lo j) 11 := by
    unfold yC m2Fun oC cFun
    exact m2_load hsr _ (net_h0 hsr) 11 (Nat.le_refl _)
  rw [e1, e2, sum_dn_up, net_d.2, net_m.2, net_L, sumUp_congr 11 (net_dv (ht := ht) (htm := htm) (ar := ar) (t := t) hsr)]
theorem net_ls {sr : Nat → Nat} {lo ar sh ht htm dm ca dmm cam : Nat → Int32} {t : Int32} (hsr : ∀ j, 1 ≤ j → j < 12 → sr j < j) : oL sr lo ar sh ht dm ca t = mlsFun (yC sr lo ar sh htm dmm cam t).1 lo := by
  rw [net_L, mls_eq]
  refine sumUp_congr 11 (fun j a b => ?_)
  rw [net_C (lo := lo) (htm := htm) (dmm := dmm) (cam := cam) hsr j a b]
theorem net_pos {sr : Nat → Nat} {ar sh ht dm ca : Nat → Int32} {t : Int32} : ∀ j, 1 ≤ j → j ≤ 11 → oC sr ar sh ht dm ca t j = 0 → dv (hFun sr sh ht) ar t j ≤ 0 := fun j a b h => by
  refine Decidable.byContradiction (fun hn => ?_)
  unfold oC cFun at h
  have h0 : itr (cStep sr) (itr (cIni (oD sr ar sh ht dm t).1) ca 11) 0 j ≠ 0 := by
    show itr (cIni (oD sr ar sh ht dm t).1) ca 11 j ≠ 0
    rw [net_c0 j a b, if_neg hn]
    decide
  exact car_mono (sr := sr) (itr (cIni (oD sr ar sh ht dm t).1) ca 11) 0 11 j h0 h
theorem net_cl {sr : Nat → Nat} {ar sh ht dm ca : Nat → Int32} {t : Int32} (hsr : ∀ j, 1 ≤ j → j < 12 → sr j < j) : ∀ j, 1 ≤ j → j ≤ 11 → 1 ≤ sr j → oC sr ar sh ht dm ca t j ≠ 0 → oC sr ar sh ht dm ca t (sr j) ≠ 0 := fun j a b hk h => by
  unfold oC cFun at h ⊢
  exact car_clos hsr _ a b hk h
theorem net_eq {sr : Nat → Nat} {lo ar sh : Nat → Int32} (hN : NInv sr lo ar sh) (ht dm ca htm dmm cam : Nat → Int32) (t : Int32) :
    (∀ j, 1 ≤ j → j ≤ 11 → hFun sr sh ht j = yH sr sh htm j) ∧
    (∀ j, 1 ≤ j → j ≤ 11 → (oD sr ar sh ht dm t).1 j = dv (hFun sr sh ht) ar t j ∧ (yM sr ar sh htm dmm cam t).1 j = dv (hFun sr sh ht) ar t j) ∧
    (∀ j, 1 ≤ j → j ≤ 11 → oC sr ar sh ht dm ca t j = (yC sr lo ar sh htm dmm cam t).1 j) ∧
    (oW sr lo ar sh ht dm ca t = (yC sr lo ar sh htm dmm cam t).2) ∧
    (oL sr lo ar sh ht dm ca t = mlsFun (yC sr lo ar sh htm dmm cam t).1 lo) ∧
    (oD sr ar sh ht dm t).2 = sumUp (dv (hFun sr sh ht) ar t) 11 ∧
    (oL sr lo ar sh ht dm ca t = sumUp (fun j => if oC sr ar sh ht dm ca t j = 0 then 0 else lo j) 11) ∧
    (∀ j, 1 ≤ j → j ≤ 11 → oC sr ar sh ht dm ca t j = 0 → dv (hFun sr sh ht) ar t j ≤ 0) ∧
    (∀ j, 1 ≤ j → j ≤ 11 → 1 ≤ sr j → oC sr ar sh ht dm ca t j ≠ 0 → oC sr ar sh ht dm ca t (sr j) ≠ 0) := by
  have hsr := hN.1
  exact ⟨net_H hsr, fun j a b => ⟨net_d.1 j a b, (net_m.1 j a b).1.trans (net_dv hsr j a b)⟩, net_C hsr, net_W hsr, net_ls hsr, net_d.2, net_L, net_pos, net_cl hsr⟩
/-- what is served -/
theorem serve_zero {d sv : Nat → Int32} {l0 : Int32} (hd : ∀ j, 1 ≤ j → j ≤ 11 → 0 ≤ (d j).toInt ∧ (d j).toInt ≤ 190) (hl : 0 ≤ l0.toInt) : ∀ j, 1 ≤ j → j ≤ 11 → d j = 0 → sFun d sv l0 j = 0 := by
  have K := itr_inv (s1 := sStep d) (a := (sv, l0)) (fun n x => 0 ≤ x.2.toInt ∧ ∀ j, 1 ≤ j → j ≤ n → d j = 0 → x.1 j = 0) 11 ⟨hl, fun j a b => by omega⟩ (by
    intro n x hn hP
    obtain ⟨h1, h2⟩ := hP
    have hdn := hd (n + 1) (by omega) (by omega)
    have em : (imin (d (n + 1)) x.2).toInt = min (d (n + 1)).toInt x.2.toInt := i_min
    have hx : x.2.toInt < 2147483648 := by have := x.2.toInt_lt; omega
    refine ⟨?_, fun j a b hz => ?_⟩
    · show 0 ≤ (x.2 - imin (d (n + 1)) x.2).toInt
      rw [i_sub (by omega) (by omega)]
      omega
    · show upd x.1 (n + 1) (imin (d (n + 1)) x.2) j = 0
      by_cases hj : j = n + 1
      · subst hj
        simp only [upd, if_true]
        rw [i_eq, em, hz, i_0]
        omega
      · simp only [upd, if_neg hj]
        exact h2 j a (by omega) hz) 11 (Nat.le_refl _)
  exact fun j a b => K.2 j a b
theorem serve_eq {d d' sv : Nat → Int32} {P L : Int32} (hd : ∀ j, 1 ≤ j → j ≤ 11 → 0 ≤ (d j).toInt ∧ (d j).toInt ≤ 190) (he : ∀ j, 1 ≤ j → j ≤ 11 → d' j = d j) (hP : 0 ≤ P.toInt ∧ P.toInt ≤ 2000) (hL : 0 ≤ L.toInt ∧ L.toInt ≤ 220) : sFun d sv (imax 0 (P - L)) = mgFun d' sv (mLeft P (sumUp d 11 + L) L) := by
  have hT := sumUp_bd (B := 190) (by omega) 11 (by omega) hd
  have ePL : (P - L).toInt = P.toInt - L.toInt := i_sub (by omega) (by omega)
  have eM : (imax 0 (P - L)).toInt = max 0 (P.toInt - L.toInt) := by rw [i_max, i_0, ePL]
  have eW : (sumUp d 11 + L).toInt = (sumUp d 11).toInt + L.toInt := i_add (by omega) (by omega)
  by_cases hW : sumUp d 11 + L ≤ P
  · -- there is enough
    have hW' := hW
    rw [i_le, eW] at hW'
    have K := itr_eq (s1 := sStep d) (s2 := mgStep d') (a := (sv, imax 0 (P - L))) (b := (sv, mLeft P (sumUp d 11 + L) L)) (fun n x y => x.1 = y.1 ∧ ((sumUp d 11).toInt - (sumUp d n).toInt ≤ x.2.toInt ∧ x.2.toInt ≤ 10000) ∧ (sumUp d 11).toInt - (sumUp d n).toInt ≤ y.2.toInt ∧ y.2.toInt ≤ 10000) 11 (by
      refine ⟨rfl, ?_, ?_⟩
      · show _ - (0 : Int32).toInt ≤ (imax 0 (P - L)).toInt ∧ (imax 0 (P - L)).toInt ≤ _
        rw [eM, i_0]; omega
      · show _ - (0 : Int32).toInt ≤ (mLeft P (sumUp d 11 + L) L).toInt ∧ (mLeft P (sumUp d 11 + L) L).toInt ≤ _
        rw [mLeft, if_pos hW, eW, i_0]; omega) (by
      intro n x y hn hR
      obtain ⟨r1, ⟨r2, r3⟩, r4, r5⟩ := hR
      obtain ⟨g1, g2⟩ := hd (n + 1) (by omega) (by omega)
      have s1 := sumUp_mono (B := 190) (by omega) hd hn
      have s2 := sumUp_le (B := 190) (by omega) hd (n := n + 1) (10 - n) (by omega)
      rw [show n + 1 + (10 - n) = 11 by omega] at s2
      have v1 : imin (d (n + 1)) x.2 = d (n + 1) := by rw [i_eq, i_min]; omega
      have v2 : mgV d' n y.2 = d (n + 1) := by
        unfold mgV
        rw [he (n + 1) (by omega) (by omega), if_pos (show (0 : Int32) ≤ y.2 by rw [i_le, i_0]; omega)]
        split
        · rename_i h; rw [i_le] at h; rw [i_eq]; omega
        · rfl
      refine ⟨?_, ?_, ?_⟩
      · show upd x.1 (n + 1) (imin (d (n + 1)) x.2) = upd y.1 (n + 1) (mgV d' n y.2)
        rw [v1, v2, r1]
      · show _ ≤ (x.2 - imin (d (n + 1)) x.2).toInt ∧ (x.2 - imin (d (n + 1)) x.2).toInt ≤ _
        rw [v1, i_sub (by omega) (by omega)]; omega
      · show _ ≤ (y.2 - mgV d' n y.2).toInt ∧ (y.2 - mgV d' n y.2).toInt ≤ _
        rw [v2, i_sub (by omega) (by omega)]; omega) 11 (Nat.le_refl _)
    exact K.1
  · -- there isn't
    have hW' := hW
    rw [i_le, eW] at hW'
    have K := itr_eq (s1 := sStep d) (s2 := mgStep d') (a := (sv, imax 0 (P - L))) (b := (sv, mLeft P (sumUp d 11 + L) L)) (fun n x y => x.1 = y.1 ∧ x.2.toInt = max 0 y.2.toInt ∧ -300 ≤ y.2.toInt ∧ y.2.toInt ≤ 2000) 11 (by
      refine ⟨rfl, ?_, ?_⟩
      · show (imax 0 (P - L)).toInt = max 0 (mLeft P (sumUp d 11 + L) L).toInt
        rw [eM, mLeft, if_neg hW, ePL]
      · show -300 ≤ (mLeft P (sumUp d 11 + L) L).toInt ∧ (mLeft P (sumUp d 11 + L) L).toInt ≤ 2000
        rw [mLeft, if_neg hW, ePL]; omega) (by
      intro n x y hn hR
      obtain ⟨r1, r2, r3, r4⟩ := hR
      obtain ⟨g1, g2⟩ := hd (n + 1) (by omega) (by omega)
      have v1 : (imin (d (n + 1)) x.2).toInt = min (d (n + 1)).toInt x.2.toInt := i_min
      have v2 : mgV d' n y.2 = imin (d (n + 1)) x.2 := by
        rw [i_eq, v1, r2]
        unfold mgV
        rw [he (n + 1) (by omega) (by omega)]
        by_cases h0 : (0 : Int32) ≤ y.2
        · rw [if_pos h0]
          rw [i_le, i_0] at h0
          split
          · rename_i h; rw [i_le] at h; omega
          · rename_i h; rw [i_le] at h; omega
        · rw [if_neg h0]
          rw [i_le, i_0] at h0
          split
          · rw [i_0]; omega
          · rename_i h; rw [i_le, i_0] at h; omega
      refine ⟨?_, ?_, ?_⟩
      · show upd x.1 (n + 1) (imin (d (n + 1)) x.2) = upd y.1 (n + 1) (mgV d' n y.2)
        rw [v2, r1]
      · show (x.2 - imin (d (n + 1)) x.2).toInt = max 0 (y.2 - mgV d' n y.2).toInt
        rw [v2, i_sub (by omega) (by omega), i_sub (by omega) (by omega)]; omega
      · show -300 ≤ (y.2 - mgV d' n y.2).toInt ∧ (y.2 - mgV d' n y.2).toInt ≤ 2000
        rw [v2, i_sub (by omega) (by omega)]; omega) 11 (Nat.le_refl _)
    exact K.1
/-- bills -/
theorem upd_self {f : Nat → Int32} {k : Nat} {x : Int32} (h : x = f k) : upd f k x = f := by
  funext j
  simp only [upd]
  split
  · rename_i e; rw [e, h]
  · rfl
theorem bill_eq {ht htm sv go ar b : Nat → Int32} {t w ap P : Int32} (hh : ∀ j, 1 ≤ j → j ≤ 11 → ht j = htm j) (hg : sv = go) (hz : ∀ j, 1 ≤ j → j ≤ 11 → ht j = 0 → sv j = 0) (hP : ap = P) : gFun ht sv ar t (pPeak w ap) b = mbFun htm go ar t (mPr w P) b := by
  subst hg
  subst hP
  have hpr : (if pPeak w ap = 0 then (2 : Int32) else 3) = mPr w ap := by
    unfold pPeak mPr
    by_cases h : 2 * w ≤ ap
    · simp [h]
    · simp [h]
  unfold gFun mbFun
  rw [hpr]
  refine itr_eq (s1 := gStep ht sv ar t (mPr w ap)) (s2 := mbStep htm sv ar t (mPr w ap)) (a := b) (b := b) (fun _ x y => x = y) 11 rfl ?_ 11 (Nat.le_refl _)
  intro n x y hn e
  subst e
  have e1 := hh (n + 1) (by omega) (by omega)
  unfold gStep mbStep
  rw [← e1]
  by_cases h0 : ht (n + 1) = 0
  · rw [if_pos h0, if_pos h0, hz (n + 1) (by omega) (by omega) h0]
    by_cases h1 : pWant (ar (n + 1)) t ≤ 0
    · rw [if_pos h1, if_pos h1]
      refine (upd_self ?_).symm
      simp
    · rw [if_neg h1, if_neg h1]
      have e9 : x (n + 1) - 3 = x (n + 1) + (mPr w ap * 0 - 3) := by simp [Int32.sub_eq_add_neg]
      rw [e9]
  · rw [if_neg h0, if_neg h0]
    have e9 : x (n + 1) + mPr w ap * sv (n + 1) = x (n + 1) + (mPr w ap * sv (n + 1) - 0) := by simp
    rw [e9]
theorem shut_eq (s : Nat → Int32) : itr mSh s 11 = eFun s := by
  unfold eFun
  refine itr_eq (s1 := mSh) (s2 := eStep) (a := s) (b := s) (fun _ x y => x = y) 11 rfl ?_ 11 (Nat.le_refl _)
  intro n x y hn e
  subst e
  unfold mSh eStep
  split
  · exact upd_self (by simp)
  · rfl
theorem shut_nn {s : Nat → Int32} (h : ∀ j, 1 ≤ j → j < 12 → 0 ≤ (s j).toInt) : ∀ j, 1 ≤ j → j < 12 → 0 ≤ (eFun s j).toInt := by
  have K := itr_inv (s1 := eStep) (a := s) (fun _ x => ∀ j, 1 ≤ j → j < 12 → 0 ≤ (x j).toInt) 11 h (by
    intro n x hn hP j a b
    unfold eStep
    split
    · exact hP j a b
    · rename_i h0
      rw [i_le, i_0] at h0
      simp only [upd]
      split
      · rw [i_sub] <;> simp only [show (1 : Int32).toInt = 1 from rfl] <;> have := (x (n + 1)).toInt_lt <;> omega
      · exact hP j a b) 11 (Nat.le_refl _)
  exact K
theorem count_eq {ar ht htm : Nat → Int32} (h : ∀ j, 1 ≤ j → j ≤ 11 → ht j = htm j) : nFun ar ht = mnFun ar htm := by
  refine itr_eq (s1 := nStep ar ht) (s2 := mnStep ar htm) (a := 0) (b := 0) (fun _ x y => x = y) 11 rfl ?_ 11 (Nat.le_refl _)
  intro n x y hn e
  subst e
  unfold nStep mnStep
  rw [← h (n + 1) (by omega) (by omega)]
  split
  · simp
  · split <;> simp
