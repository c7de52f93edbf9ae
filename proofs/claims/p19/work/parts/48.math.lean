/-! what holds stays: a step for each call -/
theorem pH_nat {J : Int32} (h : ¬ pHouse J = 0) : ∃ j, 1 ≤ j ∧ j < 12 ∧ J = nI j := by
  unfold pHouse at h
  split at h
  · exact absurd rfl h
  · split at h
    · exact absurd rfl h
    · rename_i h1 h2
      rw [i_lt, show (1 : Int32).toInt = 1 from rfl] at h1
      rw [i_le, show (12 : Int32).toInt = 12 from rfl] at h2
      obtain ⟨j, hj, rfl⟩ := nI_of (x := J) (by rw [i_lt, i_0]; omega)
      rw [nI_toInt hj] at h1 h2
      exact ⟨j, by omega, by omega, rfl⟩
theorem cdH_nat {J : Int32} (h : cdH J = 0) : ∃ j, 1 ≤ j ∧ j < 12 ∧ J.toNatClampNeg = j ∧ J = nI j := by
  have h1 : ¬ pHouse J = 0 := fun h2 => by rw [cdH, if_pos h2] at h; exact absurd h (by decide)
  obtain ⟨j, a, b, rfl⟩ := pH_nat h1
  exact ⟨j, a, b, nI_clamp (by omega), rfl⟩
theorem upd_at {f : Nat → Int32} {k j : Nat} {x : Int32} : upd f k x j = if j = k then x else f j := rfl
section IS
variable {cnt : Nat} {sr : Nat → Nat} {lo ar sh to su me sum : Nat → Int32} {n : Nat} {stp pow cst frd : Nat → Int32} {nx : Nat → Option Nat} {ord : List Nat} {ap ph J V F L : Int32}
theorem cdIn_use {a b : Int32} (h : cdIn J V a b = 0) : (∃ j, 1 ≤ j ∧ j < 12 ∧ J.toNatClampNeg = j ∧ J = nI j) ∧ a.toInt ≤ V.toInt ∧ V.toInt ≤ b.toInt := by
  unfold cdIn at h
  split at h
  · exact absurd h (by decide)
  · split at h
    · exact absurd h (by decide)
    · rename_i h1 h2
      obtain ⟨j, a1, b1, rfl⟩ := pH_nat h1
      exact ⟨⟨j, a1, b1, nI_clamp (by omega), rfl⟩, in_bd h2⟩
theorem Inv_area (hc : cdIn J V 0 50 = 0) (h : Inv cnt sr lo ar sh to su me sum n stp pow cst frd nx ord ap ph) : Inv (cnt + 1) sr lo (upd ar J.toNatClampNeg V) sh to su me sum n stp pow cst frd nx ord ap ph := by
  obtain ⟨⟨n1, n2, n3, n4⟩, h2, h3, k, hk, h4⟩ := h
  obtain ⟨-, v1, v2⟩ := cdIn_use hc
  rw [i_0] at v1
  rw [show (50 : Int32).toInt = 50 from rfl] at v2
  refine ⟨⟨n1, n2, fun j a b => ?_, n4⟩, h2, h3, k, by omega, h4⟩
  rw [upd_at]
  split
  · exact ⟨v1, v2⟩
  · exact n3 j a b
theorem feed_use (hc : cdFeed J F L ph = 0) : ∃ j f, 1 ≤ j ∧ j < 12 ∧ J = nI j ∧ F = nI f ∧ f < j ∧ 0 ≤ L.toInt ∧ L.toInt ≤ 20 := by
  unfold cdFeed at hc
  split at hc
  · exact absurd hc (by decide)
  · split at hc
    · exact absurd hc (by decide)
    · split at hc
      · exact absurd hc (by decide)
      · rename_i h1 h2 h3
        obtain ⟨j, a, b, rfl⟩ := pH_nat h1
        obtain ⟨f1, f2⟩ := in_bd h2
        obtain ⟨l1, l2⟩ := in_bd h3
        rw [i_0] at f1 l1
        rw [show (20 : Int32).toInt = 20 from rfl] at l2
        rw [show (1 : Int32) = nI 1 from rfl, pk_sub_toInt (by omega) (by omega)] at f2
        obtain ⟨f, hf, rfl⟩ := nI_of (x := F) (by rw [i_lt, i_0]; omega)
        rw [nI_toInt hf] at f2
        exact ⟨j, f, a, b, rfl, rfl, by omega, l1, l2⟩
theorem feed_eq (hc : cdFeed J F L ph = 0) : upd (fun i => nI (sr i)) J.toNatClampNeg F = fun i => nI (va_up sr J.toNatClampNeg F.toNatClampNeg i) := by
  obtain ⟨j, f, a, b, rfl, rfl, c, -, -⟩ := feed_use hc
  rw [nI_clamp (by omega), nI_clamp (by omega)]
  funext i
  simp only [upd, va_up]
  split <;> rfl
theorem Inv_feed (hc : cdFeed J F L ph = 0) (h : Inv cnt sr lo ar sh to su me sum n stp pow cst frd nx ord ap ph) : Inv (cnt + 1) (va_up sr J.toNatClampNeg F.toNatClampNeg) (upd lo J.toNatClampNeg L) ar sh to su me sum n stp pow cst frd nx ord ap ph := by
  obtain ⟨⟨n1, n2, n3, n4⟩, h2, h3, k, hk, h4⟩ := h
  obtain ⟨j, f, a, b, rfl, rfl, c, l1, l2⟩ := feed_use hc
  rw [nI_clamp (by omega), nI_clamp (by omega)]
  refine ⟨⟨fun i a1 b1 => ?_, fun i a1 b1 => ?_, n3, n4⟩, h2, h3, k, by omega, h4⟩
  · simp only [va_up]
    split
    · rename_i e; rw [e]; exact c
    · exact n1 i a1 b1
  · rw [upd_at]
    split
    · exact ⟨l1, l2⟩
    · exact n2 i a1 b1
theorem repair_use {h9 s9 p9 l9 : Int32} (hc : cdRepair J h9 s9 p9 l9 = 0) : (∃ j, 1 ≤ j ∧ j < 12 ∧ J = nI j) ∧ 1 ≤ h9.toInt := by
  unfold cdRepair at hc
  split at hc
  · exact absurd hc (by decide)
  · split at hc
    · exact absurd hc (by decide)
    · rename_i h1 h2
      obtain ⟨v1, -⟩ := in_bd h2
      rw [show (1 : Int32).toInt = 1 from rfl] at v1
      exact ⟨pH_nat h1, v1⟩
theorem Inv_repair {s9 l9 : Int32} (hc : cdRepair J V s9 ph l9 = 0) (h : Inv cnt sr lo ar sh to su me sum n stp pow cst frd nx ord ap ph) : Inv (cnt + 1) sr lo ar (upd sh J.toNatClampNeg V) to su me sum n stp pow cst frd nx ord ap ph := by
  obtain ⟨⟨n1, n2, n3, n4⟩, h2, h3, k, hk, h4⟩ := h
  obtain ⟨-, v1⟩ := repair_use hc
  refine ⟨⟨n1, n2, n3, fun j a b => ?_⟩, h2, h3, k, by omega, h4⟩
  rw [upd_at]
  split
  · omega
  · exact n4 j a b
theorem repair_code {l9 : Int32} (h : Inv cnt sr lo ar sh to su me sum n stp pow cst frd nx ord ap ph) (hcnt : cnt ≤ 512) : mdRepair J V (sh J.toNatClampNeg) ph l9 = cdRepair J V (sh J.toNatClampNeg) ph l9 := by
  obtain ⟨⟨n1, n2, n3, n4⟩, -, -, k, hk, rfl⟩ := h
  unfold mdRepair cdRepair
  by_cases h1 : pHouse J = 0
  · rw [if_pos h1, if_pos h1]
  · rw [if_neg h1, if_neg h1]
    obtain ⟨j, a, b, rfl⟩ := pH_nat h1
    have hs := n4 j a b
    rw [nI_clamp (by omega)]
    have e1 : (sh j = 0) ↔ (sh j ≤ 0) := by rw [i_eq, i_le, i_0]; omega
    have e2 : (nI k = 0) ↔ (nI k ≤ 0) := by rw [i_eq, i_le, i_0, nI_toInt (by omega)]; omega
    have e3 : (l9 < 10) ↔ ¬ (10 ≤ l9) := by rw [i_lt, i_le]; omega
    split
    · rfl
    · by_cases h2 : sh j ≤ 0
      · rw [if_pos h2, if_pos (e1.mpr h2)]
        by_cases h3 : nI k ≤ 0
        · rw [if_pos h3, if_pos (e2.mpr h3)]
        · rw [if_neg h3, if_neg (fun h4 => h3 (e2.mp h4))]
          by_cases h4 : (10 : Int32) ≤ l9
          · rw [if_pos h4, if_neg (fun h5 => (e3.mp h5) h4)]
          · rw [if_neg h4, if_pos (e3.mpr h4)]
      · rw [if_neg h2, if_neg (fun h3 => h2 (e1.mp h3))]
theorem repair_cnt {s9 l9 : Int32} (ht htm : Nat → Int32) (h : Inv cnt sr lo ar sh to su me sum n stp pow cst frd nx ord ap ph) : nFun ar (hFun sr (upd sh J.toNatClampNeg V) ht) = mnFun ar (mhFun sr (upd sh J.toNatClampNeg V) htm) := count_eq (fun j a b => (heat_eq h.1.1 j a (by omega)).1)
theorem boiler_code {S P c9 : Int32} (h : Inv cnt sr lo ar sh to su me sum n stp pow cst frd nx ord ap ph) : mdBoiler S P c9 (nI n) = cdBoiler S P c9 (nI n) := by
  have hn := h.2.2.1.1
  unfold mdBoiler cdBoiler
  split
  · rfl
  · split
    · rfl
    · split
      · rfl
      · by_cases h1 : n < 4
        · rw [if_pos (show nI n < 4 by rw [show (4 : Int32) = nI 4 from rfl, nI_ltI (by omega) (by omega)]; exact h1), if_neg (fun h2 => by rw [show (4 : Int32) = nI 4 from rfl, nI_eq (by omega) (by omega)] at h2; omega)]
        · rw [if_pos (show nI n = 4 by rw [show n = 4 by omega]; rfl), if_neg (show ¬ nI n < 4 by rw [show (4 : Int32) = nI 4 from rfl, nI_ltI (by omega) (by omega)]; omega)]
theorem Inv_boiler {S P c9 : Int32} (hc : cdBoiler S P c9 (nI n) = 0) (h : Inv cnt sr lo ar sh to su me sum n stp pow cst frd nx ord ap ph) : Inv (cnt + 1) sr lo ar sh to su me sum (n + 1) (va_up stp n S) (va_up pow n P) (va_up cst n c9) frd (addNx nx n ord.head? (lfb cst c9 none ord)) (insOrd n ord (lfb cst c9 none ord)) (ap + S * P) ph := by
  obtain ⟨h1, h2, h3, k, hk, h4⟩ := h
  exact ⟨h1, h2, (B_add h3 hc).1, k, by omega, h4⟩
theorem findL_iff {x : Int32} {m : Nat} (hm : m ≤ 4) : ∀ {ord : List Nat}, (∀ k ∈ ord, k < m) → (∀ z, findL x ord = some z → x = nI z ∧ z < m) ∧ (findL x ord = none → ∀ k ∈ ord, nI k ≠ x) := by
  intro ord
  induction ord with
  | nil => intro _; exact ⟨fun z h => (by cases h), fun _ k hk => (by cases hk)⟩
  | cons a ks ih =>
    intro h
    obtain ⟨i1, i2⟩ := ih (fun k hk => h k (List.mem_cons_of_mem _ hk))
    simp only [findL]
    by_cases h1 : nI a = x
    · rw [if_pos h1]
      exact ⟨fun z hz => by cases hz; exact ⟨h1.symm, h a List.mem_cons_self⟩, fun hz => by cases hz⟩
    · rw [if_neg h1]
      refine ⟨i1, fun hz k hk => ?_⟩
      rcases List.mem_cons.mp hk with h2 | h2
      · rw [h2]; exact h1
      · exact i2 hz k h2
theorem fired_code {x : Int32} (h : Inv cnt sr lo ar sh to su me sum n stp pow cst frd nx ord ap ph) : mdFired x n = cdFired x ord := by
  obtain ⟨-, -, ⟨b1, b2, b3, b4, b5, b6, b7, b8, b9⟩, -⟩ := h
  obtain ⟨f1, f2⟩ := findL_iff (x := x) b1 b5
  have hw : ¬ pWithin x 0 (nI n - 1) = 0 ↔ ∃ z, z < n ∧ x = nI z := by
    constructor
    · intro h
      obtain ⟨a1, a2⟩ := in_bd h
      rw [i_0] at a1
      rw [show (1 : Int32) = nI 1 from rfl, pk_sub_toInt (by omega) (by omega)] at a2
      obtain ⟨z, hz, rfl⟩ := nI_of (x := x) (by rw [i_lt, i_0]; omega)
      rw [nI_toInt hz] at a2
      exact ⟨z, by omega, rfl⟩
    · rintro ⟨z, hz, rfl⟩
      unfold pWithin
      rw [if_neg (by rw [i_lt, i_0, nI_toInt (by omega)]; omega), if_neg (by rw [i_lt, show (1 : Int32) = nI 1 from rfl, pk_sub_toInt (by omega) (by omega), nI_toInt (by omega)]; omega)]
      decide
  unfold mdFired cdFired
  cases hf : findL x ord with
  | none =>
    rw [if_pos]
    refine Decidable.byContradiction (fun h => ?_)
    obtain ⟨z, hz, e⟩ := hw.mp h
    exact f2 hf z (b6 z hz) e.symm
  | some z =>
    obtain ⟨e, hz⟩ := f1 z hf
    rw [if_neg (hw.mpr ⟨z, hz, e⟩)]
theorem fired_val {x : Int32} {z : Nat} (hz : findL x ord = some z) (h : Inv cnt sr lo ar sh to su me sum n stp pow cst frd nx ord ap ph) : frd z = frd x.toNatClampNeg := by
  obtain ⟨-, -, ⟨b1, b2, b3, b4, b5, b6, b7, b8, b9⟩, -⟩ := h
  obtain ⟨e, hz2⟩ := (findL_iff (x := x) b1 b5).1 z hz
  rw [e, nI_clamp (by omega)]
theorem meter_val (hc : cdH J = 0) (h : Inv cnt sr lo ar sh to su me sum n stp pow cst frd nx ord ap ph) : to J.toNatClampNeg = me J.toNatClampNeg := by
  obtain ⟨j, a, b, e, -⟩ := cdH_nat hc
  rw [e]; exact h.2.1.2.1 j a b
theorem susp_val (hc : cdH J = 0) (h : Inv cnt sr lo ar sh to su me sum n stp pow cst frd nx ord ap ph) : su J.toNatClampNeg = sum J.toNatClampNeg := by
  obtain ⟨j, a, b, e, -⟩ := cdH_nat hc
  rw [e]; exact h.2.1.2.2 j a b
theorem load_val {ht dm ca htm dmm cam : Nat → Int32} {t : Int32} (h : Inv cnt sr lo ar sh to su me sum n stp pow cst frd nx ord ap ph) : oW sr lo ar sh ht dm ca t = (yC sr lo ar sh htm dmm cam t).2 := (net_eq h.1 ht dm ca htm dmm cam t).2.2.2.1
/-- an hour -/
theorem hour_eq {ht dm ca htm dmm cam sv b er fl ac : Nat → Int32} {t sp : Int32} (hc : cdTemp t = 0) (hI : Inv cnt sr lo ar sh to su me sum n stp pow cst frd nx ord ap ph) :
    mbFun (yH sr sh htm) (mgFun (yM sr ar sh htm dmm cam t).1 sv (mLeft (mpFun stp pow n) (yC sr lo ar sh htm dmm cam t).2 (mlsFun (yC sr lo ar sh htm dmm cam t).1 lo))) ar t (mPr (yC sr lo ar sh htm dmm cam t).2 (mpFun stp pow n)) b = gFun (hFun sr sh ht) (sFun (oD sr ar sh ht dm t).1 sv (imax 0 (ap - oL sr lo ar sh ht dm ca t))) ar t (pPeak (oW sr lo ar sh ht dm ca t) ap) b ∧
    mfireL stp pow cst ord (yC sr lo ar sh htm dmm cam t).2 sp frd = fireL stp pow cst ord (oW sr lo ar sh ht dm ca t) sp frd ∧
    mgFun (yM sr ar sh htm dmm cam t).1 sv (mLeft (mpFun stp pow n) (yC sr lo ar sh htm dmm cam t).2 (mlsFun (yC sr lo ar sh htm dmm cam t).1 lo)) = sFun (oD sr ar sh ht dm t).1 sv (imax 0 (ap - oL sr lo ar sh ht dm ca t)) ∧
    mlsFun (yC sr lo ar sh htm dmm cam t).1 lo = oL sr lo ar sh ht dm ca t ∧ itr mSh sh 11 = eFun sh ∧
    Inv (cnt + 1) sr lo ar (eFun sh) (rFun sr lo (oC sr ar sh ht dm ca t) er (sFun (oD sr ar sh ht dm t).1 sv (imax 0 (ap - oL sr lo ar sh ht dm ca t))) to su fl ac).1.1 (rFun sr lo (oC sr ar sh ht dm ca t) er (sFun (oD sr ar sh ht dm t).1 sv (imax 0 (ap - oL sr lo ar sh ht dm ca t))) to su fl ac).1.2 (meFun sr lo (yC sr lo ar sh htm dmm cam t).1 er (sFun (oD sr ar sh ht dm t).1 sv (imax 0 (ap - oL sr lo ar sh ht dm ca t))) me sum).1 (meFun sr lo (yC sr lo ar sh htm dmm cam t).1 er (sFun (oD sr ar sh ht dm t).1 sv (imax 0 (ap - oL sr lo ar sh ht dm ca t))) me sum).2 n stp pow cst (fireL stp pow cst ord (oW sr lo ar sh ht dm ca t) sp frd).2 nx ord ap (ph + 1) := by
  have hT : -20 ≤ t.toInt ∧ t.toInt ≤ 30 := by
    unfold cdTemp at hc
    split at hc
    · exact absurd hc (by decide)
    · rename_i h1
      obtain ⟨a1, a2⟩ := in_bd h1
      rw [show (-20 : Int32).toInt = -20 from by decide] at a1
      rw [show (30 : Int32).toInt = 30 from rfl] at a2
      exact ⟨a1, a2⟩
  obtain ⟨hN, hM, hB, k, hk, hph⟩ := hI
  obtain ⟨n1, n2, n3, n4, n5, n6, n7, n8, n9⟩ := net_eq hN ht dm ca htm dmm cam t
  obtain ⟨hsr, hlo, har, hsh⟩ := hN
  obtain ⟨b1, b2, b3, b4, b5, b6, b7, b8, b9⟩ := hB
  have hdv := dv_bd (h := hFun sr sh ht) har hT.1 hT.2
  have hd : ∀ j, 1 ≤ j → j ≤ 11 → 0 ≤ ((oD sr ar sh ht dm t).1 j).toInt ∧ ((oD sr ar sh ht dm t).1 j).toInt ≤ 190 := fun j a b => by rw [(n2 j a b).1]; exact hdv j a b
  have hL : 0 ≤ (oL sr lo ar sh ht dm ca t).toInt ∧ (oL sr lo ar sh ht dm ca t).toInt ≤ 220 := by
    have := sumUp_bd (f := fun j => if oC sr ar sh ht dm ca t j = 0 then 0 else lo j) (B := 20) (by omega) 11 (by omega) (fun j a b => by
      show 0 ≤ (if oC sr ar sh ht dm ca t j = 0 then 0 else lo j).toInt ∧ (if oC sr ar sh ht dm ca t j = 0 then 0 else lo j).toInt ≤ 20
      split
      · rw [i_0]; omega
      · exact hlo j a (by omega))
    rw [n7]
    omega
  have hP := power_bd b1 b2
  have hS := sumUp_bd (f := (oD sr ar sh ht dm t).1) (B := 190) (by omega) 11 (by omega) hd
  have hsum : (oD sr ar sh ht dm t).2 = sumUp (oD sr ar sh ht dm t).1 11 := by
    rw [n6]; exact sumUp_congr 11 (fun j a b => (n2 j a b).1.symm)
  have hW : oW sr lo ar sh ht dm ca t = sumUp (oD sr ar sh ht dm t).1 11 + oL sr lo ar sh ht dm ca t := by
    show (oD sr ar sh ht dm t).2 + _ = _
    rw [hsum]
  have hG : mgFun (yM sr ar sh htm dmm cam t).1 sv (mLeft (mpFun stp pow n) (yC sr lo ar sh htm dmm cam t).2 (mlsFun (yC sr lo ar sh htm dmm cam t).1 lo)) = sFun (oD sr ar sh ht dm t).1 sv (imax 0 (ap - oL sr lo ar sh ht dm ca t)) := by
    rw [← n4, ← n5, hW, b3]
    exact (serve_eq hd (fun j a b => by rw [(n2 j a b).1, (n2 j a b).2]) hP hL).symm
  have hl0 : 0 ≤ (imax 0 (ap - oL sr lo ar sh ht dm ca t)).toInt := by rw [i_max, i_0]; omega
  have hz0 := serve_zero (sv := sv) hd hl0
  have hzC : ∀ j, 1 ≤ j → j ≤ 11 → oC sr ar sh ht dm ca t j = 0 → sFun (oD sr ar sh ht dm t).1 sv (imax 0 (ap - oL sr lo ar sh ht dm ca t)) j = 0 := fun j a b h => by
    refine hz0 j a b ?_
    have h1 := n8 j a b h
    have h2 := hdv j a b
    rw [(n2 j a b).1]
    rw [i_le, i_0] at h1
    rw [i_eq, i_0]
    omega
  have hzH : ∀ j, 1 ≤ j → j ≤ 11 → hFun sr sh ht j = 0 → sFun (oD sr ar sh ht dm t).1 sv (imax 0 (ap - oL sr lo ar sh ht dm ca t)) j = 0 := fun j a b h => by
    refine hz0 j a b ?_
    rw [(n2 j a b).1, dv, if_pos h]
  have hWn : ∃ N, N ≤ 1000000 ∧ oW sr lo ar sh ht dm ca t = nI N := by
    have e : (oW sr lo ar sh ht dm ca t).toInt = (sumUp (oD sr ar sh ht dm t).1 11).toInt + (oL sr lo ar sh ht dm ca t).toInt := by rw [hW]; exact i_add (by omega) (by omega)
    obtain ⟨N, hN, eN⟩ := nI_of (x := oW sr lo ar sh ht dm ca t) (by rw [i_lt, i_0]; omega)
    rw [eN, nI_toInt hN] at e
    exact ⟨N, by omega, eN⟩
  obtain ⟨N, hN6, eN⟩ := hWn
  have hF : mfireL stp pow cst ord (yC sr lo ar sh htm dmm cam t).2 sp frd = fireL stp pow cst ord (oW sr lo ar sh ht dm ca t) sp frd := by
    rw [← n4, eN]
    exact fire_eq b2 ord N sp frd b5 hN6
  refine ⟨?_, hF, hG, n5.symm, shut_eq sh, ?_⟩
  · rw [hG, ← n4]
    exact (bill_eq n1 rfl hzH b3).symm
  · have hr := read_eq (lo := lo) (er := er) (to := to) (su := su) (fl := fl) (ac := ac) (me := me) hsr n3 n9 hzC (fun _ _ _ => rfl) sum
    refine ⟨⟨hsr, hlo, har, shut_nn hsh⟩, ⟨read_01 hM.1, fun j a b => (hr j a (by omega)).1, fun j a b => (hr j a (by omega)).2.1⟩, ⟨b1, b2, b3, b4, b5, b6, b7, b8, fire_z ord _ _ _ b5 b9⟩, k + 1, by omega, ?_⟩
    rw [hph, nI_1]
end IS
