set_option maxHeartbeats 4000000 in
set_option maxRecDepth 100000 in
/-- draw -/
theorem c_L_draw {l : Launch} {D : va_G} {cy : ClassId × ClassId × ClassId} (bS L k : Nat) (xs : Nat → Int32) (hk : k < L) (hL : L < 2 ^ 31) : xMS l yL_draw wsL_draw ({ frames := 0, cells := 0, slots := 0, locals := 0 }) D cy [.ref bS, .int (nI k)] bS L xs (xQi D (fun r w => r = xs k &&& 2147483647 ∧ w = [])) := by
  refine xMS_of (nL := 2) (ret := some .int) RL [(0, .ref bS), (1, .int (nI k))] (by decide +kernel) rfl rfl rfl (Nat.le_of_ble_eq_true rfl) (fun p e s m args below meth c A C hX hbl hbA => ?_)
  refine x_iload_n (q := 1) C 1 rfl dL_draw_0 rfl ?_
  refine x_aload_n (q := 2) C 0 rfl dL_draw_1 rfl ?_
  refine x_slen (q := 3) C hX hbl hbA dL_draw_2 rfl ?_
  refine x_icmp_ge_f (q := 6) C 15 dL_draw_3 (by decide) rfl (nI_ge (a := k) (b := L) (by omega) (by omega)) ?_
  refine x_aload_n (q := 7) C 0 rfl dL_draw_6 rfl ?_
  refine x_iload_n (q := 8) C 1 rfl dL_draw_7 rfl ?_
  refine x_sld (q := 9) C hX hbl hbA k (xs k) rfl (by omega) (by omega) rfl dL_draw_8 rfl ?_
  refine x_ldc (q := 11) C 2147483647 (by decide +kernel : Cond.constant RL 7 2147483647 ∈ wsL_draw) dL_draw_9 rfl ?_
  refine x_iand (q := 12) C ((xs k) &&& 2147483647) rfl dL_draw_11 rfl ?_
  refine x_goto C 24 dL_draw_12 (by decide) ?_
  exact x_iret C .int rfl rfl (⟨rfl, rfl⟩) dL_draw_24 (Nat.le_of_ble_eq_true rfl) (Nat.le_of_ble_eq_true rfl)

set_option maxHeartbeats 4000000 in
set_option maxRecDepth 100000 in
/-- hasHeat -/
theorem c_L_hasHeat {l : Launch} {D : va_G} {cy : ClassId × ClassId × ClassId} (go no po mo gB : Nat) (nS nL nA nH nV nT nC nD : Nat) (aN : Nat) (sr : Nat → Nat) (lo ar er b : Nat → Int32) (sh ht : Nat → Int32) (ph lt ll sl : Int32) (k0 : Nat) (hsr : ∀ j, 1 ≤ j → j < 12 → sr j < j) (h1k : 1 ≤ k0) (h2k : k0 < 12) : xM false l yL_hasHeat wsL_hasHeat ({ frames := 2, cells := 0, slots := 0, locals := 41 }) D cy [.ref go, .ref aN, .int (nI k0)] ([(go, .inr (4, [.ref no, .ref po, .ref mo, .ref gB, .int ph, .int lt, .int ll])), (no, .inr (2, [.ref nS, .ref nL, .ref nA, .ref nH, .ref nV, .ref nT, .ref nC, .ref nD, .int sl])), (nH, .inl (cy.1, 12, .inl sh)), (aN, .inl (cy.1, 60, .inl (nF sr lo ar er b)))]) (xQi D (fun r w => r = hFun sr sh ht k0 ∧ w = [(go, .inr (4, [.ref no, .ref po, .ref mo, .ref gB, .int ph, .int lt, .int ll])), (no, .inr (2, [.ref nS, .ref nL, .ref nA, .ref nH, .ref nV, .ref nT, .ref nC, .ref nD, .int sl])), (nH, .inl (cy.1, 12, .inl sh)), (aN, .inl (cy.1, 60, .inl (nF sr lo ar er b)))])) 0 0 := by
  refine xM_of (X := [(go, .inr (4, [.ref no, .ref po, .ref mo, .ref gB, .int ph, .int lt, .int ll])), (no, .inr (2, [.ref nS, .ref nL, .ref nA, .ref nH, .ref nV, .ref nT, .ref nC, .ref nD, .int sl])), (nH, .inl (cy.1, 12, .inl sh)), (aN, .inl (cy.1, 60, .inl (nF sr lo ar er b)))]) (pl := []) (nL := 5) (ret := (some .boolean)) RL [(0, .ref go), (1, .ref aN), (2, .int (nI k0))] (by decide +kernel) rfl rfl rfl (Nat.le_of_ble_eq_true rfl) (List.append_nil _).symm (fun p e s m args below meth c A C hname hT hZ => ?_)
  refine x_iconst (q := 1) C 1 rfl dL_hasHeat_0 rfl ?_
  refine x_istore_n (q := 2) C [(3, .int 1), (0, .ref go), (1, .ref aN), (2, .int (nI k0))] dL_hasHeat_1 (by decide) rfl rfl ?_
  refine x_iload_n (q := 3) C 3 rfl dL_hasHeat_2 rfl ?_
  refine x_istore (q := 5) C [(4, .int (nI k0)), (3, .int 1), (0, .ref go), (1, .ref aN), (2, .int (nI k0))] dL_hasHeat_3 (by decide) rfl rfl ?_
  refine x_less [1, 0, 2, 3] [(3, .int 1), (4, .int (nI k0)), (0, .ref go), (1, .ref aN)] rfl ?_
  refine x_rec (σ := Int32 × Nat) (fun x => x.2) (fun x => x.2 ≤ 11 ∧ (x.1 = 0 ∨ x.1 = 1) ∧ (if x.1 = 0 then 0 else hq sr sh ht x.2) = hq sr sh ht k0) (fun _ => [(go, .inr (4, [.ref no, .ref po, .ref mo, .ref gB, .int ph, .int lt, .int ll])), (no, .inr (2, [.ref nS, .ref nL, .ref nA, .ref nH, .ref nV, .ref nT, .ref nC, .ref nD, .int sl])), (nH, .inl (cy.1, 12, .inl sh)), (aN, .inl (cy.1, 60, .inl (nF sr lo ar er b)))]) (fun _ => []) (fun x => [(3, .int x.1), (4, .int (nI x.2)), (0, .ref go), (1, .ref aN)]) (1, k0) rfl rfl rfl ⟨by show k0 ≤ 11; omega, Or.inr rfl, if_neg (show ¬ (1 : Int32) = 0 by decide)⟩ (fun x hI ih => ?_)
  obtain ⟨a, k⟩ := x
  have hk : k ≤ 11 := hI.1
  have ha : a = 0 ∨ a = 1 := hI.2.1
  have hv : (if a = 0 then 0 else hq sr sh ht k) = hq sr sh ht k0 := hI.2.2
  refine x_less [0, 1, 2, 3] [(3, .int a), (4, .int (nI k)), (0, .ref go), (1, .ref aN)] rfl ?_
  by_cases hz : k = 0
  · refine x_iload (q := 7) C 1 rfl dL_hasHeat_5 rfl ?_
    refine x_if_le_t C 38 dL_hasHeat_7 (by decide) (nI_le (a := k) (b := 0) (by omega) (by omega)) ?_
    refine x_iload_n (q := 39) C 0 rfl dL_hasHeat_38 rfl ?_
    exact x_iret C .boolean rfl (by rcases ha with h | h <;> rw [h] <;> rfl) (⟨by rw [← hq_pos h1k, ← hv, hz]; rcases ha with h | h <;> subst h <;> rfl, rfl⟩) dL_hasHeat_39 (Nat.le_of_ble_eq_true rfl) (Nat.le_of_ble_eq_true rfl)
  · refine x_iload (q := 7) C 1 rfl dL_hasHeat_5 rfl ?_
    refine x_if_le_f (q := 10) C 38 dL_hasHeat_7 (by decide) rfl (nI_ge (a := 0) (b := k) (by omega) (by omega)) ?_
    refine x_join 28 (fun v => v = and2 a (if sh k = 0 then 1 else 0)) [] (fun v hv => ?_) (fun J_10 => ?_)
    · subst hv
      refine x_istore_n (q := 29) C [(3, .int (and2 a (if sh k = 0 then 1 else 0))), (4, .int (nI k)), (0, .ref go), (1, .ref aN)] dL_hasHeat_28 (by decide) rfl rfl ?_
      refine x_aload_n (q := 30) C 3 rfl dL_hasHeat_29 rfl ?_
      refine x_iload (q := 32) C 1 rfl dL_hasHeat_30 rfl ?_
      refine x_ialdN (q := 33) C k 3 (nI (sr k)) rfl rfl (by omega) (by omega) (nF_0 (by omega)) dL_hasHeat_32 rfl ?_
      refine x_istore (q := 35) C [(4, .int (nI (sr k))), (3, .int (and2 a (if sh k = 0 then 1 else 0))), (0, .ref go), (1, .ref aN)] dL_hasHeat_33 (by decide) rfl rfl ?_
      refine x_goto C 5 dL_hasHeat_35 (by decide) ?_
      refine x_less [1, 0, 2, 3] [(3, .int (and2 a (if sh k = 0 then 1 else 0))), (4, .int (nI (sr k))), (0, .ref go), (1, .ref aN)] rfl ?_
      have hs9 := hsr k (by omega) (by omega)
      exact ih (and2 a (if sh k = 0 then 1 else 0), sr k) ⟨by show sr k ≤ 11; omega, and2_01, by rw [← hv, hq_rec hsr (by omega) hk]; exact and2_step⟩ (by show sr k < k; omega)
    · refine x_iload_n (q := 11) C 0 rfl dL_hasHeat_10 rfl ?_
      refine x_if_eq (q := 14) C 27 dL_hasHeat_11 (by decide) rfl (fun c_11 => ?_) (fun c_11 => ?_)
      · refine x_iconst (q := 28) C 0 rfl dL_hasHeat_27 rfl ?_
        exact J_10 _ (by simp only [and2, if_pos c_11])
      · refine x_aload_n (q := 15) C 2 rfl dL_hasHeat_14 rfl ?_
        refine x_iload (q := 17) C 1 rfl dL_hasHeat_15 rfl ?_
        refine x_CiP (q := 20) C [0, 1, 2] [3] (cx := [(go, .inr (4, [.ref no, .ref po, .ref mo, .ref gB, .int ph, .int lt, .int ll])), (no, .inr (2, [.ref nS, .ref nL, .ref nA, .ref nH, .ref nV, .ref nT, .ref nC, .ref nD, .int sl])), (nH, .inl (cy.1, 12, .inl sh))]) (wr := [(aN, .inl (cy.1, 60, .inl (nF sr lo ar er b)))]) (st := []) rfl rfl rfl rfl (by decide) (fun H locs ls hP hPc hDc hS hFc hl => x_runV C (As := [.int (nI k)]) (c_X4_isOpen go no po mo gB nS nL nA nH nV nT nC nD sh ph lt ll sl k (by omega) (by omega)) (cwV 1 C.2.2.2.2.2.1 gL_hasHeat_X4_isOpen rfl rfl rfl (by decide +kernel) ⟨Nat.le_of_ble_eq_true rfl, Nat.le_of_ble_eq_true rfl⟩) rfl 0 rfl rfl rfl (Nat.le_of_ble_eq_true rfl) dL_hasHeat_17 ⟨Nat.le_of_ble_eq_true rfl, Nat.le_of_ble_eq_true rfl⟩ (fun h => absurd h (by decide)) hP hPc hDc hS hFc hl) (k := 0) (n := 0) rfl rfl rfl (fun r_17 w1 hw => ?_)
        obtain ⟨rfl, rfl⟩ := hw
        refine x_ord [1, 2, 3, 0] [(go, .inr (4, [.ref no, .ref po, .ref mo, .ref gB, .int ph, .int lt, .int ll])), (no, .inr (2, [.ref nS, .ref nL, .ref nA, .ref nH, .ref nV, .ref nT, .ref nC, .ref nD, .int sl])), (nH, .inl (cy.1, 12, .inl sh)), (aN, .inl (cy.1, 60, .inl (nF sr lo ar er b)))] rfl rfl ?_
        refine x_if_eq (q := 23) C 27 dL_hasHeat_20 (by decide) rfl (fun c_20 => ?_) (fun c_20 => ?_)
        · refine x_iconst (q := 28) C 0 rfl dL_hasHeat_27 rfl ?_
          exact J_10 _ (by simp only [and2, if_neg c_11, if_pos c_20])
        · refine x_iconst (q := 24) C 1 rfl dL_hasHeat_23 rfl ?_
          refine x_goto C 28 dL_hasHeat_24 (by decide) ?_
          exact J_10 _ (by simp only [and2, if_neg c_11, if_neg c_20])

set_option maxHeartbeats 4000000 in
set_option maxRecDepth 100000 in
/-- demand -/
theorem c_L_demand {l : Launch} {D : va_G} {cy : ClassId × ClassId × ClassId} (go no po mo gB : Nat) (nS nL nA nH nV nT nC nD : Nat) (aN : Nat) (sr : Nat → Nat) (lo ar er b : Nat → Int32) (sh ht : Nat → Int32) (ph lt ll sl t : Int32) (k : Nat) (hsr : ∀ j, 1 ≤ j → j < 12 → sr j < j) (h1k : 1 ≤ k) (h2k : k < 12) (har : 0 ≤ (ar k).toInt ∧ (ar k).toInt ≤ 50) (ht9 : -20 ≤ t.toInt ∧ t.toInt ≤ 30) : xM false l yL_demand wsL_demand ({ frames := 3, cells := 0, slots := 0, locals := 65 }) D cy [.ref go, .ref aN, .int (nI k), .int t] ([(go, .inr (4, [.ref no, .ref po, .ref mo, .ref gB, .int ph, .int lt, .int ll])), (no, .inr (2, [.ref nS, .ref nL, .ref nA, .ref nH, .ref nV, .ref nT, .ref nC, .ref nD, .int sl])), (nH, .inl (cy.1, 12, .inl sh)), (aN, .inl (cy.1, 60, .inl (nF sr lo ar er b)))]) (xQi D (fun r w => r = dv (hFun sr sh ht) ar t k ∧ w = [(go, .inr (4, [.ref no, .ref po, .ref mo, .ref gB, .int ph, .int lt, .int ll])), (no, .inr (2, [.ref nS, .ref nL, .ref nA, .ref nH, .ref nV, .ref nT, .ref nC, .ref nD, .int sl])), (nH, .inl (cy.1, 12, .inl sh)), (aN, .inl (cy.1, 60, .inl (nF sr lo ar er b)))])) 0 0 := by
  refine xM_of (X := [(go, .inr (4, [.ref no, .ref po, .ref mo, .ref gB, .int ph, .int lt, .int ll])), (no, .inr (2, [.ref nS, .ref nL, .ref nA, .ref nH, .ref nV, .ref nT, .ref nC, .ref nD, .int sl])), (nH, .inl (cy.1, 12, .inl sh)), (aN, .inl (cy.1, 60, .inl (nF sr lo ar er b)))]) (pl := []) (nL := 5) (ret := (some .int)) RL [(0, .ref go), (1, .ref aN), (2, .int (nI k)), (3, .int t)] (by decide +kernel) rfl rfl rfl (Nat.le_of_ble_eq_true rfl) (List.append_nil _).symm (fun p e s m args below meth c A C hname hT hZ => ?_)
  refine x_join 21 (fun v => v = (if 18 ≤ t then 0 else ar k * (18 - t))) [] (fun v hv => ?_) (fun J_0 => ?_)
  · subst hv
    refine x_istore (q := 23) C [(4, .int (if 18 ≤ t then 0 else ar k * (18 - t))), (0, .ref go), (1, .ref aN), (2, .int (nI k)), (3, .int t)] dL_demand_21 (by decide) rfl rfl ?_
    refine x_aload_n (q := 24) C 1 rfl dL_demand_23 rfl ?_
    refine x_aload_n (q := 25) C 2 rfl dL_demand_24 rfl ?_
    refine x_iload_n (q := 26) C 3 rfl dL_demand_25 rfl ?_
    refine x_CiP (q := 29) C [0, 1, 2, 3] [] (cx := [(go, .inr (4, [.ref no, .ref po, .ref mo, .ref gB, .int ph, .int lt, .int ll])), (no, .inr (2, [.ref nS, .ref nL, .ref nA, .ref nH, .ref nV, .ref nT, .ref nC, .ref nD, .int sl])), (nH, .inl (cy.1, 12, .inl sh)), (aN, .inl (cy.1, 60, .inl (nF sr lo ar er b)))]) (wr := []) (st := []) rfl rfl rfl rfl (by decide) (fun H locs ls hP hPc hDc hS hFc hl => x_runS C (As := [.ref go, .ref aN, .int (nI k)]) (c_L_hasHeat go no po mo gB nS nL nA nH nV nT nC nD aN sr lo ar er b sh ht ph lt ll sl k hsr (by omega) (by omega)) (va_cwS 3 C.2.2.2.2.2.1 gL_demand_L_hasHeat rfl rfl rfl (by decide +kernel) ⟨Nat.le_of_ble_eq_true rfl, Nat.le_of_ble_eq_true rfl⟩) rfl rfl (Nat.le_of_ble_eq_true rfl) dL_demand_26 ⟨Nat.le_of_ble_eq_true rfl, Nat.le_of_ble_eq_true rfl⟩ (fun h => absurd h (by decide)) hP hPc hDc hS hFc hl) (k := 0) (n := 0) rfl rfl rfl (fun r_26 w1 hw => ?_)
    obtain ⟨rfl, rfl⟩ := hw
    refine x_ord [0, 1, 2, 3] [(go, .inr (4, [.ref no, .ref po, .ref mo, .ref gB, .int ph, .int lt, .int ll])), (no, .inr (2, [.ref nS, .ref nL, .ref nA, .ref nH, .ref nV, .ref nT, .ref nC, .ref nD, .int sl])), (nH, .inl (cy.1, 12, .inl sh)), (aN, .inl (cy.1, 60, .inl (nF sr lo ar er b)))] rfl rfl ?_
    refine x_if_eq (q := 32) C 54 dL_demand_29 (by decide) rfl (fun c_29 => ?_) (fun c_29 => ?_)
    · refine x_iconst (q := 55) C 0 rfl dL_demand_54 rfl ?_
      exact x_iret C .int rfl rfl (⟨by rw [dv, if_pos c_29], rfl⟩) dL_demand_55 (Nat.le_of_ble_eq_true rfl) (Nat.le_of_ble_eq_true rfl)
    · refine x_iload (q := 34) C 0 rfl dL_demand_32 rfl ?_
      refine x_bipush (q := 36) C 10 rfl dL_demand_34 rfl ?_
      refine x_idiv (q := 37) C ((if 18 ≤ t then 0 else ar k * (18 - t)) / 10) (rfl) (by decide) dL_demand_36 rfl ?_
      refine x_join 50 (fun v => v = if (if 18 ≤ t then 0 else ar k * (18 - t)) - (if 18 ≤ t then 0 else ar k * (18 - t)) / 10 * 10 ≤ 0 then 0 else 1) [.int ((if 18 ≤ t then 0 else ar k * (18 - t)) / 10)] (fun v hv => ?_) (fun J_37 => ?_)
      · subst hv
        refine x_iadd (q := 51) C (((if 18 ≤ t then 0 else ar k * (18 - t)) / 10) + (if (if 18 ≤ t then 0 else ar k * (18 - t)) - (if 18 ≤ t then 0 else ar k * (18 - t)) / 10 * 10 ≤ 0 then 0 else 1)) (rfl) dL_demand_50 rfl ?_
        refine x_goto C 55 dL_demand_51 (by decide) ?_
        exact x_iret C .int rfl rfl (⟨by rw [dv, if_neg c_29]; exact cold_eq har.1 har.2 ht9.1 ht9.2, rfl⟩) dL_demand_55 (Nat.le_of_ble_eq_true rfl) (Nat.le_of_ble_eq_true rfl)
      · refine x_iload (q := 39) C 0 rfl dL_demand_37 rfl ?_
        refine x_bipush (q := 41) C 10 rfl dL_demand_39 rfl ?_
        refine x_irem (q := 42) C ((if 18 ≤ t then 0 else ar k * (18 - t)) - (if 18 ≤ t then 0 else ar k * (18 - t)) / 10 * 10) (rfl) (by decide) dL_demand_41 rfl ?_
        refine x_if_le (q := 45) C 49 dL_demand_42 (by decide) rfl (fun c_42 => ?_) (fun c_42 => ?_)
        · refine x_iconst (q := 50) C 0 rfl dL_demand_49 rfl ?_
          exact J_37 _ ((if_pos c_42).symm)
        · refine x_iconst (q := 46) C 1 rfl dL_demand_45 rfl ?_
          refine x_goto C 50 dL_demand_46 (by decide) ?_
          exact J_37 _ ((if_neg c_42).symm)
  · refine x_iload_n (q := 1) C 3 rfl dL_demand_0 rfl ?_
    refine x_bipush (q := 3) C 18 rfl dL_demand_1 rfl ?_
    refine x_icmp_ge (q := 6) C 20 dL_demand_3 (by decide) rfl (fun c_3 => ?_) (fun c_3 => ?_)
    · refine x_iconst (q := 21) C 0 rfl dL_demand_20 rfl ?_
      exact J_0 _ ((if_pos c_3).symm)
    · refine x_aload_n (q := 7) C 1 rfl dL_demand_6 rfl ?_
      refine x_bipush (q := 9) C 24 rfl dL_demand_7 rfl ?_
      refine x_iload_n (q := 10) C 2 rfl dL_demand_9 rfl ?_
      refine x_iadd (q := 11) C (nI (24 + k)) (nI_add 24 k) dL_demand_10 rfl ?_
      refine x_ialdN (q := 12) C (24 + k) 3 (ar k) rfl rfl (by omega) (by omega) (nF_24 (by omega)) dL_demand_11 rfl ?_
      refine x_bipush (q := 14) C 18 rfl dL_demand_12 rfl ?_
      refine x_iload_n (q := 15) C 3 rfl dL_demand_14 rfl ?_
      refine x_isub (q := 16) C (18 - t) (rfl) dL_demand_15 rfl ?_
      refine x_imul (q := 17) C ((ar k) * (18 - t)) (rfl) dL_demand_16 rfl ?_
      refine x_goto C 21 dL_demand_17 (by decide) ?_
      exact J_0 _ ((if_neg c_3).symm)

set_option maxHeartbeats 4000000 in
set_option maxRecDepth 100000 in
/-- isOnWay -/
theorem c_L_isOnWay {l : Launch} {D : va_G} {cy : ClassId × ClassId × ClassId} (aN : Nat) (sr : Nat → Nat) (lo ar er b : Nat → Int32) (k o : Nat) (hsr : ∀ j, 1 ≤ j → j < 12 → sr j < j) (h2k : k < 12) (h2o : o < 12) : xM false l yL_isOnWay wsL_isOnWay ({ frames := 0, cells := 0, slots := 0, locals := 0 }) D cy [.ref aN, .int (nI k), .int (nI o)] ([(aN, .inl (cy.1, 60, .inl (nF sr lo ar er b)))]) (xQi D (fun r w => r = (if pN sr (11 - k) o = k then 1 else 0) ∧ w = [(aN, .inl (cy.1, 60, .inl (nF sr lo ar er b)))])) 0 0 := by
  refine xM_of (X := [(aN, .inl (cy.1, 60, .inl (nF sr lo ar er b)))]) (pl := []) (nL := 4) (ret := (some .boolean)) RL [(0, .ref aN), (1, .int (nI k)), (2, .int (nI o))] (by decide +kernel) rfl rfl rfl (Nat.le_of_ble_eq_true rfl) (List.append_nil _).symm (fun p e s m args below meth c A C hname hT hZ => ?_)
  refine x_iload_n (q := 1) C 2 rfl dL_isOnWay_0 rfl ?_
  refine x_istore_n (q := 2) C [(3, .int (nI o)), (0, .ref aN), (1, .int (nI k)), (2, .int (nI o))] dL_isOnWay_1 (by decide) rfl rfl ?_
  refine x_less [0, 1, 2] [(3, .int (nI o)), (0, .ref aN), (1, .int (nI k))] rfl ?_
  refine x_rec (σ := Nat) (fun x => x) (fun x => x ≤ 11 ∧ pN sr (11 - k) x = pN sr (11 - k) o) (fun _ => [(aN, .inl (cy.1, 60, .inl (nF sr lo ar er b)))]) (fun _ => []) (fun x => [(3, .int (nI x)), (0, .ref aN), (1, .int (nI k))]) o rfl rfl rfl ⟨by omega, rfl⟩ (fun y hI ih => ?_)
  have hy : y ≤ 11 := hI.1
  have hv : pN sr (11 - k) y = pN sr (11 - k) o := hI.2
  refine x_less [0, 1, 2] [(3, .int (nI y)), (0, .ref aN), (1, .int (nI k))] rfl ?_
  by_cases hz : y ≤ k
  · refine x_iload_n (q := 3) C 0 rfl dL_isOnWay_2 rfl ?_
    refine x_iload_n (q := 4) C 2 rfl dL_isOnWay_3 rfl ?_
    refine x_icmp_le_t C 14 dL_isOnWay_4 (by decide) (nI_le (a := y) (b := k) (by omega) (by omega)) ?_
    by_cases hw9 : y = k
    · refine x_iload_n (q := 15) C 0 rfl dL_isOnWay_14 rfl ?_
      refine x_iload_n (q := 16) C 2 rfl dL_isOnWay_15 rfl ?_
      refine x_icmp_ne_f (q := 19) C 23 dL_isOnWay_16 (by decide) rfl ((nI_eq (a := y) (b := k) (by omega) (by omega)).mpr (by omega)) ?_
      refine x_iconst (q := 20) C 1 rfl dL_isOnWay_19 rfl ?_
      refine x_goto C 24 dL_isOnWay_20 (by decide) ?_
      exact x_iret C .boolean rfl rfl (⟨by rw [← hv, pN_at (by omega) hz, if_pos hw9], rfl⟩) dL_isOnWay_24 (Nat.le_of_ble_eq_true rfl) (Nat.le_of_ble_eq_true rfl)
    · refine x_iload_n (q := 15) C 0 rfl dL_isOnWay_14 rfl ?_
      refine x_iload_n (q := 16) C 2 rfl dL_isOnWay_15 rfl ?_
      refine x_icmp_ne_t C 23 dL_isOnWay_16 (by decide) (fun h9 => absurd ((nI_eq (a := y) (b := k) (by omega) (by omega)).mp h9) (by omega)) ?_
      refine x_iconst (q := 24) C 0 rfl dL_isOnWay_23 rfl ?_
      exact x_iret C .boolean rfl rfl (⟨by rw [← hv, pN_at (by omega) hz, if_neg hw9], rfl⟩) dL_isOnWay_24 (Nat.le_of_ble_eq_true rfl) (Nat.le_of_ble_eq_true rfl)
  · refine x_iload_n (q := 3) C 0 rfl dL_isOnWay_2 rfl ?_
    refine x_iload_n (q := 4) C 2 rfl dL_isOnWay_3 rfl ?_
    refine x_icmp_le_f (q := 7) C 14 dL_isOnWay_4 (by decide) rfl (nI_ge (a := k) (b := y) (by omega) (by omega)) ?_
    refine x_aload_n (q := 8) C 1 rfl dL_isOnWay_7 rfl ?_
    refine x_iload_n (q := 9) C 0 rfl dL_isOnWay_8 rfl ?_
    refine x_ialdN (q := 10) C y 0 (nI (sr y)) rfl rfl (by omega) (by omega) (nF_0 (by omega)) dL_isOnWay_9 rfl ?_
    refine x_istore_n (q := 11) C [(3, .int (nI (sr y))), (0, .ref aN), (1, .int (nI k))] dL_isOnWay_10 (by decide) rfl rfl ?_
    refine x_goto C 2 dL_isOnWay_11 (by decide) ?_
    refine x_less [0, 1, 2] [(3, .int (nI (sr y))), (0, .ref aN), (1, .int (nI k))] rfl ?_
    have hs9 := hsr y (by omega) (by omega)
    exact ih (sr y) ⟨by omega, (pN_step hsr (by omega) (by omega) hy).symm.trans hv⟩ hs9

set_option maxHeartbeats 4000000 in
set_option maxRecDepth 100000 in
/-- repairs -/
theorem c_L_repairs {l : Launch} {D : va_G} {cy : ClassId × ClassId × ClassId} (go no po mo gB : Nat) (nS nL nA nH nV nT nC nD : Nat) (aN : Nat) (sr : Nat → Nat) (lo ar er b : Nat → Int32) (sh ht : Nat → Int32) (ph lt ll sl V : Int32) (k : Nat) (hsr : ∀ j, 1 ≤ j → j < 12 → sr j < j) (h1k : 1 ≤ k) (h2k : k < 12) (hV9 : ¬ pWithin V 1 20 = 0) (hs9 : sh k ≤ 0) (hp9 : ph ≤ 0 ∨ 10 ≤ lt) (hsh9 : ¬ upd sh k V k = 0) : xM false l yL_repairs wsL_repairs ({ frames := 4, cells := 0, slots := 0, locals := 87 }) D cy [.ref go, .ref aN, .int (nI k), .int V] ([(go, .inr (4, [.ref no, .ref po, .ref mo, .ref gB, .int ph, .int lt, .int ll])), (no, .inr (2, [.ref nS, .ref nL, .ref nA, .ref nH, .ref nV, .ref nT, .ref nC, .ref nD, .int sl])), (nS, .inl (cy.1, 12, .inl (fun i => nI (sr i)))), (nA, .inl (cy.1, 12, .inl ar)), (nH, .inl (cy.1, 12, .inl sh)), (nT, .inl (cy.2.1, 12, .inl ht)), (aN, .inl (cy.1, 60, .inl (nF sr lo ar er b)))]) (xQi D (fun r w => r = 1 ∧ w = [(go, .inr (4, [.ref no, .ref po, .ref mo, .ref gB, .int ph, .int lt, .int ll])), (no, .inr (2, [.ref nS, .ref nL, .ref nA, .ref nH, .ref nV, .ref nT, .ref nC, .ref nD, .int sl])), (nS, .inl (cy.1, 12, .inl (fun i => nI (sr i)))), (nA, .inl (cy.1, 12, .inl ar)), (nH, .inl (cy.1, 12, .inl (upd sh k V))), (nT, .inl (cy.2.1, 12, .inl (hFun sr (upd sh k V) ht))), (aN, .inl (cy.1, 60, .inl (nF sr lo ar er b)))])) 0 0 := by
  refine xM_of (X := [(go, .inr (4, [.ref no, .ref po, .ref mo, .ref gB, .int ph, .int lt, .int ll])), (no, .inr (2, [.ref nS, .ref nL, .ref nA, .ref nH, .ref nV, .ref nT, .ref nC, .ref nD, .int sl])), (nS, .inl (cy.1, 12, .inl (fun i => nI (sr i)))), (nA, .inl (cy.1, 12, .inl ar)), (nH, .inl (cy.1, 12, .inl sh)), (nT, .inl (cy.2.1, 12, .inl ht)), (aN, .inl (cy.1, 60, .inl (nF sr lo ar er b)))]) (pl := []) (nL := 7) (ret := (some .boolean)) RL [(0, .ref go), (1, .ref aN), (2, .int (nI k)), (3, .int V)] (by decide +kernel) rfl rfl rfl (Nat.le_of_ble_eq_true rfl) (List.append_nil _).symm (fun p e s m args below meth c A C hname hT hZ => ?_)
  refine x_aload_n (q := 1) C 0 rfl dL_repairs_0 rfl ?_
  refine x_iload_n (q := 2) C 2 rfl dL_repairs_1 rfl ?_
  refine x_iload_n (q := 3) C 3 rfl dL_repairs_2 rfl ?_
  refine x_CiP (q := 6) C [0, 1, 2, 3, 4, 5] [6] (cx := [(go, .inr (4, [.ref no, .ref po, .ref mo, .ref gB, .int ph, .int lt, .int ll])), (no, .inr (2, [.ref nS, .ref nL, .ref nA, .ref nH, .ref nV, .ref nT, .ref nC, .ref nD, .int sl])), (nS, .inl (cy.1, 12, .inl (fun i => nI (sr i)))), (nA, .inl (cy.1, 12, .inl ar)), (nH, .inl (cy.1, 12, .inl sh)), (nT, .inl (cy.2.1, 12, .inl ht))]) (wr := [(aN, .inl (cy.1, 60, .inl (nF sr lo ar er b)))]) (st := []) rfl rfl rfl rfl (by decide) (fun H locs ls hP hPc hDc hS hFc hl => x_runV C (As := [.int (nI k), .int V]) (c_X4_repair go no po mo gB nS nL nA nH nV nT nC nD sr ar sh ht ph lt ll sl V k hsr (by omega) (by omega) hV9 hs9 hp9) (cwV 2 C.2.2.2.2.2.1 gL_repairs_X4_repair rfl rfl rfl (by decide +kernel) ⟨Nat.le_of_ble_eq_true rfl, Nat.le_of_ble_eq_true rfl⟩) rfl 0 rfl rfl rfl (Nat.le_of_ble_eq_true rfl) dL_repairs_3 ⟨Nat.le_of_ble_eq_true rfl, Nat.le_of_ble_eq_true rfl⟩ (fun h => absurd h (by decide)) hP hPc hDc hS hFc hl) (k := 0) (n := 0) rfl rfl rfl (fun r_3 w1 hw => ?_)
  obtain ⟨rfl, rfl⟩ := hw
  refine x_ord [1, 2, 3, 4, 5, 6, 0] [(go, .inr (4, [.ref no, .ref po, .ref mo, .ref gB, .int ph, .int lt, .int ll])), (no, .inr (2, [.ref nS, .ref nL, .ref nA, .ref nH, .ref nV, .ref nT, .ref nC, .ref nD, .int sl])), (nS, .inl (cy.1, 12, .inl (fun i => nI (sr i)))), (nA, .inl (cy.1, 12, .inl ar)), (nH, .inl (cy.1, 12, .inl (upd sh k V))), (nT, .inl (cy.2.1, 12, .inl (hFun sr (upd sh k V) ht))), (aN, .inl (cy.1, 60, .inl (nF sr lo ar er b)))] rfl rfl ?_
  refine x_istore (q := 8) C [(4, .int (nFun ar (hFun sr (upd sh k V) ht))), (0, .ref go), (1, .ref aN), (2, .int (nI k)), (3, .int V)] dL_repairs_6 (by decide) rfl rfl ?_
  refine x_iconst (q := 9) C 0 rfl dL_repairs_8 rfl ?_
  refine x_istore (q := 11) C [(5, .int 0), (4, .int (nFun ar (hFun sr (upd sh k V) ht))), (0, .ref go), (1, .ref aN), (2, .int (nI k)), (3, .int V)] dL_repairs_9 (by decide) rfl rfl ?_
  refine x_iconst (q := 12) C 1 rfl dL_repairs_11 rfl ?_
  refine x_istore (q := 14) C [(6, .int 1), (5, .int 0), (4, .int (nFun ar (hFun sr (upd sh k V) ht))), (0, .ref go), (1, .ref aN), (2, .int (nI k)), (3, .int V)] dL_repairs_12 (by decide) rfl rfl ?_
  refine x_less [0, 1, 2, 3, 4, 5] [(6, .int 1), (5, .int 0), (4, .int (nFun ar (hFun sr (upd sh k V) ht))), (0, .ref go), (1, .ref aN), (2, .int (nI k))] rfl ?_
  refine x_up (fun i => [(go, .inr (4, [.ref no, .ref po, .ref mo, .ref gB, .int ph, .int lt, .int ll])), (no, .inr (2, [.ref nS, .ref nL, .ref nA, .ref nH, .ref nV, .ref nT, .ref nC, .ref nD, .int sl])), (nS, .inl (cy.1, 12, .inl (fun i => nI (sr i)))), (nA, .inl (cy.1, 12, .inl ar)), (nH, .inl (cy.1, 12, .inl (upd sh k V))), (nT, .inl (cy.2.1, 12, .inl (hFun sr (upd sh k V) ht))), (aN, .inl (cy.1, 60, .inl (nF sr lo ar er b)))]) (fun i => [(6, .int (nI (i + 1))), (5, .int (dueF (hFun sr (upd sh k V) ht) ar i)), (4, .int (nFun ar (hFun sr (upd sh k V) ht))), (0, .ref go), (1, .ref aN), (2, .int (nI k))]) 11 rfl rfl (fun i h_i ih_i => ?_) ?_
  · refine x_iload (q := 16) C 0 rfl dL_repairs_14 rfl ?_
    refine x_bipush (q := 18) C 12 rfl dL_repairs_16 rfl ?_
    refine x_icmp_ge_f (q := 21) C 57 dL_repairs_18 (by decide) rfl (nI_ge (a := (i + 1)) (b := 12) (by omega) (by omega)) ?_
    refine x_iload (q := 23) C 1 rfl dL_repairs_21 rfl ?_
    refine x_join 48 (fun v => v = if ar (i + 1) ≤ 0 then 0 else if hFun sr (upd sh k V) ht (i + 1) = 0 then 1 else 0) [.int (dueF (hFun sr (upd sh k V) ht) ar i)] (fun v hv => ?_) (fun J_23 => ?_)
    · subst hv
      refine x_iadd (q := 49) C ((dueF (hFun sr (upd sh k V) ht) ar i) + (if ar (i + 1) ≤ 0 then 0 else if hFun sr (upd sh k V) ht (i + 1) = 0 then 1 else 0)) (rfl) dL_repairs_48 rfl ?_
      refine x_istore (q := 51) C [(5, .int ((dueF (hFun sr (upd sh k V) ht) ar i) + (if ar (i + 1) ≤ 0 then 0 else if hFun sr (upd sh k V) ht (i + 1) = 0 then 1 else 0))), (6, .int (nI (i + 1))), (4, .int (nFun ar (hFun sr (upd sh k V) ht))), (0, .ref go), (1, .ref aN), (2, .int (nI k))] dL_repairs_49 (by decide) rfl rfl ?_
      refine x_iinc (q := 54) C 1 (nI ((i + 1) + 1)) [(6, .int (nI ((i + 1) + 1))), (5, .int ((dueF (hFun sr (upd sh k V) ht) ar i) + (if ar (i + 1) ≤ 0 then 0 else if hFun sr (upd sh k V) ht (i + 1) = 0 then 1 else 0))), (4, .int (nFun ar (hFun sr (upd sh k V) ht))), (0, .ref go), (1, .ref aN), (2, .int (nI k))] dL_repairs_51 rfl (nI_1 _) (by decide) rfl rfl ?_
      refine x_goto C 14 dL_repairs_54 (by decide) ?_
      refine x_less [0, 1, 2, 3, 4, 5] [(6, .int (nI ((i + 1) + 1))), (5, .int ((dueF (hFun sr (upd sh k V) ht) ar i) + (if ar (i + 1) ≤ 0 then 0 else if hFun sr (upd sh k V) ht (i + 1) = 0 then 1 else 0))), (4, .int (nFun ar (hFun sr (upd sh k V) ht))), (0, .ref go), (1, .ref aN), (2, .int (nI k))] rfl ?_
      refine x_less [0, 1, 2, 3, 4, 5] [(6, .int (nI ((i + 1) + 1))), (5, .int (dueF (hFun sr (upd sh k V) ht) ar (i + 1))), (4, .int (nFun ar (hFun sr (upd sh k V) ht))), (0, .ref go), (1, .ref aN), (2, .int (nI k))] (by first | rfl | (rw [e9]; rfl)) ?_
      refine x_world (X' := [(go, .inr (4, [.ref no, .ref po, .ref mo, .ref gB, .int ph, .int lt, .int ll])), (no, .inr (2, [.ref nS, .ref nL, .ref nA, .ref nH, .ref nV, .ref nT, .ref nC, .ref nD, .int sl])), (nS, .inl (cy.1, 12, .inl (fun i => nI (sr i)))), (nA, .inl (cy.1, 12, .inl ar)), (nH, .inl (cy.1, 12, .inl (upd sh k V))), (nT, .inl (cy.2.1, 12, .inl (hFun sr (upd sh k V) ht))), (aN, .inl (cy.1, 60, .inl (nF sr lo ar er b)))]) (pl' := []) (by first | rfl | rw [e9]) ?_
      exact ih_i
    · refine x_aload_n (q := 24) C 4 rfl dL_repairs_23 rfl ?_
      refine x_bipush (q := 26) C 24 rfl dL_repairs_24 rfl ?_
      refine x_iload (q := 28) C 0 rfl dL_repairs_26 rfl ?_
      refine x_iadd (q := 29) C (nI (24 + (i + 1))) (nI_add 24 (i + 1)) dL_repairs_28 rfl ?_
      refine x_ialdN (q := 30) C (24 + (i + 1)) 6 (ar (i + 1)) rfl rfl (by omega) (by omega) (nF_24 (by omega)) dL_repairs_29 rfl ?_
      refine x_if_le (q := 33) C 47 dL_repairs_30 (by decide) rfl (fun c_30 => ?_) (fun c_30 => ?_)
      · refine x_iconst (q := 48) C 0 rfl dL_repairs_47 rfl ?_
        exact J_23 _ (by simp only [if_pos c_30])
      · refine x_aload_n (q := 34) C 3 rfl dL_repairs_33 rfl ?_
        refine x_aload_n (q := 35) C 4 rfl dL_repairs_34 rfl ?_
        refine x_iload (q := 37) C 0 rfl dL_repairs_35 rfl ?_
        refine x_CiP (q := 40) C [0, 1, 4, 6] [2, 3, 5] (cx := [(go, .inr (4, [.ref no, .ref po, .ref mo, .ref gB, .int ph, .int lt, .int ll])), (no, .inr (2, [.ref nS, .ref nL, .ref nA, .ref nH, .ref nV, .ref nT, .ref nC, .ref nD, .int sl])), (nH, .inl (cy.1, 12, .inl (upd sh k V))), (aN, .inl (cy.1, 60, .inl (nF sr lo ar er b)))]) (wr := [(nS, .inl (cy.1, 12, .inl (fun i => nI (sr i)))), (nA, .inl (cy.1, 12, .inl ar)), (nT, .inl (cy.2.1, 12, .inl (hFun sr (upd sh k V) ht)))]) (st := [.int (dueF (hFun sr (upd sh k V) ht) ar i)]) rfl rfl rfl rfl (by decide) (fun H locs ls hP hPc hDc hS hFc hl => x_runS C (As := [.ref go, .ref aN, .int (nI (i + 1))]) (c_L_hasHeat go no po mo gB nS nL nA nH nV nT nC nD aN sr lo ar er b (upd sh k V) ht ph lt ll sl (i + 1) hsr (by omega) (by omega)) (va_cwS 3 C.2.2.2.2.2.1 gL_repairs_L_hasHeat rfl rfl rfl (by decide +kernel) ⟨Nat.le_of_ble_eq_true rfl, Nat.le_of_ble_eq_true rfl⟩) rfl rfl (Nat.le_of_ble_eq_true rfl) dL_repairs_37 ⟨Nat.le_of_ble_eq_true rfl, Nat.le_of_ble_eq_true rfl⟩ (fun h => absurd h (by decide)) hP hPc hDc hS hFc hl) (k := 0) (n := 0) rfl rfl rfl (fun r_37 w1 hw => ?_)
        obtain ⟨rfl, rfl⟩ := hw
        refine x_ord [3, 4, 0, 1, 5, 2, 6] [(go, .inr (4, [.ref no, .ref po, .ref mo, .ref gB, .int ph, .int lt, .int ll])), (no, .inr (2, [.ref nS, .ref nL, .ref nA, .ref nH, .ref nV, .ref nT, .ref nC, .ref nD, .int sl])), (nS, .inl (cy.1, 12, .inl (fun i => nI (sr i)))), (nA, .inl (cy.1, 12, .inl ar)), (nH, .inl (cy.1, 12, .inl (upd sh k V))), (nT, .inl (cy.2.1, 12, .inl (hFun sr (upd sh k V) ht))), (aN, .inl (cy.1, 60, .inl (nF sr lo ar er b)))] rfl rfl ?_
        refine x_if_ne (q := 43) C 47 dL_repairs_40 (by decide) rfl (fun c_40 => ?_) (fun c_40 => ?_)
        · refine x_iconst (q := 48) C 0 rfl dL_repairs_47 rfl ?_
          exact J_23 _ (by simp only [if_neg c_30, if_neg c_40])
        · refine x_iconst (q := 44) C 1 rfl dL_repairs_43 rfl ?_
          refine x_goto C 48 dL_repairs_44 (by decide) ?_
          exact J_23 _ (by simp only [if_neg c_30, if_pos c_40])
  · refine x_iload (q := 16) C 0 rfl dL_repairs_14 rfl ?_
    refine x_bipush (q := 18) C 12 rfl dL_repairs_16 rfl ?_
    refine x_icmp_ge_t C 57 dL_repairs_18 (by decide) (nI_le (a := 12) (b := (11 + 1)) (by omega) (by omega)) ?_
    refine x_iload (q := 59) C 2 rfl dL_repairs_57 rfl ?_
    refine x_iload (q := 61) C 1 rfl dL_repairs_59 rfl ?_
    refine x_icmp_ne_f (q := 64) C 76 dL_repairs_61 (by decide) rfl (due_eq) ?_
    refine x_aload_n (q := 65) C 3 rfl dL_repairs_64 rfl ?_
    refine x_iload_n (q := 66) C 5 rfl dL_repairs_65 rfl ?_
    refine x_CiP (q := 69) C [0, 1, 4] [2, 3, 5, 6] (cx := [(go, .inr (4, [.ref no, .ref po, .ref mo, .ref gB, .int ph, .int lt, .int ll])), (no, .inr (2, [.ref nS, .ref nL, .ref nA, .ref nH, .ref nV, .ref nT, .ref nC, .ref nD, .int sl])), (nH, .inl (cy.1, 12, .inl (upd sh k V)))]) (wr := [(nS, .inl (cy.1, 12, .inl (fun i => nI (sr i)))), (nA, .inl (cy.1, 12, .inl ar)), (nT, .inl (cy.2.1, 12, .inl (hFun sr (upd sh k V) ht))), (aN, .inl (cy.1, 60, .inl (nF sr lo ar er b)))]) (st := []) rfl rfl rfl rfl (by decide) (fun H locs ls hP hPc hDc hS hFc hl => x_runV C (As := [.int (nI k)]) (c_X4_isOpen go no po mo gB nS nL nA nH nV nT nC nD (upd sh k V) ph lt ll sl k (by omega) (by omega)) (cwV 1 C.2.2.2.2.2.1 gL_repairs_X4_isOpen rfl rfl rfl (by decide +kernel) ⟨Nat.le_of_ble_eq_true rfl, Nat.le_of_ble_eq_true rfl⟩) rfl 0 rfl rfl rfl (Nat.le_of_ble_eq_true rfl) dL_repairs_66 ⟨Nat.le_of_ble_eq_true rfl, Nat.le_of_ble_eq_true rfl⟩ (fun h => absurd h (by decide)) hP hPc hDc hS hFc hl) (k := 0) (n := 0) rfl rfl rfl (fun r_66 w1 hw => ?_)
    obtain ⟨rfl, rfl⟩ := hw
    refine x_ord [4, 5, 0, 1, 6, 2, 3] [(go, .inr (4, [.ref no, .ref po, .ref mo, .ref gB, .int ph, .int lt, .int ll])), (no, .inr (2, [.ref nS, .ref nL, .ref nA, .ref nH, .ref nV, .ref nT, .ref nC, .ref nD, .int sl])), (nS, .inl (cy.1, 12, .inl (fun i => nI (sr i)))), (nA, .inl (cy.1, 12, .inl ar)), (nH, .inl (cy.1, 12, .inl (upd sh k V))), (nT, .inl (cy.2.1, 12, .inl (hFun sr (upd sh k V) ht))), (aN, .inl (cy.1, 60, .inl (nF sr lo ar er b)))] rfl rfl ?_
    refine x_if_ne_f (q := 72) C 76 dL_repairs_69 (by decide) rfl (by rw [if_neg hsh9]) ?_
    refine x_iconst (q := 73) C 1 rfl dL_repairs_72 rfl ?_
    refine x_goto C 77 dL_repairs_73 (by decide) ?_
    exact x_iret C .boolean rfl rfl (⟨rfl, rfl⟩) dL_repairs_77 (Nat.le_of_ble_eq_true rfl) (Nat.le_of_ble_eq_true rfl)

set_option maxHeartbeats 4000000 in
set_option maxRecDepth 100000 in
/-- areBills -/
theorem c_L_areBills {l : Launch} {D : va_G} {cy : ClassId × ClassId × ClassId} (go no po mo gB : Nat) (aN : Nat) (sr : Nat → Nat) (lo ar er b : Nat → Int32) (ph lt ll : Int32) : xM false l yL_areBills wsL_areBills ({ frames := 2, cells := 0, slots := 0, locals := 41 }) D cy [.ref go, .ref aN] ([(go, .inr (4, [.ref no, .ref po, .ref mo, .ref gB, .int ph, .int lt, .int ll])), (gB, .inl (cy.1, 12, .inl b)), (aN, .inl (cy.1, 60, .inl (nF sr lo ar er b)))]) (xQi D (fun r w => r = 1 ∧ w = [(go, .inr (4, [.ref no, .ref po, .ref mo, .ref gB, .int ph, .int lt, .int ll])), (gB, .inl (cy.1, 12, .inl b)), (aN, .inl (cy.1, 60, .inl (nF sr lo ar er b)))])) 0 0 := by
  refine xM_of (X := [(go, .inr (4, [.ref no, .ref po, .ref mo, .ref gB, .int ph, .int lt, .int ll])), (gB, .inl (cy.1, 12, .inl b)), (aN, .inl (cy.1, 60, .inl (nF sr lo ar er b)))]) (pl := []) (nL := 4) (ret := (some .boolean)) RL [(0, .ref go), (1, .ref aN)] (by decide +kernel) rfl rfl rfl (Nat.le_of_ble_eq_true rfl) (List.append_nil _).symm (fun p e s m args below meth c A C hname hT hZ => ?_)
  refine x_iconst (q := 1) C 1 rfl dL_areBills_0 rfl ?_
  refine x_istore_n (q := 2) C [(2, .int 1), (0, .ref go), (1, .ref aN)] dL_areBills_1 (by decide) rfl rfl ?_
  refine x_iconst (q := 3) C 1 rfl dL_areBills_2 rfl ?_
  refine x_istore_n (q := 4) C [(3, .int 1), (2, .int 1), (0, .ref go), (1, .ref aN)] dL_areBills_3 (by decide) rfl rfl ?_
  refine x_less [1, 0, 2, 3] [(2, .int 1), (3, .int 1), (0, .ref go), (1, .ref aN)] rfl ?_
  refine x_up (fun i => [(go, .inr (4, [.ref no, .ref po, .ref mo, .ref gB, .int ph, .int lt, .int ll])), (gB, .inl (cy.1, 12, .inl b)), (aN, .inl (cy.1, 60, .inl (nF sr lo ar er b)))]) (fun i => [(2, .int 1), (3, .int (nI (i + 1))), (0, .ref go), (1, .ref aN)]) 11 rfl rfl (fun i h_i ih_i => ?_) ?_
  · refine x_iload_n (q := 5) C 1 rfl dL_areBills_4 rfl ?_
    refine x_bipush (q := 7) C 12 rfl dL_areBills_5 rfl ?_
    refine x_icmp_ge_f (q := 10) C 40 dL_areBills_7 (by decide) rfl (nI_ge (a := (i + 1)) (b := 12) (by omega) (by omega)) ?_
    refine x_iload_n (q := 11) C 0 rfl dL_areBills_10 rfl ?_
    refine x_if_eq_f (q := 14) C 32 dL_areBills_11 (by decide) rfl (by decide) ?_
    refine x_aload_n (q := 15) C 2 rfl dL_areBills_14 rfl ?_
    refine x_iload_n (q := 16) C 1 rfl dL_areBills_15 rfl ?_
    refine x_CiP (q := 19) C [0, 1] [2] (cx := [(go, .inr (4, [.ref no, .ref po, .ref mo, .ref gB, .int ph, .int lt, .int ll])), (gB, .inl (cy.1, 12, .inl b))]) (wr := [(aN, .inl (cy.1, 60, .inl (nF sr lo ar er b)))]) (st := []) rfl rfl rfl rfl (by decide) (fun H locs ls hP hPc hDc hS hFc hl => x_runV C (As := [.int (nI (i + 1))]) (c_X4_bill go no po mo gB  b ph lt ll (i + 1) (by omega) (by omega)) (cwV 1 C.2.2.2.2.2.1 gL_areBills_X4_bill rfl rfl rfl (by decide +kernel) ⟨Nat.le_of_ble_eq_true rfl, Nat.le_of_ble_eq_true rfl⟩) rfl 0 rfl rfl rfl (Nat.le_of_ble_eq_true rfl) dL_areBills_16 ⟨Nat.le_of_ble_eq_true rfl, Nat.le_of_ble_eq_true rfl⟩ (fun h => absurd h (by decide)) hP hPc hDc hS hFc hl) (k := 0) (n := 0) rfl rfl rfl (fun r_16 w1 hw => ?_)
    obtain ⟨rfl, rfl⟩ := hw
    refine x_ord [1, 2, 0] [(go, .inr (4, [.ref no, .ref po, .ref mo, .ref gB, .int ph, .int lt, .int ll])), (gB, .inl (cy.1, 12, .inl b)), (aN, .inl (cy.1, 60, .inl (nF sr lo ar er b)))] rfl rfl ?_
    refine x_aload_n (q := 20) C 3 rfl dL_areBills_19 rfl ?_
    refine x_bipush (q := 22) C 48 rfl dL_areBills_20 rfl ?_
    refine x_iload_n (q := 23) C 1 rfl dL_areBills_22 rfl ?_
    refine x_iadd (q := 24) C (nI (48 + (i + 1))) (nI_add 48 (i + 1)) dL_areBills_23 rfl ?_
    refine x_ialdN (q := 25) C (48 + (i + 1)) 2 (b (i + 1)) rfl rfl (by omega) (by omega) nF_48 dL_areBills_24 rfl ?_
    refine x_icmp_ne_f (q := 28) C 32 dL_areBills_25 (by decide) rfl rfl ?_
    refine x_iconst (q := 29) C 1 rfl dL_areBills_28 rfl ?_
    refine x_goto C 33 dL_areBills_29 (by decide) ?_
    refine x_istore_n (q := 34) C [(2, .int 1), (3, .int (nI (i + 1))), (0, .ref go), (1, .ref aN)] dL_areBills_33 (by decide) rfl rfl ?_
    refine x_iinc (q := 37) C 1 (nI ((i + 1) + 1)) [(3, .int (nI ((i + 1) + 1))), (2, .int 1), (0, .ref go), (1, .ref aN)] dL_areBills_34 rfl (nI_1 _) (by decide) rfl rfl ?_
    refine x_goto C 4 dL_areBills_37 (by decide) ?_
    refine x_less [1, 0, 2, 3] [(2, .int 1), (3, .int (nI ((i + 1) + 1))), (0, .ref go), (1, .ref aN)] rfl ?_
    refine x_less [0, 1, 2, 3] [(2, .int 1), (3, .int (nI ((i + 1) + 1))), (0, .ref go), (1, .ref aN)] (by first | rfl | (rw [e9]; rfl)) ?_
    refine x_world (X' := [(go, .inr (4, [.ref no, .ref po, .ref mo, .ref gB, .int ph, .int lt, .int ll])), (gB, .inl (cy.1, 12, .inl b)), (aN, .inl (cy.1, 60, .inl (nF sr lo ar er b)))]) (pl' := []) (by first | rfl | rw [e9]) ?_
    exact ih_i
  · refine x_iload_n (q := 5) C 1 rfl dL_areBills_4 rfl ?_
    refine x_bipush (q := 7) C 12 rfl dL_areBills_5 rfl ?_
    refine x_icmp_ge_t C 40 dL_areBills_7 (by decide) (nI_le (a := 12) (b := (11 + 1)) (by omega) (by omega)) ?_
    refine x_iload_n (q := 41) C 0 rfl dL_areBills_40 rfl ?_
    exact x_iret C .boolean rfl rfl (⟨rfl, rfl⟩) dL_areBills_41 (Nat.le_of_ble_eq_true rfl) (Nat.le_of_ble_eq_true rfl)
