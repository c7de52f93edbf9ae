set_option maxHeartbeats 4000000 in
set_option maxRecDepth 100000 in
/-- isHouse -/
theorem c_X4_isHouse {l : Launch} {D : va_G} {cy : ClassId × ClassId × ClassId} (x : Int32) : xM false l yX4_isHouse wsX4_isHouse ({ frames := 0, cells := 0, slots := 0, locals := 0 }) D cy [.int x] ([]) (xQi D (fun r w => r = pHouse x ∧ w = [])) 0 0 := by
  refine xM_of (X := []) (pl := []) (nL := 1) (ret := (some .boolean)) RX4 [(0, .int x)] (by decide +kernel) rfl rfl rfl (Nat.le_of_ble_eq_true rfl) (List.append_nil _).symm (fun p e s m args below meth c A C hname hT hZ => ?_)
  refine x_iload_n (q := 1) C 0 rfl dX4_isHouse_0 rfl ?_
  refine x_iconst (q := 2) C 1 rfl dX4_isHouse_1 rfl ?_
  refine x_icmp_lt (q := 5) C 15 dX4_isHouse_2 (by decide) rfl (fun c_2 => ?_) (fun c_2 => ?_)
  · refine x_iconst (q := 16) C 0 rfl dX4_isHouse_15 rfl ?_
    exact x_iret C .boolean rfl rfl (⟨by simp [pHouse, c_2], rfl⟩) dX4_isHouse_16 (Nat.le_of_ble_eq_true rfl) (Nat.le_of_ble_eq_true rfl)
  · refine x_iload_n (q := 6) C 0 rfl dX4_isHouse_5 rfl ?_
    refine x_bipush (q := 8) C 12 rfl dX4_isHouse_6 rfl ?_
    refine x_icmp_ge (q := 11) C 15 dX4_isHouse_8 (by decide) rfl (fun c_8 => ?_) (fun c_8 => ?_)
    · refine x_iconst (q := 16) C 0 rfl dX4_isHouse_15 rfl ?_
      exact x_iret C .boolean rfl rfl (⟨by simp [pHouse, c_2, c_8], rfl⟩) dX4_isHouse_16 (Nat.le_of_ble_eq_true rfl) (Nat.le_of_ble_eq_true rfl)
    · refine x_iconst (q := 12) C 1 rfl dX4_isHouse_11 rfl ?_
      refine x_goto C 16 dX4_isHouse_12 (by decide) ?_
      exact x_iret C .boolean rfl rfl (⟨by simp [pHouse, c_2, c_8], rfl⟩) dX4_isHouse_16 (Nat.le_of_ble_eq_true rfl) (Nat.le_of_ble_eq_true rfl)

set_option maxHeartbeats 4000000 in
set_option maxRecDepth 100000 in
/-- isWithin -/
theorem c_X4_isWithin {l : Launch} {D : va_G} {cy : ClassId × ClassId × ClassId} (x a b : Int32) : xM false l yX4_isWithin wsX4_isWithin ({ frames := 0, cells := 0, slots := 0, locals := 0 }) D cy [.int x, .int a, .int b] ([]) (xQi D (fun r w => r = pWithin x a b ∧ w = [])) 0 0 := by
  refine xM_of (X := []) (pl := []) (nL := 3) (ret := (some .boolean)) RX4 [(0, .int x), (1, .int a), (2, .int b)] (by decide +kernel) rfl rfl rfl (Nat.le_of_ble_eq_true rfl) (List.append_nil _).symm (fun p e s m args below meth c A C hname hT hZ => ?_)
  refine x_iload_n (q := 1) C 0 rfl dX4_isWithin_0 rfl ?_
  refine x_iload_n (q := 2) C 1 rfl dX4_isWithin_1 rfl ?_
  refine x_icmp_lt (q := 5) C 14 dX4_isWithin_2 (by decide) rfl (fun c_2 => ?_) (fun c_2 => ?_)
  · refine x_iconst (q := 15) C 0 rfl dX4_isWithin_14 rfl ?_
    exact x_iret C .boolean rfl rfl (⟨by simp [pWithin, c_2], rfl⟩) dX4_isWithin_15 (Nat.le_of_ble_eq_true rfl) (Nat.le_of_ble_eq_true rfl)
  · refine x_iload_n (q := 6) C 0 rfl dX4_isWithin_5 rfl ?_
    refine x_iload_n (q := 7) C 2 rfl dX4_isWithin_6 rfl ?_
    refine x_icmp_gt (q := 10) C 14 dX4_isWithin_7 (by decide) rfl (fun c_7 => ?_) (fun c_7 => ?_)
    · refine x_iconst (q := 15) C 0 rfl dX4_isWithin_14 rfl ?_
      exact x_iret C .boolean rfl rfl (⟨by simp [pWithin, c_2, c_7], rfl⟩) dX4_isWithin_15 (Nat.le_of_ble_eq_true rfl) (Nat.le_of_ble_eq_true rfl)
    · refine x_iconst (q := 11) C 1 rfl dX4_isWithin_10 rfl ?_
      refine x_goto C 15 dX4_isWithin_11 (by decide) ?_
      exact x_iret C .boolean rfl rfl (⟨by simp [pWithin, c_2, c_7], rfl⟩) dX4_isWithin_15 (Nat.le_of_ble_eq_true rfl) (Nat.le_of_ble_eq_true rfl)

set_option maxHeartbeats 4000000 in
set_option maxRecDepth 100000 in
/-- wantedHeat -/
theorem c_X4_wantedHeat {l : Launch} {D : va_G} {cy : ClassId × ClassId × ClassId} (a t : Int32) : xM false l yX4_wantedHeat wsX4_wantedHeat ({ frames := 0, cells := 0, slots := 0, locals := 0 }) D cy [.int a, .int t] ([]) (xQi D (fun r w => r = pWant a t ∧ w = [])) 0 0 := by
  refine xM_of (X := []) (pl := []) (nL := 2) (ret := (some .int)) RX4 [(0, .int a), (1, .int t)] (by decide +kernel) rfl rfl rfl (Nat.le_of_ble_eq_true rfl) (List.append_nil _).symm (fun p e s m args below meth c A C hname hT hZ => ?_)
  refine x_iload_n (q := 1) C 1 rfl dX4_wantedHeat_0 rfl ?_
  refine x_bipush (q := 3) C 18 rfl dX4_wantedHeat_1 rfl ?_
  refine x_icmp_lt (q := 6) C 8 dX4_wantedHeat_3 (by decide) rfl (fun c_3 => ?_) (fun c_3 => ?_)
  · refine x_iload_n (q := 9) C 0 rfl dX4_wantedHeat_8 rfl ?_
    refine x_bipush (q := 11) C 18 rfl dX4_wantedHeat_9 rfl ?_
    refine x_iload_n (q := 12) C 1 rfl dX4_wantedHeat_11 rfl ?_
    refine x_isub (q := 13) C (18 - t) (rfl) dX4_wantedHeat_12 rfl ?_
    refine x_imul (q := 14) C (a * (18 - t)) (rfl) dX4_wantedHeat_13 rfl ?_
    refine x_bipush (q := 16) C 9 rfl dX4_wantedHeat_14 rfl ?_
    refine x_iadd (q := 17) C ((a * (18 - t)) + 9) (rfl) dX4_wantedHeat_16 rfl ?_
    refine x_bipush (q := 19) C 10 rfl dX4_wantedHeat_17 rfl ?_
    refine x_idiv (q := 20) C (((a * (18 - t)) + 9) / 10) (rfl) (by decide) dX4_wantedHeat_19 rfl ?_
    exact x_iret C .int rfl rfl (⟨by simp [pWant, c_3], rfl⟩) dX4_wantedHeat_20 (Nat.le_of_ble_eq_true rfl) (Nat.le_of_ble_eq_true rfl)
  · refine x_iconst (q := 7) C 0 rfl dX4_wantedHeat_6 rfl ?_
    exact x_iret C .int rfl rfl (⟨by simp [pWant, c_3], rfl⟩) dX4_wantedHeat_7 (Nat.le_of_ble_eq_true rfl) (Nat.le_of_ble_eq_true rfl)

theorem iw_X2_markHeated_X2 : ∀ w ∈ wsX20, w ∈ wsX2_markHeated := by decide +kernel
set_option maxHeartbeats 4000000 in
set_option maxRecDepth 100000 in
/-- markHeated -/
theorem c_X2_markHeated {l : Launch} {D : va_G} {cy : ClassId × ClassId × ClassId} (no nS nL nA nH nV nT nC nD : Nat) (sr : Nat → Nat) (sh ht : Nat → Int32) (sl : Int32) (hsr : ∀ j, 1 ≤ j → j < 12 → sr j < j) : xM false l yX2_markHeated wsX2_markHeated ({ frames := 1, cells := 0, slots := 0, locals := 20 }) D cy [.ref no] ([(no, .inr (2, [.ref nS, .ref nL, .ref nA, .ref nH, .ref nV, .ref nT, .ref nC, .ref nD, .int sl])), (nS, .inl (cy.1, 12, .inl (fun i => nI (sr i)))), (nH, .inl (cy.1, 12, .inl sh)), (nT, .inl (cy.2.1, 12, .inl ht))]) (xQv D (fun w => w = [(no, .inr (2, [.ref nS, .ref nL, .ref nA, .ref nH, .ref nV, .ref nT, .ref nC, .ref nD, .int sl])), (nS, .inl (cy.1, 12, .inl (fun i => nI (sr i)))), (nH, .inl (cy.1, 12, .inl sh)), (nT, .inl (cy.2.1, 12, .inl (hFun sr sh ht)))])) 0 0 := by
  refine xM_of (X := [(no, .inr (2, [.ref nS, .ref nL, .ref nA, .ref nH, .ref nV, .ref nT, .ref nC, .ref nD, .int sl])), (nS, .inl (cy.1, 12, .inl (fun i => nI (sr i)))), (nH, .inl (cy.1, 12, .inl sh)), (nT, .inl (cy.2.1, 12, .inl ht))]) (pl := []) (nL := 4) (ret := none) RX2 [(0, .ref no)] (by decide +kernel) rfl rfl rfl (Nat.le_of_ble_eq_true rfl) (List.append_nil _).symm (fun p e s m args below meth c A C hname hT hZ => ?_)
  refine x_iconst (q := 1) C 1 rfl dX2_markHeated_0 rfl ?_
  refine x_istore_n (q := 2) C [(1, .int 1), (0, .ref no)] dX2_markHeated_1 (by decide) rfl rfl ?_
  refine x_less [0, 1] [(1, .int 1), (0, .ref no)] rfl ?_
  refine x_up (fun j => [(no, .inr (2, [.ref nS, .ref nL, .ref nA, .ref nH, .ref nV, .ref nT, .ref nC, .ref nD, .int sl])), (nS, .inl (cy.1, 12, .inl (fun i => nI (sr i)))), (nH, .inl (cy.1, 12, .inl sh)), (nT, .inl (cy.2.1, 12, .inl (itr (hStep sr sh) ht j)))]) (fun j => [(1, .int (nI (j + 1))), (0, .ref no)]) 11 rfl rfl (fun j h_j ih_j => ?_) ?_
  · refine x_iload_n (q := 3) C 0 rfl dX2_markHeated_2 rfl ?_
    refine x_bipush (q := 5) C 12 rfl dX2_markHeated_3 rfl ?_
    refine x_icmp_ge_f (q := 8) C 67 dX2_markHeated_5 (by decide) rfl (nI_ge (a := (j + 1)) (b := 12) (by omega) (by omega)) ?_
    refine x_aload_n (q := 9) C 1 rfl dX2_markHeated_8 rfl ?_
    refine x_get (q := 12) C (T := TX2) iw_X2_markHeated_X2 rfl 0 0 rfl (by decide) rfl (by decide +kernel : Cond.fieldLink RX2 9 RX2 "source" "[I" ∈ wsX2_markHeated) rfl dX2_markHeated_9 rfl ?_
    refine x_iload_n (q := 13) C 0 rfl dX2_markHeated_12 rfl ?_
    refine x_ialdN (q := 14) C (j + 1) 1 (nI (sr (j + 1))) rfl rfl (by omega) (by omega) rfl dX2_markHeated_13 rfl ?_
    refine x_istore_n (q := 15) C [(2, .int (nI (sr (j + 1)))), (1, .int (nI (j + 1))), (0, .ref no)] dX2_markHeated_14 (by decide) rfl rfl ?_
    refine x_iload_n (q := 16) C 0 rfl dX2_markHeated_15 rfl ?_
    refine x_CiP (q := 19) C [] [0, 1, 2, 3] (cx := []) (wr := [(no, .inr (2, [.ref nS, .ref nL, .ref nA, .ref nH, .ref nV, .ref nT, .ref nC, .ref nD, .int sl])), (nS, .inl (cy.1, 12, .inl (fun i => nI (sr i)))), (nH, .inl (cy.1, 12, .inl sh)), (nT, .inl (cy.2.1, 12, .inl (itr (hStep sr sh) ht j)))]) (st := []) rfl rfl rfl rfl (by decide) (fun H locs ls hP hPc hDc hS hFc hl => x_runSN C (As := [.int (nI (sr (j + 1)))]) (c_X4_isHouse (nI (sr (j + 1)))) (⟨va_cnB 1 C.2.2.2.2.2.1 gX2_markHeated_X4_isHouse_n55 rfl rfl rfl (va_Nw.of rfl (C.2.2.2.2.2.2.1.2.1.use (B := #[]) (by decide +kernel : Cond.methodLinkNest RX2 55 yX4_isHouse RX4 ∈ xNest))) (C.2.2.2.2.2.1 _ (by decide +kernel)) (by decide +kernel) ⟨Nat.le_of_ble_eq_true rfl, Nat.le_of_ble_eq_true rfl⟩, C.2.2.2.2.2.1 (Cond.static yX4_isHouse) (by decide +kernel), trivial⟩) rfl rfl (Nat.le_of_ble_eq_true rfl) dX2_markHeated_16 ⟨Nat.le_of_ble_eq_true rfl, Nat.le_of_ble_eq_true rfl⟩ (fun h => absurd h (by decide)) hP hPc hDc hS hFc hl) (k := 0) (n := 0) rfl rfl rfl (fun r_16 w1 hw => ?_)
    obtain ⟨rfl, rfl⟩ := hw
    refine x_ord [0, 1, 2, 3] [(no, .inr (2, [.ref nS, .ref nL, .ref nA, .ref nH, .ref nV, .ref nT, .ref nC, .ref nD, .int sl])), (nS, .inl (cy.1, 12, .inl (fun i => nI (sr i)))), (nH, .inl (cy.1, 12, .inl sh)), (nT, .inl (cy.2.1, 12, .inl (itr (hStep sr sh) ht j)))] rfl rfl ?_
    refine x_if_eq (q := 22) C 31 dX2_markHeated_19 (by decide) rfl (fun c_19 => ?_) (fun c_19 => ?_)
    · refine x_iconst (q := 32) C 1 rfl dX2_markHeated_31 rfl ?_
      refine x_goto C 36 dX2_markHeated_32 (by decide) ?_
      refine x_istore_n (q := 37) C [(3, .int 1), (2, .int (nI (sr (j + 1)))), (1, .int (nI (j + 1))), (0, .ref no)] dX2_markHeated_36 (by decide) rfl rfl ?_
      refine x_aload_n (q := 38) C 3 rfl dX2_markHeated_37 rfl ?_
      refine x_get (q := 41) C (T := TX2) iw_X2_markHeated_X2 rfl 0 5 rfl (by decide) rfl (by decide +kernel : Cond.fieldLink RX2 27 RX2 "heated" "[Z" ∈ wsX2_markHeated) rfl dX2_markHeated_38 rfl ?_
      refine x_iload_n (q := 42) C 2 rfl dX2_markHeated_41 rfl ?_
      refine x_iload_n (q := 43) C 0 rfl dX2_markHeated_42 rfl ?_
      refine x_if_eq_f (q := 46) C 59 dX2_markHeated_43 (by decide) rfl (by decide) ?_
      refine x_aload_n (q := 47) C 3 rfl dX2_markHeated_46 rfl ?_
      refine x_get (q := 50) C (T := TX2) iw_X2_markHeated_X2 rfl 0 3 rfl (by decide) rfl (by decide +kernel : Cond.fieldLink RX2 21 RX2 "shutHours" "[I" ∈ wsX2_markHeated) rfl dX2_markHeated_47 rfl ?_
      refine x_iload_n (q := 51) C 2 rfl dX2_markHeated_50 rfl ?_
      refine x_ialdN (q := 52) C (j + 1) 2 (sh (j + 1)) rfl rfl (by omega) (by omega) rfl dX2_markHeated_51 rfl ?_
      refine x_if_ne (q := 55) C 59 dX2_markHeated_52 (by decide) rfl (fun c_52 => ?_) (fun c_52 => ?_)
      · refine x_iconst (q := 60) C 0 rfl dX2_markHeated_59 rfl ?_
        refine x_zastN (q := 61) C (j + 1) 3 (upd (itr (hStep sr sh) ht j) (j + 1) 0) [(no, .inr (2, [.ref nS, .ref nL, .ref nA, .ref nH, .ref nV, .ref nT, .ref nC, .ref nD, .int sl])), (nS, .inl (cy.1, 12, .inl (fun i => nI (sr i)))), (nH, .inl (cy.1, 12, .inl sh)), (nT, .inl (cy.2.1, 12, .inl (upd (itr (hStep sr sh) ht j) (j + 1) 0)))] rfl rfl (by omega) (by omega) (congrArg _ vpz0) rfl dX2_markHeated_60 rfl ?_
        refine x_iinc (q := 64) C 2 (nI ((j + 1) + 1)) [(1, .int (nI ((j + 1) + 1))), (3, .int 1), (2, .int (nI (sr (j + 1)))), (0, .ref no)] dX2_markHeated_61 rfl (nI_1 _) (by decide) rfl rfl ?_
        refine x_goto C 2 dX2_markHeated_64 (by decide) ?_
        refine x_less [0, 3] [(1, .int (nI ((j + 1) + 1))), (0, .ref no)] rfl ?_
        have e9 : itr (hStep sr sh) ht (j + 1) = upd (itr (hStep sr sh) ht j) (j + 1) 0 := by
          show hStep sr sh j (itr (hStep sr sh) ht j) = _
          simp [hStep, c_19, c_52]
        refine x_less [0, 1] [(1, .int (nI ((j + 1) + 1))), (0, .ref no)] (by first | rfl | (rw [e9]; rfl)) ?_
        refine x_world (X' := [(no, .inr (2, [.ref nS, .ref nL, .ref nA, .ref nH, .ref nV, .ref nT, .ref nC, .ref nD, .int sl])), (nS, .inl (cy.1, 12, .inl (fun i => nI (sr i)))), (nH, .inl (cy.1, 12, .inl sh)), (nT, .inl (cy.2.1, 12, .inl (itr (hStep sr sh) ht (j + 1))))]) (pl' := []) (by first | rfl | rw [e9]) ?_
        exact ih_j
      · refine x_iconst (q := 56) C 1 rfl dX2_markHeated_55 rfl ?_
        refine x_goto C 60 dX2_markHeated_56 (by decide) ?_
        refine x_zastN (q := 61) C (j + 1) 3 (upd (itr (hStep sr sh) ht j) (j + 1) 1) [(no, .inr (2, [.ref nS, .ref nL, .ref nA, .ref nH, .ref nV, .ref nT, .ref nC, .ref nD, .int sl])), (nS, .inl (cy.1, 12, .inl (fun i => nI (sr i)))), (nH, .inl (cy.1, 12, .inl sh)), (nT, .inl (cy.2.1, 12, .inl (upd (itr (hStep sr sh) ht j) (j + 1) 1)))] rfl rfl (by omega) (by omega) (congrArg _ vpz1) rfl dX2_markHeated_60 rfl ?_
        refine x_iinc (q := 64) C 2 (nI ((j + 1) + 1)) [(1, .int (nI ((j + 1) + 1))), (3, .int 1), (2, .int (nI (sr (j + 1)))), (0, .ref no)] dX2_markHeated_61 rfl (nI_1 _) (by decide) rfl rfl ?_
        refine x_goto C 2 dX2_markHeated_64 (by decide) ?_
        refine x_less [0, 3] [(1, .int (nI ((j + 1) + 1))), (0, .ref no)] rfl ?_
        have e9 : itr (hStep sr sh) ht (j + 1) = upd (itr (hStep sr sh) ht j) (j + 1) 1 := by
          show hStep sr sh j (itr (hStep sr sh) ht j) = _
          simp [hStep, c_19, c_52]
        refine x_less [0, 1] [(1, .int (nI ((j + 1) + 1))), (0, .ref no)] (by first | rfl | (rw [e9]; rfl)) ?_
        refine x_world (X' := [(no, .inr (2, [.ref nS, .ref nL, .ref nA, .ref nH, .ref nV, .ref nT, .ref nC, .ref nD, .int sl])), (nS, .inl (cy.1, 12, .inl (fun i => nI (sr i)))), (nH, .inl (cy.1, 12, .inl sh)), (nT, .inl (cy.2.1, 12, .inl (itr (hStep sr sh) ht (j + 1))))]) (pl' := []) (by first | rfl | rw [e9]) ?_
        exact ih_j
    · refine x_aload_n (q := 23) C 2 rfl dX2_markHeated_22 rfl ?_
      refine x_get (q := 26) C (T := TX2) iw_X2_markHeated_X2 rfl 0 5 rfl (by decide) rfl (by decide +kernel : Cond.fieldLink RX2 27 RX2 "heated" "[Z" ∈ wsX2_markHeated) rfl dX2_markHeated_23 rfl ?_
      refine x_iload_n (q := 27) C 0 rfl dX2_markHeated_26 rfl ?_
      refine x_zaldN (q := 28) C (sr (j + 1)) 3 ((itr (hStep sr sh) ht j) (sr (j + 1))) rfl rfl (by have := hsr (j + 1) (by omega) (by omega); omega) (by omega) rfl dX2_markHeated_27 rfl ?_
      refine x_if_eq (q := 31) C 35 dX2_markHeated_28 (by decide) rfl (fun c_28 => ?_) (fun c_28 => ?_)
      · refine x_iconst (q := 36) C 0 rfl dX2_markHeated_35 rfl ?_
        refine x_istore_n (q := 37) C [(3, .int 0), (2, .int (nI (sr (j + 1)))), (1, .int (nI (j + 1))), (0, .ref no)] dX2_markHeated_36 (by decide) rfl rfl ?_
        refine x_aload_n (q := 38) C 3 rfl dX2_markHeated_37 rfl ?_
        refine x_get (q := 41) C (T := TX2) iw_X2_markHeated_X2 rfl 0 5 rfl (by decide) rfl (by decide +kernel : Cond.fieldLink RX2 27 RX2 "heated" "[Z" ∈ wsX2_markHeated) rfl dX2_markHeated_38 rfl ?_
        refine x_iload_n (q := 42) C 2 rfl dX2_markHeated_41 rfl ?_
        refine x_iload_n (q := 43) C 0 rfl dX2_markHeated_42 rfl ?_
        refine x_if_eq_t C 59 dX2_markHeated_43 (by decide) (by decide) ?_
        refine x_iconst (q := 60) C 0 rfl dX2_markHeated_59 rfl ?_
        refine x_zastN (q := 61) C (j + 1) 3 (upd (itr (hStep sr sh) ht j) (j + 1) 0) [(no, .inr (2, [.ref nS, .ref nL, .ref nA, .ref nH, .ref nV, .ref nT, .ref nC, .ref nD, .int sl])), (nS, .inl (cy.1, 12, .inl (fun i => nI (sr i)))), (nH, .inl (cy.1, 12, .inl sh)), (nT, .inl (cy.2.1, 12, .inl (upd (itr (hStep sr sh) ht j) (j + 1) 0)))] rfl rfl (by omega) (by omega) (congrArg _ vpz0) rfl dX2_markHeated_60 rfl ?_
        refine x_iinc (q := 64) C 2 (nI ((j + 1) + 1)) [(1, .int (nI ((j + 1) + 1))), (3, .int 0), (2, .int (nI (sr (j + 1)))), (0, .ref no)] dX2_markHeated_61 rfl (nI_1 _) (by decide) rfl rfl ?_
        refine x_goto C 2 dX2_markHeated_64 (by decide) ?_
        refine x_less [0, 3] [(1, .int (nI ((j + 1) + 1))), (0, .ref no)] rfl ?_
        have e9 : itr (hStep sr sh) ht (j + 1) = upd (itr (hStep sr sh) ht j) (j + 1) 0 := by
          show hStep sr sh j (itr (hStep sr sh) ht j) = _
          simp [hStep, c_19, c_28]
        refine x_less [0, 1] [(1, .int (nI ((j + 1) + 1))), (0, .ref no)] (by first | rfl | (rw [e9]; rfl)) ?_
        refine x_world (X' := [(no, .inr (2, [.ref nS, .ref nL, .ref nA, .ref nH, .ref nV, .ref nT, .ref nC, .ref nD, .int sl])), (nS, .inl (cy.1, 12, .inl (fun i => nI (sr i)))), (nH, .inl (cy.1, 12, .inl sh)), (nT, .inl (cy.2.1, 12, .inl (itr (hStep sr sh) ht (j + 1))))]) (pl' := []) (by first | rfl | rw [e9]) ?_
        exact ih_j
      · refine x_iconst (q := 32) C 1 rfl dX2_markHeated_31 rfl ?_
        refine x_goto C 36 dX2_markHeated_32 (by decide) ?_
        refine x_istore_n (q := 37) C [(3, .int 1), (2, .int (nI (sr (j + 1)))), (1, .int (nI (j + 1))), (0, .ref no)] dX2_markHeated_36 (by decide) rfl rfl ?_
        refine x_aload_n (q := 38) C 3 rfl dX2_markHeated_37 rfl ?_
        refine x_get (q := 41) C (T := TX2) iw_X2_markHeated_X2 rfl 0 5 rfl (by decide) rfl (by decide +kernel : Cond.fieldLink RX2 27 RX2 "heated" "[Z" ∈ wsX2_markHeated) rfl dX2_markHeated_38 rfl ?_
        refine x_iload_n (q := 42) C 2 rfl dX2_markHeated_41 rfl ?_
        refine x_iload_n (q := 43) C 0 rfl dX2_markHeated_42 rfl ?_
        refine x_if_eq_f (q := 46) C 59 dX2_markHeated_43 (by decide) rfl (by decide) ?_
        refine x_aload_n (q := 47) C 3 rfl dX2_markHeated_46 rfl ?_
        refine x_get (q := 50) C (T := TX2) iw_X2_markHeated_X2 rfl 0 3 rfl (by decide) rfl (by decide +kernel : Cond.fieldLink RX2 21 RX2 "shutHours" "[I" ∈ wsX2_markHeated) rfl dX2_markHeated_47 rfl ?_
        refine x_iload_n (q := 51) C 2 rfl dX2_markHeated_50 rfl ?_
        refine x_ialdN (q := 52) C (j + 1) 2 (sh (j + 1)) rfl rfl (by omega) (by omega) rfl dX2_markHeated_51 rfl ?_
        refine x_if_ne (q := 55) C 59 dX2_markHeated_52 (by decide) rfl (fun c_52 => ?_) (fun c_52 => ?_)
        · refine x_iconst (q := 60) C 0 rfl dX2_markHeated_59 rfl ?_
          refine x_zastN (q := 61) C (j + 1) 3 (upd (itr (hStep sr sh) ht j) (j + 1) 0) [(no, .inr (2, [.ref nS, .ref nL, .ref nA, .ref nH, .ref nV, .ref nT, .ref nC, .ref nD, .int sl])), (nS, .inl (cy.1, 12, .inl (fun i => nI (sr i)))), (nH, .inl (cy.1, 12, .inl sh)), (nT, .inl (cy.2.1, 12, .inl (upd (itr (hStep sr sh) ht j) (j + 1) 0)))] rfl rfl (by omega) (by omega) (congrArg _ vpz0) rfl dX2_markHeated_60 rfl ?_
          refine x_iinc (q := 64) C 2 (nI ((j + 1) + 1)) [(1, .int (nI ((j + 1) + 1))), (3, .int 1), (2, .int (nI (sr (j + 1)))), (0, .ref no)] dX2_markHeated_61 rfl (nI_1 _) (by decide) rfl rfl ?_
          refine x_goto C 2 dX2_markHeated_64 (by decide) ?_
          refine x_less [0, 3] [(1, .int (nI ((j + 1) + 1))), (0, .ref no)] rfl ?_
          have e9 : itr (hStep sr sh) ht (j + 1) = upd (itr (hStep sr sh) ht j) (j + 1) 0 := by
            show hStep sr sh j (itr (hStep sr sh) ht j) = _
            simp [hStep, c_19, c_28, c_52]
          refine x_less [0, 1] [(1, .int (nI ((j + 1) + 1))), (0, .ref no)] (by first | rfl | (rw [e9]; rfl)) ?_
          refine x_world (X' := [(no, .inr (2, [.ref nS, .ref nL, .ref nA, .ref nH, .ref nV, .ref nT, .ref nC, .ref nD, .int sl])), (nS, .inl (cy.1, 12, .inl (fun i => nI (sr i)))), (nH, .inl (cy.1, 12, .inl sh)), (nT, .inl (cy.2.1, 12, .inl (itr (hStep sr sh) ht (j + 1))))]) (pl' := []) (by first | rfl | rw [e9]) ?_
          exact ih_j
        · refine x_iconst (q := 56) C 1 rfl dX2_markHeated_55 rfl ?_
          refine x_goto C 60 dX2_markHeated_56 (by decide) ?_
          refine x_zastN (q := 61) C (j + 1) 3 (upd (itr (hStep sr sh) ht j) (j + 1) 1) [(no, .inr (2, [.ref nS, .ref nL, .ref nA, .ref nH, .ref nV, .ref nT, .ref nC, .ref nD, .int sl])), (nS, .inl (cy.1, 12, .inl (fun i => nI (sr i)))), (nH, .inl (cy.1, 12, .inl sh)), (nT, .inl (cy.2.1, 12, .inl (upd (itr (hStep sr sh) ht j) (j + 1) 1)))] rfl rfl (by omega) (by omega) (congrArg _ vpz1) rfl dX2_markHeated_60 rfl ?_
          refine x_iinc (q := 64) C 2 (nI ((j + 1) + 1)) [(1, .int (nI ((j + 1) + 1))), (3, .int 1), (2, .int (nI (sr (j + 1)))), (0, .ref no)] dX2_markHeated_61 rfl (nI_1 _) (by decide) rfl rfl ?_
          refine x_goto C 2 dX2_markHeated_64 (by decide) ?_
          refine x_less [0, 3] [(1, .int (nI ((j + 1) + 1))), (0, .ref no)] rfl ?_
          have e9 : itr (hStep sr sh) ht (j + 1) = upd (itr (hStep sr sh) ht j) (j + 1) 1 := by
            show hStep sr sh j (itr (hStep sr sh) ht j) = _
            simp [hStep, c_19, c_28, c_52]
          refine x_less [0, 1] [(1, .int (nI ((j + 1) + 1))), (0, .ref no)] (by first | rfl | (rw [e9]; rfl)) ?_
          refine x_world (X' := [(no, .inr (2, [.ref nS, .ref nL, .ref nA, .ref nH, .ref nV, .ref nT, .ref nC, .ref nD, .int sl])), (nS, .inl (cy.1, 12, .inl (fun i => nI (sr i)))), (nH, .inl (cy.1, 12, .inl sh)), (nT, .inl (cy.2.1, 12, .inl (itr (hStep sr sh) ht (j + 1))))]) (pl' := []) (by first | rfl | rw [e9]) ?_
          exact ih_j
  · refine x_iload_n (q := 3) C 0 rfl dX2_markHeated_2 rfl ?_
    refine x_bipush (q := 5) C 12 rfl dX2_markHeated_3 rfl ?_
    refine x_icmp_ge_t C 67 dX2_markHeated_5 (by decide) (nI_le (a := 12) (b := (11 + 1)) (by omega) (by omega)) ?_
    exact x_vret C rfl (rfl) dX2_markHeated_67 (Nat.le_of_ble_eq_true rfl) (Nat.le_of_ble_eq_true rfl)

theorem iw_X2_markCarries_X2 : ∀ w ∈ wsX20, w ∈ wsX2_markCarries := by decide +kernel
set_option maxHeartbeats 4000000 in
set_option maxRecDepth 100000 in
/-- markCarries -/
theorem c_X2_markCarries {l : Launch} {D : va_G} {cy : ClassId × ClassId × ClassId} (no nS nL nA nH nV nT nC nD : Nat) (sr : Nat → Nat) (ca dm : Nat → Int32) (sl : Int32) (hsr : ∀ j, 1 ≤ j → j < 12 → sr j < j) : xM false l yX2_markCarries wsX2_markCarries ({ frames := 1, cells := 0, slots := 0, locals := 20 }) D cy [.ref no] ([(no, .inr (2, [.ref nS, .ref nL, .ref nA, .ref nH, .ref nV, .ref nT, .ref nC, .ref nD, .int sl])), (nS, .inl (cy.1, 12, .inl (fun i => nI (sr i)))), (nC, .inl (cy.2.1, 12, .inl ca)), (nD, .inl (cy.1, 12, .inl dm))]) (xQv D (fun w => w = [(no, .inr (2, [.ref nS, .ref nL, .ref nA, .ref nH, .ref nV, .ref nT, .ref nC, .ref nD, .int sl])), (nS, .inl (cy.1, 12, .inl (fun i => nI (sr i)))), (nC, .inl (cy.2.1, 12, .inl (cFun sr dm ca))), (nD, .inl (cy.1, 12, .inl dm))])) 0 0 := by
  refine xM_of (X := [(no, .inr (2, [.ref nS, .ref nL, .ref nA, .ref nH, .ref nV, .ref nT, .ref nC, .ref nD, .int sl])), (nS, .inl (cy.1, 12, .inl (fun i => nI (sr i)))), (nC, .inl (cy.2.1, 12, .inl ca)), (nD, .inl (cy.1, 12, .inl dm))]) (pl := []) (nL := 3) (ret := none) RX2 [(0, .ref no)] (by decide +kernel) rfl rfl rfl (Nat.le_of_ble_eq_true rfl) (List.append_nil _).symm (fun p e s m args below meth c A C hname hT hZ => ?_)
  refine x_iconst (q := 1) C 1 rfl dX2_markCarries_0 rfl ?_
  refine x_istore_n (q := 2) C [(1, .int 1), (0, .ref no)] dX2_markCarries_1 (by decide) rfl rfl ?_
  refine x_less [0, 1] [(1, .int 1), (0, .ref no)] rfl ?_
  refine x_up (fun j => [(no, .inr (2, [.ref nS, .ref nL, .ref nA, .ref nH, .ref nV, .ref nT, .ref nC, .ref nD, .int sl])), (nS, .inl (cy.1, 12, .inl (fun i => nI (sr i)))), (nC, .inl (cy.2.1, 12, .inl (itr (cIni dm) ca j))), (nD, .inl (cy.1, 12, .inl dm))]) (fun j => [(1, .int (nI (j + 1))), (0, .ref no)]) 11 rfl rfl (fun j h_j ih_j => ?_) ?_
  · refine x_iload_n (q := 3) C 0 rfl dX2_markCarries_2 rfl ?_
    refine x_bipush (q := 5) C 12 rfl dX2_markCarries_3 rfl ?_
    refine x_icmp_ge_f (q := 8) C 34 dX2_markCarries_5 (by decide) rfl (nI_ge (a := (j + 1)) (b := 12) (by omega) (by omega)) ?_
    refine x_aload_n (q := 9) C 1 rfl dX2_markCarries_8 rfl ?_
    refine x_get (q := 12) C (T := TX2) iw_X2_markCarries_X2 rfl 0 6 rfl (by decide) rfl (by decide +kernel : Cond.fieldLink RX2 31 RX2 "carries" "[Z" ∈ wsX2_markCarries) rfl dX2_markCarries_9 rfl ?_
    refine x_iload_n (q := 13) C 0 rfl dX2_markCarries_12 rfl ?_
    refine x_aload_n (q := 14) C 1 rfl dX2_markCarries_13 rfl ?_
    refine x_get (q := 17) C (T := TX2) iw_X2_markCarries_X2 rfl 0 7 rfl (by decide) rfl (by decide +kernel : Cond.fieldLink RX2 34 RX2 "demand" "[I" ∈ wsX2_markCarries) rfl dX2_markCarries_14 rfl ?_
    refine x_iload_n (q := 18) C 0 rfl dX2_markCarries_17 rfl ?_
    refine x_ialdN (q := 19) C (j + 1) 3 (dm (j + 1)) rfl rfl (by omega) (by omega) rfl dX2_markCarries_18 rfl ?_
    refine x_if_le (q := 22) C 26 dX2_markCarries_19 (by decide) rfl (fun c_19 => ?_) (fun c_19 => ?_)
    · refine x_iconst (q := 27) C 0 rfl dX2_markCarries_26 rfl ?_
      refine x_zastN (q := 28) C (j + 1) 2 (upd (itr (cIni dm) ca j) (j + 1) 0) [(no, .inr (2, [.ref nS, .ref nL, .ref nA, .ref nH, .ref nV, .ref nT, .ref nC, .ref nD, .int sl])), (nS, .inl (cy.1, 12, .inl (fun i => nI (sr i)))), (nC, .inl (cy.2.1, 12, .inl (upd (itr (cIni dm) ca j) (j + 1) 0))), (nD, .inl (cy.1, 12, .inl dm))] rfl rfl (by omega) (by omega) (congrArg _ vpz0) rfl dX2_markCarries_27 rfl ?_
      refine x_iinc (q := 31) C 0 (nI ((j + 1) + 1)) [(1, .int (nI ((j + 1) + 1))), (0, .ref no)] dX2_markCarries_28 rfl (nI_1 _) (by decide) rfl rfl ?_
      refine x_goto C 2 dX2_markCarries_31 (by decide) ?_
      refine x_less [0, 1] [(1, .int (nI ((j + 1) + 1))), (0, .ref no)] rfl ?_
      have e9 : itr (cIni dm) ca (j + 1) = upd (itr (cIni dm) ca j) (j + 1) 0 := by
        show cIni dm j (itr (cIni dm) ca j) = _
        simp [cIni, c_19]
      refine x_less [0, 1] [(1, .int (nI ((j + 1) + 1))), (0, .ref no)] (by first | rfl | (rw [e9]; rfl)) ?_
      refine x_world (X' := [(no, .inr (2, [.ref nS, .ref nL, .ref nA, .ref nH, .ref nV, .ref nT, .ref nC, .ref nD, .int sl])), (nS, .inl (cy.1, 12, .inl (fun i => nI (sr i)))), (nC, .inl (cy.2.1, 12, .inl (itr (cIni dm) ca (j + 1)))), (nD, .inl (cy.1, 12, .inl dm))]) (pl' := []) (by first | rfl | rw [e9]) ?_
      exact ih_j
    · refine x_iconst (q := 23) C 1 rfl dX2_markCarries_22 rfl ?_
      refine x_goto C 27 dX2_markCarries_23 (by decide) ?_
      refine x_zastN (q := 28) C (j + 1) 2 (upd (itr (cIni dm) ca j) (j + 1) 1) [(no, .inr (2, [.ref nS, .ref nL, .ref nA, .ref nH, .ref nV, .ref nT, .ref nC, .ref nD, .int sl])), (nS, .inl (cy.1, 12, .inl (fun i => nI (sr i)))), (nC, .inl (cy.2.1, 12, .inl (upd (itr (cIni dm) ca j) (j + 1) 1))), (nD, .inl (cy.1, 12, .inl dm))] rfl rfl (by omega) (by omega) (congrArg _ vpz1) rfl dX2_markCarries_27 rfl ?_
      refine x_iinc (q := 31) C 0 (nI ((j + 1) + 1)) [(1, .int (nI ((j + 1) + 1))), (0, .ref no)] dX2_markCarries_28 rfl (nI_1 _) (by decide) rfl rfl ?_
      refine x_goto C 2 dX2_markCarries_31 (by decide) ?_
      refine x_less [0, 1] [(1, .int (nI ((j + 1) + 1))), (0, .ref no)] rfl ?_
      have e9 : itr (cIni dm) ca (j + 1) = upd (itr (cIni dm) ca j) (j + 1) 1 := by
        show cIni dm j (itr (cIni dm) ca j) = _
        simp [cIni, c_19]
      refine x_less [0, 1] [(1, .int (nI ((j + 1) + 1))), (0, .ref no)] (by first | rfl | (rw [e9]; rfl)) ?_
      refine x_world (X' := [(no, .inr (2, [.ref nS, .ref nL, .ref nA, .ref nH, .ref nV, .ref nT, .ref nC, .ref nD, .int sl])), (nS, .inl (cy.1, 12, .inl (fun i => nI (sr i)))), (nC, .inl (cy.2.1, 12, .inl (itr (cIni dm) ca (j + 1)))), (nD, .inl (cy.1, 12, .inl dm))]) (pl' := []) (by first | rfl | rw [e9]) ?_
      exact ih_j
  · refine x_iload_n (q := 3) C 0 rfl dX2_markCarries_2 rfl ?_
    refine x_bipush (q := 5) C 12 rfl dX2_markCarries_3 rfl ?_
    refine x_icmp_ge_t C 34 dX2_markCarries_5 (by decide) (nI_le (a := 12) (b := (11 + 1)) (by omega) (by omega)) ?_
    refine x_bipush (q := 36) C 11 rfl dX2_markCarries_34 rfl ?_
    refine x_istore_n (q := 37) C [(1, .int 11), (0, .ref no)] dX2_markCarries_36 (by decide) rfl rfl ?_
    refine x_less [0, 1] [(1, .int 11), (0, .ref no)] rfl ?_
    refine x_up (fun j => [(no, .inr (2, [.ref nS, .ref nL, .ref nA, .ref nH, .ref nV, .ref nT, .ref nC, .ref nD, .int sl])), (nS, .inl (cy.1, 12, .inl (fun i => nI (sr i)))), (nC, .inl (cy.2.1, 12, .inl (itr (cStep sr) (itr (cIni dm) ca 11) j))), (nD, .inl (cy.1, 12, .inl dm))]) (fun j => [(1, .int (nI (11 - j))), (0, .ref no)]) 11 rfl rfl (fun j h_j ih_j => ?_) ?_
    · refine x_iload_n (q := 38) C 0 rfl dX2_markCarries_37 rfl ?_
      refine x_iconst (q := 39) C 1 rfl dX2_markCarries_38 rfl ?_
      refine x_icmp_lt_f (q := 42) C 78 dX2_markCarries_39 (by decide) rfl (nI_nlt (a := (11 - j)) (b := 1) (by omega) (by omega)) ?_
      refine x_aload_n (q := 43) C 1 rfl dX2_markCarries_42 rfl ?_
      refine x_get (q := 46) C (T := TX2) iw_X2_markCarries_X2 rfl 0 0 rfl (by decide) rfl (by decide +kernel : Cond.fieldLink RX2 9 RX2 "source" "[I" ∈ wsX2_markCarries) rfl dX2_markCarries_43 rfl ?_
      refine x_iload_n (q := 47) C 0 rfl dX2_markCarries_46 rfl ?_
      refine x_ialdN (q := 48) C (11 - j) 1 (nI (sr (11 - j))) rfl rfl (by omega) (by omega) rfl dX2_markCarries_47 rfl ?_
      refine x_istore_n (q := 49) C [(2, .int (nI (sr (11 - j)))), (1, .int (nI (11 - j))), (0, .ref no)] dX2_markCarries_48 (by decide) rfl rfl ?_
      refine x_aload_n (q := 50) C 2 rfl dX2_markCarries_49 rfl ?_
      refine x_get (q := 53) C (T := TX2) iw_X2_markCarries_X2 rfl 0 6 rfl (by decide) rfl (by decide +kernel : Cond.fieldLink RX2 31 RX2 "carries" "[Z" ∈ wsX2_markCarries) rfl dX2_markCarries_50 rfl ?_
      refine x_iload_n (q := 54) C 1 rfl dX2_markCarries_53 rfl ?_
      refine x_zaldN (q := 55) C (11 - j) 2 ((itr (cStep sr) (itr (cIni dm) ca 11) j) (11 - j)) rfl rfl (by omega) (by omega) rfl dX2_markCarries_54 rfl ?_
      refine x_if_eq (q := 58) C 72 dX2_markCarries_55 (by decide) rfl (fun c_55 => ?_) (fun c_55 => ?_)
      · refine x_iinc (q := 75) C 1 (nI (11 - (j + 1))) [(1, .int (nI (11 - (j + 1)))), (2, .int (nI (sr (11 - j)))), (0, .ref no)] dX2_markCarries_72 rfl (nI_dn h_j) (by decide) rfl rfl ?_
        refine x_goto C 37 dX2_markCarries_75 (by decide) ?_
        refine x_less [0, 2] [(1, .int (nI (11 - (j + 1)))), (0, .ref no)] rfl ?_
        have e9 : itr (cStep sr) (itr (cIni dm) ca 11) (j + 1) = itr (cStep sr) (itr (cIni dm) ca 11) j := by
          show cStep sr j (itr (cStep sr) (itr (cIni dm) ca 11) j) = _
          simp [cStep, c_55]
        refine x_less [0, 1] [(1, .int (nI (11 - (j + 1)))), (0, .ref no)] (by first | rfl | (rw [e9]; rfl)) ?_
        refine x_world (X' := [(no, .inr (2, [.ref nS, .ref nL, .ref nA, .ref nH, .ref nV, .ref nT, .ref nC, .ref nD, .int sl])), (nS, .inl (cy.1, 12, .inl (fun i => nI (sr i)))), (nC, .inl (cy.2.1, 12, .inl (itr (cStep sr) (itr (cIni dm) ca 11) (j + 1)))), (nD, .inl (cy.1, 12, .inl dm))]) (pl' := []) (by first | rfl | rw [e9]) ?_
        exact ih_j
      · refine x_iload_n (q := 59) C 0 rfl dX2_markCarries_58 rfl ?_
        refine x_CiP (q := 62) C [] [0, 1, 2, 3] (cx := []) (wr := [(no, .inr (2, [.ref nS, .ref nL, .ref nA, .ref nH, .ref nV, .ref nT, .ref nC, .ref nD, .int sl])), (nS, .inl (cy.1, 12, .inl (fun i => nI (sr i)))), (nC, .inl (cy.2.1, 12, .inl (itr (cStep sr) (itr (cIni dm) ca 11) j))), (nD, .inl (cy.1, 12, .inl dm))]) (st := []) rfl rfl rfl rfl (by decide) (fun H locs ls hP hPc hDc hS hFc hl => x_runSN C (As := [.int (nI (sr (11 - j)))]) (c_X4_isHouse (nI (sr (11 - j)))) (⟨va_cnB 1 C.2.2.2.2.2.1 gX2_markCarries_X4_isHouse_n55 rfl rfl rfl (va_Nw.of rfl (C.2.2.2.2.2.2.1.2.1.use (B := #[]) (by decide +kernel : Cond.methodLinkNest RX2 55 yX4_isHouse RX4 ∈ xNest))) (C.2.2.2.2.2.1 _ (by decide +kernel)) (by decide +kernel) ⟨Nat.le_of_ble_eq_true rfl, Nat.le_of_ble_eq_true rfl⟩, C.2.2.2.2.2.1 (Cond.static yX4_isHouse) (by decide +kernel), trivial⟩) rfl rfl (Nat.le_of_ble_eq_true rfl) dX2_markCarries_59 ⟨Nat.le_of_ble_eq_true rfl, Nat.le_of_ble_eq_true rfl⟩ (fun h => absurd h (by decide)) hP hPc hDc hS hFc hl) (k := 0) (n := 0) rfl rfl rfl (fun r_59 w1 hw => ?_)
        obtain ⟨rfl, rfl⟩ := hw
        refine x_ord [0, 1, 2, 3] [(no, .inr (2, [.ref nS, .ref nL, .ref nA, .ref nH, .ref nV, .ref nT, .ref nC, .ref nD, .int sl])), (nS, .inl (cy.1, 12, .inl (fun i => nI (sr i)))), (nC, .inl (cy.2.1, 12, .inl (itr (cStep sr) (itr (cIni dm) ca 11) j))), (nD, .inl (cy.1, 12, .inl dm))] rfl rfl ?_
        refine x_if_eq (q := 65) C 72 dX2_markCarries_62 (by decide) rfl (fun c_62 => ?_) (fun c_62 => ?_)
        · refine x_iinc (q := 75) C 1 (nI (11 - (j + 1))) [(1, .int (nI (11 - (j + 1)))), (2, .int (nI (sr (11 - j)))), (0, .ref no)] dX2_markCarries_72 rfl (nI_dn h_j) (by decide) rfl rfl ?_
          refine x_goto C 37 dX2_markCarries_75 (by decide) ?_
          refine x_less [0, 2] [(1, .int (nI (11 - (j + 1)))), (0, .ref no)] rfl ?_
          have e9 : itr (cStep sr) (itr (cIni dm) ca 11) (j + 1) = itr (cStep sr) (itr (cIni dm) ca 11) j := by
            show cStep sr j (itr (cStep sr) (itr (cIni dm) ca 11) j) = _
            simp [cStep, c_55, c_62]
          refine x_less [0, 1] [(1, .int (nI (11 - (j + 1)))), (0, .ref no)] (by first | rfl | (rw [e9]; rfl)) ?_
          refine x_world (X' := [(no, .inr (2, [.ref nS, .ref nL, .ref nA, .ref nH, .ref nV, .ref nT, .ref nC, .ref nD, .int sl])), (nS, .inl (cy.1, 12, .inl (fun i => nI (sr i)))), (nC, .inl (cy.2.1, 12, .inl (itr (cStep sr) (itr (cIni dm) ca 11) (j + 1)))), (nD, .inl (cy.1, 12, .inl dm))]) (pl' := []) (by first | rfl | rw [e9]) ?_
          exact ih_j
        · refine x_aload_n (q := 66) C 2 rfl dX2_markCarries_65 rfl ?_
          refine x_get (q := 69) C (T := TX2) iw_X2_markCarries_X2 rfl 0 6 rfl (by decide) rfl (by decide +kernel : Cond.fieldLink RX2 31 RX2 "carries" "[Z" ∈ wsX2_markCarries) rfl dX2_markCarries_66 rfl ?_
          refine x_iload_n (q := 70) C 0 rfl dX2_markCarries_69 rfl ?_
          refine x_iconst (q := 71) C 1 rfl dX2_markCarries_70 rfl ?_
          refine x_zastN (q := 72) C (sr (11 - j)) 2 (upd (itr (cStep sr) (itr (cIni dm) ca 11) j) (sr (11 - j)) 1) [(no, .inr (2, [.ref nS, .ref nL, .ref nA, .ref nH, .ref nV, .ref nT, .ref nC, .ref nD, .int sl])), (nS, .inl (cy.1, 12, .inl (fun i => nI (sr i)))), (nC, .inl (cy.2.1, 12, .inl (upd (itr (cStep sr) (itr (cIni dm) ca 11) j) (sr (11 - j)) 1))), (nD, .inl (cy.1, 12, .inl dm))] rfl rfl (by have := hsr (11 - j) (by omega) (by omega); omega) (by omega) (congrArg _ vpz1) rfl dX2_markCarries_71 rfl ?_
          refine x_iinc (q := 75) C 1 (nI (11 - (j + 1))) [(1, .int (nI (11 - (j + 1)))), (2, .int (nI (sr (11 - j)))), (0, .ref no)] dX2_markCarries_72 rfl (nI_dn h_j) (by decide) rfl rfl ?_
          refine x_goto C 37 dX2_markCarries_75 (by decide) ?_
          refine x_less [0, 2] [(1, .int (nI (11 - (j + 1)))), (0, .ref no)] rfl ?_
          have e9 : itr (cStep sr) (itr (cIni dm) ca 11) (j + 1) = upd (itr (cStep sr) (itr (cIni dm) ca 11) j) (sr (11 - j)) 1 := by
            show cStep sr j (itr (cStep sr) (itr (cIni dm) ca 11) j) = _
            simp [cStep, c_55, c_62]
          refine x_less [0, 1] [(1, .int (nI (11 - (j + 1)))), (0, .ref no)] (by first | rfl | (rw [e9]; rfl)) ?_
          refine x_world (X' := [(no, .inr (2, [.ref nS, .ref nL, .ref nA, .ref nH, .ref nV, .ref nT, .ref nC, .ref nD, .int sl])), (nS, .inl (cy.1, 12, .inl (fun i => nI (sr i)))), (nC, .inl (cy.2.1, 12, .inl (itr (cStep sr) (itr (cIni dm) ca 11) (j + 1)))), (nD, .inl (cy.1, 12, .inl dm))]) (pl' := []) (by first | rfl | rw [e9]) ?_
          exact ih_j
    · refine x_iload_n (q := 38) C 0 rfl dX2_markCarries_37 rfl ?_
      refine x_iconst (q := 39) C 1 rfl dX2_markCarries_38 rfl ?_
      refine x_icmp_lt_t C 78 dX2_markCarries_39 (by decide) (nI_lt (a := (11 - 11)) (b := 1) (by omega) (by omega)) ?_
      exact x_vret C rfl (rfl) dX2_markCarries_78 (Nat.le_of_ble_eq_true rfl) (Nat.le_of_ble_eq_true rfl)

theorem iw_X2_carriedLoss_X2 : ∀ w ∈ wsX20, w ∈ wsX2_carriedLoss := by decide +kernel
set_option maxHeartbeats 4000000 in
set_option maxRecDepth 100000 in
/-- carriedLoss -/
theorem c_X2_carriedLoss {l : Launch} {D : va_G} {cy : ClassId × ClassId × ClassId} (no nS nL nA nH nV nT nC nD : Nat) (lo ca : Nat → Int32) (sl : Int32) (k : Nat) (hk : k < 12) : xM false l yX2_carriedLoss wsX2_carriedLoss ({ frames := 1, cells := 0, slots := 0, locals := 20 }) D cy [.ref no, .int (nI k)] ([(no, .inr (2, [.ref nS, .ref nL, .ref nA, .ref nH, .ref nV, .ref nT, .ref nC, .ref nD, .int sl])), (nL, .inl (cy.1, 12, .inl lo)), (nC, .inl (cy.2.1, 12, .inl ca))]) (xQi D (fun r w => r = pCL ca lo k ∧ w = [(no, .inr (2, [.ref nS, .ref nL, .ref nA, .ref nH, .ref nV, .ref nT, .ref nC, .ref nD, .int sl])), (nL, .inl (cy.1, 12, .inl lo)), (nC, .inl (cy.2.1, 12, .inl ca))])) 0 0 := by
  refine xM_of (X := [(no, .inr (2, [.ref nS, .ref nL, .ref nA, .ref nH, .ref nV, .ref nT, .ref nC, .ref nD, .int sl])), (nL, .inl (cy.1, 12, .inl lo)), (nC, .inl (cy.2.1, 12, .inl ca))]) (pl := []) (nL := 2) (ret := (some .int)) RX2 [(0, .ref no), (1, .int (nI k))] (by decide +kernel) rfl rfl rfl (Nat.le_of_ble_eq_true rfl) (List.append_nil _).symm (fun p e s m args below meth c A C hname hT hZ => ?_)
  refine x_iload_n (q := 1) C 1 rfl dX2_carriedLoss_0 rfl ?_
  refine x_CiP (q := 4) C [] [0, 1, 2] (cx := []) (wr := [(no, .inr (2, [.ref nS, .ref nL, .ref nA, .ref nH, .ref nV, .ref nT, .ref nC, .ref nD, .int sl])), (nL, .inl (cy.1, 12, .inl lo)), (nC, .inl (cy.2.1, 12, .inl ca))]) (st := []) rfl rfl rfl rfl (by decide) (fun H locs ls hP hPc hDc hS hFc hl => x_runSN C (As := [.int (nI k)]) (c_X4_isHouse (nI k)) (⟨va_cnB 1 C.2.2.2.2.2.1 gX2_carriedLoss_X4_isHouse_n55 rfl rfl rfl (va_Nw.of rfl (C.2.2.2.2.2.2.1.2.1.use (B := #[]) (by decide +kernel : Cond.methodLinkNest RX2 55 yX4_isHouse RX4 ∈ xNest))) (C.2.2.2.2.2.1 _ (by decide +kernel)) (by decide +kernel) ⟨Nat.le_of_ble_eq_true rfl, Nat.le_of_ble_eq_true rfl⟩, C.2.2.2.2.2.1 (Cond.static yX4_isHouse) (by decide +kernel), trivial⟩) rfl rfl (Nat.le_of_ble_eq_true rfl) dX2_carriedLoss_1 ⟨Nat.le_of_ble_eq_true rfl, Nat.le_of_ble_eq_true rfl⟩ (fun h => absurd h (by decide)) hP hPc hDc hS hFc hl) (k := 0) (n := 0) rfl rfl rfl (fun r_1 w1 hw => ?_)
  obtain ⟨rfl, rfl⟩ := hw
  refine x_ord [0, 1, 2] [(no, .inr (2, [.ref nS, .ref nL, .ref nA, .ref nH, .ref nV, .ref nT, .ref nC, .ref nD, .int sl])), (nL, .inl (cy.1, 12, .inl lo)), (nC, .inl (cy.2.1, 12, .inl ca))] rfl rfl ?_
  refine x_if_eq (q := 7) C 25 dX2_carriedLoss_4 (by decide) rfl (fun c_4 => ?_) (fun c_4 => ?_)
  · refine x_iconst (q := 26) C 0 rfl dX2_carriedLoss_25 rfl ?_
    exact x_iret C .int rfl rfl (⟨by simp [pCL, c_4], rfl⟩) dX2_carriedLoss_26 (Nat.le_of_ble_eq_true rfl) (Nat.le_of_ble_eq_true rfl)
  · refine x_aload_n (q := 8) C 0 rfl dX2_carriedLoss_7 rfl ?_
    refine x_get (q := 11) C (T := TX2) iw_X2_carriedLoss_X2 rfl 0 6 rfl (by decide) rfl (by decide +kernel : Cond.fieldLink RX2 31 RX2 "carries" "[Z" ∈ wsX2_carriedLoss) rfl dX2_carriedLoss_8 rfl ?_
    refine x_iload_n (q := 12) C 1 rfl dX2_carriedLoss_11 rfl ?_
    refine x_zaldN (q := 13) C k 2 (ca k) rfl rfl (by omega) (by omega) rfl dX2_carriedLoss_12 rfl ?_
    refine x_if_eq (q := 16) C 25 dX2_carriedLoss_13 (by decide) rfl (fun c_13 => ?_) (fun c_13 => ?_)
    · refine x_iconst (q := 26) C 0 rfl dX2_carriedLoss_25 rfl ?_
      exact x_iret C .int rfl rfl (⟨by simp [pCL, c_4, c_13], rfl⟩) dX2_carriedLoss_26 (Nat.le_of_ble_eq_true rfl) (Nat.le_of_ble_eq_true rfl)
    · refine x_aload_n (q := 17) C 0 rfl dX2_carriedLoss_16 rfl ?_
      refine x_get (q := 20) C (T := TX2) iw_X2_carriedLoss_X2 rfl 0 1 rfl (by decide) rfl (by decide +kernel : Cond.fieldLink RX2 15 RX2 "loss" "[I" ∈ wsX2_carriedLoss) rfl dX2_carriedLoss_17 rfl ?_
      refine x_iload_n (q := 21) C 1 rfl dX2_carriedLoss_20 rfl ?_
      refine x_ialdN (q := 22) C k 1 (lo k) rfl rfl (by omega) (by omega) rfl dX2_carriedLoss_21 rfl ?_
      refine x_goto C 26 dX2_carriedLoss_22 (by decide) ?_
      exact x_iret C .int rfl rfl (⟨by simp [pCL, c_4, c_13], rfl⟩) dX2_carriedLoss_26 (Nat.le_of_ble_eq_true rfl) (Nat.le_of_ble_eq_true rfl)

theorem iw_X2_survey_X2 : ∀ w ∈ wsX20, w ∈ wsX2_survey := by decide +kernel
set_option maxHeartbeats 4000000 in
set_option maxRecDepth 100000 in
/-- survey -/
theorem c_X2_survey {l : Launch} {D : va_G} {cy : ClassId × ClassId × ClassId} (no nS nL nA nH nV nT nC nD : Nat) (sr : Nat → Nat) (lo ar sh ht ca dm : Nat → Int32) (sl t : Int32) (hsr : ∀ j, 1 ≤ j → j < 12 → sr j < j) : xM false l yX2_survey wsX2_survey ({ frames := 2, cells := 0, slots := 0, locals := 43 }) D cy [.ref no, .int t] ([(no, .inr (2, [.ref nS, .ref nL, .ref nA, .ref nH, .ref nV, .ref nT, .ref nC, .ref nD, .int sl])), (nS, .inl (cy.1, 12, .inl (fun i => nI (sr i)))), (nL, .inl (cy.1, 12, .inl lo)), (nA, .inl (cy.1, 12, .inl ar)), (nH, .inl (cy.1, 12, .inl sh)), (nT, .inl (cy.2.1, 12, .inl ht)), (nC, .inl (cy.2.1, 12, .inl ca)), (nD, .inl (cy.1, 12, .inl dm))]) (xQi D (fun r w => r = oW sr lo ar sh ht dm ca t ∧ w = [(no, .inr (2, [.ref nS, .ref nL, .ref nA, .ref nH, .ref nV, .ref nT, .ref nC, .ref nD, .int (oL sr lo ar sh ht dm ca t)])), (nS, .inl (cy.1, 12, .inl (fun i => nI (sr i)))), (nL, .inl (cy.1, 12, .inl lo)), (nA, .inl (cy.1, 12, .inl ar)), (nH, .inl (cy.1, 12, .inl sh)), (nT, .inl (cy.2.1, 12, .inl (hFun sr sh ht))), (nC, .inl (cy.2.1, 12, .inl (oC sr ar sh ht dm ca t))), (nD, .inl (cy.1, 12, .inl ((oD sr ar sh ht dm t).1)))])) 0 0 := by
  refine xM_of (X := [(no, .inr (2, [.ref nS, .ref nL, .ref nA, .ref nH, .ref nV, .ref nT, .ref nC, .ref nD, .int sl])), (nS, .inl (cy.1, 12, .inl (fun i => nI (sr i)))), (nL, .inl (cy.1, 12, .inl lo)), (nA, .inl (cy.1, 12, .inl ar)), (nH, .inl (cy.1, 12, .inl sh)), (nT, .inl (cy.2.1, 12, .inl ht)), (nC, .inl (cy.2.1, 12, .inl ca)), (nD, .inl (cy.1, 12, .inl dm))]) (pl := []) (nL := 4) (ret := (some .int)) RX2 [(0, .ref no), (1, .int t)] (by decide +kernel) rfl rfl rfl (Nat.le_of_ble_eq_true rfl) (List.append_nil _).symm (fun p e s m args below meth c A C hname hT hZ => ?_)
  refine x_aload_n (q := 1) C 0 rfl dX2_survey_0 rfl ?_
  refine x_CvP (q := 4) C [0, 1, 4, 5] [2, 3, 6, 7] (cx := [(no, .inr (2, [.ref nS, .ref nL, .ref nA, .ref nH, .ref nV, .ref nT, .ref nC, .ref nD, .int sl])), (nS, .inl (cy.1, 12, .inl (fun i => nI (sr i)))), (nH, .inl (cy.1, 12, .inl sh)), (nT, .inl (cy.2.1, 12, .inl ht))]) (wr := [(nL, .inl (cy.1, 12, .inl lo)), (nA, .inl (cy.1, 12, .inl ar)), (nC, .inl (cy.2.1, 12, .inl ca)), (nD, .inl (cy.1, 12, .inl dm))]) (st := []) rfl rfl rfl rfl (by decide) (fun H locs ls hP hPc hDc hS hFc hl => x_runV C (As := []) (c_X2_markHeated no nS nL nA nH nV nT nC nD sr sh ht sl hsr) (cwV 0 C.2.2.2.2.2.1 gX2_survey_X2_markHeated rfl rfl rfl (by decide +kernel) ⟨Nat.le_of_ble_eq_true rfl, Nat.le_of_ble_eq_true rfl⟩) rfl 0 rfl rfl rfl (Nat.le_of_ble_eq_true rfl) dX2_survey_1 ⟨Nat.le_of_ble_eq_true rfl, Nat.le_of_ble_eq_true rfl⟩ (fun h => absurd h (by decide)) hP hPc hDc hS hFc hl) (k := 0) (n := 0) rfl rfl rfl (fun w1 hw => ?_)
  obtain rfl := hw
  refine x_ord [4, 5, 0, 1, 6, 7, 2, 3] [(no, .inr (2, [.ref nS, .ref nL, .ref nA, .ref nH, .ref nV, .ref nT, .ref nC, .ref nD, .int sl])), (nS, .inl (cy.1, 12, .inl (fun i => nI (sr i)))), (nL, .inl (cy.1, 12, .inl lo)), (nA, .inl (cy.1, 12, .inl ar)), (nH, .inl (cy.1, 12, .inl sh)), (nT, .inl (cy.2.1, 12, .inl (hFun sr sh ht))), (nC, .inl (cy.2.1, 12, .inl ca)), (nD, .inl (cy.1, 12, .inl dm))] rfl rfl ?_
  refine x_iconst (q := 5) C 0 rfl dX2_survey_4 rfl ?_
  refine x_istore_n (q := 6) C [(2, .int 0), (0, .ref no), (1, .int t)] dX2_survey_5 (by decide) rfl rfl ?_
  refine x_iconst (q := 7) C 1 rfl dX2_survey_6 rfl ?_
  refine x_istore_n (q := 8) C [(3, .int 1), (2, .int 0), (0, .ref no), (1, .int t)] dX2_survey_7 (by decide) rfl rfl ?_
  refine x_less [0, 1, 2, 3] [(3, .int 1), (2, .int 0), (0, .ref no), (1, .int t)] rfl ?_
  refine x_up (fun j => [(no, .inr (2, [.ref nS, .ref nL, .ref nA, .ref nH, .ref nV, .ref nT, .ref nC, .ref nD, .int sl])), (nS, .inl (cy.1, 12, .inl (fun i => nI (sr i)))), (nL, .inl (cy.1, 12, .inl lo)), (nA, .inl (cy.1, 12, .inl ar)), (nH, .inl (cy.1, 12, .inl sh)), (nT, .inl (cy.2.1, 12, .inl (hFun sr sh ht))), (nC, .inl (cy.2.1, 12, .inl ca)), (nD, .inl (cy.1, 12, .inl ((itr (dStep (hFun sr sh ht) ar t) (dm, 0) j).1)))]) (fun j => [(3, .int (nI (j + 1))), (2, .int ((itr (dStep (hFun sr sh ht) ar t) (dm, 0) j).2)), (0, .ref no), (1, .int t)]) 11 rfl rfl (fun j h_j ih_j => ?_) ?_
  · refine x_iload_n (q := 9) C 0 rfl dX2_survey_8 rfl ?_
    refine x_bipush (q := 11) C 12 rfl dX2_survey_9 rfl ?_
    refine x_icmp_ge_f (q := 14) C 58 dX2_survey_11 (by decide) rfl (nI_ge (a := (j + 1)) (b := 12) (by omega) (by omega)) ?_
    refine x_aload_n (q := 15) C 2 rfl dX2_survey_14 rfl ?_
    refine x_get (q := 18) C (T := TX2) iw_X2_survey_X2 rfl 0 7 rfl (by decide) rfl (by decide +kernel : Cond.fieldLink RX2 34 RX2 "demand" "[I" ∈ wsX2_survey) rfl dX2_survey_15 rfl ?_
    refine x_iload_n (q := 19) C 0 rfl dX2_survey_18 rfl ?_
    refine x_aload_n (q := 20) C 2 rfl dX2_survey_19 rfl ?_
    refine x_get (q := 23) C (T := TX2) iw_X2_survey_X2 rfl 0 5 rfl (by decide) rfl (by decide +kernel : Cond.fieldLink RX2 27 RX2 "heated" "[Z" ∈ wsX2_survey) rfl dX2_survey_20 rfl ?_
    refine x_iload_n (q := 24) C 0 rfl dX2_survey_23 rfl ?_
    refine x_zaldN (q := 25) C (j + 1) 5 ((hFun sr sh ht) (j + 1)) rfl rfl (by omega) (by omega) rfl dX2_survey_24 rfl ?_
    refine x_if_eq (q := 28) C 41 dX2_survey_25 (by decide) rfl (fun c_25 => ?_) (fun c_25 => ?_)
    · refine x_iconst (q := 42) C 0 rfl dX2_survey_41 rfl ?_
      refine x_iastN (q := 43) C (j + 1) 7 (upd ((itr (dStep (hFun sr sh ht) ar t) (dm, 0) j).1) (j + 1) 0) [(no, .inr (2, [.ref nS, .ref nL, .ref nA, .ref nH, .ref nV, .ref nT, .ref nC, .ref nD, .int sl])), (nS, .inl (cy.1, 12, .inl (fun i => nI (sr i)))), (nL, .inl (cy.1, 12, .inl lo)), (nA, .inl (cy.1, 12, .inl ar)), (nH, .inl (cy.1, 12, .inl sh)), (nT, .inl (cy.2.1, 12, .inl (hFun sr sh ht))), (nC, .inl (cy.2.1, 12, .inl ca)), (nD, .inl (cy.1, 12, .inl (upd ((itr (dStep (hFun sr sh ht) ar t) (dm, 0) j).1) (j + 1) 0)))] rfl rfl (by omega) (by omega) rfl rfl dX2_survey_42 rfl ?_
      refine x_iload_n (q := 44) C 1 rfl dX2_survey_43 rfl ?_
      refine x_aload_n (q := 45) C 2 rfl dX2_survey_44 rfl ?_
      refine x_get (q := 48) C (T := TX2) iw_X2_survey_X2 rfl 0 7 rfl (by decide) rfl (by decide +kernel : Cond.fieldLink RX2 34 RX2 "demand" "[I" ∈ wsX2_survey) rfl dX2_survey_45 rfl ?_
      refine x_iload_n (q := 49) C 0 rfl dX2_survey_48 rfl ?_
      refine x_ialdN (q := 50) C (j + 1) 7 0 rfl rfl (by omega) (by omega) pk_us dX2_survey_49 rfl ?_
      refine x_iadd (q := 51) C (((itr (dStep (hFun sr sh ht) ar t) (dm, 0) j).2) + 0) (rfl) dX2_survey_50 rfl ?_
      refine x_istore_n (q := 52) C [(2, .int (((itr (dStep (hFun sr sh ht) ar t) (dm, 0) j).2) + 0)), (3, .int (nI (j + 1))), (0, .ref no), (1, .int t)] dX2_survey_51 (by decide) rfl rfl ?_
      refine x_iinc (q := 55) C 1 (nI ((j + 1) + 1)) [(3, .int (nI ((j + 1) + 1))), (2, .int (((itr (dStep (hFun sr sh ht) ar t) (dm, 0) j).2) + 0)), (0, .ref no), (1, .int t)] dX2_survey_52 rfl (nI_1 _) (by decide) rfl rfl ?_
      refine x_goto C 8 dX2_survey_55 (by decide) ?_
      refine x_less [0, 1, 2, 3] [(3, .int (nI ((j + 1) + 1))), (2, .int (((itr (dStep (hFun sr sh ht) ar t) (dm, 0) j).2) + 0)), (0, .ref no), (1, .int t)] rfl ?_
      have e9 : itr (dStep (hFun sr sh ht) ar t) (dm, 0) (j + 1) = (upd ((itr (dStep (hFun sr sh ht) ar t) (dm, 0) j).1) (j + 1) 0, ((itr (dStep (hFun sr sh ht) ar t) (dm, 0) j).2) + 0) := by
        show dStep (hFun sr sh ht) ar t j (itr (dStep (hFun sr sh ht) ar t) (dm, 0) j) = _
        simp [dStep, c_25]
      refine x_less [0, 1, 2, 3] [(3, .int (nI ((j + 1) + 1))), (2, .int ((itr (dStep (hFun sr sh ht) ar t) (dm, 0) (j + 1)).2)), (0, .ref no), (1, .int t)] (by first | rfl | (rw [e9]; rfl)) ?_
      refine x_world (X' := [(no, .inr (2, [.ref nS, .ref nL, .ref nA, .ref nH, .ref nV, .ref nT, .ref nC, .ref nD, .int sl])), (nS, .inl (cy.1, 12, .inl (fun i => nI (sr i)))), (nL, .inl (cy.1, 12, .inl lo)), (nA, .inl (cy.1, 12, .inl ar)), (nH, .inl (cy.1, 12, .inl sh)), (nT, .inl (cy.2.1, 12, .inl (hFun sr sh ht))), (nC, .inl (cy.2.1, 12, .inl ca)), (nD, .inl (cy.1, 12, .inl ((itr (dStep (hFun sr sh ht) ar t) (dm, 0) (j + 1)).1)))]) (pl' := []) (by first | rfl | rw [e9]) ?_
      exact ih_j
    · refine x_aload_n (q := 29) C 2 rfl dX2_survey_28 rfl ?_
      refine x_get (q := 32) C (T := TX2) iw_X2_survey_X2 rfl 0 2 rfl (by decide) rfl (by decide +kernel : Cond.fieldLink RX2 18 RX2 "area" "[I" ∈ wsX2_survey) rfl dX2_survey_29 rfl ?_
      refine x_iload_n (q := 33) C 0 rfl dX2_survey_32 rfl ?_
      refine x_ialdN (q := 34) C (j + 1) 3 (ar (j + 1)) rfl rfl (by omega) (by omega) rfl dX2_survey_33 rfl ?_
      refine x_iload_n (q := 35) C 3 rfl dX2_survey_34 rfl ?_
      refine x_CiP (q := 38) C [] [0, 1, 2, 3, 4, 5, 6, 7] (cx := []) (wr := [(no, .inr (2, [.ref nS, .ref nL, .ref nA, .ref nH, .ref nV, .ref nT, .ref nC, .ref nD, .int sl])), (nS, .inl (cy.1, 12, .inl (fun i => nI (sr i)))), (nL, .inl (cy.1, 12, .inl lo)), (nA, .inl (cy.1, 12, .inl ar)), (nH, .inl (cy.1, 12, .inl sh)), (nT, .inl (cy.2.1, 12, .inl (hFun sr sh ht))), (nC, .inl (cy.2.1, 12, .inl ca)), (nD, .inl (cy.1, 12, .inl ((itr (dStep (hFun sr sh ht) ar t) (dm, 0) j).1)))]) (st := [.int (nI (j + 1)), .ref nD]) rfl rfl rfl rfl (by decide) (fun H locs ls hP hPc hDc hS hFc hl => x_runSN C (As := [.int (ar (j + 1)), .int t]) (c_X4_wantedHeat (ar (j + 1)) t) (⟨va_cnB 2 C.2.2.2.2.2.1 gX2_survey_X4_wantedHeat_n40 rfl rfl rfl (va_Nw.of rfl (C.2.2.2.2.2.2.1.2.1.use (B := #[]) (by decide +kernel : Cond.methodLinkNest RX2 40 yX4_wantedHeat RX4 ∈ xNest))) (C.2.2.2.2.2.1 _ (by decide +kernel)) (by decide +kernel) ⟨Nat.le_of_ble_eq_true rfl, Nat.le_of_ble_eq_true rfl⟩, C.2.2.2.2.2.1 (Cond.static yX4_wantedHeat) (by decide +kernel), trivial⟩) rfl rfl (Nat.le_of_ble_eq_true rfl) dX2_survey_35 ⟨Nat.le_of_ble_eq_true rfl, Nat.le_of_ble_eq_true rfl⟩ (fun h => absurd h (by decide)) hP hPc hDc hS hFc hl) (k := 0) (n := 0) rfl rfl rfl (fun r_35 w1 hw => ?_)
      obtain ⟨rfl, rfl⟩ := hw
      refine x_ord [0, 1, 2, 3, 4, 5, 6, 7] [(no, .inr (2, [.ref nS, .ref nL, .ref nA, .ref nH, .ref nV, .ref nT, .ref nC, .ref nD, .int sl])), (nS, .inl (cy.1, 12, .inl (fun i => nI (sr i)))), (nL, .inl (cy.1, 12, .inl lo)), (nA, .inl (cy.1, 12, .inl ar)), (nH, .inl (cy.1, 12, .inl sh)), (nT, .inl (cy.2.1, 12, .inl (hFun sr sh ht))), (nC, .inl (cy.2.1, 12, .inl ca)), (nD, .inl (cy.1, 12, .inl ((itr (dStep (hFun sr sh ht) ar t) (dm, 0) j).1)))] rfl rfl ?_
      refine x_goto C 42 dX2_survey_38 (by decide) ?_
      refine x_iastN (q := 43) C (j + 1) 7 (upd ((itr (dStep (hFun sr sh ht) ar t) (dm, 0) j).1) (j + 1) (pWant (ar (j + 1)) t)) [(no, .inr (2, [.ref nS, .ref nL, .ref nA, .ref nH, .ref nV, .ref nT, .ref nC, .ref nD, .int sl])), (nS, .inl (cy.1, 12, .inl (fun i => nI (sr i)))), (nL, .inl (cy.1, 12, .inl lo)), (nA, .inl (cy.1, 12, .inl ar)), (nH, .inl (cy.1, 12, .inl sh)), (nT, .inl (cy.2.1, 12, .inl (hFun sr sh ht))), (nC, .inl (cy.2.1, 12, .inl ca)), (nD, .inl (cy.1, 12, .inl (upd ((itr (dStep (hFun sr sh ht) ar t) (dm, 0) j).1) (j + 1) (pWant (ar (j + 1)) t))))] rfl rfl (by omega) (by omega) rfl rfl dX2_survey_42 rfl ?_
      refine x_iload_n (q := 44) C 1 rfl dX2_survey_43 rfl ?_
      refine x_aload_n (q := 45) C 2 rfl dX2_survey_44 rfl ?_
      refine x_get (q := 48) C (T := TX2) iw_X2_survey_X2 rfl 0 7 rfl (by decide) rfl (by decide +kernel : Cond.fieldLink RX2 34 RX2 "demand" "[I" ∈ wsX2_survey) rfl dX2_survey_45 rfl ?_
      refine x_iload_n (q := 49) C 0 rfl dX2_survey_48 rfl ?_
      refine x_ialdN (q := 50) C (j + 1) 7 (pWant (ar (j + 1)) t) rfl rfl (by omega) (by omega) pk_us dX2_survey_49 rfl ?_
      refine x_iadd (q := 51) C (((itr (dStep (hFun sr sh ht) ar t) (dm, 0) j).2) + (pWant (ar (j + 1)) t)) (rfl) dX2_survey_50 rfl ?_
      refine x_istore_n (q := 52) C [(2, .int (((itr (dStep (hFun sr sh ht) ar t) (dm, 0) j).2) + (pWant (ar (j + 1)) t))), (3, .int (nI (j + 1))), (0, .ref no), (1, .int t)] dX2_survey_51 (by decide) rfl rfl ?_
      refine x_iinc (q := 55) C 1 (nI ((j + 1) + 1)) [(3, .int (nI ((j + 1) + 1))), (2, .int (((itr (dStep (hFun sr sh ht) ar t) (dm, 0) j).2) + (pWant (ar (j + 1)) t))), (0, .ref no), (1, .int t)] dX2_survey_52 rfl (nI_1 _) (by decide) rfl rfl ?_
      refine x_goto C 8 dX2_survey_55 (by decide) ?_
      refine x_less [0, 1, 2, 3] [(3, .int (nI ((j + 1) + 1))), (2, .int (((itr (dStep (hFun sr sh ht) ar t) (dm, 0) j).2) + (pWant (ar (j + 1)) t))), (0, .ref no), (1, .int t)] rfl ?_
      have e9 : itr (dStep (hFun sr sh ht) ar t) (dm, 0) (j + 1) = (upd ((itr (dStep (hFun sr sh ht) ar t) (dm, 0) j).1) (j + 1) (pWant (ar (j + 1)) t), ((itr (dStep (hFun sr sh ht) ar t) (dm, 0) j).2) + (pWant (ar (j + 1)) t)) := by
        show dStep (hFun sr sh ht) ar t j (itr (dStep (hFun sr sh ht) ar t) (dm, 0) j) = _
        simp [dStep, c_25]
      refine x_less [0, 1, 2, 3] [(3, .int (nI ((j + 1) + 1))), (2, .int ((itr (dStep (hFun sr sh ht) ar t) (dm, 0) (j + 1)).2)), (0, .ref no), (1, .int t)] (by first | rfl | (rw [e9]; rfl)) ?_
      refine x_world (X' := [(no, .inr (2, [.ref nS, .ref nL, .ref nA, .ref nH, .ref nV, .ref nT, .ref nC, .ref nD, .int sl])), (nS, .inl (cy.1, 12, .inl (fun i => nI (sr i)))), (nL, .inl (cy.1, 12, .inl lo)), (nA, .inl (cy.1, 12, .inl ar)), (nH, .inl (cy.1, 12, .inl sh)), (nT, .inl (cy.2.1, 12, .inl (hFun sr sh ht))), (nC, .inl (cy.2.1, 12, .inl ca)), (nD, .inl (cy.1, 12, .inl ((itr (dStep (hFun sr sh ht) ar t) (dm, 0) (j + 1)).1)))]) (pl' := []) (by first | rfl | rw [e9]) ?_
      exact ih_j
  · refine x_iload_n (q := 9) C 0 rfl dX2_survey_8 rfl ?_
    refine x_bipush (q := 11) C 12 rfl dX2_survey_9 rfl ?_
    refine x_icmp_ge_t C 58 dX2_survey_11 (by decide) (nI_le (a := 12) (b := (11 + 1)) (by omega) (by omega)) ?_
    refine x_aload_n (q := 59) C 2 rfl dX2_survey_58 rfl ?_
    refine x_CvP (q := 62) C [0, 1, 6, 7] [2, 3, 4, 5] (cx := [(no, .inr (2, [.ref nS, .ref nL, .ref nA, .ref nH, .ref nV, .ref nT, .ref nC, .ref nD, .int sl])), (nS, .inl (cy.1, 12, .inl (fun i => nI (sr i)))), (nC, .inl (cy.2.1, 12, .inl ca)), (nD, .inl (cy.1, 12, .inl ((itr (dStep (hFun sr sh ht) ar t) (dm, 0) 11).1)))]) (wr := [(nL, .inl (cy.1, 12, .inl lo)), (nA, .inl (cy.1, 12, .inl ar)), (nH, .inl (cy.1, 12, .inl sh)), (nT, .inl (cy.2.1, 12, .inl (hFun sr sh ht)))]) (st := []) rfl rfl rfl rfl (by decide) (fun H locs ls hP hPc hDc hS hFc hl => x_runV C (As := []) (c_X2_markCarries no nS nL nA nH nV nT nC nD sr ca ((itr (dStep (hFun sr sh ht) ar t) (dm, 0) 11).1) sl hsr) (cwV 0 C.2.2.2.2.2.1 gX2_survey_X2_markCarries rfl rfl rfl (by decide +kernel) ⟨Nat.le_of_ble_eq_true rfl, Nat.le_of_ble_eq_true rfl⟩) rfl 0 rfl rfl rfl (Nat.le_of_ble_eq_true rfl) dX2_survey_59 ⟨Nat.le_of_ble_eq_true rfl, Nat.le_of_ble_eq_true rfl⟩ (fun h => absurd h (by decide)) hP hPc hDc hS hFc hl) (k := 0) (n := 0) rfl rfl rfl (fun w1 hw => ?_)
    obtain rfl := hw
    refine x_ord [4, 5, 0, 1, 2, 3, 6, 7] [(no, .inr (2, [.ref nS, .ref nL, .ref nA, .ref nH, .ref nV, .ref nT, .ref nC, .ref nD, .int sl])), (nS, .inl (cy.1, 12, .inl (fun i => nI (sr i)))), (nL, .inl (cy.1, 12, .inl lo)), (nA, .inl (cy.1, 12, .inl ar)), (nH, .inl (cy.1, 12, .inl sh)), (nT, .inl (cy.2.1, 12, .inl (hFun sr sh ht))), (nC, .inl (cy.2.1, 12, .inl (cFun sr ((itr (dStep (hFun sr sh ht) ar t) (dm, 0) 11).1) ca))), (nD, .inl (cy.1, 12, .inl ((itr (dStep (hFun sr sh ht) ar t) (dm, 0) 11).1)))] rfl rfl ?_
    refine x_aload_n (q := 63) C 2 rfl dX2_survey_62 rfl ?_
    refine x_iconst (q := 64) C 0 rfl dX2_survey_63 rfl ?_
    refine x_put (q := 67) C (T := TX2) iw_X2_survey_X2 tyX2 tyX2_ok nmX2 rfl 0 8 [(no, .inr (2, [.ref nS, .ref nL, .ref nA, .ref nH, .ref nV, .ref nT, .ref nC, .ref nD, .int 0])), (nS, .inl (cy.1, 12, .inl (fun i => nI (sr i)))), (nL, .inl (cy.1, 12, .inl lo)), (nA, .inl (cy.1, 12, .inl ar)), (nH, .inl (cy.1, 12, .inl sh)), (nT, .inl (cy.2.1, 12, .inl (hFun sr sh ht))), (nC, .inl (cy.2.1, 12, .inl (cFun sr ((itr (dStep (hFun sr sh ht) ar t) (dm, 0) 11).1) ca))), (nD, .inl (cy.1, 12, .inl ((itr (dStep (hFun sr sh ht) ar t) (dm, 0) 11).1)))] rfl rfl (by decide) rfl (by decide +kernel : Cond.fieldLink RX2 47 RX2 "surveyedLosses" "I" ∈ wsX2_survey) rfl .int (by decide +kernel) rfl rfl (Nat.le_of_ble_eq_true rfl) dX2_survey_64 rfl ?_
    refine x_iconst (q := 68) C 1 rfl dX2_survey_67 rfl ?_
    refine x_istore_n (q := 69) C [(3, .int 1), (2, .int ((itr (dStep (hFun sr sh ht) ar t) (dm, 0) 11).2)), (0, .ref no), (1, .int t)] dX2_survey_68 (by decide) rfl rfl ?_
    refine x_less [0, 1, 2, 3] [(3, .int 1), (2, .int ((itr (dStep (hFun sr sh ht) ar t) (dm, 0) 11).2)), (0, .ref no), (1, .int t)] rfl ?_
    refine x_up (fun j => [(no, .inr (2, [.ref nS, .ref nL, .ref nA, .ref nH, .ref nV, .ref nT, .ref nC, .ref nD, .int (itr (lStep (cFun sr (dFun (hFun sr sh ht) ar t dm).1 ca) lo) 0 j)])), (nS, .inl (cy.1, 12, .inl (fun i => nI (sr i)))), (nL, .inl (cy.1, 12, .inl lo)), (nA, .inl (cy.1, 12, .inl ar)), (nH, .inl (cy.1, 12, .inl sh)), (nT, .inl (cy.2.1, 12, .inl (hFun sr sh ht))), (nC, .inl (cy.2.1, 12, .inl (cFun sr (dFun (hFun sr sh ht) ar t dm).1 ca))), (nD, .inl (cy.1, 12, .inl ((dFun (hFun sr sh ht) ar t dm).1)))]) (fun j => [(3, .int (nI (j + 1))), (2, .int ((dFun (hFun sr sh ht) ar t dm).2)), (0, .ref no), (1, .int t)]) 11 rfl rfl (fun j h_j ih_j => ?_) ?_
    · refine x_iload_n (q := 70) C 0 rfl dX2_survey_69 rfl ?_
      refine x_bipush (q := 72) C 12 rfl dX2_survey_70 rfl ?_
      refine x_icmp_ge_f (q := 75) C 95 dX2_survey_72 (by decide) rfl (nI_ge (a := (j + 1)) (b := 12) (by omega) (by omega)) ?_
      refine x_aload_n (q := 76) C 2 rfl dX2_survey_75 rfl ?_
      refine x_dup (q := 77) C rfl dX2_survey_76 rfl ?_
      refine x_get (q := 80) C (T := TX2) iw_X2_survey_X2 rfl 0 8 rfl (by decide) rfl (by decide +kernel : Cond.fieldLink RX2 47 RX2 "surveyedLosses" "I" ∈ wsX2_survey) rfl dX2_survey_77 rfl ?_
      refine x_aload_n (q := 81) C 2 rfl dX2_survey_80 rfl ?_
      refine x_iload_n (q := 82) C 0 rfl dX2_survey_81 rfl ?_
      refine x_CiP (q := 85) C [0, 2, 6] [1, 3, 4, 5, 7] (cx := [(no, .inr (2, [.ref nS, .ref nL, .ref nA, .ref nH, .ref nV, .ref nT, .ref nC, .ref nD, .int (itr (lStep (cFun sr (dFun (hFun sr sh ht) ar t dm).1 ca) lo) 0 j)])), (nL, .inl (cy.1, 12, .inl lo)), (nC, .inl (cy.2.1, 12, .inl (cFun sr (dFun (hFun sr sh ht) ar t dm).1 ca)))]) (wr := [(nS, .inl (cy.1, 12, .inl (fun i => nI (sr i)))), (nA, .inl (cy.1, 12, .inl ar)), (nH, .inl (cy.1, 12, .inl sh)), (nT, .inl (cy.2.1, 12, .inl (hFun sr sh ht))), (nD, .inl (cy.1, 12, .inl ((dFun (hFun sr sh ht) ar t dm).1)))]) (st := [.int (itr (lStep (cFun sr (dFun (hFun sr sh ht) ar t dm).1 ca) lo) 0 j), .ref no]) rfl rfl rfl rfl (by decide) (fun H locs ls hP hPc hDc hS hFc hl => x_runV C (As := [.int (nI (j + 1))]) (c_X2_carriedLoss no nS nL nA nH nV nT nC nD lo (cFun sr (dFun (hFun sr sh ht) ar t dm).1 ca) (itr (lStep (cFun sr (dFun (hFun sr sh ht) ar t dm).1 ca) lo) 0 j) (j + 1) (by omega)) (cwV 1 C.2.2.2.2.2.1 gX2_survey_X2_carriedLoss rfl rfl rfl (by decide +kernel) ⟨Nat.le_of_ble_eq_true rfl, Nat.le_of_ble_eq_true rfl⟩) rfl 0 rfl rfl rfl (Nat.le_of_ble_eq_true rfl) dX2_survey_82 ⟨Nat.le_of_ble_eq_true rfl, Nat.le_of_ble_eq_true rfl⟩ (fun h => absurd h (by decide)) hP hPc hDc hS hFc hl) (k := 0) (n := 0) rfl rfl rfl (fun r_82 w1 hw => ?_)
      obtain ⟨rfl, rfl⟩ := hw
      refine x_ord [5, 0, 6, 1, 2, 3, 7, 4] [(no, .inr (2, [.ref nS, .ref nL, .ref nA, .ref nH, .ref nV, .ref nT, .ref nC, .ref nD, .int (itr (lStep (cFun sr (dFun (hFun sr sh ht) ar t dm).1 ca) lo) 0 j)])), (nS, .inl (cy.1, 12, .inl (fun i => nI (sr i)))), (nL, .inl (cy.1, 12, .inl lo)), (nA, .inl (cy.1, 12, .inl ar)), (nH, .inl (cy.1, 12, .inl sh)), (nT, .inl (cy.2.1, 12, .inl (hFun sr sh ht))), (nC, .inl (cy.2.1, 12, .inl (cFun sr (dFun (hFun sr sh ht) ar t dm).1 ca))), (nD, .inl (cy.1, 12, .inl ((dFun (hFun sr sh ht) ar t dm).1)))] rfl rfl ?_
      refine x_iadd (q := 86) C ((itr (lStep (cFun sr (dFun (hFun sr sh ht) ar t dm).1 ca) lo) 0 j) + (pCL (cFun sr (dFun (hFun sr sh ht) ar t dm).1 ca) lo (j + 1))) (rfl) dX2_survey_85 rfl ?_
      refine x_put (q := 89) C (T := TX2) iw_X2_survey_X2 tyX2 tyX2_ok nmX2 rfl 0 8 [(no, .inr (2, [.ref nS, .ref nL, .ref nA, .ref nH, .ref nV, .ref nT, .ref nC, .ref nD, .int ((itr (lStep (cFun sr (dFun (hFun sr sh ht) ar t dm).1 ca) lo) 0 j) + (pCL (cFun sr (dFun (hFun sr sh ht) ar t dm).1 ca) lo (j + 1)))])), (nS, .inl (cy.1, 12, .inl (fun i => nI (sr i)))), (nL, .inl (cy.1, 12, .inl lo)), (nA, .inl (cy.1, 12, .inl ar)), (nH, .inl (cy.1, 12, .inl sh)), (nT, .inl (cy.2.1, 12, .inl (hFun sr sh ht))), (nC, .inl (cy.2.1, 12, .inl (cFun sr (dFun (hFun sr sh ht) ar t dm).1 ca))), (nD, .inl (cy.1, 12, .inl ((dFun (hFun sr sh ht) ar t dm).1)))] rfl rfl (by decide) rfl (by decide +kernel : Cond.fieldLink RX2 47 RX2 "surveyedLosses" "I" ∈ wsX2_survey) rfl .int (by decide +kernel) rfl rfl (Nat.le_of_ble_eq_true rfl) dX2_survey_86 rfl ?_
      refine x_iinc (q := 92) C 0 (nI ((j + 1) + 1)) [(3, .int (nI ((j + 1) + 1))), (2, .int ((dFun (hFun sr sh ht) ar t dm).2)), (0, .ref no), (1, .int t)] dX2_survey_89 rfl (nI_1 _) (by decide) rfl rfl ?_
      refine x_goto C 69 dX2_survey_92 (by decide) ?_
      refine x_less [0, 1, 2, 3] [(3, .int (nI ((j + 1) + 1))), (2, .int ((dFun (hFun sr sh ht) ar t dm).2)), (0, .ref no), (1, .int t)] rfl ?_
      refine x_less [0, 1, 2, 3] [(3, .int (nI ((j + 1) + 1))), (2, .int ((dFun (hFun sr sh ht) ar t dm).2)), (0, .ref no), (1, .int t)] (by first | rfl | (rw [e9]; rfl)) ?_
      refine x_world (X' := [(no, .inr (2, [.ref nS, .ref nL, .ref nA, .ref nH, .ref nV, .ref nT, .ref nC, .ref nD, .int (itr (lStep (cFun sr (dFun (hFun sr sh ht) ar t dm).1 ca) lo) 0 (j + 1))])), (nS, .inl (cy.1, 12, .inl (fun i => nI (sr i)))), (nL, .inl (cy.1, 12, .inl lo)), (nA, .inl (cy.1, 12, .inl ar)), (nH, .inl (cy.1, 12, .inl sh)), (nT, .inl (cy.2.1, 12, .inl (hFun sr sh ht))), (nC, .inl (cy.2.1, 12, .inl (cFun sr (dFun (hFun sr sh ht) ar t dm).1 ca))), (nD, .inl (cy.1, 12, .inl ((dFun (hFun sr sh ht) ar t dm).1)))]) (pl' := []) (by first | rfl | rw [e9]) ?_
      exact ih_j
    · refine x_iload_n (q := 70) C 0 rfl dX2_survey_69 rfl ?_
      refine x_bipush (q := 72) C 12 rfl dX2_survey_70 rfl ?_
      refine x_icmp_ge_t C 95 dX2_survey_72 (by decide) (nI_le (a := 12) (b := (11 + 1)) (by omega) (by omega)) ?_
      refine x_iload_n (q := 96) C 1 rfl dX2_survey_95 rfl ?_
      refine x_aload_n (q := 97) C 2 rfl dX2_survey_96 rfl ?_
      refine x_get (q := 100) C (T := TX2) iw_X2_survey_X2 rfl 0 8 rfl (by decide) rfl (by decide +kernel : Cond.fieldLink RX2 47 RX2 "surveyedLosses" "I" ∈ wsX2_survey) rfl dX2_survey_97 rfl ?_
      refine x_iadd (q := 101) C (((dFun (hFun sr sh ht) ar t dm).2) + (itr (lStep (cFun sr (dFun (hFun sr sh ht) ar t dm).1 ca) lo) 0 11)) (rfl) dX2_survey_100 rfl ?_
      exact x_iret C .int rfl rfl (⟨rfl, rfl⟩) dX2_survey_101 (Nat.le_of_ble_eq_true rfl) (Nat.le_of_ble_eq_true rfl)

theorem iw_X2_serve_X2 : ∀ w ∈ wsX20, w ∈ wsX2_serve := by decide +kernel
set_option maxHeartbeats 4000000 in
set_option maxRecDepth 100000 in
/-- serve -/
theorem c_X2_serve {l : Launch} {D : va_G} {cy : ClassId × ClassId × ClassId} (no nS nL nA nH nV nT nC nD : Nat) (sv dm : Nat → Int32) (sl w : Int32) : xM false l yX2_serve wsX2_serve ({ frames := 1, cells := 0, slots := 0, locals := 15 }) D cy [.ref no, .int w] ([(no, .inr (2, [.ref nS, .ref nL, .ref nA, .ref nH, .ref nV, .ref nT, .ref nC, .ref nD, .int sl])), (nV, .inl (cy.1, 12, .inl sv)), (nD, .inl (cy.1, 12, .inl dm))]) (xQv D (fun w1 => w1 = [(no, .inr (2, [.ref nS, .ref nL, .ref nA, .ref nH, .ref nV, .ref nT, .ref nC, .ref nD, .int sl])), (nV, .inl (cy.1, 12, .inl (sFun dm sv (imax 0 (w - sl))))), (nD, .inl (cy.1, 12, .inl dm))])) 0 0 := by
  refine xM_of (X := [(no, .inr (2, [.ref nS, .ref nL, .ref nA, .ref nH, .ref nV, .ref nT, .ref nC, .ref nD, .int sl])), (nV, .inl (cy.1, 12, .inl sv)), (nD, .inl (cy.1, 12, .inl dm))]) (pl := []) (nL := 4) (ret := none) RX2 [(0, .ref no), (1, .int w)] (by decide +kernel) rfl rfl rfl (Nat.le_of_ble_eq_true rfl) (List.append_nil _).symm (fun p e s m args below meth c A C hname hT hZ => ?_)
  refine x_iconst (q := 1) C 0 rfl dX2_serve_0 rfl ?_
  refine x_iload_n (q := 2) C 1 rfl dX2_serve_1 rfl ?_
  refine x_aload_n (q := 3) C 0 rfl dX2_serve_2 rfl ?_
  refine x_get (q := 6) C (T := TX2) iw_X2_serve_X2 rfl 0 8 rfl (by decide) rfl (by decide +kernel : Cond.fieldLink RX2 47 RX2 "surveyedLosses" "I" ∈ wsX2_serve) rfl dX2_serve_3 rfl ?_
  refine x_isub (q := 7) C (w - sl) (rfl) dX2_serve_6 rfl ?_
  refine x_mmax (q := 10) C (imax 0 (w - sl)) rfl (by decide +kernel : Cond.methodLink RX2 59 Lib.Math.max.name ∈ wsX2_serve) (by decide +kernel) (by decide +kernel) (by decide +kernel) (Nat.le_of_ble_eq_true rfl) (Nat.le_of_ble_eq_true rfl) (Nat.le_of_ble_eq_true rfl) (Nat.le_of_ble_eq_true rfl) dX2_serve_7 rfl ?_
  refine x_istore_n (q := 11) C [(2, .int (imax 0 (w - sl))), (0, .ref no), (1, .int w)] dX2_serve_10 (by decide) rfl rfl ?_
  refine x_iconst (q := 12) C 1 rfl dX2_serve_11 rfl ?_
  refine x_istore_n (q := 13) C [(3, .int 1), (2, .int (imax 0 (w - sl))), (0, .ref no), (1, .int w)] dX2_serve_12 (by decide) rfl rfl ?_
  refine x_less [0, 1, 2] [(3, .int 1), (2, .int (imax 0 (w - sl))), (0, .ref no)] rfl ?_
  refine x_up (fun j => [(no, .inr (2, [.ref nS, .ref nL, .ref nA, .ref nH, .ref nV, .ref nT, .ref nC, .ref nD, .int sl])), (nV, .inl (cy.1, 12, .inl ((itr (sStep dm) (sv, imax 0 (w - sl)) j).1))), (nD, .inl (cy.1, 12, .inl dm))]) (fun j => [(3, .int (nI (j + 1))), (2, .int ((itr (sStep dm) (sv, imax 0 (w - sl)) j).2)), (0, .ref no)]) 11 rfl rfl (fun j h_j ih_j => ?_) ?_
  · refine x_iload_n (q := 14) C 0 rfl dX2_serve_13 rfl ?_
    refine x_bipush (q := 16) C 12 rfl dX2_serve_14 rfl ?_
    refine x_icmp_ge_f (q := 19) C 50 dX2_serve_16 (by decide) rfl (nI_ge (a := (j + 1)) (b := 12) (by omega) (by omega)) ?_
    refine x_aload_n (q := 20) C 2 rfl dX2_serve_19 rfl ?_
    refine x_get (q := 23) C (T := TX2) iw_X2_serve_X2 rfl 0 4 rfl (by decide) rfl (by decide +kernel : Cond.fieldLink RX2 24 RX2 "served" "[I" ∈ wsX2_serve) rfl dX2_serve_20 rfl ?_
    refine x_iload_n (q := 24) C 0 rfl dX2_serve_23 rfl ?_
    refine x_aload_n (q := 25) C 2 rfl dX2_serve_24 rfl ?_
    refine x_get (q := 28) C (T := TX2) iw_X2_serve_X2 rfl 0 7 rfl (by decide) rfl (by decide +kernel : Cond.fieldLink RX2 34 RX2 "demand" "[I" ∈ wsX2_serve) rfl dX2_serve_25 rfl ?_
    refine x_iload_n (q := 29) C 0 rfl dX2_serve_28 rfl ?_
    refine x_ialdN (q := 30) C (j + 1) 2 (dm (j + 1)) rfl rfl (by omega) (by omega) rfl dX2_serve_29 rfl ?_
    refine x_iload_n (q := 31) C 1 rfl dX2_serve_30 rfl ?_
    refine x_mmin (q := 34) C (imin (dm (j + 1)) ((itr (sStep dm) (sv, imax 0 (w - sl)) j).2)) rfl (by decide +kernel : Cond.methodLink RX2 64 Lib.Math.min.name ∈ wsX2_serve) (by decide +kernel) (by decide +kernel) (by decide +kernel) (Nat.le_of_ble_eq_true rfl) (Nat.le_of_ble_eq_true rfl) (Nat.le_of_ble_eq_true rfl) (Nat.le_of_ble_eq_true rfl) dX2_serve_31 rfl ?_
    refine x_iastN (q := 35) C (j + 1) 1 (upd ((itr (sStep dm) (sv, imax 0 (w - sl)) j).1) (j + 1) (imin (dm (j + 1)) ((itr (sStep dm) (sv, imax 0 (w - sl)) j).2))) [(no, .inr (2, [.ref nS, .ref nL, .ref nA, .ref nH, .ref nV, .ref nT, .ref nC, .ref nD, .int sl])), (nV, .inl (cy.1, 12, .inl (upd ((itr (sStep dm) (sv, imax 0 (w - sl)) j).1) (j + 1) (imin (dm (j + 1)) ((itr (sStep dm) (sv, imax 0 (w - sl)) j).2))))), (nD, .inl (cy.1, 12, .inl dm))] rfl rfl (by omega) (by omega) rfl rfl dX2_serve_34 rfl ?_
    refine x_iload_n (q := 36) C 1 rfl dX2_serve_35 rfl ?_
    refine x_aload_n (q := 37) C 2 rfl dX2_serve_36 rfl ?_
    refine x_get (q := 40) C (T := TX2) iw_X2_serve_X2 rfl 0 4 rfl (by decide) rfl (by decide +kernel : Cond.fieldLink RX2 24 RX2 "served" "[I" ∈ wsX2_serve) rfl dX2_serve_37 rfl ?_
    refine x_iload_n (q := 41) C 0 rfl dX2_serve_40 rfl ?_
    refine x_ialdN (q := 42) C (j + 1) 1 (imin (dm (j + 1)) ((itr (sStep dm) (sv, imax 0 (w - sl)) j).2)) rfl rfl (by omega) (by omega) pk_us dX2_serve_41 rfl ?_
    refine x_isub (q := 43) C (((itr (sStep dm) (sv, imax 0 (w - sl)) j).2) - (imin (dm (j + 1)) ((itr (sStep dm) (sv, imax 0 (w - sl)) j).2))) (rfl) dX2_serve_42 rfl ?_
    refine x_istore_n (q := 44) C [(2, .int (((itr (sStep dm) (sv, imax 0 (w - sl)) j).2) - (imin (dm (j + 1)) ((itr (sStep dm) (sv, imax 0 (w - sl)) j).2)))), (3, .int (nI (j + 1))), (0, .ref no)] dX2_serve_43 (by decide) rfl rfl ?_
    refine x_iinc (q := 47) C 1 (nI ((j + 1) + 1)) [(3, .int (nI ((j + 1) + 1))), (2, .int (((itr (sStep dm) (sv, imax 0 (w - sl)) j).2) - (imin (dm (j + 1)) ((itr (sStep dm) (sv, imax 0 (w - sl)) j).2)))), (0, .ref no)] dX2_serve_44 rfl (nI_1 _) (by decide) rfl rfl ?_
    refine x_goto C 13 dX2_serve_47 (by decide) ?_
    refine x_less [0, 1, 2] [(3, .int (nI ((j + 1) + 1))), (2, .int (((itr (sStep dm) (sv, imax 0 (w - sl)) j).2) - (imin (dm (j + 1)) ((itr (sStep dm) (sv, imax 0 (w - sl)) j).2)))), (0, .ref no)] rfl ?_
    refine x_less [0, 1, 2] [(3, .int (nI ((j + 1) + 1))), (2, .int ((itr (sStep dm) (sv, imax 0 (w - sl)) (j + 1)).2)), (0, .ref no)] (by first | rfl | (rw [e9]; rfl)) ?_
    refine x_world (X' := [(no, .inr (2, [.ref nS, .ref nL, .ref nA, .ref nH, .ref nV, .ref nT, .ref nC, .ref nD, .int sl])), (nV, .inl (cy.1, 12, .inl ((itr (sStep dm) (sv, imax 0 (w - sl)) (j + 1)).1))), (nD, .inl (cy.1, 12, .inl dm))]) (pl' := []) (by first | rfl | rw [e9]) ?_
    exact ih_j
  · refine x_iload_n (q := 14) C 0 rfl dX2_serve_13 rfl ?_
    refine x_bipush (q := 16) C 12 rfl dX2_serve_14 rfl ?_
    refine x_icmp_ge_t C 50 dX2_serve_16 (by decide) (nI_le (a := 12) (b := (11 + 1)) (by omega) (by omega)) ?_
    exact x_vret C rfl (rfl) dX2_serve_50 (Nat.le_of_ble_eq_true rfl) (Nat.le_of_ble_eq_true rfl)

theorem iw_X2_countHousesWithoutHeat_X2 : ∀ w ∈ wsX20, w ∈ wsX2_countHousesWithoutHeat := by decide +kernel
set_option maxHeartbeats 4000000 in
set_option maxRecDepth 100000 in
/-- countHousesWithoutHeat -/
theorem c_X2_countHousesWithoutHeat {l : Launch} {D : va_G} {cy : ClassId × ClassId × ClassId} (no nS nL nA nH nV nT nC nD : Nat) (sr : Nat → Nat) (ar sh ht : Nat → Int32) (sl : Int32) (hsr : ∀ j, 1 ≤ j → j < 12 → sr j < j) : xM false l yX2_countHousesWithoutHeat wsX2_countHousesWithoutHeat ({ frames := 2, cells := 0, slots := 0, locals := 43 }) D cy [.ref no] ([(no, .inr (2, [.ref nS, .ref nL, .ref nA, .ref nH, .ref nV, .ref nT, .ref nC, .ref nD, .int sl])), (nS, .inl (cy.1, 12, .inl (fun i => nI (sr i)))), (nA, .inl (cy.1, 12, .inl ar)), (nH, .inl (cy.1, 12, .inl sh)), (nT, .inl (cy.2.1, 12, .inl ht))]) (xQi D (fun r w => r = nFun ar (hFun sr sh ht) ∧ w = [(no, .inr (2, [.ref nS, .ref nL, .ref nA, .ref nH, .ref nV, .ref nT, .ref nC, .ref nD, .int sl])), (nS, .inl (cy.1, 12, .inl (fun i => nI (sr i)))), (nA, .inl (cy.1, 12, .inl ar)), (nH, .inl (cy.1, 12, .inl sh)), (nT, .inl (cy.2.1, 12, .inl (hFun sr sh ht)))])) 0 0 := by
  refine xM_of (X := [(no, .inr (2, [.ref nS, .ref nL, .ref nA, .ref nH, .ref nV, .ref nT, .ref nC, .ref nD, .int sl])), (nS, .inl (cy.1, 12, .inl (fun i => nI (sr i)))), (nA, .inl (cy.1, 12, .inl ar)), (nH, .inl (cy.1, 12, .inl sh)), (nT, .inl (cy.2.1, 12, .inl ht))]) (pl := []) (nL := 3) (ret := (some .int)) RX2 [(0, .ref no)] (by decide +kernel) rfl rfl rfl (Nat.le_of_ble_eq_true rfl) (List.append_nil _).symm (fun p e s m args below meth c A C hname hT hZ => ?_)
  refine x_aload_n (q := 1) C 0 rfl dX2_countHousesWithoutHeat_0 rfl ?_
  refine x_CvP (q := 4) C [0, 1, 3, 4] [2] (cx := [(no, .inr (2, [.ref nS, .ref nL, .ref nA, .ref nH, .ref nV, .ref nT, .ref nC, .ref nD, .int sl])), (nS, .inl (cy.1, 12, .inl (fun i => nI (sr i)))), (nH, .inl (cy.1, 12, .inl sh)), (nT, .inl (cy.2.1, 12, .inl ht))]) (wr := [(nA, .inl (cy.1, 12, .inl ar))]) (st := []) rfl rfl rfl rfl (by decide) (fun H locs ls hP hPc hDc hS hFc hl => x_runV C (As := []) (c_X2_markHeated no nS nL nA nH nV nT nC nD sr sh ht sl hsr) (cwV 0 C.2.2.2.2.2.1 gX2_countHousesWithoutHeat_X2_markHeated rfl rfl rfl (by decide +kernel) ⟨Nat.le_of_ble_eq_true rfl, Nat.le_of_ble_eq_true rfl⟩) rfl 0 rfl rfl rfl (Nat.le_of_ble_eq_true rfl) dX2_countHousesWithoutHeat_1 ⟨Nat.le_of_ble_eq_true rfl, Nat.le_of_ble_eq_true rfl⟩ (fun h => absurd h (by decide)) hP hPc hDc hS hFc hl) (k := 0) (n := 0) rfl rfl rfl (fun w1 hw => ?_)
  obtain rfl := hw
  refine x_ord [1, 2, 0, 3, 4] [(no, .inr (2, [.ref nS, .ref nL, .ref nA, .ref nH, .ref nV, .ref nT, .ref nC, .ref nD, .int sl])), (nS, .inl (cy.1, 12, .inl (fun i => nI (sr i)))), (nA, .inl (cy.1, 12, .inl ar)), (nH, .inl (cy.1, 12, .inl sh)), (nT, .inl (cy.2.1, 12, .inl (hFun sr sh ht)))] rfl rfl ?_
  refine x_iconst (q := 5) C 0 rfl dX2_countHousesWithoutHeat_4 rfl ?_
  refine x_istore_n (q := 6) C [(1, .int 0), (0, .ref no)] dX2_countHousesWithoutHeat_5 (by decide) rfl rfl ?_
  refine x_iconst (q := 7) C 1 rfl dX2_countHousesWithoutHeat_6 rfl ?_
  refine x_istore_n (q := 8) C [(2, .int 1), (1, .int 0), (0, .ref no)] dX2_countHousesWithoutHeat_7 (by decide) rfl rfl ?_
  refine x_less [0, 1, 2] [(2, .int 1), (1, .int 0), (0, .ref no)] rfl ?_
  refine x_up (fun j => [(no, .inr (2, [.ref nS, .ref nL, .ref nA, .ref nH, .ref nV, .ref nT, .ref nC, .ref nD, .int sl])), (nS, .inl (cy.1, 12, .inl (fun i => nI (sr i)))), (nA, .inl (cy.1, 12, .inl ar)), (nH, .inl (cy.1, 12, .inl sh)), (nT, .inl (cy.2.1, 12, .inl (hFun sr sh ht)))]) (fun j => [(2, .int (nI (j + 1))), (1, .int (itr (nStep ar (hFun sr sh ht)) 0 j)), (0, .ref no)]) 11 rfl rfl (fun j h_j ih_j => ?_) ?_
  · refine x_iload_n (q := 9) C 0 rfl dX2_countHousesWithoutHeat_8 rfl ?_
    refine x_bipush (q := 11) C 12 rfl dX2_countHousesWithoutHeat_9 rfl ?_
    refine x_icmp_ge_f (q := 14) C 41 dX2_countHousesWithoutHeat_11 (by decide) rfl (nI_ge (a := (j + 1)) (b := 12) (by omega) (by omega)) ?_
    refine x_aload_n (q := 15) C 2 rfl dX2_countHousesWithoutHeat_14 rfl ?_
    refine x_get (q := 18) C (T := TX2) iw_X2_countHousesWithoutHeat_X2 rfl 0 2 rfl (by decide) rfl (by decide +kernel : Cond.fieldLink RX2 18 RX2 "area" "[I" ∈ wsX2_countHousesWithoutHeat) rfl dX2_countHousesWithoutHeat_15 rfl ?_
    refine x_iload_n (q := 19) C 0 rfl dX2_countHousesWithoutHeat_18 rfl ?_
    refine x_ialdN (q := 20) C (j + 1) 2 (ar (j + 1)) rfl rfl (by omega) (by omega) rfl dX2_countHousesWithoutHeat_19 rfl ?_
    refine x_if_le (q := 23) C 35 dX2_countHousesWithoutHeat_20 (by decide) rfl (fun c_20 => ?_) (fun c_20 => ?_)
    · refine x_iinc (q := 38) C 0 (nI ((j + 1) + 1)) [(2, .int (nI ((j + 1) + 1))), (1, .int (itr (nStep ar (hFun sr sh ht)) 0 j)), (0, .ref no)] dX2_countHousesWithoutHeat_35 rfl (nI_1 _) (by decide) rfl rfl ?_
      refine x_goto C 8 dX2_countHousesWithoutHeat_38 (by decide) ?_
      refine x_less [0, 1, 2] [(2, .int (nI ((j + 1) + 1))), (1, .int (itr (nStep ar (hFun sr sh ht)) 0 j)), (0, .ref no)] rfl ?_
      have e9 : itr (nStep ar (hFun sr sh ht)) 0 (j + 1) = itr (nStep ar (hFun sr sh ht)) 0 j := by
        show nStep ar (hFun sr sh ht) j (itr (nStep ar (hFun sr sh ht)) 0 j) = _
        simp [nStep, c_20]
      refine x_less [0, 1, 2] [(2, .int (nI ((j + 1) + 1))), (1, .int (itr (nStep ar (hFun sr sh ht)) 0 (j + 1))), (0, .ref no)] (by first | rfl | (rw [e9]; rfl)) ?_
      refine x_world (X' := [(no, .inr (2, [.ref nS, .ref nL, .ref nA, .ref nH, .ref nV, .ref nT, .ref nC, .ref nD, .int sl])), (nS, .inl (cy.1, 12, .inl (fun i => nI (sr i)))), (nA, .inl (cy.1, 12, .inl ar)), (nH, .inl (cy.1, 12, .inl sh)), (nT, .inl (cy.2.1, 12, .inl (hFun sr sh ht)))]) (pl' := []) (by first | rfl | rw [e9]) ?_
      exact ih_j
    · refine x_aload_n (q := 24) C 2 rfl dX2_countHousesWithoutHeat_23 rfl ?_
      refine x_get (q := 27) C (T := TX2) iw_X2_countHousesWithoutHeat_X2 rfl 0 5 rfl (by decide) rfl (by decide +kernel : Cond.fieldLink RX2 27 RX2 "heated" "[Z" ∈ wsX2_countHousesWithoutHeat) rfl dX2_countHousesWithoutHeat_24 rfl ?_
      refine x_iload_n (q := 28) C 0 rfl dX2_countHousesWithoutHeat_27 rfl ?_
      refine x_zaldN (q := 29) C (j + 1) 4 ((hFun sr sh ht) (j + 1)) rfl rfl (by omega) (by omega) rfl dX2_countHousesWithoutHeat_28 rfl ?_
      refine x_if_ne (q := 32) C 35 dX2_countHousesWithoutHeat_29 (by decide) rfl (fun c_29 => ?_) (fun c_29 => ?_)
      · refine x_iinc (q := 38) C 0 (nI ((j + 1) + 1)) [(2, .int (nI ((j + 1) + 1))), (1, .int (itr (nStep ar (hFun sr sh ht)) 0 j)), (0, .ref no)] dX2_countHousesWithoutHeat_35 rfl (nI_1 _) (by decide) rfl rfl ?_
        refine x_goto C 8 dX2_countHousesWithoutHeat_38 (by decide) ?_
        refine x_less [0, 1, 2] [(2, .int (nI ((j + 1) + 1))), (1, .int (itr (nStep ar (hFun sr sh ht)) 0 j)), (0, .ref no)] rfl ?_
        have e9 : itr (nStep ar (hFun sr sh ht)) 0 (j + 1) = itr (nStep ar (hFun sr sh ht)) 0 j := by
          show nStep ar (hFun sr sh ht) j (itr (nStep ar (hFun sr sh ht)) 0 j) = _
          simp [nStep, c_20, c_29]
        refine x_less [0, 1, 2] [(2, .int (nI ((j + 1) + 1))), (1, .int (itr (nStep ar (hFun sr sh ht)) 0 (j + 1))), (0, .ref no)] (by first | rfl | (rw [e9]; rfl)) ?_
        refine x_world (X' := [(no, .inr (2, [.ref nS, .ref nL, .ref nA, .ref nH, .ref nV, .ref nT, .ref nC, .ref nD, .int sl])), (nS, .inl (cy.1, 12, .inl (fun i => nI (sr i)))), (nA, .inl (cy.1, 12, .inl ar)), (nH, .inl (cy.1, 12, .inl sh)), (nT, .inl (cy.2.1, 12, .inl (hFun sr sh ht)))]) (pl' := []) (by first | rfl | rw [e9]) ?_
        exact ih_j
      · refine x_iinc (q := 35) C 1 ((itr (nStep ar (hFun sr sh ht)) 0 j) + 1) [(1, .int ((itr (nStep ar (hFun sr sh ht)) 0 j) + 1)), (2, .int (nI (j + 1))), (0, .ref no)] dX2_countHousesWithoutHeat_32 rfl (rfl) (by decide) rfl rfl ?_
        refine x_iinc (q := 38) C 1 (nI ((j + 1) + 1)) [(2, .int (nI ((j + 1) + 1))), (1, .int ((itr (nStep ar (hFun sr sh ht)) 0 j) + 1)), (0, .ref no)] dX2_countHousesWithoutHeat_35 rfl (nI_1 _) (by decide) rfl rfl ?_
        refine x_goto C 8 dX2_countHousesWithoutHeat_38 (by decide) ?_
        refine x_less [0, 1, 2] [(2, .int (nI ((j + 1) + 1))), (1, .int ((itr (nStep ar (hFun sr sh ht)) 0 j) + 1)), (0, .ref no)] rfl ?_
        have e9 : itr (nStep ar (hFun sr sh ht)) 0 (j + 1) = (itr (nStep ar (hFun sr sh ht)) 0 j) + 1 := by
          show nStep ar (hFun sr sh ht) j (itr (nStep ar (hFun sr sh ht)) 0 j) = _
          simp [nStep, c_20, c_29]
        refine x_less [0, 1, 2] [(2, .int (nI ((j + 1) + 1))), (1, .int (itr (nStep ar (hFun sr sh ht)) 0 (j + 1))), (0, .ref no)] (by first | rfl | (rw [e9]; rfl)) ?_
        refine x_world (X' := [(no, .inr (2, [.ref nS, .ref nL, .ref nA, .ref nH, .ref nV, .ref nT, .ref nC, .ref nD, .int sl])), (nS, .inl (cy.1, 12, .inl (fun i => nI (sr i)))), (nA, .inl (cy.1, 12, .inl ar)), (nH, .inl (cy.1, 12, .inl sh)), (nT, .inl (cy.2.1, 12, .inl (hFun sr sh ht)))]) (pl' := []) (by first | rfl | rw [e9]) ?_
        exact ih_j
  · refine x_iload_n (q := 9) C 0 rfl dX2_countHousesWithoutHeat_8 rfl ?_
    refine x_bipush (q := 11) C 12 rfl dX2_countHousesWithoutHeat_9 rfl ?_
    refine x_icmp_ge_t C 41 dX2_countHousesWithoutHeat_11 (by decide) (nI_le (a := 12) (b := (11 + 1)) (by omega) (by omega)) ?_
    refine x_iload_n (q := 42) C 1 rfl dX2_countHousesWithoutHeat_41 rfl ?_
    exact x_iret C .int rfl rfl (⟨rfl, rfl⟩) dX2_countHousesWithoutHeat_42 (Nat.le_of_ble_eq_true rfl) (Nat.le_of_ble_eq_true rfl)

theorem iw_X2_endHourOfRepairs_X2 : ∀ w ∈ wsX20, w ∈ wsX2_endHourOfRepairs := by decide +kernel
set_option maxHeartbeats 4000000 in
set_option maxRecDepth 100000 in
/-- endHourOfRepairs -/
theorem c_X2_endHourOfRepairs {l : Launch} {D : va_G} {cy : ClassId × ClassId × ClassId} (no nS nL nA nH nV nT nC nD : Nat) (sh : Nat → Int32) (sl : Int32) : xM false l yX2_endHourOfRepairs wsX2_endHourOfRepairs ({ frames := 0, cells := 0, slots := 0, locals := 0 }) D cy [.ref no] ([(no, .inr (2, [.ref nS, .ref nL, .ref nA, .ref nH, .ref nV, .ref nT, .ref nC, .ref nD, .int sl])), (nH, .inl (cy.1, 12, .inl sh))]) (xQv D (fun w => w = [(no, .inr (2, [.ref nS, .ref nL, .ref nA, .ref nH, .ref nV, .ref nT, .ref nC, .ref nD, .int sl])), (nH, .inl (cy.1, 12, .inl (eFun sh)))])) 0 0 := by
  refine xM_of (X := [(no, .inr (2, [.ref nS, .ref nL, .ref nA, .ref nH, .ref nV, .ref nT, .ref nC, .ref nD, .int sl])), (nH, .inl (cy.1, 12, .inl sh))]) (pl := []) (nL := 2) (ret := none) RX2 [(0, .ref no)] (by decide +kernel) rfl rfl rfl (Nat.le_of_ble_eq_true rfl) (List.append_nil _).symm (fun p e s m args below meth c A C hname hT hZ => ?_)
  refine x_iconst (q := 1) C 1 rfl dX2_endHourOfRepairs_0 rfl ?_
  refine x_istore_n (q := 2) C [(1, .int 1), (0, .ref no)] dX2_endHourOfRepairs_1 (by decide) rfl rfl ?_
  refine x_less [0, 1] [(1, .int 1), (0, .ref no)] rfl ?_
  refine x_up (fun j => [(no, .inr (2, [.ref nS, .ref nL, .ref nA, .ref nH, .ref nV, .ref nT, .ref nC, .ref nD, .int sl])), (nH, .inl (cy.1, 12, .inl (itr eStep sh j)))]) (fun j => [(1, .int (nI (j + 1))), (0, .ref no)]) 11 rfl rfl (fun j h_j ih_j => ?_) ?_
  · refine x_iload_n (q := 3) C 0 rfl dX2_endHourOfRepairs_2 rfl ?_
    refine x_bipush (q := 5) C 12 rfl dX2_endHourOfRepairs_3 rfl ?_
    refine x_icmp_ge_f (q := 8) C 33 dX2_endHourOfRepairs_5 (by decide) rfl (nI_ge (a := (j + 1)) (b := 12) (by omega) (by omega)) ?_
    refine x_aload_n (q := 9) C 1 rfl dX2_endHourOfRepairs_8 rfl ?_
    refine x_get (q := 12) C (T := TX2) iw_X2_endHourOfRepairs_X2 rfl 0 3 rfl (by decide) rfl (by decide +kernel : Cond.fieldLink RX2 21 RX2 "shutHours" "[I" ∈ wsX2_endHourOfRepairs) rfl dX2_endHourOfRepairs_9 rfl ?_
    refine x_iload_n (q := 13) C 0 rfl dX2_endHourOfRepairs_12 rfl ?_
    refine x_ialdN (q := 14) C (j + 1) 1 ((itr eStep sh j) (j + 1)) rfl rfl (by omega) (by omega) rfl dX2_endHourOfRepairs_13 rfl ?_
    refine x_if_le (q := 17) C 27 dX2_endHourOfRepairs_14 (by decide) rfl (fun c_14 => ?_) (fun c_14 => ?_)
    · refine x_iinc (q := 30) C 0 (nI ((j + 1) + 1)) [(1, .int (nI ((j + 1) + 1))), (0, .ref no)] dX2_endHourOfRepairs_27 rfl (nI_1 _) (by decide) rfl rfl ?_
      refine x_goto C 2 dX2_endHourOfRepairs_30 (by decide) ?_
      refine x_less [0, 1] [(1, .int (nI ((j + 1) + 1))), (0, .ref no)] rfl ?_
      have e9 : itr eStep sh (j + 1) = itr eStep sh j := by
        show eStep j (itr eStep sh j) = _
        simp [eStep, c_14]
      refine x_less [0, 1] [(1, .int (nI ((j + 1) + 1))), (0, .ref no)] (by first | rfl | (rw [e9]; rfl)) ?_
      refine x_world (X' := [(no, .inr (2, [.ref nS, .ref nL, .ref nA, .ref nH, .ref nV, .ref nT, .ref nC, .ref nD, .int sl])), (nH, .inl (cy.1, 12, .inl (itr eStep sh (j + 1))))]) (pl' := []) (by first | rfl | rw [e9]) ?_
      exact ih_j
    · refine x_aload_n (q := 18) C 1 rfl dX2_endHourOfRepairs_17 rfl ?_
      refine x_get (q := 21) C (T := TX2) iw_X2_endHourOfRepairs_X2 rfl 0 3 rfl (by decide) rfl (by decide +kernel : Cond.fieldLink RX2 21 RX2 "shutHours" "[I" ∈ wsX2_endHourOfRepairs) rfl dX2_endHourOfRepairs_18 rfl ?_
      refine x_iload_n (q := 22) C 0 rfl dX2_endHourOfRepairs_21 rfl ?_
      refine x_dup2 (q := 23) C rfl rfl dX2_endHourOfRepairs_22 rfl ?_
      refine x_ialdN (q := 24) C (j + 1) 1 ((itr eStep sh j) (j + 1)) rfl rfl (by omega) (by omega) rfl dX2_endHourOfRepairs_23 rfl ?_
      refine x_iconst (q := 25) C 1 rfl dX2_endHourOfRepairs_24 rfl ?_
      refine x_isub (q := 26) C (((itr eStep sh j) (j + 1)) - 1) (rfl) dX2_endHourOfRepairs_25 rfl ?_
      refine x_iastN (q := 27) C (j + 1) 1 (upd (itr eStep sh j) (j + 1) (((itr eStep sh j) (j + 1)) - 1)) [(no, .inr (2, [.ref nS, .ref nL, .ref nA, .ref nH, .ref nV, .ref nT, .ref nC, .ref nD, .int sl])), (nH, .inl (cy.1, 12, .inl (upd (itr eStep sh j) (j + 1) (((itr eStep sh j) (j + 1)) - 1))))] rfl rfl (by omega) (by omega) rfl rfl dX2_endHourOfRepairs_26 rfl ?_
      refine x_iinc (q := 30) C 0 (nI ((j + 1) + 1)) [(1, .int (nI ((j + 1) + 1))), (0, .ref no)] dX2_endHourOfRepairs_27 rfl (nI_1 _) (by decide) rfl rfl ?_
      refine x_goto C 2 dX2_endHourOfRepairs_30 (by decide) ?_
      refine x_less [0, 1] [(1, .int (nI ((j + 1) + 1))), (0, .ref no)] rfl ?_
      have e9 : itr eStep sh (j + 1) = upd (itr eStep sh j) (j + 1) (((itr eStep sh j) (j + 1)) - 1) := by
        show eStep j (itr eStep sh j) = _
        simp [eStep, c_14]
      refine x_less [0, 1] [(1, .int (nI ((j + 1) + 1))), (0, .ref no)] (by first | rfl | (rw [e9]; rfl)) ?_
      refine x_world (X' := [(no, .inr (2, [.ref nS, .ref nL, .ref nA, .ref nH, .ref nV, .ref nT, .ref nC, .ref nD, .int sl])), (nH, .inl (cy.1, 12, .inl (itr eStep sh (j + 1))))]) (pl' := []) (by first | rfl | rw [e9]) ?_
      exact ih_j
  · refine x_iload_n (q := 3) C 0 rfl dX2_endHourOfRepairs_2 rfl ?_
    refine x_bipush (q := 5) C 12 rfl dX2_endHourOfRepairs_3 rfl ?_
    refine x_icmp_ge_t C 33 dX2_endHourOfRepairs_5 (by decide) (nI_le (a := 12) (b := (11 + 1)) (by omega) (by omega)) ?_
    exact x_vret C rfl (rfl) dX2_endHourOfRepairs_33 (Nat.le_of_ble_eq_true rfl) (Nat.le_of_ble_eq_true rfl)
