theorem iw_X5_next_X5 : ∀ w ∈ wsX50, w ∈ wsX5_next := by decide +kernel
set_option maxHeartbeats 4000000 in
set_option maxRecDepth 100000 in
theorem c_X5_next_none {l : Launch} {D : va_G} {cy : ClassId × ClassId × ClassId} (qo qF qL qA qE qH qB qS qP qC qT qD qR qX qG qM qU n : Nat) (th hh tt mc ml : Int32) (cst : Nat → Int32) (hn4 : n ≤ 4) : xM false l yX5_next wsX5_next ({ frames := 0, cells := 0, slots := 0, locals := 0 }) D cy [.ref qo, .int (-1)] ([(qo, .inr (5, [.int th, .int hh, .int tt, .ref qF, .ref qL, .ref qA, .ref qE, .ref qH, .ref qB, .int (nI n), .ref qS, .ref qP, .ref qC, .int mc, .ref qT, .ref qD, .ref qR, .ref qX, .ref qG, .ref qM, .ref qU, .int ml])), (qC, .inl (cy.1, 4, .inl cst))]) (xQi D (fun r w => r = eO (nxF n cst none) ∧ w = [(qo, .inr (5, [.int th, .int hh, .int tt, .ref qF, .ref qL, .ref qA, .ref qE, .ref qH, .ref qB, .int (nI n), .ref qS, .ref qP, .ref qC, .int mc, .ref qT, .ref qD, .ref qR, .ref qX, .ref qG, .ref qM, .ref qU, .int ml])), (qC, .inl (cy.1, 4, .inl cst))])) 0 0 := by
  refine xM_of (X := [(qo, .inr (5, [.int th, .int hh, .int tt, .ref qF, .ref qL, .ref qA, .ref qE, .ref qH, .ref qB, .int (nI n), .ref qS, .ref qP, .ref qC, .int mc, .ref qT, .ref qD, .ref qR, .ref qX, .ref qG, .ref qM, .ref qU, .int ml])), (qC, .inl (cy.1, 4, .inl cst))]) (pl := []) (nL := 5) (ret := (some .int)) RX5 [(0, .ref qo), (1, .int (-1))] (by decide +kernel) rfl rfl rfl (Nat.le_of_ble_eq_true rfl) (List.append_nil _).symm (fun p e s m args below meth c A C hname hT hZ => ?_)
  refine x_iconst (q := 1) C (-1) rfl dX5_next_0 rfl ?_
  refine x_istore_n (q := 2) C [(2, .int (-1)), (0, .ref qo), (1, .int (-1))] dX5_next_1 (by decide) rfl rfl ?_
  refine x_aload_n (q := 3) C 1 rfl dX5_next_2 rfl ?_
  refine x_get (q := 6) C (T := TX5) iw_X5_next_X5 rfl 0 9 rfl (by decide) rfl (by decide +kernel : Cond.fieldLink RX5 77 RX5 "boilers" "I" ∈ wsX5_next) rfl dX5_next_3 rfl ?_
  refine x_iconst (q := 7) C 1 rfl dX5_next_6 rfl ?_
  refine x_isub (q := 8) C (nI (n - 0) + (-1)) (Int32.sub_eq_add_neg _ _) dX5_next_7 rfl ?_
  refine x_istore_n (q := 9) C [(3, .int (nI (n - 0) + (-1))), (2, .int (-1)), (0, .ref qo), (1, .int (-1))] dX5_next_8 (by decide) rfl rfl ?_
  refine x_less [0, 1, 2, 3] [(3, .int (nI (n - 0) + (-1))), (2, .int (-1)), (0, .ref qo), (1, .int (-1))] rfl ?_
  refine x_up (fun _ => [(qo, .inr (5, [.int th, .int hh, .int tt, .ref qF, .ref qL, .ref qA, .ref qE, .ref qH, .ref qB, .int (nI n), .ref qS, .ref qP, .ref qC, .int mc, .ref qT, .ref qD, .ref qR, .ref qX, .ref qG, .ref qM, .ref qU, .int ml])), (qC, .inl (cy.1, 4, .inl cst))]) (fun j => [(3, .int (nI (n - j) + (-1))), (2, .int (eO (itr (nxStep n cst none) none j))), (0, .ref qo), (1, .int (-1))]) n rfl rfl (fun j h_j ih_j => ?_) ?_
  · have e7 : nI (n - j) + (-1) = nI (n - 1 - j) := by
      rw [show n - j = (n - 1 - j) + 1 by omega]; exact pk_m1 _
    rcases hf : itr (nxStep n cst none) none j with _ | f
    · refine x_less [0, 1, 2, 3] [(3, .int (nI (n - 1 - j))), (2, .int (-1)), (0, .ref qo), (1, .int (-1))] (by rw [← e7]; rfl) ?_
      refine x_iload_n (q := 10) C 0 rfl dX5_next_9 rfl ?_
      refine x_if_lt_f (q := 13) C 95 dX5_next_10 (by decide) rfl (nI_nlt (a := (n - 1 - j)) (b := 0) (by omega) (by omega)) ?_
      refine x_iload_n (q := 14) C 3 rfl dX5_next_13 rfl ?_
      refine x_if_lt_t C 52 dX5_next_14 (by decide) (by decide) ?_
      refine x_iconst (q := 53) C 1 rfl dX5_next_52 rfl ?_
      refine x_goto C 57 dX5_next_53 (by decide) ?_
      refine x_istore (q := 59) C [(4, .int 1), (3, .int (nI (n - 1 - j))), (2, .int (-1)), (0, .ref qo), (1, .int (-1))] dX5_next_57 (by decide) rfl rfl ?_
      refine x_iload (q := 61) C 0 rfl dX5_next_59 rfl ?_
      refine x_if_eq_f (q := 64) C 87 dX5_next_61 (by decide) rfl (by decide) ?_
      refine x_iload_n (q := 65) C 2 rfl dX5_next_64 rfl ?_
      refine x_if_lt_t C 83 dX5_next_65 (by decide) (by decide) ?_
      refine x_iload_n (q := 84) C 1 rfl dX5_next_83 rfl ?_
      refine x_goto C 88 dX5_next_84 (by decide) ?_
      refine x_istore_n (q := 89) C [(2, .int (nI (n - 1 - j))), (4, .int 1), (3, .int (nI (n - 1 - j))), (0, .ref qo), (1, .int (-1))] dX5_next_88 (by decide) rfl rfl ?_
      refine x_iinc (q := 92) C 2 (nI (n - (j + 1)) + (-1)) [(3, .int (nI (n - (j + 1)) + (-1))), (2, .int (nI (n - 1 - j))), (4, .int 1), (0, .ref qo), (1, .int (-1))] dX5_next_89 rfl (by rw [show n - (j + 1) = n - 1 - j by omega]; rfl) (by decide) rfl rfl ?_
      refine x_goto C 9 dX5_next_92 (by decide) ?_
      refine x_less [0, 1, 3, 4] [(3, .int (nI (n - (j + 1)) + (-1))), (2, .int (nI (n - 1 - j))), (0, .ref qo), (1, .int (-1))] rfl ?_
      have e9 : itr (nxStep n cst none) none (j + 1) = some (n - 1 - j) := by
        show nxStep n cst none j (itr (nxStep n cst none) none j) = _
        rw [hf]
        first
        | (simp [nxStep, nxB]; done)
        | (simp only [nxStep, nxB, if_true, eq_self, if_true, Bool.false_eq_true, if_false]; done)
      refine x_less [0, 1, 2, 3] [(3, .int (nI (n - (j + 1)) + (-1))), (2, .int (eO (itr (nxStep n cst none) none (j + 1)))), (0, .ref qo), (1, .int (-1))] (by rw [e9]; rfl) ?_
      exact ih_j
    · have hfn : f < n := nxI_lt (Nat.le_of_lt h_j) hf
      refine x_less [0, 1, 2, 3] [(3, .int (nI (n - 1 - j))), (2, .int (nI f)), (0, .ref qo), (1, .int (-1))] (by rw [← e7]; rfl) ?_
      refine x_iload_n (q := 10) C 0 rfl dX5_next_9 rfl ?_
      refine x_if_lt_f (q := 13) C 95 dX5_next_10 (by decide) rfl (nI_nlt (a := (n - 1 - j)) (b := 0) (by omega) (by omega)) ?_
      refine x_iload_n (q := 14) C 3 rfl dX5_next_13 rfl ?_
      refine x_if_lt_t C 52 dX5_next_14 (by decide) (by decide) ?_
      refine x_iconst (q := 53) C 1 rfl dX5_next_52 rfl ?_
      refine x_goto C 57 dX5_next_53 (by decide) ?_
      refine x_istore (q := 59) C [(4, .int 1), (3, .int (nI (n - 1 - j))), (2, .int (nI f)), (0, .ref qo), (1, .int (-1))] dX5_next_57 (by decide) rfl rfl ?_
      refine x_iload (q := 61) C 0 rfl dX5_next_59 rfl ?_
      refine x_if_eq_f (q := 64) C 87 dX5_next_61 (by decide) rfl (by decide) ?_
      refine x_iload_n (q := 65) C 2 rfl dX5_next_64 rfl ?_
      refine x_if_lt_f (q := 68) C 83 dX5_next_65 (by decide) rfl (nI_nlt (a := f) (b := 0) (by omega) (by omega)) ?_
      refine x_aload_n (q := 69) C 3 rfl dX5_next_68 rfl ?_
      refine x_get (q := 72) C (T := TX5) iw_X5_next_X5 rfl 0 12 rfl (by decide) rfl (by decide +kernel : Cond.fieldLink RX5 34 RX5 "costs" "[I" ∈ wsX5_next) rfl dX5_next_69 rfl ?_
      refine x_iload_n (q := 73) C 1 rfl dX5_next_72 rfl ?_
      refine x_ialdN (q := 74) C (n - 1 - j) 1 (cst (n - 1 - j)) rfl rfl (by omega) (by omega) rfl dX5_next_73 rfl ?_
      refine x_aload_n (q := 75) C 3 rfl dX5_next_74 rfl ?_
      refine x_get (q := 78) C (T := TX5) iw_X5_next_X5 rfl 0 12 rfl (by decide) rfl (by decide +kernel : Cond.fieldLink RX5 34 RX5 "costs" "[I" ∈ wsX5_next) rfl dX5_next_75 rfl ?_
      refine x_iload_n (q := 79) C 2 rfl dX5_next_78 rfl ?_
      refine x_ialdN (q := 80) C f 1 (cst f) rfl rfl (by omega) (by omega) rfl dX5_next_79 rfl ?_
      refine x_icmp_gt (q := 83) C 87 dX5_next_80 (by decide) rfl (fun c_80 => ?_) (fun c_80 => ?_)
      · refine x_iload_n (q := 88) C 2 rfl dX5_next_87 rfl ?_
        refine x_istore_n (q := 89) C [(2, .int (nI f)), (4, .int 1), (3, .int (nI (n - 1 - j))), (0, .ref qo), (1, .int (-1))] dX5_next_88 (by decide) rfl rfl ?_
        refine x_iinc (q := 92) C 2 (nI (n - (j + 1)) + (-1)) [(3, .int (nI (n - (j + 1)) + (-1))), (2, .int (nI f)), (4, .int 1), (0, .ref qo), (1, .int (-1))] dX5_next_89 rfl (by rw [show n - (j + 1) = n - 1 - j by omega]; rfl) (by decide) rfl rfl ?_
        refine x_goto C 9 dX5_next_92 (by decide) ?_
        refine x_less [0, 1, 3, 4] [(3, .int (nI (n - (j + 1)) + (-1))), (2, .int (nI f)), (0, .ref qo), (1, .int (-1))] rfl ?_
        have e9 : itr (nxStep n cst none) none (j + 1) = some f := by
          show nxStep n cst none j (itr (nxStep n cst none) none j) = _
          rw [hf]
          first
          | (simp [nxStep, nxB, c_80]; done)
          | (simp only [nxStep, nxB, if_pos c_80, eq_self, if_true, Bool.false_eq_true, if_false]; done)
        refine x_less [0, 1, 2, 3] [(3, .int (nI (n - (j + 1)) + (-1))), (2, .int (eO (itr (nxStep n cst none) none (j + 1)))), (0, .ref qo), (1, .int (-1))] (by rw [e9]; rfl) ?_
        exact ih_j
      · refine x_iload_n (q := 84) C 1 rfl dX5_next_83 rfl ?_
        refine x_goto C 88 dX5_next_84 (by decide) ?_
        refine x_istore_n (q := 89) C [(2, .int (nI (n - 1 - j))), (4, .int 1), (3, .int (nI (n - 1 - j))), (0, .ref qo), (1, .int (-1))] dX5_next_88 (by decide) rfl rfl ?_
        refine x_iinc (q := 92) C 2 (nI (n - (j + 1)) + (-1)) [(3, .int (nI (n - (j + 1)) + (-1))), (2, .int (nI (n - 1 - j))), (4, .int 1), (0, .ref qo), (1, .int (-1))] dX5_next_89 rfl (by rw [show n - (j + 1) = n - 1 - j by omega]; rfl) (by decide) rfl rfl ?_
        refine x_goto C 9 dX5_next_92 (by decide) ?_
        refine x_less [0, 1, 3, 4] [(3, .int (nI (n - (j + 1)) + (-1))), (2, .int (nI (n - 1 - j))), (0, .ref qo), (1, .int (-1))] rfl ?_
        have e9 : itr (nxStep n cst none) none (j + 1) = some (n - 1 - j) := by
          show nxStep n cst none j (itr (nxStep n cst none) none j) = _
          rw [hf]
          first
          | (simp [nxStep, nxB, c_80]; done)
          | (simp only [nxStep, nxB, if_neg c_80, eq_self, if_true, Bool.false_eq_true, if_false]; done)
        refine x_less [0, 1, 2, 3] [(3, .int (nI (n - (j + 1)) + (-1))), (2, .int (eO (itr (nxStep n cst none) none (j + 1)))), (0, .ref qo), (1, .int (-1))] (by rw [e9]; rfl) ?_
        exact ih_j
  · refine x_iload_n (q := 10) C 0 rfl dX5_next_9 rfl ?_
    refine x_if_lt_t C 95 dX5_next_10 (by decide) (by rw [Nat.sub_self]; decide) ?_
    refine x_iload_n (q := 96) C 1 rfl dX5_next_95 rfl ?_
    exact x_iret C .int rfl rfl (⟨rfl, rfl⟩) dX5_next_96 (Nat.le_of_ble_eq_true rfl) (Nat.le_of_ble_eq_true rfl)

set_option maxHeartbeats 4000000 in
set_option maxRecDepth 100000 in
theorem c_X5_next_some {l : Launch} {D : va_G} {cy : ClassId × ClassId × ClassId} (qo qF qL qA qE qH qB qS qP qC qT qD qR qX qG qM qU n : Nat) (th hh tt mc ml : Int32) (cst : Nat → Int32) (z : Nat) (hn4 : n ≤ 4) (hz : z < n) : xM false l yX5_next wsX5_next ({ frames := 0, cells := 0, slots := 0, locals := 0 }) D cy [.ref qo, .int (nI z)] ([(qo, .inr (5, [.int th, .int hh, .int tt, .ref qF, .ref qL, .ref qA, .ref qE, .ref qH, .ref qB, .int (nI n), .ref qS, .ref qP, .ref qC, .int mc, .ref qT, .ref qD, .ref qR, .ref qX, .ref qG, .ref qM, .ref qU, .int ml])), (qC, .inl (cy.1, 4, .inl cst))]) (xQi D (fun r w => r = eO (nxF n cst (some z)) ∧ w = [(qo, .inr (5, [.int th, .int hh, .int tt, .ref qF, .ref qL, .ref qA, .ref qE, .ref qH, .ref qB, .int (nI n), .ref qS, .ref qP, .ref qC, .int mc, .ref qT, .ref qD, .ref qR, .ref qX, .ref qG, .ref qM, .ref qU, .int ml])), (qC, .inl (cy.1, 4, .inl cst))])) 0 0 := by
  refine xM_of (X := [(qo, .inr (5, [.int th, .int hh, .int tt, .ref qF, .ref qL, .ref qA, .ref qE, .ref qH, .ref qB, .int (nI n), .ref qS, .ref qP, .ref qC, .int mc, .ref qT, .ref qD, .ref qR, .ref qX, .ref qG, .ref qM, .ref qU, .int ml])), (qC, .inl (cy.1, 4, .inl cst))]) (pl := []) (nL := 5) (ret := (some .int)) RX5 [(0, .ref qo), (1, .int (nI z))] (by decide +kernel) rfl rfl rfl (Nat.le_of_ble_eq_true rfl) (List.append_nil _).symm (fun p e s m args below meth c A C hname hT hZ => ?_)
  refine x_iconst (q := 1) C (-1) rfl dX5_next_0 rfl ?_
  refine x_istore_n (q := 2) C [(2, .int (-1)), (0, .ref qo), (1, .int (nI z))] dX5_next_1 (by decide) rfl rfl ?_
  refine x_aload_n (q := 3) C 1 rfl dX5_next_2 rfl ?_
  refine x_get (q := 6) C (T := TX5) iw_X5_next_X5 rfl 0 9 rfl (by decide) rfl (by decide +kernel : Cond.fieldLink RX5 77 RX5 "boilers" "I" ∈ wsX5_next) rfl dX5_next_3 rfl ?_
  refine x_iconst (q := 7) C 1 rfl dX5_next_6 rfl ?_
  refine x_isub (q := 8) C (nI (n - 0) + (-1)) (Int32.sub_eq_add_neg _ _) dX5_next_7 rfl ?_
  refine x_istore_n (q := 9) C [(3, .int (nI (n - 0) + (-1))), (2, .int (-1)), (0, .ref qo), (1, .int (nI z))] dX5_next_8 (by decide) rfl rfl ?_
  refine x_less [0, 1, 2, 3] [(3, .int (nI (n - 0) + (-1))), (2, .int (-1)), (0, .ref qo), (1, .int (nI z))] rfl ?_
  refine x_up (fun _ => [(qo, .inr (5, [.int th, .int hh, .int tt, .ref qF, .ref qL, .ref qA, .ref qE, .ref qH, .ref qB, .int (nI n), .ref qS, .ref qP, .ref qC, .int mc, .ref qT, .ref qD, .ref qR, .ref qX, .ref qG, .ref qM, .ref qU, .int ml])), (qC, .inl (cy.1, 4, .inl cst))]) (fun j => [(3, .int (nI (n - j) + (-1))), (2, .int (eO (itr (nxStep n cst (some z)) none j))), (0, .ref qo), (1, .int (nI z))]) n rfl rfl (fun j h_j ih_j => ?_) ?_
  · have e7 : nI (n - j) + (-1) = nI (n - 1 - j) := by
      rw [show n - j = (n - 1 - j) + 1 by omega]; exact pk_m1 _
    rcases hf : itr (nxStep n cst (some z)) none j with _ | f
    · refine x_less [0, 1, 2, 3] [(3, .int (nI (n - 1 - j))), (2, .int (-1)), (0, .ref qo), (1, .int (nI z))] (by rw [← e7]; rfl) ?_
      refine x_iload_n (q := 10) C 0 rfl dX5_next_9 rfl ?_
      refine x_if_lt_f (q := 13) C 95 dX5_next_10 (by decide) rfl (nI_nlt (a := (n - 1 - j)) (b := 0) (by omega) (by omega)) ?_
      refine x_iload_n (q := 14) C 3 rfl dX5_next_13 rfl ?_
      refine x_if_lt_f (q := 17) C 52 dX5_next_14 (by decide) rfl (nI_nlt (a := z) (b := 0) (by omega) (by omega)) ?_
      refine x_aload_n (q := 18) C 2 rfl dX5_next_17 rfl ?_
      refine x_get (q := 21) C (T := TX5) iw_X5_next_X5 rfl 0 12 rfl (by decide) rfl (by decide +kernel : Cond.fieldLink RX5 34 RX5 "costs" "[I" ∈ wsX5_next) rfl dX5_next_18 rfl ?_
      refine x_iload_n (q := 22) C 0 rfl dX5_next_21 rfl ?_
      refine x_ialdN (q := 23) C (n - 1 - j) 1 (cst (n - 1 - j)) rfl rfl (by omega) (by omega) rfl dX5_next_22 rfl ?_
      refine x_aload_n (q := 24) C 2 rfl dX5_next_23 rfl ?_
      refine x_get (q := 27) C (T := TX5) iw_X5_next_X5 rfl 0 12 rfl (by decide) rfl (by decide +kernel : Cond.fieldLink RX5 34 RX5 "costs" "[I" ∈ wsX5_next) rfl dX5_next_24 rfl ?_
      refine x_iload_n (q := 28) C 3 rfl dX5_next_27 rfl ?_
      refine x_ialdN (q := 29) C z 1 (cst z) rfl rfl (by omega) (by omega) rfl dX5_next_28 rfl ?_
      refine x_icmp_gt (q := 32) C 52 dX5_next_29 (by decide) rfl (fun c_29 => ?_) (fun c_29 => ?_)
      · refine x_iconst (q := 53) C 1 rfl dX5_next_52 rfl ?_
        refine x_goto C 57 dX5_next_53 (by decide) ?_
        refine x_istore (q := 59) C [(4, .int 1), (3, .int (nI (n - 1 - j))), (2, .int (-1)), (0, .ref qo), (1, .int (nI z))] dX5_next_57 (by decide) rfl rfl ?_
        refine x_iload (q := 61) C 0 rfl dX5_next_59 rfl ?_
        refine x_if_eq_f (q := 64) C 87 dX5_next_61 (by decide) rfl (by decide) ?_
        refine x_iload_n (q := 65) C 2 rfl dX5_next_64 rfl ?_
        refine x_if_lt_t C 83 dX5_next_65 (by decide) (by decide) ?_
        refine x_iload_n (q := 84) C 1 rfl dX5_next_83 rfl ?_
        refine x_goto C 88 dX5_next_84 (by decide) ?_
        refine x_istore_n (q := 89) C [(2, .int (nI (n - 1 - j))), (4, .int 1), (3, .int (nI (n - 1 - j))), (0, .ref qo), (1, .int (nI z))] dX5_next_88 (by decide) rfl rfl ?_
        refine x_iinc (q := 92) C 2 (nI (n - (j + 1)) + (-1)) [(3, .int (nI (n - (j + 1)) + (-1))), (2, .int (nI (n - 1 - j))), (4, .int 1), (0, .ref qo), (1, .int (nI z))] dX5_next_89 rfl (by rw [show n - (j + 1) = n - 1 - j by omega]; rfl) (by decide) rfl rfl ?_
        refine x_goto C 9 dX5_next_92 (by decide) ?_
        refine x_less [0, 1, 3, 4] [(3, .int (nI (n - (j + 1)) + (-1))), (2, .int (nI (n - 1 - j))), (0, .ref qo), (1, .int (nI z))] rfl ?_
        have e9 : itr (nxStep n cst (some z)) none (j + 1) = some (n - 1 - j) := by
          show nxStep n cst (some z) j (itr (nxStep n cst (some z)) none j) = _
          rw [hf]
          first
          | (simp [nxStep, nxB, c_29]; done)
          | (simp only [nxStep, nxB, if_pos c_29, eq_self, if_true, Bool.false_eq_true, if_false]; done)
        refine x_less [0, 1, 2, 3] [(3, .int (nI (n - (j + 1)) + (-1))), (2, .int (eO (itr (nxStep n cst (some z)) none (j + 1)))), (0, .ref qo), (1, .int (nI z))] (by rw [e9]; rfl) ?_
        exact ih_j
      · refine x_aload_n (q := 33) C 2 rfl dX5_next_32 rfl ?_
        refine x_get (q := 36) C (T := TX5) iw_X5_next_X5 rfl 0 12 rfl (by decide) rfl (by decide +kernel : Cond.fieldLink RX5 34 RX5 "costs" "[I" ∈ wsX5_next) rfl dX5_next_33 rfl ?_
        refine x_iload_n (q := 37) C 0 rfl dX5_next_36 rfl ?_
        refine x_ialdN (q := 38) C (n - 1 - j) 1 (cst (n - 1 - j)) rfl rfl (by omega) (by omega) rfl dX5_next_37 rfl ?_
        refine x_aload_n (q := 39) C 2 rfl dX5_next_38 rfl ?_
        refine x_get (q := 42) C (T := TX5) iw_X5_next_X5 rfl 0 12 rfl (by decide) rfl (by decide +kernel : Cond.fieldLink RX5 34 RX5 "costs" "[I" ∈ wsX5_next) rfl dX5_next_39 rfl ?_
        refine x_iload_n (q := 43) C 3 rfl dX5_next_42 rfl ?_
        refine x_ialdN (q := 44) C z 1 (cst z) rfl rfl (by omega) (by omega) rfl dX5_next_43 rfl ?_
        refine x_icmp_ne (q := 47) C 56 dX5_next_44 (by decide) rfl (fun c_44 => ?_) (fun c_44 => ?_)
        · refine x_iconst (q := 57) C 0 rfl dX5_next_56 rfl ?_
          refine x_istore (q := 59) C [(4, .int 0), (3, .int (nI (n - 1 - j))), (2, .int (-1)), (0, .ref qo), (1, .int (nI z))] dX5_next_57 (by decide) rfl rfl ?_
          refine x_iload (q := 61) C 0 rfl dX5_next_59 rfl ?_
          refine x_if_eq_t C 87 dX5_next_61 (by decide) (by decide) ?_
          refine x_iload_n (q := 88) C 2 rfl dX5_next_87 rfl ?_
          refine x_istore_n (q := 89) C [(2, .int (-1)), (4, .int 0), (3, .int (nI (n - 1 - j))), (0, .ref qo), (1, .int (nI z))] dX5_next_88 (by decide) rfl rfl ?_
          refine x_iinc (q := 92) C 2 (nI (n - (j + 1)) + (-1)) [(3, .int (nI (n - (j + 1)) + (-1))), (2, .int (-1)), (4, .int 0), (0, .ref qo), (1, .int (nI z))] dX5_next_89 rfl (by rw [show n - (j + 1) = n - 1 - j by omega]; rfl) (by decide) rfl rfl ?_
          refine x_goto C 9 dX5_next_92 (by decide) ?_
          refine x_less [0, 1, 3, 4] [(3, .int (nI (n - (j + 1)) + (-1))), (2, .int (-1)), (0, .ref qo), (1, .int (nI z))] rfl ?_
          have e9 : itr (nxStep n cst (some z)) none (j + 1) = none := by
            show nxStep n cst (some z) j (itr (nxStep n cst (some z)) none j) = _
            rw [hf]
            first
            | (simp [nxStep, nxB, c_29, c_44]; done)
            | (simp only [nxStep, nxB, if_neg c_29, if_neg c_44, eq_self, if_true, Bool.false_eq_true, if_false]; done)
          refine x_less [0, 1, 2, 3] [(3, .int (nI (n - (j + 1)) + (-1))), (2, .int (eO (itr (nxStep n cst (some z)) none (j + 1)))), (0, .ref qo), (1, .int (nI z))] (by rw [e9]; rfl) ?_
          exact ih_j
        · refine x_iload_n (q := 48) C 0 rfl dX5_next_47 rfl ?_
          refine x_iload_n (q := 49) C 3 rfl dX5_next_48 rfl ?_
          refine x_icmp_le (q := 52) C 56 dX5_next_49 (by decide) rfl (fun c_49 => ?_) (fun c_49 => ?_)
          · have c_49 : n - 1 - j ≤ z := (nI_leI (by omega) (by omega)).mp c_49
            refine x_iconst (q := 57) C 0 rfl dX5_next_56 rfl ?_
            refine x_istore (q := 59) C [(4, .int 0), (3, .int (nI (n - 1 - j))), (2, .int (-1)), (0, .ref qo), (1, .int (nI z))] dX5_next_57 (by decide) rfl rfl ?_
            refine x_iload (q := 61) C 0 rfl dX5_next_59 rfl ?_
            refine x_if_eq_t C 87 dX5_next_61 (by decide) (by decide) ?_
            refine x_iload_n (q := 88) C 2 rfl dX5_next_87 rfl ?_
            refine x_istore_n (q := 89) C [(2, .int (-1)), (4, .int 0), (3, .int (nI (n - 1 - j))), (0, .ref qo), (1, .int (nI z))] dX5_next_88 (by decide) rfl rfl ?_
            refine x_iinc (q := 92) C 2 (nI (n - (j + 1)) + (-1)) [(3, .int (nI (n - (j + 1)) + (-1))), (2, .int (-1)), (4, .int 0), (0, .ref qo), (1, .int (nI z))] dX5_next_89 rfl (by rw [show n - (j + 1) = n - 1 - j by omega]; rfl) (by decide) rfl rfl ?_
            refine x_goto C 9 dX5_next_92 (by decide) ?_
            refine x_less [0, 1, 3, 4] [(3, .int (nI (n - (j + 1)) + (-1))), (2, .int (-1)), (0, .ref qo), (1, .int (nI z))] rfl ?_
            have e9 : itr (nxStep n cst (some z)) none (j + 1) = none := by
              show nxStep n cst (some z) j (itr (nxStep n cst (some z)) none j) = _
              rw [hf]
              first
              | (simp [nxStep, nxB, c_29, c_44, c_49]; done)
              | (simp only [nxStep, nxB, if_neg c_29, if_pos c_44, if_pos c_49, eq_self, if_true, Bool.false_eq_true, if_false]; done)
            refine x_less [0, 1, 2, 3] [(3, .int (nI (n - (j + 1)) + (-1))), (2, .int (eO (itr (nxStep n cst (some z)) none (j + 1)))), (0, .ref qo), (1, .int (nI z))] (by rw [e9]; rfl) ?_
            exact ih_j
          · have c_49 : ¬ n - 1 - j ≤ z := fun h8 => c_49 ((nI_leI (by omega) (by omega)).mpr h8)
            refine x_iconst (q := 53) C 1 rfl dX5_next_52 rfl ?_
            refine x_goto C 57 dX5_next_53 (by decide) ?_
            refine x_istore (q := 59) C [(4, .int 1), (3, .int (nI (n - 1 - j))), (2, .int (-1)), (0, .ref qo), (1, .int (nI z))] dX5_next_57 (by decide) rfl rfl ?_
            refine x_iload (q := 61) C 0 rfl dX5_next_59 rfl ?_
            refine x_if_eq_f (q := 64) C 87 dX5_next_61 (by decide) rfl (by decide) ?_
            refine x_iload_n (q := 65) C 2 rfl dX5_next_64 rfl ?_
            refine x_if_lt_t C 83 dX5_next_65 (by decide) (by decide) ?_
            refine x_iload_n (q := 84) C 1 rfl dX5_next_83 rfl ?_
            refine x_goto C 88 dX5_next_84 (by decide) ?_
            refine x_istore_n (q := 89) C [(2, .int (nI (n - 1 - j))), (4, .int 1), (3, .int (nI (n - 1 - j))), (0, .ref qo), (1, .int (nI z))] dX5_next_88 (by decide) rfl rfl ?_
            refine x_iinc (q := 92) C 2 (nI (n - (j + 1)) + (-1)) [(3, .int (nI (n - (j + 1)) + (-1))), (2, .int (nI (n - 1 - j))), (4, .int 1), (0, .ref qo), (1, .int (nI z))] dX5_next_89 rfl (by rw [show n - (j + 1) = n - 1 - j by omega]; rfl) (by decide) rfl rfl ?_
            refine x_goto C 9 dX5_next_92 (by decide) ?_
            refine x_less [0, 1, 3, 4] [(3, .int (nI (n - (j + 1)) + (-1))), (2, .int (nI (n - 1 - j))), (0, .ref qo), (1, .int (nI z))] rfl ?_
            have e9 : itr (nxStep n cst (some z)) none (j + 1) = some (n - 1 - j) := by
              show nxStep n cst (some z) j (itr (nxStep n cst (some z)) none j) = _
              rw [hf]
              first
              | (simp [nxStep, nxB, c_29, c_44, c_49]; done)
              | (simp only [nxStep, nxB, if_neg c_29, if_pos c_44, if_neg c_49, eq_self, if_true, Bool.false_eq_true, if_false]; done)
            refine x_less [0, 1, 2, 3] [(3, .int (nI (n - (j + 1)) + (-1))), (2, .int (eO (itr (nxStep n cst (some z)) none (j + 1)))), (0, .ref qo), (1, .int (nI z))] (by rw [e9]; rfl) ?_
            exact ih_j
    · have hfn : f < n := nxI_lt (Nat.le_of_lt h_j) hf
      refine x_less [0, 1, 2, 3] [(3, .int (nI (n - 1 - j))), (2, .int (nI f)), (0, .ref qo), (1, .int (nI z))] (by rw [← e7]; rfl) ?_
      refine x_iload_n (q := 10) C 0 rfl dX5_next_9 rfl ?_
      refine x_if_lt_f (q := 13) C 95 dX5_next_10 (by decide) rfl (nI_nlt (a := (n - 1 - j)) (b := 0) (by omega) (by omega)) ?_
      refine x_iload_n (q := 14) C 3 rfl dX5_next_13 rfl ?_
      refine x_if_lt_f (q := 17) C 52 dX5_next_14 (by decide) rfl (nI_nlt (a := z) (b := 0) (by omega) (by omega)) ?_
      refine x_aload_n (q := 18) C 2 rfl dX5_next_17 rfl ?_
      refine x_get (q := 21) C (T := TX5) iw_X5_next_X5 rfl 0 12 rfl (by decide) rfl (by decide +kernel : Cond.fieldLink RX5 34 RX5 "costs" "[I" ∈ wsX5_next) rfl dX5_next_18 rfl ?_
      refine x_iload_n (q := 22) C 0 rfl dX5_next_21 rfl ?_
      refine x_ialdN (q := 23) C (n - 1 - j) 1 (cst (n - 1 - j)) rfl rfl (by omega) (by omega) rfl dX5_next_22 rfl ?_
      refine x_aload_n (q := 24) C 2 rfl dX5_next_23 rfl ?_
      refine x_get (q := 27) C (T := TX5) iw_X5_next_X5 rfl 0 12 rfl (by decide) rfl (by decide +kernel : Cond.fieldLink RX5 34 RX5 "costs" "[I" ∈ wsX5_next) rfl dX5_next_24 rfl ?_
      refine x_iload_n (q := 28) C 3 rfl dX5_next_27 rfl ?_
      refine x_ialdN (q := 29) C z 1 (cst z) rfl rfl (by omega) (by omega) rfl dX5_next_28 rfl ?_
      refine x_icmp_gt (q := 32) C 52 dX5_next_29 (by decide) rfl (fun c_29 => ?_) (fun c_29 => ?_)
      · refine x_iconst (q := 53) C 1 rfl dX5_next_52 rfl ?_
        refine x_goto C 57 dX5_next_53 (by decide) ?_
        refine x_istore (q := 59) C [(4, .int 1), (3, .int (nI (n - 1 - j))), (2, .int (nI f)), (0, .ref qo), (1, .int (nI z))] dX5_next_57 (by decide) rfl rfl ?_
        refine x_iload (q := 61) C 0 rfl dX5_next_59 rfl ?_
        refine x_if_eq_f (q := 64) C 87 dX5_next_61 (by decide) rfl (by decide) ?_
        refine x_iload_n (q := 65) C 2 rfl dX5_next_64 rfl ?_
        refine x_if_lt_f (q := 68) C 83 dX5_next_65 (by decide) rfl (nI_nlt (a := f) (b := 0) (by omega) (by omega)) ?_
        refine x_aload_n (q := 69) C 3 rfl dX5_next_68 rfl ?_
        refine x_get (q := 72) C (T := TX5) iw_X5_next_X5 rfl 0 12 rfl (by decide) rfl (by decide +kernel : Cond.fieldLink RX5 34 RX5 "costs" "[I" ∈ wsX5_next) rfl dX5_next_69 rfl ?_
        refine x_iload_n (q := 73) C 1 rfl dX5_next_72 rfl ?_
        refine x_ialdN (q := 74) C (n - 1 - j) 1 (cst (n - 1 - j)) rfl rfl (by omega) (by omega) rfl dX5_next_73 rfl ?_
        refine x_aload_n (q := 75) C 3 rfl dX5_next_74 rfl ?_
        refine x_get (q := 78) C (T := TX5) iw_X5_next_X5 rfl 0 12 rfl (by decide) rfl (by decide +kernel : Cond.fieldLink RX5 34 RX5 "costs" "[I" ∈ wsX5_next) rfl dX5_next_75 rfl ?_
        refine x_iload_n (q := 79) C 2 rfl dX5_next_78 rfl ?_
        refine x_ialdN (q := 80) C f 1 (cst f) rfl rfl (by omega) (by omega) rfl dX5_next_79 rfl ?_
        refine x_icmp_gt (q := 83) C 87 dX5_next_80 (by decide) rfl (fun c_80 => ?_) (fun c_80 => ?_)
        · refine x_iload_n (q := 88) C 2 rfl dX5_next_87 rfl ?_
          refine x_istore_n (q := 89) C [(2, .int (nI f)), (4, .int 1), (3, .int (nI (n - 1 - j))), (0, .ref qo), (1, .int (nI z))] dX5_next_88 (by decide) rfl rfl ?_
          refine x_iinc (q := 92) C 2 (nI (n - (j + 1)) + (-1)) [(3, .int (nI (n - (j + 1)) + (-1))), (2, .int (nI f)), (4, .int 1), (0, .ref qo), (1, .int (nI z))] dX5_next_89 rfl (by rw [show n - (j + 1) = n - 1 - j by omega]; rfl) (by decide) rfl rfl ?_
          refine x_goto C 9 dX5_next_92 (by decide) ?_
          refine x_less [0, 1, 3, 4] [(3, .int (nI (n - (j + 1)) + (-1))), (2, .int (nI f)), (0, .ref qo), (1, .int (nI z))] rfl ?_
          have e9 : itr (nxStep n cst (some z)) none (j + 1) = some f := by
            show nxStep n cst (some z) j (itr (nxStep n cst (some z)) none j) = _
            rw [hf]
            first
            | (simp [nxStep, nxB, c_29, c_80]; done)
            | (simp only [nxStep, nxB, if_pos c_29, if_pos c_80, eq_self, if_true, Bool.false_eq_true, if_false]; done)
          refine x_less [0, 1, 2, 3] [(3, .int (nI (n - (j + 1)) + (-1))), (2, .int (eO (itr (nxStep n cst (some z)) none (j + 1)))), (0, .ref qo), (1, .int (nI z))] (by rw [e9]; rfl) ?_
          exact ih_j
        · refine x_iload_n (q := 84) C 1 rfl dX5_next_83 rfl ?_
          refine x_goto C 88 dX5_next_84 (by decide) ?_
          refine x_istore_n (q := 89) C [(2, .int (nI (n - 1 - j))), (4, .int 1), (3, .int (nI (n - 1 - j))), (0, .ref qo), (1, .int (nI z))] dX5_next_88 (by decide) rfl rfl ?_
          refine x_iinc (q := 92) C 2 (nI (n - (j + 1)) + (-1)) [(3, .int (nI (n - (j + 1)) + (-1))), (2, .int (nI (n - 1 - j))), (4, .int 1), (0, .ref qo), (1, .int (nI z))] dX5_next_89 rfl (by rw [show n - (j + 1) = n - 1 - j by omega]; rfl) (by decide) rfl rfl ?_
          refine x_goto C 9 dX5_next_92 (by decide) ?_
          refine x_less [0, 1, 3, 4] [(3, .int (nI (n - (j + 1)) + (-1))), (2, .int (nI (n - 1 - j))), (0, .ref qo), (1, .int (nI z))] rfl ?_
          have e9 : itr (nxStep n cst (some z)) none (j + 1) = some (n - 1 - j) := by
            show nxStep n cst (some z) j (itr (nxStep n cst (some z)) none j) = _
            rw [hf]
            first
            | (simp [nxStep, nxB, c_29, c_80]; done)
            | (simp only [nxStep, nxB, if_pos c_29, if_neg c_80, eq_self, if_true, Bool.false_eq_true, if_false]; done)
          refine x_less [0, 1, 2, 3] [(3, .int (nI (n - (j + 1)) + (-1))), (2, .int (eO (itr (nxStep n cst (some z)) none (j + 1)))), (0, .ref qo), (1, .int (nI z))] (by rw [e9]; rfl) ?_
          exact ih_j
      · refine x_aload_n (q := 33) C 2 rfl dX5_next_32 rfl ?_
        refine x_get (q := 36) C (T := TX5) iw_X5_next_X5 rfl 0 12 rfl (by decide) rfl (by decide +kernel : Cond.fieldLink RX5 34 RX5 "costs" "[I" ∈ wsX5_next) rfl dX5_next_33 rfl ?_
        refine x_iload_n (q := 37) C 0 rfl dX5_next_36 rfl ?_
        refine x_ialdN (q := 38) C (n - 1 - j) 1 (cst (n - 1 - j)) rfl rfl (by omega) (by omega) rfl dX5_next_37 rfl ?_
        refine x_aload_n (q := 39) C 2 rfl dX5_next_38 rfl ?_
        refine x_get (q := 42) C (T := TX5) iw_X5_next_X5 rfl 0 12 rfl (by decide) rfl (by decide +kernel : Cond.fieldLink RX5 34 RX5 "costs" "[I" ∈ wsX5_next) rfl dX5_next_39 rfl ?_
        refine x_iload_n (q := 43) C 3 rfl dX5_next_42 rfl ?_
        refine x_ialdN (q := 44) C z 1 (cst z) rfl rfl (by omega) (by omega) rfl dX5_next_43 rfl ?_
        refine x_icmp_ne (q := 47) C 56 dX5_next_44 (by decide) rfl (fun c_44 => ?_) (fun c_44 => ?_)
        · refine x_iconst (q := 57) C 0 rfl dX5_next_56 rfl ?_
          refine x_istore (q := 59) C [(4, .int 0), (3, .int (nI (n - 1 - j))), (2, .int (nI f)), (0, .ref qo), (1, .int (nI z))] dX5_next_57 (by decide) rfl rfl ?_
          refine x_iload (q := 61) C 0 rfl dX5_next_59 rfl ?_
          refine x_if_eq_t C 87 dX5_next_61 (by decide) (by decide) ?_
          refine x_iload_n (q := 88) C 2 rfl dX5_next_87 rfl ?_
          refine x_istore_n (q := 89) C [(2, .int (nI f)), (4, .int 0), (3, .int (nI (n - 1 - j))), (0, .ref qo), (1, .int (nI z))] dX5_next_88 (by decide) rfl rfl ?_
          refine x_iinc (q := 92) C 2 (nI (n - (j + 1)) + (-1)) [(3, .int (nI (n - (j + 1)) + (-1))), (2, .int (nI f)), (4, .int 0), (0, .ref qo), (1, .int (nI z))] dX5_next_89 rfl (by rw [show n - (j + 1) = n - 1 - j by omega]; rfl) (by decide) rfl rfl ?_
          refine x_goto C 9 dX5_next_92 (by decide) ?_
          refine x_less [0, 1, 3, 4] [(3, .int (nI (n - (j + 1)) + (-1))), (2, .int (nI f)), (0, .ref qo), (1, .int (nI z))] rfl ?_
          have e9 : itr (nxStep n cst (some z)) none (j + 1) = some f := by
            show nxStep n cst (some z) j (itr (nxStep n cst (some z)) none j) = _
            rw [hf]
            first
            | (simp [nxStep, nxB, c_29, c_44]; done)
            | (simp only [nxStep, nxB, if_neg c_29, if_neg c_44, eq_self, if_true, Bool.false_eq_true, if_false]; done)
          refine x_less [0, 1, 2, 3] [(3, .int (nI (n - (j + 1)) + (-1))), (2, .int (eO (itr (nxStep n cst (some z)) none (j + 1)))), (0, .ref qo), (1, .int (nI z))] (by rw [e9]; rfl) ?_
          exact ih_j
        · refine x_iload_n (q := 48) C 0 rfl dX5_next_47 rfl ?_
          refine x_iload_n (q := 49) C 3 rfl dX5_next_48 rfl ?_
          refine x_icmp_le (q := 52) C 56 dX5_next_49 (by decide) rfl (fun c_49 => ?_) (fun c_49 => ?_)
          · have c_49 : n - 1 - j ≤ z := (nI_leI (by omega) (by omega)).mp c_49
            refine x_iconst (q := 57) C 0 rfl dX5_next_56 rfl ?_
            refine x_istore (q := 59) C [(4, .int 0), (3, .int (nI (n - 1 - j))), (2, .int (nI f)), (0, .ref qo), (1, .int (nI z))] dX5_next_57 (by decide) rfl rfl ?_
            refine x_iload (q := 61) C 0 rfl dX5_next_59 rfl ?_
            refine x_if_eq_t C 87 dX5_next_61 (by decide) (by decide) ?_
            refine x_iload_n (q := 88) C 2 rfl dX5_next_87 rfl ?_
            refine x_istore_n (q := 89) C [(2, .int (nI f)), (4, .int 0), (3, .int (nI (n - 1 - j))), (0, .ref qo), (1, .int (nI z))] dX5_next_88 (by decide) rfl rfl ?_
            refine x_iinc (q := 92) C 2 (nI (n - (j + 1)) + (-1)) [(3, .int (nI (n - (j + 1)) + (-1))), (2, .int (nI f)), (4, .int 0), (0, .ref qo), (1, .int (nI z))] dX5_next_89 rfl (by rw [show n - (j + 1) = n - 1 - j by omega]; rfl) (by decide) rfl rfl ?_
            refine x_goto C 9 dX5_next_92 (by decide) ?_
            refine x_less [0, 1, 3, 4] [(3, .int (nI (n - (j + 1)) + (-1))), (2, .int (nI f)), (0, .ref qo), (1, .int (nI z))] rfl ?_
            have e9 : itr (nxStep n cst (some z)) none (j + 1) = some f := by
              show nxStep n cst (some z) j (itr (nxStep n cst (some z)) none j) = _
              rw [hf]
              first
              | (simp [nxStep, nxB, c_29, c_44, c_49]; done)
              | (simp only [nxStep, nxB, if_neg c_29, if_pos c_44, if_pos c_49, eq_self, if_true, Bool.false_eq_true, if_false]; done)
            refine x_less [0, 1, 2, 3] [(3, .int (nI (n - (j + 1)) + (-1))), (2, .int (eO (itr (nxStep n cst (some z)) none (j + 1)))), (0, .ref qo), (1, .int (nI z))] (by rw [e9]; rfl) ?_
            exact ih_j
          · have c_49 : ¬ n - 1 - j ≤ z := fun h8 => c_49 ((nI_leI (by omega) (by omega)).mpr h8)
            refine x_iconst (q := 53) C 1 rfl dX5_next_52 rfl ?_
            refine x_goto C 57 dX5_next_53 (by decide) ?_
            refine x_istore (q := 59) C [(4, .int 1), (3, .int (nI (n - 1 - j))), (2, .int (nI f)), (0, .ref qo), (1, .int (nI z))] dX5_next_57 (by decide) rfl rfl ?_
            refine x_iload (q := 61) C 0 rfl dX5_next_59 rfl ?_
            refine x_if_eq_f (q := 64) C 87 dX5_next_61 (by decide) rfl (by decide) ?_
            refine x_iload_n (q := 65) C 2 rfl dX5_next_64 rfl ?_
            refine x_if_lt_f (q := 68) C 83 dX5_next_65 (by decide) rfl (nI_nlt (a := f) (b := 0) (by omega) (by omega)) ?_
            refine x_aload_n (q := 69) C 3 rfl dX5_next_68 rfl ?_
            refine x_get (q := 72) C (T := TX5) iw_X5_next_X5 rfl 0 12 rfl (by decide) rfl (by decide +kernel : Cond.fieldLink RX5 34 RX5 "costs" "[I" ∈ wsX5_next) rfl dX5_next_69 rfl ?_
            refine x_iload_n (q := 73) C 1 rfl dX5_next_72 rfl ?_
            refine x_ialdN (q := 74) C (n - 1 - j) 1 (cst (n - 1 - j)) rfl rfl (by omega) (by omega) rfl dX5_next_73 rfl ?_
            refine x_aload_n (q := 75) C 3 rfl dX5_next_74 rfl ?_
            refine x_get (q := 78) C (T := TX5) iw_X5_next_X5 rfl 0 12 rfl (by decide) rfl (by decide +kernel : Cond.fieldLink RX5 34 RX5 "costs" "[I" ∈ wsX5_next) rfl dX5_next_75 rfl ?_
            refine x_iload_n (q := 79) C 2 rfl dX5_next_78 rfl ?_
            refine x_ialdN (q := 80) C f 1 (cst f) rfl rfl (by omega) (by omega) rfl dX5_next_79 rfl ?_
            refine x_icmp_gt (q := 83) C 87 dX5_next_80 (by decide) rfl (fun c_80 => ?_) (fun c_80 => ?_)
            · refine x_iload_n (q := 88) C 2 rfl dX5_next_87 rfl ?_
              refine x_istore_n (q := 89) C [(2, .int (nI f)), (4, .int 1), (3, .int (nI (n - 1 - j))), (0, .ref qo), (1, .int (nI z))] dX5_next_88 (by decide) rfl rfl ?_
              refine x_iinc (q := 92) C 2 (nI (n - (j + 1)) + (-1)) [(3, .int (nI (n - (j + 1)) + (-1))), (2, .int (nI f)), (4, .int 1), (0, .ref qo), (1, .int (nI z))] dX5_next_89 rfl (by rw [show n - (j + 1) = n - 1 - j by omega]; rfl) (by decide) rfl rfl ?_
              refine x_goto C 9 dX5_next_92 (by decide) ?_
              refine x_less [0, 1, 3, 4] [(3, .int (nI (n - (j + 1)) + (-1))), (2, .int (nI f)), (0, .ref qo), (1, .int (nI z))] rfl ?_
              have e9 : itr (nxStep n cst (some z)) none (j + 1) = some f := by
                show nxStep n cst (some z) j (itr (nxStep n cst (some z)) none j) = _
                rw [hf]
                first
                | (simp [nxStep, nxB, c_29, c_44, c_49, c_80]; done)
                | (simp only [nxStep, nxB, if_neg c_29, if_pos c_44, if_neg c_49, if_pos c_80, eq_self, if_true, Bool.false_eq_true, if_false]; done)
              refine x_less [0, 1, 2, 3] [(3, .int (nI (n - (j + 1)) + (-1))), (2, .int (eO (itr (nxStep n cst (some z)) none (j + 1)))), (0, .ref qo), (1, .int (nI z))] (by rw [e9]; rfl) ?_
              exact ih_j
            · refine x_iload_n (q := 84) C 1 rfl dX5_next_83 rfl ?_
              refine x_goto C 88 dX5_next_84 (by decide) ?_
              refine x_istore_n (q := 89) C [(2, .int (nI (n - 1 - j))), (4, .int 1), (3, .int (nI (n - 1 - j))), (0, .ref qo), (1, .int (nI z))] dX5_next_88 (by decide) rfl rfl ?_
              refine x_iinc (q := 92) C 2 (nI (n - (j + 1)) + (-1)) [(3, .int (nI (n - (j + 1)) + (-1))), (2, .int (nI (n - 1 - j))), (4, .int 1), (0, .ref qo), (1, .int (nI z))] dX5_next_89 rfl (by rw [show n - (j + 1) = n - 1 - j by omega]; rfl) (by decide) rfl rfl ?_
              refine x_goto C 9 dX5_next_92 (by decide) ?_
              refine x_less [0, 1, 3, 4] [(3, .int (nI (n - (j + 1)) + (-1))), (2, .int (nI (n - 1 - j))), (0, .ref qo), (1, .int (nI z))] rfl ?_
              have e9 : itr (nxStep n cst (some z)) none (j + 1) = some (n - 1 - j) := by
                show nxStep n cst (some z) j (itr (nxStep n cst (some z)) none j) = _
                rw [hf]
                first
                | (simp [nxStep, nxB, c_29, c_44, c_49, c_80]; done)
                | (simp only [nxStep, nxB, if_neg c_29, if_pos c_44, if_neg c_49, if_neg c_80, eq_self, if_true, Bool.false_eq_true, if_false]; done)
              refine x_less [0, 1, 2, 3] [(3, .int (nI (n - (j + 1)) + (-1))), (2, .int (eO (itr (nxStep n cst (some z)) none (j + 1)))), (0, .ref qo), (1, .int (nI z))] (by rw [e9]; rfl) ?_
              exact ih_j
  · refine x_iload_n (q := 10) C 0 rfl dX5_next_9 rfl ?_
    refine x_if_lt_t C 95 dX5_next_10 (by decide) (by rw [Nat.sub_self]; decide) ?_
    refine x_iload_n (q := 96) C 1 rfl dX5_next_95 rfl ?_
    exact x_iret C .int rfl rfl (⟨rfl, rfl⟩) dX5_next_96 (Nat.le_of_ble_eq_true rfl) (Nat.le_of_ble_eq_true rfl)
