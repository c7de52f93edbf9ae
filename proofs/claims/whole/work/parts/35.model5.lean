theorem iw_X5_bills_X5 : ∀ w ∈ wsX50, w ∈ wsX5_bills := by decide +kernel
set_option maxHeartbeats 4000000 in
set_option maxRecDepth 100000 in
theorem c_X5_bills {l : Launch} {D : va_G} {cy : ClassId × ClassId × ClassId} (qo qF qL qA qE qH qB qS qP qC qT qD qR qX qG qM qU n : Nat) (th hh tt mc ml : Int32) (ar b stp pow ht go : Nat → Int32) (w t : Int32) (hn4 : n ≤ 4) : xM false l yX5_bills wsX5_bills ({ frames := 1, cells := 0, slots := 0, locals := 22 }) D cy [.ref qo, .int w, .int t] ([(qo, .inr (5, [.int th, .int hh, .int tt, .ref qF, .ref qL, .ref qA, .ref qE, .ref qH, .ref qB, .int (nI n), .ref qS, .ref qP, .ref qC, .int mc, .ref qT, .ref qD, .ref qR, .ref qX, .ref qG, .ref qM, .ref qU, .int ml])), (qA, .inl (cy.1, 12, .inl ar)), (qB, .inl (cy.1, 12, .inl b)), (qS, .inl (cy.1, 4, .inl stp)), (qP, .inl (cy.1, 4, .inl pow)), (qT, .inl (cy.2.1, 12, .inl ht)), (qG, .inl (cy.1, 12, .inl go))]) (xQv D (fun w1 => w1 = [(qo, .inr (5, [.int th, .int hh, .int tt, .ref qF, .ref qL, .ref qA, .ref qE, .ref qH, .ref qB, .int (nI n), .ref qS, .ref qP, .ref qC, .int mc, .ref qT, .ref qD, .ref qR, .ref qX, .ref qG, .ref qM, .ref qU, .int ml])), (qA, .inl (cy.1, 12, .inl ar)), (qB, .inl (cy.1, 12, .inl (mbFun ht go ar t (mPr w (mpFun stp pow n)) b))), (qS, .inl (cy.1, 4, .inl stp)), (qP, .inl (cy.1, 4, .inl pow)), (qT, .inl (cy.2.1, 12, .inl ht)), (qG, .inl (cy.1, 12, .inl go))])) 0 0 := by
  refine xM_of (X := [(qo, .inr (5, [.int th, .int hh, .int tt, .ref qF, .ref qL, .ref qA, .ref qE, .ref qH, .ref qB, .int (nI n), .ref qS, .ref qP, .ref qC, .int mc, .ref qT, .ref qD, .ref qR, .ref qX, .ref qG, .ref qM, .ref qU, .int ml])), (qA, .inl (cy.1, 12, .inl ar)), (qB, .inl (cy.1, 12, .inl b)), (qS, .inl (cy.1, 4, .inl stp)), (qP, .inl (cy.1, 4, .inl pow)), (qT, .inl (cy.2.1, 12, .inl ht)), (qG, .inl (cy.1, 12, .inl go))]) (pl := []) (nL := 6) (ret := none) RX5 [(0, .ref qo), (1, .int w), (2, .int t)] (by decide +kernel) rfl rfl rfl (Nat.le_of_ble_eq_true rfl) (List.append_nil _).symm (fun p e s m args below meth c A C hname hT hZ => ?_)
  refine x_join 15 (fun v => v = mPr w (mpFun stp pow n)) [] (fun v hv => ?_) (fun J_0 => ?_)
  · subst hv
    refine x_istore_n (q := 16) C [(3, .int (mPr w (mpFun stp pow n))), (0, .ref qo), (1, .int w), (2, .int t)] dX5_bills_15 (by decide) rfl rfl ?_
    refine x_iconst (q := 17) C 1 rfl dX5_bills_16 rfl ?_
    refine x_istore (q := 19) C [(4, .int 1), (3, .int (mPr w (mpFun stp pow n))), (0, .ref qo), (1, .int w), (2, .int t)] dX5_bills_17 (by decide) rfl rfl ?_
    refine x_less [0, 1, 2, 4] [(4, .int 1), (3, .int (mPr w (mpFun stp pow n))), (0, .ref qo), (2, .int t)] rfl ?_
    refine x_up (fun j => [(qo, .inr (5, [.int th, .int hh, .int tt, .ref qF, .ref qL, .ref qA, .ref qE, .ref qH, .ref qB, .int (nI n), .ref qS, .ref qP, .ref qC, .int mc, .ref qT, .ref qD, .ref qR, .ref qX, .ref qG, .ref qM, .ref qU, .int ml])), (qA, .inl (cy.1, 12, .inl ar)), (qB, .inl (cy.1, 12, .inl (itr (mbStep ht go ar t (mPr w (mpFun stp pow n))) b j))), (qS, .inl (cy.1, 4, .inl stp)), (qP, .inl (cy.1, 4, .inl pow)), (qT, .inl (cy.2.1, 12, .inl ht)), (qG, .inl (cy.1, 12, .inl go))]) (fun j => [(4, .int (nI (j + 1))), (3, .int (mPr w (mpFun stp pow n))), (0, .ref qo), (2, .int t)]) 11 rfl rfl (fun j h_j ih_j => ?_) ?_
    · refine x_iload (q := 21) C 0 rfl dX5_bills_19 rfl ?_
      refine x_bipush (q := 23) C 12 rfl dX5_bills_21 rfl ?_
      refine x_icmp_ge_f (q := 26) C 93 dX5_bills_23 (by decide) rfl (nI_ge (a := (j + 1)) (b := 12) (by omega) (by omega)) ?_
      refine x_aload_n (q := 27) C 2 rfl dX5_bills_26 rfl ?_
      refine x_get (q := 30) C (T := TX5) iw_X5_bills_X5 rfl 0 14 rfl (by decide) rfl (by decide +kernel : Cond.fieldLink RX5 37 RX5 "hasHeat" "[Z" ∈ wsX5_bills) rfl dX5_bills_27 rfl ?_
      refine x_iload (q := 32) C 0 rfl dX5_bills_30 rfl ?_
      refine x_zaldN (q := 33) C (j + 1) 5 (ht (j + 1)) rfl rfl (by omega) (by omega) rfl dX5_bills_32 rfl ?_
      refine x_if_ne (q := 36) C 54 dX5_bills_33 (by decide) rfl (fun c_33 => ?_) (fun c_33 => ?_)
      · refine x_iconst (q := 55) C 0 rfl dX5_bills_54 rfl ?_
        refine x_istore (q := 57) C [(5, .int 0), (4, .int (nI (j + 1))), (3, .int (mPr w (mpFun stp pow n))), (0, .ref qo), (2, .int t)] dX5_bills_55 (by decide) rfl rfl ?_
        refine x_aload_n (q := 58) C 3 rfl dX5_bills_57 rfl ?_
        refine x_get (q := 61) C (T := TX5) iw_X5_bills_X5 rfl 0 8 rfl (by decide) rfl (by decide +kernel : Cond.fieldLink RX5 25 RX5 "bills" "[I" ∈ wsX5_bills) rfl dX5_bills_58 rfl ?_
        refine x_iload (q := 63) C 1 rfl dX5_bills_61 rfl ?_
        refine x_dup2 (q := 64) C rfl rfl dX5_bills_63 rfl ?_
        refine x_ialdN (q := 65) C (j + 1) 2 ((itr (mbStep ht go ar t (mPr w (mpFun stp pow n))) b j) (j + 1)) rfl rfl (by omega) (by omega) rfl dX5_bills_64 rfl ?_
        refine x_iload_n (q := 66) C 2 rfl dX5_bills_65 rfl ?_
        refine x_aload_n (q := 67) C 3 rfl dX5_bills_66 rfl ?_
        refine x_get (q := 70) C (T := TX5) iw_X5_bills_X5 rfl 0 18 rfl (by decide) rfl (by decide +kernel : Cond.fieldLink RX5 50 RX5 "got" "[I" ∈ wsX5_bills) rfl dX5_bills_67 rfl ?_
        refine x_iload (q := 72) C 1 rfl dX5_bills_70 rfl ?_
        refine x_ialdN (q := 73) C (j + 1) 6 (go (j + 1)) rfl rfl (by omega) (by omega) rfl dX5_bills_72 rfl ?_
        refine x_imul (q := 74) C ((mPr w (mpFun stp pow n)) * (go (j + 1))) (rfl) dX5_bills_73 rfl ?_
        refine x_iload (q := 76) C 0 rfl dX5_bills_74 rfl ?_
        refine x_if_eq_t C 83 dX5_bills_76 (by decide) (by decide) ?_
        refine x_iconst (q := 84) C 0 rfl dX5_bills_83 rfl ?_
        refine x_isub (q := 85) C (((mPr w (mpFun stp pow n)) * (go (j + 1))) - 0) (rfl) dX5_bills_84 rfl ?_
        refine x_iadd (q := 86) C (((itr (mbStep ht go ar t (mPr w (mpFun stp pow n))) b j) (j + 1)) + (((mPr w (mpFun stp pow n)) * (go (j + 1))) - 0)) (rfl) dX5_bills_85 rfl ?_
        refine x_iastN (q := 87) C (j + 1) 2 (upd (itr (mbStep ht go ar t (mPr w (mpFun stp pow n))) b j) (j + 1) (((itr (mbStep ht go ar t (mPr w (mpFun stp pow n))) b j) (j + 1)) + (((mPr w (mpFun stp pow n)) * (go (j + 1))) - 0))) [(qo, .inr (5, [.int th, .int hh, .int tt, .ref qF, .ref qL, .ref qA, .ref qE, .ref qH, .ref qB, .int (nI n), .ref qS, .ref qP, .ref qC, .int mc, .ref qT, .ref qD, .ref qR, .ref qX, .ref qG, .ref qM, .ref qU, .int ml])), (qA, .inl (cy.1, 12, .inl ar)), (qB, .inl (cy.1, 12, .inl (upd (itr (mbStep ht go ar t (mPr w (mpFun stp pow n))) b j) (j + 1) (((itr (mbStep ht go ar t (mPr w (mpFun stp pow n))) b j) (j + 1)) + (((mPr w (mpFun stp pow n)) * (go (j + 1))) - 0))))), (qS, .inl (cy.1, 4, .inl stp)), (qP, .inl (cy.1, 4, .inl pow)), (qT, .inl (cy.2.1, 12, .inl ht)), (qG, .inl (cy.1, 12, .inl go))] rfl rfl (by omega) (by omega) rfl rfl dX5_bills_86 rfl ?_
        refine x_iinc (q := 90) C 1 (nI ((j + 1) + 1)) [(4, .int (nI ((j + 1) + 1))), (5, .int 0), (3, .int (mPr w (mpFun stp pow n))), (0, .ref qo), (2, .int t)] dX5_bills_87 rfl (nI_1 _) (by decide) rfl rfl ?_
        refine x_goto C 19 dX5_bills_90 (by decide) ?_
        refine x_less [0, 2, 3, 4] [(4, .int (nI ((j + 1) + 1))), (3, .int (mPr w (mpFun stp pow n))), (0, .ref qo), (2, .int t)] rfl ?_
        have e9 : itr (mbStep ht go ar t (mPr w (mpFun stp pow n))) b (j + 1) = upd (itr (mbStep ht go ar t (mPr w (mpFun stp pow n))) b j) (j + 1) (((itr (mbStep ht go ar t (mPr w (mpFun stp pow n))) b j) (j + 1)) + (((mPr w (mpFun stp pow n)) * (go (j + 1))) - 0)) := by
          show mbStep ht go ar t (mPr w (mpFun stp pow n)) j (itr (mbStep ht go ar t (mPr w (mpFun stp pow n))) b j) = _
          simp only [mbStep, if_neg c_33]
        refine x_less [0, 1, 2, 3] [(4, .int (nI ((j + 1) + 1))), (3, .int (mPr w (mpFun stp pow n))), (0, .ref qo), (2, .int t)] (by first | rfl | (rw [e9]; rfl)) ?_
        refine x_world (X' := [(qo, .inr (5, [.int th, .int hh, .int tt, .ref qF, .ref qL, .ref qA, .ref qE, .ref qH, .ref qB, .int (nI n), .ref qS, .ref qP, .ref qC, .int mc, .ref qT, .ref qD, .ref qR, .ref qX, .ref qG, .ref qM, .ref qU, .int ml])), (qA, .inl (cy.1, 12, .inl ar)), (qB, .inl (cy.1, 12, .inl (itr (mbStep ht go ar t (mPr w (mpFun stp pow n))) b (j + 1)))), (qS, .inl (cy.1, 4, .inl stp)), (qP, .inl (cy.1, 4, .inl pow)), (qT, .inl (cy.2.1, 12, .inl ht)), (qG, .inl (cy.1, 12, .inl go))]) (pl' := []) (by first | rfl | rw [e9]) ?_
        exact ih_j
      · refine x_aload_n (q := 37) C 2 rfl dX5_bills_36 rfl ?_
        refine x_get (q := 40) C (T := TX5) iw_X5_bills_X5 rfl 0 5 rfl (by decide) rfl (by decide +kernel : Cond.fieldLink RX5 16 RX5 "areas" "[I" ∈ wsX5_bills) rfl dX5_bills_37 rfl ?_
        refine x_iload (q := 42) C 0 rfl dX5_bills_40 rfl ?_
        refine x_ialdN (q := 43) C (j + 1) 1 (ar (j + 1)) rfl rfl (by omega) (by omega) rfl dX5_bills_42 rfl ?_
        refine x_iload_n (q := 44) C 3 rfl dX5_bills_43 rfl ?_
        refine x_CiP (q := 47) C [] [0, 1, 2, 3, 4, 5, 6] (cx := []) (wr := [(qo, .inr (5, [.int th, .int hh, .int tt, .ref qF, .ref qL, .ref qA, .ref qE, .ref qH, .ref qB, .int (nI n), .ref qS, .ref qP, .ref qC, .int mc, .ref qT, .ref qD, .ref qR, .ref qX, .ref qG, .ref qM, .ref qU, .int ml])), (qA, .inl (cy.1, 12, .inl ar)), (qB, .inl (cy.1, 12, .inl (itr (mbStep ht go ar t (mPr w (mpFun stp pow n))) b j))), (qS, .inl (cy.1, 4, .inl stp)), (qP, .inl (cy.1, 4, .inl pow)), (qT, .inl (cy.2.1, 12, .inl ht)), (qG, .inl (cy.1, 12, .inl go))]) (st := []) rfl rfl rfl rfl (by decide) (fun H locs ls hP hPc hDc hS hFc hl => x_runS C (As := [.int (ar (j + 1)), .int t]) (c_X5_need (ar (j + 1)) t) (va_cwS 2 C.2.2.2.2.2.1 gX5_bills_X5_need rfl rfl rfl (by decide +kernel) ⟨Nat.le_of_ble_eq_true rfl, Nat.le_of_ble_eq_true rfl⟩) rfl rfl (Nat.le_of_ble_eq_true rfl) dX5_bills_44 ⟨Nat.le_of_ble_eq_true rfl, Nat.le_of_ble_eq_true rfl⟩ (fun h => absurd h (by decide)) hP hPc hDc hS hFc hl) (k := 0) (n := 0) rfl rfl rfl (fun r_44 w1 hw => ?_)
        obtain ⟨rfl, rfl⟩ := hw
        refine x_ord [0, 1, 2, 3, 4, 5, 6] [(qo, .inr (5, [.int th, .int hh, .int tt, .ref qF, .ref qL, .ref qA, .ref qE, .ref qH, .ref qB, .int (nI n), .ref qS, .ref qP, .ref qC, .int mc, .ref qT, .ref qD, .ref qR, .ref qX, .ref qG, .ref qM, .ref qU, .int ml])), (qA, .inl (cy.1, 12, .inl ar)), (qB, .inl (cy.1, 12, .inl (itr (mbStep ht go ar t (mPr w (mpFun stp pow n))) b j))), (qS, .inl (cy.1, 4, .inl stp)), (qP, .inl (cy.1, 4, .inl pow)), (qT, .inl (cy.2.1, 12, .inl ht)), (qG, .inl (cy.1, 12, .inl go))] rfl rfl ?_
        refine x_if_le (q := 50) C 54 dX5_bills_47 (by decide) rfl (fun c_47 => ?_) (fun c_47 => ?_)
        · refine x_iconst (q := 55) C 0 rfl dX5_bills_54 rfl ?_
          refine x_istore (q := 57) C [(5, .int 0), (4, .int (nI (j + 1))), (3, .int (mPr w (mpFun stp pow n))), (0, .ref qo), (2, .int t)] dX5_bills_55 (by decide) rfl rfl ?_
          refine x_aload_n (q := 58) C 3 rfl dX5_bills_57 rfl ?_
          refine x_get (q := 61) C (T := TX5) iw_X5_bills_X5 rfl 0 8 rfl (by decide) rfl (by decide +kernel : Cond.fieldLink RX5 25 RX5 "bills" "[I" ∈ wsX5_bills) rfl dX5_bills_58 rfl ?_
          refine x_iload (q := 63) C 1 rfl dX5_bills_61 rfl ?_
          refine x_dup2 (q := 64) C rfl rfl dX5_bills_63 rfl ?_
          refine x_ialdN (q := 65) C (j + 1) 2 ((itr (mbStep ht go ar t (mPr w (mpFun stp pow n))) b j) (j + 1)) rfl rfl (by omega) (by omega) rfl dX5_bills_64 rfl ?_
          refine x_iload_n (q := 66) C 2 rfl dX5_bills_65 rfl ?_
          refine x_aload_n (q := 67) C 3 rfl dX5_bills_66 rfl ?_
          refine x_get (q := 70) C (T := TX5) iw_X5_bills_X5 rfl 0 18 rfl (by decide) rfl (by decide +kernel : Cond.fieldLink RX5 50 RX5 "got" "[I" ∈ wsX5_bills) rfl dX5_bills_67 rfl ?_
          refine x_iload (q := 72) C 1 rfl dX5_bills_70 rfl ?_
          refine x_ialdN (q := 73) C (j + 1) 6 (go (j + 1)) rfl rfl (by omega) (by omega) rfl dX5_bills_72 rfl ?_
          refine x_imul (q := 74) C ((mPr w (mpFun stp pow n)) * (go (j + 1))) (rfl) dX5_bills_73 rfl ?_
          refine x_iload (q := 76) C 0 rfl dX5_bills_74 rfl ?_
          refine x_if_eq_t C 83 dX5_bills_76 (by decide) (by decide) ?_
          refine x_iconst (q := 84) C 0 rfl dX5_bills_83 rfl ?_
          refine x_isub (q := 85) C (((mPr w (mpFun stp pow n)) * (go (j + 1))) - 0) (rfl) dX5_bills_84 rfl ?_
          refine x_iadd (q := 86) C (((itr (mbStep ht go ar t (mPr w (mpFun stp pow n))) b j) (j + 1)) + (((mPr w (mpFun stp pow n)) * (go (j + 1))) - 0)) (rfl) dX5_bills_85 rfl ?_
          refine x_iastN (q := 87) C (j + 1) 2 (upd (itr (mbStep ht go ar t (mPr w (mpFun stp pow n))) b j) (j + 1) (((itr (mbStep ht go ar t (mPr w (mpFun stp pow n))) b j) (j + 1)) + (((mPr w (mpFun stp pow n)) * (go (j + 1))) - 0))) [(qo, .inr (5, [.int th, .int hh, .int tt, .ref qF, .ref qL, .ref qA, .ref qE, .ref qH, .ref qB, .int (nI n), .ref qS, .ref qP, .ref qC, .int mc, .ref qT, .ref qD, .ref qR, .ref qX, .ref qG, .ref qM, .ref qU, .int ml])), (qA, .inl (cy.1, 12, .inl ar)), (qB, .inl (cy.1, 12, .inl (upd (itr (mbStep ht go ar t (mPr w (mpFun stp pow n))) b j) (j + 1) (((itr (mbStep ht go ar t (mPr w (mpFun stp pow n))) b j) (j + 1)) + (((mPr w (mpFun stp pow n)) * (go (j + 1))) - 0))))), (qS, .inl (cy.1, 4, .inl stp)), (qP, .inl (cy.1, 4, .inl pow)), (qT, .inl (cy.2.1, 12, .inl ht)), (qG, .inl (cy.1, 12, .inl go))] rfl rfl (by omega) (by omega) rfl rfl dX5_bills_86 rfl ?_
          refine x_iinc (q := 90) C 1 (nI ((j + 1) + 1)) [(4, .int (nI ((j + 1) + 1))), (5, .int 0), (3, .int (mPr w (mpFun stp pow n))), (0, .ref qo), (2, .int t)] dX5_bills_87 rfl (nI_1 _) (by decide) rfl rfl ?_
          refine x_goto C 19 dX5_bills_90 (by decide) ?_
          refine x_less [0, 2, 3, 4] [(4, .int (nI ((j + 1) + 1))), (3, .int (mPr w (mpFun stp pow n))), (0, .ref qo), (2, .int t)] rfl ?_
          have e9 : itr (mbStep ht go ar t (mPr w (mpFun stp pow n))) b (j + 1) = upd (itr (mbStep ht go ar t (mPr w (mpFun stp pow n))) b j) (j + 1) (((itr (mbStep ht go ar t (mPr w (mpFun stp pow n))) b j) (j + 1)) + (((mPr w (mpFun stp pow n)) * (go (j + 1))) - 0)) := by
            show mbStep ht go ar t (mPr w (mpFun stp pow n)) j (itr (mbStep ht go ar t (mPr w (mpFun stp pow n))) b j) = _
            simp only [mbStep, if_pos c_33, if_pos c_47]
          refine x_less [0, 1, 2, 3] [(4, .int (nI ((j + 1) + 1))), (3, .int (mPr w (mpFun stp pow n))), (0, .ref qo), (2, .int t)] (by first | rfl | (rw [e9]; rfl)) ?_
          refine x_world (X' := [(qo, .inr (5, [.int th, .int hh, .int tt, .ref qF, .ref qL, .ref qA, .ref qE, .ref qH, .ref qB, .int (nI n), .ref qS, .ref qP, .ref qC, .int mc, .ref qT, .ref qD, .ref qR, .ref qX, .ref qG, .ref qM, .ref qU, .int ml])), (qA, .inl (cy.1, 12, .inl ar)), (qB, .inl (cy.1, 12, .inl (itr (mbStep ht go ar t (mPr w (mpFun stp pow n))) b (j + 1)))), (qS, .inl (cy.1, 4, .inl stp)), (qP, .inl (cy.1, 4, .inl pow)), (qT, .inl (cy.2.1, 12, .inl ht)), (qG, .inl (cy.1, 12, .inl go))]) (pl' := []) (by first | rfl | rw [e9]) ?_
          exact ih_j
        · refine x_iconst (q := 51) C 1 rfl dX5_bills_50 rfl ?_
          refine x_goto C 55 dX5_bills_51 (by decide) ?_
          refine x_istore (q := 57) C [(5, .int 1), (4, .int (nI (j + 1))), (3, .int (mPr w (mpFun stp pow n))), (0, .ref qo), (2, .int t)] dX5_bills_55 (by decide) rfl rfl ?_
          refine x_aload_n (q := 58) C 3 rfl dX5_bills_57 rfl ?_
          refine x_get (q := 61) C (T := TX5) iw_X5_bills_X5 rfl 0 8 rfl (by decide) rfl (by decide +kernel : Cond.fieldLink RX5 25 RX5 "bills" "[I" ∈ wsX5_bills) rfl dX5_bills_58 rfl ?_
          refine x_iload (q := 63) C 1 rfl dX5_bills_61 rfl ?_
          refine x_dup2 (q := 64) C rfl rfl dX5_bills_63 rfl ?_
          refine x_ialdN (q := 65) C (j + 1) 2 ((itr (mbStep ht go ar t (mPr w (mpFun stp pow n))) b j) (j + 1)) rfl rfl (by omega) (by omega) rfl dX5_bills_64 rfl ?_
          refine x_iload_n (q := 66) C 2 rfl dX5_bills_65 rfl ?_
          refine x_aload_n (q := 67) C 3 rfl dX5_bills_66 rfl ?_
          refine x_get (q := 70) C (T := TX5) iw_X5_bills_X5 rfl 0 18 rfl (by decide) rfl (by decide +kernel : Cond.fieldLink RX5 50 RX5 "got" "[I" ∈ wsX5_bills) rfl dX5_bills_67 rfl ?_
          refine x_iload (q := 72) C 1 rfl dX5_bills_70 rfl ?_
          refine x_ialdN (q := 73) C (j + 1) 6 (go (j + 1)) rfl rfl (by omega) (by omega) rfl dX5_bills_72 rfl ?_
          refine x_imul (q := 74) C ((mPr w (mpFun stp pow n)) * (go (j + 1))) (rfl) dX5_bills_73 rfl ?_
          refine x_iload (q := 76) C 0 rfl dX5_bills_74 rfl ?_
          refine x_if_eq_f (q := 79) C 83 dX5_bills_76 (by decide) rfl (by decide) ?_
          refine x_iconst (q := 80) C 3 rfl dX5_bills_79 rfl ?_
          refine x_goto C 84 dX5_bills_80 (by decide) ?_
          refine x_isub (q := 85) C (((mPr w (mpFun stp pow n)) * (go (j + 1))) - 3) (rfl) dX5_bills_84 rfl ?_
          refine x_iadd (q := 86) C (((itr (mbStep ht go ar t (mPr w (mpFun stp pow n))) b j) (j + 1)) + (((mPr w (mpFun stp pow n)) * (go (j + 1))) - 3)) (rfl) dX5_bills_85 rfl ?_
          refine x_iastN (q := 87) C (j + 1) 2 (upd (itr (mbStep ht go ar t (mPr w (mpFun stp pow n))) b j) (j + 1) (((itr (mbStep ht go ar t (mPr w (mpFun stp pow n))) b j) (j + 1)) + (((mPr w (mpFun stp pow n)) * (go (j + 1))) - 3))) [(qo, .inr (5, [.int th, .int hh, .int tt, .ref qF, .ref qL, .ref qA, .ref qE, .ref qH, .ref qB, .int (nI n), .ref qS, .ref qP, .ref qC, .int mc, .ref qT, .ref qD, .ref qR, .ref qX, .ref qG, .ref qM, .ref qU, .int ml])), (qA, .inl (cy.1, 12, .inl ar)), (qB, .inl (cy.1, 12, .inl (upd (itr (mbStep ht go ar t (mPr w (mpFun stp pow n))) b j) (j + 1) (((itr (mbStep ht go ar t (mPr w (mpFun stp pow n))) b j) (j + 1)) + (((mPr w (mpFun stp pow n)) * (go (j + 1))) - 3))))), (qS, .inl (cy.1, 4, .inl stp)), (qP, .inl (cy.1, 4, .inl pow)), (qT, .inl (cy.2.1, 12, .inl ht)), (qG, .inl (cy.1, 12, .inl go))] rfl rfl (by omega) (by omega) rfl rfl dX5_bills_86 rfl ?_
          refine x_iinc (q := 90) C 1 (nI ((j + 1) + 1)) [(4, .int (nI ((j + 1) + 1))), (5, .int 1), (3, .int (mPr w (mpFun stp pow n))), (0, .ref qo), (2, .int t)] dX5_bills_87 rfl (nI_1 _) (by decide) rfl rfl ?_
          refine x_goto C 19 dX5_bills_90 (by decide) ?_
          refine x_less [0, 2, 3, 4] [(4, .int (nI ((j + 1) + 1))), (3, .int (mPr w (mpFun stp pow n))), (0, .ref qo), (2, .int t)] rfl ?_
          have e9 : itr (mbStep ht go ar t (mPr w (mpFun stp pow n))) b (j + 1) = upd (itr (mbStep ht go ar t (mPr w (mpFun stp pow n))) b j) (j + 1) (((itr (mbStep ht go ar t (mPr w (mpFun stp pow n))) b j) (j + 1)) + (((mPr w (mpFun stp pow n)) * (go (j + 1))) - 3)) := by
            show mbStep ht go ar t (mPr w (mpFun stp pow n)) j (itr (mbStep ht go ar t (mPr w (mpFun stp pow n))) b j) = _
            simp only [mbStep, if_pos c_33, if_neg c_47]
          refine x_less [0, 1, 2, 3] [(4, .int (nI ((j + 1) + 1))), (3, .int (mPr w (mpFun stp pow n))), (0, .ref qo), (2, .int t)] (by first | rfl | (rw [e9]; rfl)) ?_
          refine x_world (X' := [(qo, .inr (5, [.int th, .int hh, .int tt, .ref qF, .ref qL, .ref qA, .ref qE, .ref qH, .ref qB, .int (nI n), .ref qS, .ref qP, .ref qC, .int mc, .ref qT, .ref qD, .ref qR, .ref qX, .ref qG, .ref qM, .ref qU, .int ml])), (qA, .inl (cy.1, 12, .inl ar)), (qB, .inl (cy.1, 12, .inl (itr (mbStep ht go ar t (mPr w (mpFun stp pow n))) b (j + 1)))), (qS, .inl (cy.1, 4, .inl stp)), (qP, .inl (cy.1, 4, .inl pow)), (qT, .inl (cy.2.1, 12, .inl ht)), (qG, .inl (cy.1, 12, .inl go))]) (pl' := []) (by first | rfl | rw [e9]) ?_
          exact ih_j
    · refine x_iload (q := 21) C 0 rfl dX5_bills_19 rfl ?_
      refine x_bipush (q := 23) C 12 rfl dX5_bills_21 rfl ?_
      refine x_icmp_ge_t C 93 dX5_bills_23 (by decide) (nI_le (a := 12) (b := (11 + 1)) (by omega) (by omega)) ?_
      exact x_vret C rfl (rfl) dX5_bills_93 (Nat.le_of_ble_eq_true rfl) (Nat.le_of_ble_eq_true rfl)
  · refine x_iconst (q := 1) C 2 rfl dX5_bills_0 rfl ?_
    refine x_iload_n (q := 2) C 1 rfl dX5_bills_1 rfl ?_
    refine x_imul (q := 3) C (2 * w) (rfl) dX5_bills_2 rfl ?_
    refine x_aload_n (q := 4) C 0 rfl dX5_bills_3 rfl ?_
    refine x_CiP (q := 7) C [0, 3, 4] [1, 2, 5, 6] (cx := [(qo, .inr (5, [.int th, .int hh, .int tt, .ref qF, .ref qL, .ref qA, .ref qE, .ref qH, .ref qB, .int (nI n), .ref qS, .ref qP, .ref qC, .int mc, .ref qT, .ref qD, .ref qR, .ref qX, .ref qG, .ref qM, .ref qU, .int ml])), (qS, .inl (cy.1, 4, .inl stp)), (qP, .inl (cy.1, 4, .inl pow))]) (wr := [(qA, .inl (cy.1, 12, .inl ar)), (qB, .inl (cy.1, 12, .inl b)), (qT, .inl (cy.2.1, 12, .inl ht)), (qG, .inl (cy.1, 12, .inl go))]) (st := [.int (2 * w)]) rfl rfl rfl rfl (by decide) (fun H locs ls hP hPc hDc hS hFc hl => x_runV C (As := []) (c_X5_power qo qF qL qA qE qH qB qS qP qC qT qD qR qX qG qM qU n th hh tt mc ml stp pow hn4) (cwV 0 C.2.2.2.2.2.1 gX5_bills_X5_power rfl rfl rfl (by decide +kernel) ⟨Nat.le_of_ble_eq_true rfl, Nat.le_of_ble_eq_true rfl⟩) rfl 0 rfl rfl rfl (Nat.le_of_ble_eq_true rfl) dX5_bills_4 ⟨Nat.le_of_ble_eq_true rfl, Nat.le_of_ble_eq_true rfl⟩ (fun h => absurd h (by decide)) hP hPc hDc hS hFc hl) (k := 0) (n := 0) rfl rfl rfl (fun r_4 w1 hw => ?_)
    obtain ⟨rfl, rfl⟩ := hw
    refine x_ord [4, 0, 1, 5, 6, 2, 3] [(qo, .inr (5, [.int th, .int hh, .int tt, .ref qF, .ref qL, .ref qA, .ref qE, .ref qH, .ref qB, .int (nI n), .ref qS, .ref qP, .ref qC, .int mc, .ref qT, .ref qD, .ref qR, .ref qX, .ref qG, .ref qM, .ref qU, .int ml])), (qA, .inl (cy.1, 12, .inl ar)), (qB, .inl (cy.1, 12, .inl b)), (qS, .inl (cy.1, 4, .inl stp)), (qP, .inl (cy.1, 4, .inl pow)), (qT, .inl (cy.2.1, 12, .inl ht)), (qG, .inl (cy.1, 12, .inl go))] rfl rfl ?_
    refine x_icmp_le (q := 10) C 14 dX5_bills_7 (by decide) rfl (fun c_7 => ?_) (fun c_7 => ?_)
    · refine x_iconst (q := 15) C 2 rfl dX5_bills_14 rfl ?_
      exact J_0 _ (by simp only [mPr, if_pos c_7])
    · refine x_iconst (q := 11) C 3 rfl dX5_bills_10 rfl ?_
      refine x_goto C 15 dX5_bills_11 (by decide) ?_
      exact J_0 _ (by simp only [mPr, if_neg c_7])
