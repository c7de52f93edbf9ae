theorem iw_X5_measures_X5 : ∀ w ∈ wsX50, w ∈ wsX5_measures := by decide +kernel
set_option maxHeartbeats 4000000 in
set_option maxRecDepth 100000 in
theorem c_X5_measures {l : Launch} {D : va_G} {cy : ClassId × ClassId × ClassId} (qo qF qL qA qE qH qB qS qP qC qT qD qR qX qG qM qU n : Nat) (th hh tt mc ml : Int32) (sr : Nat → Nat) (lo er ca go me su : Nat → Int32) (hsr : ∀ j, 1 ≤ j → j < 12 → sr j < j) : xM false l yX5_measures wsX5_measures ({ frames := 0, cells := 0, slots := 0, locals := 0 }) D cy [.ref qo] ([(qo, .inr (5, [.int th, .int hh, .int tt, .ref qF, .ref qL, .ref qA, .ref qE, .ref qH, .ref qB, .int (nI n), .ref qS, .ref qP, .ref qC, .int mc, .ref qT, .ref qD, .ref qR, .ref qX, .ref qG, .ref qM, .ref qU, .int ml])), (qF, .inl (cy.1, 12, .inl (fun i => nI (sr i)))), (qL, .inl (cy.1, 12, .inl lo)), (qE, .inl (cy.1, 12, .inl er)), (qR, .inl (cy.2.1, 12, .inl ca)), (qG, .inl (cy.1, 12, .inl go)), (qM, .inl (cy.1, 12, .inl me)), (qU, .inl (cy.2.1, 12, .inl su))]) (xQv D (fun w => w = [(qo, .inr (5, [.int th, .int hh, .int tt, .ref qF, .ref qL, .ref qA, .ref qE, .ref qH, .ref qB, .int (nI n), .ref qS, .ref qP, .ref qC, .int mc, .ref qT, .ref qD, .ref qR, .ref qX, .ref qG, .ref qM, .ref qU, .int ml])), (qF, .inl (cy.1, 12, .inl (fun i => nI (sr i)))), (qL, .inl (cy.1, 12, .inl lo)), (qE, .inl (cy.1, 12, .inl er)), (qR, .inl (cy.2.1, 12, .inl ca)), (qG, .inl (cy.1, 12, .inl go)), (qM, .inl (cy.1, 12, .inl ((meFun sr lo ca er go me su).1))), (qU, .inl (cy.2.1, 12, .inl ((meFun sr lo ca er go me su).2)))])) 0 0 := by
  refine xM_of (X := [(qo, .inr (5, [.int th, .int hh, .int tt, .ref qF, .ref qL, .ref qA, .ref qE, .ref qH, .ref qB, .int (nI n), .ref qS, .ref qP, .ref qC, .int mc, .ref qT, .ref qD, .ref qR, .ref qX, .ref qG, .ref qM, .ref qU, .int ml])), (qF, .inl (cy.1, 12, .inl (fun i => nI (sr i)))), (qL, .inl (cy.1, 12, .inl lo)), (qE, .inl (cy.1, 12, .inl er)), (qR, .inl (cy.2.1, 12, .inl ca)), (qG, .inl (cy.1, 12, .inl go)), (qM, .inl (cy.1, 12, .inl me)), (qU, .inl (cy.2.1, 12, .inl su))]) (pl := []) (nL := 5) (ret := none) RX5 [(0, .ref qo)] (by decide +kernel) rfl rfl rfl (Nat.le_of_ble_eq_true rfl) (List.append_nil _).symm (fun p e s m args below meth c A C hname hT hZ => ?_)
  refine x_iconst (q := 1) C 1 rfl dX5_measures_0 rfl ?_
  refine x_istore_n (q := 2) C [(1, .int 1), (0, .ref qo)] dX5_measures_1 (by decide) rfl rfl ?_
  refine x_less [0, 1] [(1, .int 1), (0, .ref qo)] rfl ?_
  refine x_up (fun j => [(qo, .inr (5, [.int th, .int hh, .int tt, .ref qF, .ref qL, .ref qA, .ref qE, .ref qH, .ref qB, .int (nI n), .ref qS, .ref qP, .ref qC, .int mc, .ref qT, .ref qD, .ref qR, .ref qX, .ref qG, .ref qM, .ref qU, .int ml])), (qF, .inl (cy.1, 12, .inl (fun i => nI (sr i)))), (qL, .inl (cy.1, 12, .inl lo)), (qE, .inl (cy.1, 12, .inl er)), (qR, .inl (cy.2.1, 12, .inl ca)), (qG, .inl (cy.1, 12, .inl go)), (qM, .inl (cy.1, 12, .inl (itr (me1 go) me j))), (qU, .inl (cy.2.1, 12, .inl su))]) (fun j => [(1, .int (nI (j + 1))), (0, .ref qo)]) 11 rfl rfl (fun j h_j ih_j => ?_) ?_
  · refine x_iload_n (q := 3) C 0 rfl dX5_measures_2 rfl ?_
    refine x_bipush (q := 5) C 12 rfl dX5_measures_3 rfl ?_
    refine x_icmp_ge_f (q := 8) C 26 dX5_measures_5 (by decide) rfl (nI_ge (a := (j + 1)) (b := 12) (by omega) (by omega)) ?_
    refine x_aload_n (q := 9) C 1 rfl dX5_measures_8 rfl ?_
    refine x_get (q := 12) C (T := TX5) iw_X5_measures_X5 rfl 0 19 rfl (by decide) rfl (by decide +kernel : Cond.fieldLink RX5 53 RX5 "meters" "[I" ∈ wsX5_measures) rfl dX5_measures_9 rfl ?_
    refine x_iload_n (q := 13) C 0 rfl dX5_measures_12 rfl ?_
    refine x_aload_n (q := 14) C 1 rfl dX5_measures_13 rfl ?_
    refine x_get (q := 17) C (T := TX5) iw_X5_measures_X5 rfl 0 18 rfl (by decide) rfl (by decide +kernel : Cond.fieldLink RX5 50 RX5 "got" "[I" ∈ wsX5_measures) rfl dX5_measures_14 rfl ?_
    refine x_iload_n (q := 18) C 0 rfl dX5_measures_17 rfl ?_
    refine x_ialdN (q := 19) C (j + 1) 5 (go (j + 1)) rfl rfl (by omega) (by omega) rfl dX5_measures_18 rfl ?_
    refine x_iastN (q := 20) C (j + 1) 6 (upd (itr (me1 go) me j) (j + 1) (go (j + 1))) [(qo, .inr (5, [.int th, .int hh, .int tt, .ref qF, .ref qL, .ref qA, .ref qE, .ref qH, .ref qB, .int (nI n), .ref qS, .ref qP, .ref qC, .int mc, .ref qT, .ref qD, .ref qR, .ref qX, .ref qG, .ref qM, .ref qU, .int ml])), (qF, .inl (cy.1, 12, .inl (fun i => nI (sr i)))), (qL, .inl (cy.1, 12, .inl lo)), (qE, .inl (cy.1, 12, .inl er)), (qR, .inl (cy.2.1, 12, .inl ca)), (qG, .inl (cy.1, 12, .inl go)), (qM, .inl (cy.1, 12, .inl (upd (itr (me1 go) me j) (j + 1) (go (j + 1))))), (qU, .inl (cy.2.1, 12, .inl su))] rfl rfl (by omega) (by omega) rfl rfl dX5_measures_19 rfl ?_
    refine x_iinc (q := 23) C 0 (nI ((j + 1) + 1)) [(1, .int (nI ((j + 1) + 1))), (0, .ref qo)] dX5_measures_20 rfl (nI_1 _) (by decide) rfl rfl ?_
    refine x_goto C 2 dX5_measures_23 (by decide) ?_
    refine x_less [0, 1] [(1, .int (nI ((j + 1) + 1))), (0, .ref qo)] rfl ?_
    refine x_less [0, 1] [(1, .int (nI ((j + 1) + 1))), (0, .ref qo)] (by first | rfl | (rw [e9]; rfl)) ?_
    refine x_world (X' := [(qo, .inr (5, [.int th, .int hh, .int tt, .ref qF, .ref qL, .ref qA, .ref qE, .ref qH, .ref qB, .int (nI n), .ref qS, .ref qP, .ref qC, .int mc, .ref qT, .ref qD, .ref qR, .ref qX, .ref qG, .ref qM, .ref qU, .int ml])), (qF, .inl (cy.1, 12, .inl (fun i => nI (sr i)))), (qL, .inl (cy.1, 12, .inl lo)), (qE, .inl (cy.1, 12, .inl er)), (qR, .inl (cy.2.1, 12, .inl ca)), (qG, .inl (cy.1, 12, .inl go)), (qM, .inl (cy.1, 12, .inl (itr (me1 go) me (j + 1)))), (qU, .inl (cy.2.1, 12, .inl su))]) (pl' := []) (by first | rfl | rw [e9]) ?_
    exact ih_j
  · refine x_iload_n (q := 3) C 0 rfl dX5_measures_2 rfl ?_
    refine x_bipush (q := 5) C 12 rfl dX5_measures_3 rfl ?_
    refine x_icmp_ge_t C 26 dX5_measures_5 (by decide) (nI_le (a := 12) (b := (11 + 1)) (by omega) (by omega)) ?_
    refine x_bipush (q := 28) C 11 rfl dX5_measures_26 rfl ?_
    refine x_istore_n (q := 29) C [(1, .int 11), (0, .ref qo)] dX5_measures_28 (by decide) rfl rfl ?_
    refine x_less [0, 1] [(1, .int 11), (0, .ref qo)] rfl ?_
    refine x_up (fun j => [(qo, .inr (5, [.int th, .int hh, .int tt, .ref qF, .ref qL, .ref qA, .ref qE, .ref qH, .ref qB, .int (nI n), .ref qS, .ref qP, .ref qC, .int mc, .ref qT, .ref qD, .ref qR, .ref qX, .ref qG, .ref qM, .ref qU, .int ml])), (qF, .inl (cy.1, 12, .inl (fun i => nI (sr i)))), (qL, .inl (cy.1, 12, .inl lo)), (qE, .inl (cy.1, 12, .inl er)), (qR, .inl (cy.2.1, 12, .inl ca)), (qG, .inl (cy.1, 12, .inl go)), (qM, .inl (cy.1, 12, .inl (itr (me2 sr ca lo) (itr (me1 go) me 11) j))), (qU, .inl (cy.2.1, 12, .inl su))]) (fun j => [(1, .int (nI (11 - j))), (0, .ref qo)]) 11 rfl rfl (fun j h_j ih_j => ?_) ?_
    · refine x_iload_n (q := 30) C 0 rfl dX5_measures_29 rfl ?_
      refine x_if_le_f (q := 33) C 81 dX5_measures_30 (by decide) rfl (nI_ge (a := 0) (b := (11 - j)) (by omega) (by omega)) ?_
      refine x_aload_n (q := 34) C 1 rfl dX5_measures_33 rfl ?_
      refine x_get (q := 37) C (T := TX5) iw_X5_measures_X5 rfl 0 3 rfl (by decide) rfl (by decide +kernel : Cond.fieldLink RX5 7 RX5 "from" "[I" ∈ wsX5_measures) rfl dX5_measures_34 rfl ?_
      refine x_iload_n (q := 38) C 0 rfl dX5_measures_37 rfl ?_
      refine x_ialdN (q := 39) C (11 - j) 1 (nI (sr (11 - j))) rfl rfl (by omega) (by omega) rfl dX5_measures_38 rfl ?_
      refine x_istore_n (q := 40) C [(2, .int (nI (sr (11 - j)))), (1, .int (nI (11 - j))), (0, .ref qo)] dX5_measures_39 (by decide) rfl rfl ?_
      refine x_iload_n (q := 41) C 0 rfl dX5_measures_40 rfl ?_
      refine x_if_le (q := 44) C 75 dX5_measures_41 (by decide) rfl (fun c_41 => ?_) (fun c_41 => ?_)
      · refine x_iinc (q := 78) C 1 (nI (11 - (j + 1))) [(1, .int (nI (11 - (j + 1)))), (2, .int (nI (sr (11 - j)))), (0, .ref qo)] dX5_measures_75 rfl (nI_dn h_j) (by decide) rfl rfl ?_
        refine x_goto C 29 dX5_measures_78 (by decide) ?_
        refine x_less [0, 2] [(1, .int (nI (11 - (j + 1)))), (0, .ref qo)] rfl ?_
        have e9 : itr (me2 sr ca lo) (itr (me1 go) me 11) (j + 1) = itr (me2 sr ca lo) (itr (me1 go) me 11) j := by
          show me2 sr ca lo j (itr (me2 sr ca lo) (itr (me1 go) me 11) j) = _
          simp only [me2, if_pos c_41]
        refine x_less [0, 1] [(1, .int (nI (11 - (j + 1)))), (0, .ref qo)] (by first | rfl | (rw [e9]; rfl)) ?_
        refine x_world (X' := [(qo, .inr (5, [.int th, .int hh, .int tt, .ref qF, .ref qL, .ref qA, .ref qE, .ref qH, .ref qB, .int (nI n), .ref qS, .ref qP, .ref qC, .int mc, .ref qT, .ref qD, .ref qR, .ref qX, .ref qG, .ref qM, .ref qU, .int ml])), (qF, .inl (cy.1, 12, .inl (fun i => nI (sr i)))), (qL, .inl (cy.1, 12, .inl lo)), (qE, .inl (cy.1, 12, .inl er)), (qR, .inl (cy.2.1, 12, .inl ca)), (qG, .inl (cy.1, 12, .inl go)), (qM, .inl (cy.1, 12, .inl (itr (me2 sr ca lo) (itr (me1 go) me 11) (j + 1)))), (qU, .inl (cy.2.1, 12, .inl su))]) (pl' := []) (by first | rfl | rw [e9]) ?_
        exact ih_j
      · refine x_aload_n (q := 45) C 2 rfl dX5_measures_44 rfl ?_
        refine x_get (q := 48) C (T := TX5) iw_X5_measures_X5 rfl 0 16 rfl (by decide) rfl (by decide +kernel : Cond.fieldLink RX5 44 RX5 "carries" "[Z" ∈ wsX5_measures) rfl dX5_measures_45 rfl ?_
        refine x_iload_n (q := 49) C 1 rfl dX5_measures_48 rfl ?_
        refine x_zaldN (q := 50) C (11 - j) 4 (ca (11 - j)) rfl rfl (by omega) (by omega) rfl dX5_measures_49 rfl ?_
        refine x_if_eq (q := 53) C 75 dX5_measures_50 (by decide) rfl (fun c_50 => ?_) (fun c_50 => ?_)
        · refine x_iinc (q := 78) C 1 (nI (11 - (j + 1))) [(1, .int (nI (11 - (j + 1)))), (2, .int (nI (sr (11 - j)))), (0, .ref qo)] dX5_measures_75 rfl (nI_dn h_j) (by decide) rfl rfl ?_
          refine x_goto C 29 dX5_measures_78 (by decide) ?_
          refine x_less [0, 2] [(1, .int (nI (11 - (j + 1)))), (0, .ref qo)] rfl ?_
          have e9 : itr (me2 sr ca lo) (itr (me1 go) me 11) (j + 1) = itr (me2 sr ca lo) (itr (me1 go) me 11) j := by
            show me2 sr ca lo j (itr (me2 sr ca lo) (itr (me1 go) me 11) j) = _
            simp only [me2, if_neg c_41, if_pos c_50]
          refine x_less [0, 1] [(1, .int (nI (11 - (j + 1)))), (0, .ref qo)] (by first | rfl | (rw [e9]; rfl)) ?_
          refine x_world (X' := [(qo, .inr (5, [.int th, .int hh, .int tt, .ref qF, .ref qL, .ref qA, .ref qE, .ref qH, .ref qB, .int (nI n), .ref qS, .ref qP, .ref qC, .int mc, .ref qT, .ref qD, .ref qR, .ref qX, .ref qG, .ref qM, .ref qU, .int ml])), (qF, .inl (cy.1, 12, .inl (fun i => nI (sr i)))), (qL, .inl (cy.1, 12, .inl lo)), (qE, .inl (cy.1, 12, .inl er)), (qR, .inl (cy.2.1, 12, .inl ca)), (qG, .inl (cy.1, 12, .inl go)), (qM, .inl (cy.1, 12, .inl (itr (me2 sr ca lo) (itr (me1 go) me 11) (j + 1)))), (qU, .inl (cy.2.1, 12, .inl su))]) (pl' := []) (by first | rfl | rw [e9]) ?_
          exact ih_j
        · refine x_aload_n (q := 54) C 2 rfl dX5_measures_53 rfl ?_
          refine x_get (q := 57) C (T := TX5) iw_X5_measures_X5 rfl 0 19 rfl (by decide) rfl (by decide +kernel : Cond.fieldLink RX5 53 RX5 "meters" "[I" ∈ wsX5_measures) rfl dX5_measures_54 rfl ?_
          refine x_iload_n (q := 58) C 0 rfl dX5_measures_57 rfl ?_
          refine x_dup2 (q := 59) C rfl rfl dX5_measures_58 rfl ?_
          refine x_ialdN (q := 60) C (sr (11 - j)) 6 ((itr (me2 sr ca lo) (itr (me1 go) me 11) j) (sr (11 - j))) rfl rfl (by have := hsr (11 - j) (by omega) (by omega); omega) (by omega) rfl dX5_measures_59 rfl ?_
          refine x_aload_n (q := 61) C 2 rfl dX5_measures_60 rfl ?_
          refine x_get (q := 64) C (T := TX5) iw_X5_measures_X5 rfl 0 19 rfl (by decide) rfl (by decide +kernel : Cond.fieldLink RX5 53 RX5 "meters" "[I" ∈ wsX5_measures) rfl dX5_measures_61 rfl ?_
          refine x_iload_n (q := 65) C 1 rfl dX5_measures_64 rfl ?_
          refine x_ialdN (q := 66) C (11 - j) 6 ((itr (me2 sr ca lo) (itr (me1 go) me 11) j) (11 - j)) rfl rfl (by omega) (by omega) rfl dX5_measures_65 rfl ?_
          refine x_aload_n (q := 67) C 2 rfl dX5_measures_66 rfl ?_
          refine x_get (q := 70) C (T := TX5) iw_X5_measures_X5 rfl 0 4 rfl (by decide) rfl (by decide +kernel : Cond.fieldLink RX5 13 RX5 "loss" "[I" ∈ wsX5_measures) rfl dX5_measures_67 rfl ?_
          refine x_iload_n (q := 71) C 1 rfl dX5_measures_70 rfl ?_
          refine x_ialdN (q := 72) C (11 - j) 2 (lo (11 - j)) rfl rfl (by omega) (by omega) rfl dX5_measures_71 rfl ?_
          refine x_iadd (q := 73) C (((itr (me2 sr ca lo) (itr (me1 go) me 11) j) (11 - j)) + (lo (11 - j))) (rfl) dX5_measures_72 rfl ?_
          refine x_iadd (q := 74) C (((itr (me2 sr ca lo) (itr (me1 go) me 11) j) (sr (11 - j))) + (((itr (me2 sr ca lo) (itr (me1 go) me 11) j) (11 - j)) + (lo (11 - j)))) (rfl) dX5_measures_73 rfl ?_
          refine x_iastN (q := 75) C (sr (11 - j)) 6 (upd (itr (me2 sr ca lo) (itr (me1 go) me 11) j) (sr (11 - j)) (((itr (me2 sr ca lo) (itr (me1 go) me 11) j) (sr (11 - j))) + (((itr (me2 sr ca lo) (itr (me1 go) me 11) j) (11 - j)) + (lo (11 - j))))) [(qo, .inr (5, [.int th, .int hh, .int tt, .ref qF, .ref qL, .ref qA, .ref qE, .ref qH, .ref qB, .int (nI n), .ref qS, .ref qP, .ref qC, .int mc, .ref qT, .ref qD, .ref qR, .ref qX, .ref qG, .ref qM, .ref qU, .int ml])), (qF, .inl (cy.1, 12, .inl (fun i => nI (sr i)))), (qL, .inl (cy.1, 12, .inl lo)), (qE, .inl (cy.1, 12, .inl er)), (qR, .inl (cy.2.1, 12, .inl ca)), (qG, .inl (cy.1, 12, .inl go)), (qM, .inl (cy.1, 12, .inl (upd (itr (me2 sr ca lo) (itr (me1 go) me 11) j) (sr (11 - j)) (((itr (me2 sr ca lo) (itr (me1 go) me 11) j) (sr (11 - j))) + (((itr (me2 sr ca lo) (itr (me1 go) me 11) j) (11 - j)) + (lo (11 - j))))))), (qU, .inl (cy.2.1, 12, .inl su))] rfl rfl (by have := hsr (11 - j) (by omega) (by omega); omega) (by omega) rfl rfl dX5_measures_74 rfl ?_
          refine x_iinc (q := 78) C 1 (nI (11 - (j + 1))) [(1, .int (nI (11 - (j + 1)))), (2, .int (nI (sr (11 - j)))), (0, .ref qo)] dX5_measures_75 rfl (nI_dn h_j) (by decide) rfl rfl ?_
          refine x_goto C 29 dX5_measures_78 (by decide) ?_
          refine x_less [0, 2] [(1, .int (nI (11 - (j + 1)))), (0, .ref qo)] rfl ?_
          have e9 : itr (me2 sr ca lo) (itr (me1 go) me 11) (j + 1) = upd (itr (me2 sr ca lo) (itr (me1 go) me 11) j) (sr (11 - j)) (((itr (me2 sr ca lo) (itr (me1 go) me 11) j) (sr (11 - j))) + (((itr (me2 sr ca lo) (itr (me1 go) me 11) j) (11 - j)) + (lo (11 - j)))) := by
            show me2 sr ca lo j (itr (me2 sr ca lo) (itr (me1 go) me 11) j) = _
            simp only [me2, if_neg c_41, if_neg c_50]
          refine x_less [0, 1] [(1, .int (nI (11 - (j + 1)))), (0, .ref qo)] (by first | rfl | (rw [e9]; rfl)) ?_
          refine x_world (X' := [(qo, .inr (5, [.int th, .int hh, .int tt, .ref qF, .ref qL, .ref qA, .ref qE, .ref qH, .ref qB, .int (nI n), .ref qS, .ref qP, .ref qC, .int mc, .ref qT, .ref qD, .ref qR, .ref qX, .ref qG, .ref qM, .ref qU, .int ml])), (qF, .inl (cy.1, 12, .inl (fun i => nI (sr i)))), (qL, .inl (cy.1, 12, .inl lo)), (qE, .inl (cy.1, 12, .inl er)), (qR, .inl (cy.2.1, 12, .inl ca)), (qG, .inl (cy.1, 12, .inl go)), (qM, .inl (cy.1, 12, .inl (itr (me2 sr ca lo) (itr (me1 go) me 11) (j + 1)))), (qU, .inl (cy.2.1, 12, .inl su))]) (pl' := []) (by first | rfl | rw [e9]) ?_
          exact ih_j
    · refine x_iload_n (q := 30) C 0 rfl dX5_measures_29 rfl ?_
      refine x_if_le_t C 81 dX5_measures_30 (by decide) (nI_le (a := (11 - 11)) (b := 0) (by omega) (by omega)) ?_
      refine x_iconst (q := 82) C 1 rfl dX5_measures_81 rfl ?_
      refine x_istore_n (q := 83) C [(1, .int 1), (0, .ref qo)] dX5_measures_82 (by decide) rfl rfl ?_
      refine x_less [0, 1] [(1, .int 1), (0, .ref qo)] rfl ?_
      refine x_up (fun j => [(qo, .inr (5, [.int th, .int hh, .int tt, .ref qF, .ref qL, .ref qA, .ref qE, .ref qH, .ref qB, .int (nI n), .ref qS, .ref qP, .ref qC, .int mc, .ref qT, .ref qD, .ref qR, .ref qX, .ref qG, .ref qM, .ref qU, .int ml])), (qF, .inl (cy.1, 12, .inl (fun i => nI (sr i)))), (qL, .inl (cy.1, 12, .inl lo)), (qE, .inl (cy.1, 12, .inl er)), (qR, .inl (cy.2.1, 12, .inl ca)), (qG, .inl (cy.1, 12, .inl go)), (qM, .inl (cy.1, 12, .inl ((itr (me3 sr ca er) (itr (me2 sr ca lo) (itr (me1 go) me 11) 11, su) j).1))), (qU, .inl (cy.2.1, 12, .inl ((itr (me3 sr ca er) (itr (me2 sr ca lo) (itr (me1 go) me 11) 11, su) j).2)))]) (fun j => [(1, .int (nI (j + 1))), (0, .ref qo)]) 11 rfl rfl (fun j h_j ih_j => ?_) ?_
      · refine x_iload_n (q := 84) C 0 rfl dX5_measures_83 rfl ?_
        refine x_bipush (q := 86) C 12 rfl dX5_measures_84 rfl ?_
        refine x_icmp_ge_f (q := 89) C 196 dX5_measures_86 (by decide) rfl (nI_ge (a := (j + 1)) (b := 12) (by omega) (by omega)) ?_
        refine x_join 108 (fun v => v = wrong ca er j) [] (fun v hv => ?_) (fun J_89 => ?_)
        · subst hv
          refine x_istore_n (q := 109) C [(2, .int (wrong ca er j)), (1, .int (nI (j + 1))), (0, .ref qo)] dX5_measures_108 (by decide) rfl rfl ?_
          refine x_iconst (q := 110) C 0 rfl dX5_measures_109 rfl ?_
          refine x_istore_n (q := 111) C [(3, .int 0), (2, .int (wrong ca er j)), (1, .int (nI (j + 1))), (0, .ref qo)] dX5_measures_110 (by decide) rfl rfl ?_
          refine x_iload_n (q := 112) C 2 rfl dX5_measures_111 rfl ?_
          refine x_iconst (q := 113) C 1 rfl dX5_measures_112 rfl ?_
          refine x_iadd (q := 114) C (nI (j + 2 + 0)) (nI_1 (j + 1)) dX5_measures_113 rfl ?_
          refine x_istore (q := 116) C [(4, .int (nI (j + 2 + 0))), (3, .int 0), (2, .int (wrong ca er j)), (1, .int (nI (j + 1))), (0, .ref qo)] dX5_measures_114 (by decide) rfl rfl ?_
          refine x_less [0, 1, 2, 3, 4] [(4, .int (nI (j + 2 + 0))), (3, .int 0), (2, .int (wrong ca er j)), (1, .int (nI (j + 1))), (0, .ref qo)] rfl ?_
          refine x_up (fun i => [(qo, .inr (5, [.int th, .int hh, .int tt, .ref qF, .ref qL, .ref qA, .ref qE, .ref qH, .ref qB, .int (nI n), .ref qS, .ref qP, .ref qC, .int mc, .ref qT, .ref qD, .ref qR, .ref qX, .ref qG, .ref qM, .ref qU, .int ml])), (qF, .inl (cy.1, 12, .inl (fun i => nI (sr i)))), (qL, .inl (cy.1, 12, .inl lo)), (qE, .inl (cy.1, 12, .inl er)), (qR, .inl (cy.2.1, 12, .inl ca)), (qG, .inl (cy.1, 12, .inl go)), (qM, .inl (cy.1, 12, .inl ((itr (me3 sr ca er) (itr (me2 sr ca lo) (itr (me1 go) me 11) 11, su) j).1))), (qU, .inl (cy.2.1, 12, .inl ((itr (me3 sr ca er) (itr (me2 sr ca lo) (itr (me1 go) me 11) 11, su) j).2)))]) (fun i => [(4, .int (nI (j + 2 + i))), (3, .int (itr (biStep sr ca er j) 0 i)), (2, .int (wrong ca er j)), (1, .int (nI (j + 1))), (0, .ref qo)]) (10 - j) rfl rfl (fun i h_i ih_i => ?_) ?_
          · refine x_iload (q := 118) C 0 rfl dX5_measures_116 rfl ?_
            refine x_bipush (q := 120) C 12 rfl dX5_measures_118 rfl ?_
            refine x_icmp_ge_f (q := 123) C 164 dX5_measures_120 (by decide) rfl (nI_ge (a := (j + 2 + i)) (b := 12) (by omega) (by omega)) ?_
            refine x_iload_n (q := 124) C 1 rfl dX5_measures_123 rfl ?_
            refine x_aload_n (q := 125) C 4 rfl dX5_measures_124 rfl ?_
            refine x_get (q := 128) C (T := TX5) iw_X5_measures_X5 rfl 0 3 rfl (by decide) rfl (by decide +kernel : Cond.fieldLink RX5 7 RX5 "from" "[I" ∈ wsX5_measures) rfl dX5_measures_125 rfl ?_
            refine x_iload (q := 130) C 0 rfl dX5_measures_128 rfl ?_
            refine x_ialdN (q := 131) C (j + 2 + i) 1 (nI (sr (j + 2 + i))) rfl rfl (by omega) (by omega) rfl dX5_measures_130 rfl ?_
            refine x_iload_n (q := 132) C 3 rfl dX5_measures_131 rfl ?_
            refine x_icmp_ne (q := 135) C 155 dX5_measures_132 (by decide) rfl (fun c_132 => ?_) (fun c_132 => ?_)
            · refine x_iconst (q := 156) C 0 rfl dX5_measures_155 rfl ?_
              refine x_iadd (q := 157) C ((itr (biStep sr ca er j) 0 i) + 0) (rfl) dX5_measures_156 rfl ?_
              refine x_istore_n (q := 158) C [(3, .int ((itr (biStep sr ca er j) 0 i) + 0)), (4, .int (nI (j + 2 + i))), (2, .int (wrong ca er j)), (1, .int (nI (j + 1))), (0, .ref qo)] dX5_measures_157 (by decide) rfl rfl ?_
              refine x_iinc (q := 161) C 1 (nI (j + 2 + (i + 1))) [(4, .int (nI (j + 2 + (i + 1)))), (3, .int ((itr (biStep sr ca er j) 0 i) + 0)), (2, .int (wrong ca er j)), (1, .int (nI (j + 1))), (0, .ref qo)] dX5_measures_158 rfl (nI_1 (j + 2 + i)) (by decide) rfl rfl ?_
              refine x_goto C 116 dX5_measures_161 (by decide) ?_
              refine x_less [0, 1, 2, 3, 4] [(4, .int (nI (j + 2 + (i + 1)))), (3, .int ((itr (biStep sr ca er j) 0 i) + 0)), (2, .int (wrong ca er j)), (1, .int (nI (j + 1))), (0, .ref qo)] rfl ?_
              have e9 : itr (biStep sr ca er j) 0 (i + 1) = (itr (biStep sr ca er j) 0 i) + 0 := by
                show biStep sr ca er j i (itr (biStep sr ca er j) 0 i) = _
                simp only [biStep, if_neg c_132]
              refine x_less [0, 1, 2, 3, 4] [(4, .int (nI (j + 2 + (i + 1)))), (3, .int (itr (biStep sr ca er j) 0 (i + 1))), (2, .int (wrong ca er j)), (1, .int (nI (j + 1))), (0, .ref qo)] (by first | rfl | (rw [e9]; rfl)) ?_
              refine x_world (X' := [(qo, .inr (5, [.int th, .int hh, .int tt, .ref qF, .ref qL, .ref qA, .ref qE, .ref qH, .ref qB, .int (nI n), .ref qS, .ref qP, .ref qC, .int mc, .ref qT, .ref qD, .ref qR, .ref qX, .ref qG, .ref qM, .ref qU, .int ml])), (qF, .inl (cy.1, 12, .inl (fun i => nI (sr i)))), (qL, .inl (cy.1, 12, .inl lo)), (qE, .inl (cy.1, 12, .inl er)), (qR, .inl (cy.2.1, 12, .inl ca)), (qG, .inl (cy.1, 12, .inl go)), (qM, .inl (cy.1, 12, .inl ((itr (me3 sr ca er) (itr (me2 sr ca lo) (itr (me1 go) me 11) 11, su) j).1))), (qU, .inl (cy.2.1, 12, .inl ((itr (me3 sr ca er) (itr (me2 sr ca lo) (itr (me1 go) me 11) 11, su) j).2)))]) (pl' := []) (by first | rfl | rw [e9]) ?_
              exact ih_i
            · refine x_aload_n (q := 136) C 4 rfl dX5_measures_135 rfl ?_
              refine x_get (q := 139) C (T := TX5) iw_X5_measures_X5 rfl 0 16 rfl (by decide) rfl (by decide +kernel : Cond.fieldLink RX5 44 RX5 "carries" "[Z" ∈ wsX5_measures) rfl dX5_measures_136 rfl ?_
              refine x_iload (q := 141) C 0 rfl dX5_measures_139 rfl ?_
              refine x_zaldN (q := 142) C (j + 2 + i) 4 (ca (j + 2 + i)) rfl rfl (by omega) (by omega) rfl dX5_measures_141 rfl ?_
              refine x_if_eq (q := 145) C 155 dX5_measures_142 (by decide) rfl (fun c_142 => ?_) (fun c_142 => ?_)
              · refine x_iconst (q := 156) C 0 rfl dX5_measures_155 rfl ?_
                refine x_iadd (q := 157) C ((itr (biStep sr ca er j) 0 i) + 0) (rfl) dX5_measures_156 rfl ?_
                refine x_istore_n (q := 158) C [(3, .int ((itr (biStep sr ca er j) 0 i) + 0)), (4, .int (nI (j + 2 + i))), (2, .int (wrong ca er j)), (1, .int (nI (j + 1))), (0, .ref qo)] dX5_measures_157 (by decide) rfl rfl ?_
                refine x_iinc (q := 161) C 1 (nI (j + 2 + (i + 1))) [(4, .int (nI (j + 2 + (i + 1)))), (3, .int ((itr (biStep sr ca er j) 0 i) + 0)), (2, .int (wrong ca er j)), (1, .int (nI (j + 1))), (0, .ref qo)] dX5_measures_158 rfl (nI_1 (j + 2 + i)) (by decide) rfl rfl ?_
                refine x_goto C 116 dX5_measures_161 (by decide) ?_
                refine x_less [0, 1, 2, 3, 4] [(4, .int (nI (j + 2 + (i + 1)))), (3, .int ((itr (biStep sr ca er j) 0 i) + 0)), (2, .int (wrong ca er j)), (1, .int (nI (j + 1))), (0, .ref qo)] rfl ?_
                have e9 : itr (biStep sr ca er j) 0 (i + 1) = (itr (biStep sr ca er j) 0 i) + 0 := by
                  show biStep sr ca er j i (itr (biStep sr ca er j) 0 i) = _
                  simp only [biStep, if_pos c_132, if_pos c_142]
                refine x_less [0, 1, 2, 3, 4] [(4, .int (nI (j + 2 + (i + 1)))), (3, .int (itr (biStep sr ca er j) 0 (i + 1))), (2, .int (wrong ca er j)), (1, .int (nI (j + 1))), (0, .ref qo)] (by first | rfl | (rw [e9]; rfl)) ?_
                refine x_world (X' := [(qo, .inr (5, [.int th, .int hh, .int tt, .ref qF, .ref qL, .ref qA, .ref qE, .ref qH, .ref qB, .int (nI n), .ref qS, .ref qP, .ref qC, .int mc, .ref qT, .ref qD, .ref qR, .ref qX, .ref qG, .ref qM, .ref qU, .int ml])), (qF, .inl (cy.1, 12, .inl (fun i => nI (sr i)))), (qL, .inl (cy.1, 12, .inl lo)), (qE, .inl (cy.1, 12, .inl er)), (qR, .inl (cy.2.1, 12, .inl ca)), (qG, .inl (cy.1, 12, .inl go)), (qM, .inl (cy.1, 12, .inl ((itr (me3 sr ca er) (itr (me2 sr ca lo) (itr (me1 go) me 11) 11, su) j).1))), (qU, .inl (cy.2.1, 12, .inl ((itr (me3 sr ca er) (itr (me2 sr ca lo) (itr (me1 go) me 11) 11, su) j).2)))]) (pl' := []) (by first | rfl | rw [e9]) ?_
                exact ih_i
              · refine x_aload_n (q := 146) C 4 rfl dX5_measures_145 rfl ?_
                refine x_get (q := 149) C (T := TX5) iw_X5_measures_X5 rfl 0 6 rfl (by decide) rfl (by decide +kernel : Cond.fieldLink RX5 19 RX5 "errors" "[I" ∈ wsX5_measures) rfl dX5_measures_146 rfl ?_
                refine x_iload (q := 151) C 0 rfl dX5_measures_149 rfl ?_
                refine x_ialdN (q := 152) C (j + 2 + i) 3 (er (j + 2 + i)) rfl rfl (by omega) (by omega) rfl dX5_measures_151 rfl ?_
                refine x_goto C 156 dX5_measures_152 (by decide) ?_
                refine x_iadd (q := 157) C ((itr (biStep sr ca er j) 0 i) + (er (j + 2 + i))) (rfl) dX5_measures_156 rfl ?_
                refine x_istore_n (q := 158) C [(3, .int ((itr (biStep sr ca er j) 0 i) + (er (j + 2 + i)))), (4, .int (nI (j + 2 + i))), (2, .int (wrong ca er j)), (1, .int (nI (j + 1))), (0, .ref qo)] dX5_measures_157 (by decide) rfl rfl ?_
                refine x_iinc (q := 161) C 1 (nI (j + 2 + (i + 1))) [(4, .int (nI (j + 2 + (i + 1)))), (3, .int ((itr (biStep sr ca er j) 0 i) + (er (j + 2 + i)))), (2, .int (wrong ca er j)), (1, .int (nI (j + 1))), (0, .ref qo)] dX5_measures_158 rfl (nI_1 (j + 2 + i)) (by decide) rfl rfl ?_
                refine x_goto C 116 dX5_measures_161 (by decide) ?_
                refine x_less [0, 1, 2, 3, 4] [(4, .int (nI (j + 2 + (i + 1)))), (3, .int ((itr (biStep sr ca er j) 0 i) + (er (j + 2 + i)))), (2, .int (wrong ca er j)), (1, .int (nI (j + 1))), (0, .ref qo)] rfl ?_
                have e9 : itr (biStep sr ca er j) 0 (i + 1) = (itr (biStep sr ca er j) 0 i) + (er (j + 2 + i)) := by
                  show biStep sr ca er j i (itr (biStep sr ca er j) 0 i) = _
                  simp only [biStep, if_pos c_132, if_neg c_142]
                refine x_less [0, 1, 2, 3, 4] [(4, .int (nI (j + 2 + (i + 1)))), (3, .int (itr (biStep sr ca er j) 0 (i + 1))), (2, .int (wrong ca er j)), (1, .int (nI (j + 1))), (0, .ref qo)] (by first | rfl | (rw [e9]; rfl)) ?_
                refine x_world (X' := [(qo, .inr (5, [.int th, .int hh, .int tt, .ref qF, .ref qL, .ref qA, .ref qE, .ref qH, .ref qB, .int (nI n), .ref qS, .ref qP, .ref qC, .int mc, .ref qT, .ref qD, .ref qR, .ref qX, .ref qG, .ref qM, .ref qU, .int ml])), (qF, .inl (cy.1, 12, .inl (fun i => nI (sr i)))), (qL, .inl (cy.1, 12, .inl lo)), (qE, .inl (cy.1, 12, .inl er)), (qR, .inl (cy.2.1, 12, .inl ca)), (qG, .inl (cy.1, 12, .inl go)), (qM, .inl (cy.1, 12, .inl ((itr (me3 sr ca er) (itr (me2 sr ca lo) (itr (me1 go) me 11) 11, su) j).1))), (qU, .inl (cy.2.1, 12, .inl ((itr (me3 sr ca er) (itr (me2 sr ca lo) (itr (me1 go) me 11) 11, su) j).2)))]) (pl' := []) (by first | rfl | rw [e9]) ?_
                exact ih_i
          · refine x_iload (q := 118) C 0 rfl dX5_measures_116 rfl ?_
            refine x_bipush (q := 120) C 12 rfl dX5_measures_118 rfl ?_
            refine x_icmp_ge_t C 164 dX5_measures_120 (by decide) (nI_le (a := 12) (b := (j + 2 + (10 - j))) (by omega) (by omega)) ?_
            refine x_aload_n (q := 165) C 4 rfl dX5_measures_164 rfl ?_
            refine x_get (q := 168) C (T := TX5) iw_X5_measures_X5 rfl 0 20 rfl (by decide) rfl (by decide +kernel : Cond.fieldLink RX5 56 RX5 "isSuspected" "[Z" ∈ wsX5_measures) rfl dX5_measures_165 rfl ?_
            refine x_iload_n (q := 169) C 3 rfl dX5_measures_168 rfl ?_
            refine x_iload_n (q := 170) C 2 rfl dX5_measures_169 rfl ?_
            refine x_iload_n (q := 171) C 1 rfl dX5_measures_170 rfl ?_
            refine x_icmp_eq (q := 174) C 178 dX5_measures_171 (by decide) rfl (fun c_171 => ?_) (fun c_171 => ?_)
            · refine x_iconst (q := 179) C 0 rfl dX5_measures_178 rfl ?_
              refine x_zastN (q := 180) C (j + 1) 7 (upd ((itr (me3 sr ca er) (itr (me2 sr ca lo) (itr (me1 go) me 11) 11, su) j).2) (j + 1) 0) [(qo, .inr (5, [.int th, .int hh, .int tt, .ref qF, .ref qL, .ref qA, .ref qE, .ref qH, .ref qB, .int (nI n), .ref qS, .ref qP, .ref qC, .int mc, .ref qT, .ref qD, .ref qR, .ref qX, .ref qG, .ref qM, .ref qU, .int ml])), (qF, .inl (cy.1, 12, .inl (fun i => nI (sr i)))), (qL, .inl (cy.1, 12, .inl lo)), (qE, .inl (cy.1, 12, .inl er)), (qR, .inl (cy.2.1, 12, .inl ca)), (qG, .inl (cy.1, 12, .inl go)), (qM, .inl (cy.1, 12, .inl ((itr (me3 sr ca er) (itr (me2 sr ca lo) (itr (me1 go) me 11) 11, su) j).1))), (qU, .inl (cy.2.1, 12, .inl (upd ((itr (me3 sr ca er) (itr (me2 sr ca lo) (itr (me1 go) me 11) 11, su) j).2) (j + 1) 0)))] rfl rfl (by omega) (by omega) (congrArg _ vpz0) rfl dX5_measures_179 rfl ?_
              refine x_aload_n (q := 181) C 4 rfl dX5_measures_180 rfl ?_
              refine x_get (q := 184) C (T := TX5) iw_X5_measures_X5 rfl 0 19 rfl (by decide) rfl (by decide +kernel : Cond.fieldLink RX5 53 RX5 "meters" "[I" ∈ wsX5_measures) rfl dX5_measures_181 rfl ?_
              refine x_iload_n (q := 185) C 3 rfl dX5_measures_184 rfl ?_
              refine x_dup2 (q := 186) C rfl rfl dX5_measures_185 rfl ?_
              refine x_ialdN (q := 187) C (j + 1) 6 (((itr (me3 sr ca er) (itr (me2 sr ca lo) (itr (me1 go) me 11) 11, su) j).1) (j + 1)) rfl rfl (by omega) (by omega) rfl dX5_measures_186 rfl ?_
              refine x_iload_n (q := 188) C 2 rfl dX5_measures_187 rfl ?_
              refine x_iadd (q := 189) C ((((itr (me3 sr ca er) (itr (me2 sr ca lo) (itr (me1 go) me 11) 11, su) j).1) (j + 1)) + (wrong ca er j)) (rfl) dX5_measures_188 rfl ?_
              refine x_iastN (q := 190) C (j + 1) 6 (upd ((itr (me3 sr ca er) (itr (me2 sr ca lo) (itr (me1 go) me 11) 11, su) j).1) (j + 1) ((((itr (me3 sr ca er) (itr (me2 sr ca lo) (itr (me1 go) me 11) 11, su) j).1) (j + 1)) + (wrong ca er j))) [(qo, .inr (5, [.int th, .int hh, .int tt, .ref qF, .ref qL, .ref qA, .ref qE, .ref qH, .ref qB, .int (nI n), .ref qS, .ref qP, .ref qC, .int mc, .ref qT, .ref qD, .ref qR, .ref qX, .ref qG, .ref qM, .ref qU, .int ml])), (qF, .inl (cy.1, 12, .inl (fun i => nI (sr i)))), (qL, .inl (cy.1, 12, .inl lo)), (qE, .inl (cy.1, 12, .inl er)), (qR, .inl (cy.2.1, 12, .inl ca)), (qG, .inl (cy.1, 12, .inl go)), (qM, .inl (cy.1, 12, .inl (upd ((itr (me3 sr ca er) (itr (me2 sr ca lo) (itr (me1 go) me 11) 11, su) j).1) (j + 1) ((((itr (me3 sr ca er) (itr (me2 sr ca lo) (itr (me1 go) me 11) 11, su) j).1) (j + 1)) + (wrong ca er j))))), (qU, .inl (cy.2.1, 12, .inl (upd ((itr (me3 sr ca er) (itr (me2 sr ca lo) (itr (me1 go) me 11) 11, su) j).2) (j + 1) 0)))] rfl rfl (by omega) (by omega) rfl rfl dX5_measures_189 rfl ?_
              refine x_iinc (q := 193) C 3 (nI ((j + 1) + 1)) [(1, .int (nI ((j + 1) + 1))), (4, .int (nI (j + 2 + (10 - j)))), (3, .int (itr (biStep sr ca er j) 0 (10 - j))), (2, .int (wrong ca er j)), (0, .ref qo)] dX5_measures_190 rfl (nI_1 _) (by decide) rfl rfl ?_
              refine x_goto C 83 dX5_measures_193 (by decide) ?_
              refine x_less [0, 4] [(1, .int (nI ((j + 1) + 1))), (0, .ref qo)] rfl ?_
              have e9 : (itr (me3 sr ca er) (itr (me2 sr ca lo) (itr (me1 go) me 11) 11, su) (j + 1)) = (upd ((itr (me3 sr ca er) (itr (me2 sr ca lo) (itr (me1 go) me 11) 11, su) j).1) (j + 1) ((((itr (me3 sr ca er) (itr (me2 sr ca lo) (itr (me1 go) me 11) 11, su) j).1) (j + 1)) + (wrong ca er j)), upd ((itr (me3 sr ca er) (itr (me2 sr ca lo) (itr (me1 go) me 11) 11, su) j).2) (j + 1) 0) := by
                show me3 sr ca er j (itr (me3 sr ca er) (itr (me2 sr ca lo) (itr (me1 go) me 11) 11, su) j) = _
                simp only [me3, if_pos c_171]
              refine x_less [0, 1] [(1, .int (nI ((j + 1) + 1))), (0, .ref qo)] (by first | rfl | (rw [e9]; rfl)) ?_
              refine x_world (X' := [(qo, .inr (5, [.int th, .int hh, .int tt, .ref qF, .ref qL, .ref qA, .ref qE, .ref qH, .ref qB, .int (nI n), .ref qS, .ref qP, .ref qC, .int mc, .ref qT, .ref qD, .ref qR, .ref qX, .ref qG, .ref qM, .ref qU, .int ml])), (qF, .inl (cy.1, 12, .inl (fun i => nI (sr i)))), (qL, .inl (cy.1, 12, .inl lo)), (qE, .inl (cy.1, 12, .inl er)), (qR, .inl (cy.2.1, 12, .inl ca)), (qG, .inl (cy.1, 12, .inl go)), (qM, .inl (cy.1, 12, .inl ((itr (me3 sr ca er) (itr (me2 sr ca lo) (itr (me1 go) me 11) 11, su) (j + 1)).1))), (qU, .inl (cy.2.1, 12, .inl ((itr (me3 sr ca er) (itr (me2 sr ca lo) (itr (me1 go) me 11) 11, su) (j + 1)).2)))]) (pl' := []) (by first | rfl | rw [e9]) ?_
              exact ih_j
            · refine x_iconst (q := 175) C 1 rfl dX5_measures_174 rfl ?_
              refine x_goto C 179 dX5_measures_175 (by decide) ?_
              refine x_zastN (q := 180) C (j + 1) 7 (upd ((itr (me3 sr ca er) (itr (me2 sr ca lo) (itr (me1 go) me 11) 11, su) j).2) (j + 1) 1) [(qo, .inr (5, [.int th, .int hh, .int tt, .ref qF, .ref qL, .ref qA, .ref qE, .ref qH, .ref qB, .int (nI n), .ref qS, .ref qP, .ref qC, .int mc, .ref qT, .ref qD, .ref qR, .ref qX, .ref qG, .ref qM, .ref qU, .int ml])), (qF, .inl (cy.1, 12, .inl (fun i => nI (sr i)))), (qL, .inl (cy.1, 12, .inl lo)), (qE, .inl (cy.1, 12, .inl er)), (qR, .inl (cy.2.1, 12, .inl ca)), (qG, .inl (cy.1, 12, .inl go)), (qM, .inl (cy.1, 12, .inl ((itr (me3 sr ca er) (itr (me2 sr ca lo) (itr (me1 go) me 11) 11, su) j).1))), (qU, .inl (cy.2.1, 12, .inl (upd ((itr (me3 sr ca er) (itr (me2 sr ca lo) (itr (me1 go) me 11) 11, su) j).2) (j + 1) 1)))] rfl rfl (by omega) (by omega) (congrArg _ vpz1) rfl dX5_measures_179 rfl ?_
              refine x_aload_n (q := 181) C 4 rfl dX5_measures_180 rfl ?_
              refine x_get (q := 184) C (T := TX5) iw_X5_measures_X5 rfl 0 19 rfl (by decide) rfl (by decide +kernel : Cond.fieldLink RX5 53 RX5 "meters" "[I" ∈ wsX5_measures) rfl dX5_measures_181 rfl ?_
              refine x_iload_n (q := 185) C 3 rfl dX5_measures_184 rfl ?_
              refine x_dup2 (q := 186) C rfl rfl dX5_measures_185 rfl ?_
              refine x_ialdN (q := 187) C (j + 1) 6 (((itr (me3 sr ca er) (itr (me2 sr ca lo) (itr (me1 go) me 11) 11, su) j).1) (j + 1)) rfl rfl (by omega) (by omega) rfl dX5_measures_186 rfl ?_
              refine x_iload_n (q := 188) C 2 rfl dX5_measures_187 rfl ?_
              refine x_iadd (q := 189) C ((((itr (me3 sr ca er) (itr (me2 sr ca lo) (itr (me1 go) me 11) 11, su) j).1) (j + 1)) + (wrong ca er j)) (rfl) dX5_measures_188 rfl ?_
              refine x_iastN (q := 190) C (j + 1) 6 (upd ((itr (me3 sr ca er) (itr (me2 sr ca lo) (itr (me1 go) me 11) 11, su) j).1) (j + 1) ((((itr (me3 sr ca er) (itr (me2 sr ca lo) (itr (me1 go) me 11) 11, su) j).1) (j + 1)) + (wrong ca er j))) [(qo, .inr (5, [.int th, .int hh, .int tt, .ref qF, .ref qL, .ref qA, .ref qE, .ref qH, .ref qB, .int (nI n), .ref qS, .ref qP, .ref qC, .int mc, .ref qT, .ref qD, .ref qR, .ref qX, .ref qG, .ref qM, .ref qU, .int ml])), (qF, .inl (cy.1, 12, .inl (fun i => nI (sr i)))), (qL, .inl (cy.1, 12, .inl lo)), (qE, .inl (cy.1, 12, .inl er)), (qR, .inl (cy.2.1, 12, .inl ca)), (qG, .inl (cy.1, 12, .inl go)), (qM, .inl (cy.1, 12, .inl (upd ((itr (me3 sr ca er) (itr (me2 sr ca lo) (itr (me1 go) me 11) 11, su) j).1) (j + 1) ((((itr (me3 sr ca er) (itr (me2 sr ca lo) (itr (me1 go) me 11) 11, su) j).1) (j + 1)) + (wrong ca er j))))), (qU, .inl (cy.2.1, 12, .inl (upd ((itr (me3 sr ca er) (itr (me2 sr ca lo) (itr (me1 go) me 11) 11, su) j).2) (j + 1) 1)))] rfl rfl (by omega) (by omega) rfl rfl dX5_measures_189 rfl ?_
              refine x_iinc (q := 193) C 3 (nI ((j + 1) + 1)) [(1, .int (nI ((j + 1) + 1))), (4, .int (nI (j + 2 + (10 - j)))), (3, .int (itr (biStep sr ca er j) 0 (10 - j))), (2, .int (wrong ca er j)), (0, .ref qo)] dX5_measures_190 rfl (nI_1 _) (by decide) rfl rfl ?_
              refine x_goto C 83 dX5_measures_193 (by decide) ?_
              refine x_less [0, 4] [(1, .int (nI ((j + 1) + 1))), (0, .ref qo)] rfl ?_
              have e9 : (itr (me3 sr ca er) (itr (me2 sr ca lo) (itr (me1 go) me 11) 11, su) (j + 1)) = (upd ((itr (me3 sr ca er) (itr (me2 sr ca lo) (itr (me1 go) me 11) 11, su) j).1) (j + 1) ((((itr (me3 sr ca er) (itr (me2 sr ca lo) (itr (me1 go) me 11) 11, su) j).1) (j + 1)) + (wrong ca er j)), upd ((itr (me3 sr ca er) (itr (me2 sr ca lo) (itr (me1 go) me 11) 11, su) j).2) (j + 1) 1) := by
                show me3 sr ca er j (itr (me3 sr ca er) (itr (me2 sr ca lo) (itr (me1 go) me 11) 11, su) j) = _
                simp only [me3, if_neg c_171]
              refine x_less [0, 1] [(1, .int (nI ((j + 1) + 1))), (0, .ref qo)] (by first | rfl | (rw [e9]; rfl)) ?_
              refine x_world (X' := [(qo, .inr (5, [.int th, .int hh, .int tt, .ref qF, .ref qL, .ref qA, .ref qE, .ref qH, .ref qB, .int (nI n), .ref qS, .ref qP, .ref qC, .int mc, .ref qT, .ref qD, .ref qR, .ref qX, .ref qG, .ref qM, .ref qU, .int ml])), (qF, .inl (cy.1, 12, .inl (fun i => nI (sr i)))), (qL, .inl (cy.1, 12, .inl lo)), (qE, .inl (cy.1, 12, .inl er)), (qR, .inl (cy.2.1, 12, .inl ca)), (qG, .inl (cy.1, 12, .inl go)), (qM, .inl (cy.1, 12, .inl ((itr (me3 sr ca er) (itr (me2 sr ca lo) (itr (me1 go) me 11) 11, su) (j + 1)).1))), (qU, .inl (cy.2.1, 12, .inl ((itr (me3 sr ca er) (itr (me2 sr ca lo) (itr (me1 go) me 11) 11, su) (j + 1)).2)))]) (pl' := []) (by first | rfl | rw [e9]) ?_
              exact ih_j
        · refine x_aload_n (q := 90) C 1 rfl dX5_measures_89 rfl ?_
          refine x_get (q := 93) C (T := TX5) iw_X5_measures_X5 rfl 0 16 rfl (by decide) rfl (by decide +kernel : Cond.fieldLink RX5 44 RX5 "carries" "[Z" ∈ wsX5_measures) rfl dX5_measures_90 rfl ?_
          refine x_iload_n (q := 94) C 0 rfl dX5_measures_93 rfl ?_
          refine x_zaldN (q := 95) C (j + 1) 4 (ca (j + 1)) rfl rfl (by omega) (by omega) rfl dX5_measures_94 rfl ?_
          refine x_if_eq (q := 98) C 107 dX5_measures_95 (by decide) rfl (fun c_95 => ?_) (fun c_95 => ?_)
          · refine x_iconst (q := 108) C 0 rfl dX5_measures_107 rfl ?_
            exact J_89 _ (by simp only [wrong, if_pos c_95])
          · refine x_aload_n (q := 99) C 1 rfl dX5_measures_98 rfl ?_
            refine x_get (q := 102) C (T := TX5) iw_X5_measures_X5 rfl 0 6 rfl (by decide) rfl (by decide +kernel : Cond.fieldLink RX5 19 RX5 "errors" "[I" ∈ wsX5_measures) rfl dX5_measures_99 rfl ?_
            refine x_iload_n (q := 103) C 0 rfl dX5_measures_102 rfl ?_
            refine x_ialdN (q := 104) C (j + 1) 3 (er (j + 1)) rfl rfl (by omega) (by omega) rfl dX5_measures_103 rfl ?_
            refine x_goto C 108 dX5_measures_104 (by decide) ?_
            exact J_89 _ (by simp only [wrong, if_neg c_95])
      · refine x_iload_n (q := 84) C 0 rfl dX5_measures_83 rfl ?_
        refine x_bipush (q := 86) C 12 rfl dX5_measures_84 rfl ?_
        refine x_icmp_ge_t C 196 dX5_measures_86 (by decide) (nI_le (a := 12) (b := (11 + 1)) (by omega) (by omega)) ?_
        exact x_vret C rfl (rfl) dX5_measures_196 (Nat.le_of_ble_eq_true rfl) (Nat.le_of_ble_eq_true rfl)
