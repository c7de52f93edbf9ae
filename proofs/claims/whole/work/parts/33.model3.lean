theorem iw_X5_fires_X5 : ∀ w ∈ wsX50, w ∈ wsX5_fires := by decide +kernel
set_option maxHeartbeats 4000000 in
set_option maxRecDepth 100000 in
theorem c_X5_fires {l : Launch} {D : va_G} {cy : ClassId × ClassId × ClassId} (qo qF qL qA qE qH qB qS qP qC qT qD qR qX qG qM qU n : Nat) (th hh tt mc ml : Int32) (stp pow cst fr : Nat → Int32) (ord : List Nat) (w9 : Int32) (hn4 : n ≤ 4) (hfst : nxF n cst none = ord.head?) (hch : chn (fun k => nxF n cst (some k)) ord) (hlt : ∀ k ∈ ord, k < n) (hpw : ∀ k, k < n → ¬ pow k = 0) : xM false l yX5_fires wsX5_fires ({ frames := 1, cells := 0, slots := 0, locals := 24 }) D cy [.ref qo, .int w9] ([(qo, .inr (5, [.int th, .int hh, .int tt, .ref qF, .ref qL, .ref qA, .ref qE, .ref qH, .ref qB, .int (nI n), .ref qS, .ref qP, .ref qC, .int mc, .ref qT, .ref qD, .ref qR, .ref qX, .ref qG, .ref qM, .ref qU, .int ml])), (qS, .inl (cy.1, 4, .inl stp)), (qP, .inl (cy.1, 4, .inl pow)), (qC, .inl (cy.1, 4, .inl cst)), (qX, .inl (cy.1, 4, .inl fr))]) (xQv D (fun w => w = [(qo, .inr (5, [.int th, .int hh, .int tt, .ref qF, .ref qL, .ref qA, .ref qE, .ref qH, .ref qB, .int (nI n), .ref qS, .ref qP, .ref qC, .int ((mfireL stp pow cst ord w9 mc fr).1), .ref qT, .ref qD, .ref qR, .ref qX, .ref qG, .ref qM, .ref qU, .int ml])), (qS, .inl (cy.1, 4, .inl stp)), (qP, .inl (cy.1, 4, .inl pow)), (qC, .inl (cy.1, 4, .inl cst)), (qX, .inl (cy.1, 4, .inl ((mfireL stp pow cst ord w9 mc fr).2)))])) 0 0 := by
  refine xM_of (X := [(qo, .inr (5, [.int th, .int hh, .int tt, .ref qF, .ref qL, .ref qA, .ref qE, .ref qH, .ref qB, .int (nI n), .ref qS, .ref qP, .ref qC, .int mc, .ref qT, .ref qD, .ref qR, .ref qX, .ref qG, .ref qM, .ref qU, .int ml])), (qS, .inl (cy.1, 4, .inl stp)), (qP, .inl (cy.1, 4, .inl pow)), (qC, .inl (cy.1, 4, .inl cst)), (qX, .inl (cy.1, 4, .inl fr))]) (pl := []) (nL := 6) (ret := none) RX5 [(0, .ref qo), (1, .int w9)] (by decide +kernel) rfl rfl rfl (Nat.le_of_ble_eq_true rfl) (List.append_nil _).symm (fun p e s m args below meth c A C hname hT hZ => ?_)
  refine x_iload_n (q := 1) C 1 rfl dX5_fires_0 rfl ?_
  refine x_istore_n (q := 2) C [(2, .int w9), (0, .ref qo), (1, .int w9)] dX5_fires_1 (by decide) rfl rfl ?_
  refine x_aload_n (q := 3) C 1 rfl dX5_fires_2 rfl ?_
  refine x_iconst (q := 4) C (-1) rfl dX5_fires_3 rfl ?_
  refine x_CiP (q := 7) C [0, 3] [1, 2, 4] (cx := [(qo, .inr (5, [.int th, .int hh, .int tt, .ref qF, .ref qL, .ref qA, .ref qE, .ref qH, .ref qB, .int (nI n), .ref qS, .ref qP, .ref qC, .int mc, .ref qT, .ref qD, .ref qR, .ref qX, .ref qG, .ref qM, .ref qU, .int ml])), (qC, .inl (cy.1, 4, .inl cst))]) (wr := [(qS, .inl (cy.1, 4, .inl stp)), (qP, .inl (cy.1, 4, .inl pow)), (qX, .inl (cy.1, 4, .inl fr))]) (st := []) rfl rfl rfl rfl (by decide) (fun H locs ls hP hPc hDc hS hFc hl => x_runV C (As := [.int (-1)]) (c_X5_next_none qo qF qL qA qE qH qB qS qP qC qT qD qR qX qG qM qU n th hh tt mc ml cst hn4) (cwV 1 C.2.2.2.2.2.1 gX5_fires_X5_next rfl rfl rfl (by decide +kernel) ⟨Nat.le_of_ble_eq_true rfl, Nat.le_of_ble_eq_true rfl⟩) rfl 0 rfl rfl rfl (Nat.le_of_ble_eq_true rfl) dX5_fires_4 ⟨Nat.le_of_ble_eq_true rfl, Nat.le_of_ble_eq_true rfl⟩ (fun h => absurd h (by decide)) hP hPc hDc hS hFc hl) (k := 0) (n := 0) rfl rfl rfl (fun r_4 w1 hw => ?_)
  obtain ⟨rfl, rfl⟩ := hw
  refine x_ord [3, 0, 1, 4, 2] [(qo, .inr (5, [.int th, .int hh, .int tt, .ref qF, .ref qL, .ref qA, .ref qE, .ref qH, .ref qB, .int (nI n), .ref qS, .ref qP, .ref qC, .int mc, .ref qT, .ref qD, .ref qR, .ref qX, .ref qG, .ref qM, .ref qU, .int ml])), (qS, .inl (cy.1, 4, .inl stp)), (qP, .inl (cy.1, 4, .inl pow)), (qC, .inl (cy.1, 4, .inl cst)), (qX, .inl (cy.1, 4, .inl fr))] rfl rfl ?_
  refine x_istore_n (q := 8) C [(3, .int (eO (nxF n cst none))), (2, .int w9), (0, .ref qo), (1, .int w9)] dX5_fires_7 (by decide) rfl rfl ?_
  refine x_less [0, 1, 2] [(3, .int (eO (nxF n cst none))), (2, .int w9), (0, .ref qo)] rfl ?_
  refine x_less [0, 1, 2] [(3, .int (eO ord.head?)), (2, .int w9), (0, .ref qo)] (by rw [hfst]; rfl) ?_
  refine x_rec (σ := List Nat × Int32 × Int32 × (Nat → Int32)) (fun x => x.1.length) (fun x => chn (fun k => nxF n cst (some k)) x.1 ∧ (∀ k ∈ x.1, k < n) ∧ mfireL stp pow cst x.1 x.2.1 x.2.2.1 x.2.2.2 = mfireL stp pow cst ord w9 mc fr) (fun x => [(qo, .inr (5, [.int th, .int hh, .int tt, .ref qF, .ref qL, .ref qA, .ref qE, .ref qH, .ref qB, .int (nI n), .ref qS, .ref qP, .ref qC, .int x.2.2.1, .ref qT, .ref qD, .ref qR, .ref qX, .ref qG, .ref qM, .ref qU, .int ml])), (qS, .inl (cy.1, 4, .inl stp)), (qP, .inl (cy.1, 4, .inl pow)), (qC, .inl (cy.1, 4, .inl cst)), (qX, .inl (cy.1, 4, .inl x.2.2.2))]) (fun _ => []) (fun x => [(3, .int (eO x.1.head?)), (2, .int x.2.1), (0, .ref qo)]) (ord, w9, mc, fr) rfl rfl rfl ⟨hch, hlt, rfl⟩ (fun x hI ih => ?_)
  obtain ⟨ord1, l1, s1, f1⟩ := x
  rcases ord1 with _ | ⟨k, ks⟩
  · refine x_iload_n (q := 9) C 0 rfl dX5_fires_8 rfl ?_
    refine x_if_lt_t C 123 dX5_fires_9 (by decide) (show eO none < 0 from by decide) ?_
    exact x_vret C rfl (by rw [show mfireL stp pow cst ord w9 mc fr = (s1, f1) from hI.2.2.symm] <;> rfl) dX5_fires_123 (Nat.le_of_ble_eq_true rfl) (Nat.le_of_ble_eq_true rfl)
  · have hkn : k < n := hI.2.1 k List.mem_cons_self
    refine x_iload_n (q := 9) C 0 rfl dX5_fires_8 rfl ?_
    refine x_if_lt_f (q := 12) C 123 dX5_fires_9 (by decide) rfl (nI_nlt (a := k) (b := 0) (by omega) (by omega)) ?_
    refine x_iload_n (q := 13) C 1 rfl dX5_fires_12 rfl ?_
    refine x_aload_n (q := 14) C 2 rfl dX5_fires_13 rfl ?_
    refine x_get (q := 17) C (T := TX5) iw_X5_fires_X5 rfl 0 11 rfl (by decide) rfl (by decide +kernel : Cond.fieldLink RX5 31 RX5 "powers" "[I" ∈ wsX5_fires) rfl dX5_fires_14 rfl ?_
    refine x_iload_n (q := 18) C 0 rfl dX5_fires_17 rfl ?_
    refine x_ialdN (q := 19) C k 2 (pow k) rfl rfl (by omega) (by omega) rfl dX5_fires_18 rfl ?_
    refine x_iadd (q := 20) C (l1 + (pow k)) (rfl) dX5_fires_19 rfl ?_
    refine x_iconst (q := 21) C 1 rfl dX5_fires_20 rfl ?_
    refine x_isub (q := 22) C ((l1 + (pow k)) - 1) (rfl) dX5_fires_21 rfl ?_
    refine x_aload_n (q := 23) C 2 rfl dX5_fires_22 rfl ?_
    refine x_get (q := 26) C (T := TX5) iw_X5_fires_X5 rfl 0 11 rfl (by decide) rfl (by decide +kernel : Cond.fieldLink RX5 31 RX5 "powers" "[I" ∈ wsX5_fires) rfl dX5_fires_23 rfl ?_
    refine x_iload_n (q := 27) C 0 rfl dX5_fires_26 rfl ?_
    refine x_ialdN (q := 28) C k 2 (pow k) rfl rfl (by omega) (by omega) rfl dX5_fires_27 rfl ?_
    refine x_idiv (q := 29) C (((l1 + (pow k)) - 1) / (pow k)) (rfl) (hpw k hkn) dX5_fires_28 rfl ?_
    refine x_istore (q := 31) C [(4, .int (((l1 + (pow k)) - 1) / (pow k))), (3, .int (nI k)), (2, .int l1), (0, .ref qo)] dX5_fires_29 (by decide) rfl rfl ?_
    refine x_iload (q := 33) C 0 rfl dX5_fires_31 rfl ?_
    refine x_aload_n (q := 34) C 3 rfl dX5_fires_33 rfl ?_
    refine x_get (q := 37) C (T := TX5) iw_X5_fires_X5 rfl 0 10 rfl (by decide) rfl (by decide +kernel : Cond.fieldLink RX5 28 RX5 "steps" "[I" ∈ wsX5_fires) rfl dX5_fires_34 rfl ?_
    refine x_iload_n (q := 38) C 1 rfl dX5_fires_37 rfl ?_
    refine x_ialdN (q := 39) C k 1 (stp k) rfl rfl (by omega) (by omega) rfl dX5_fires_38 rfl ?_
    refine x_icmp_le (q := 42) C 51 dX5_fires_39 (by decide) rfl (fun c_39 => ?_) (fun c_39 => ?_)
    · refine x_iload (q := 53) C 0 rfl dX5_fires_51 rfl ?_
      refine x_istore (q := 55) C [(4, .int (((l1 + (pow k)) - 1) / (pow k))), (3, .int (nI k)), (2, .int l1), (0, .ref qo)] dX5_fires_53 (by decide) rfl rfl ?_
      refine x_iload (q := 57) C 0 rfl dX5_fires_55 rfl ?_
      refine x_aload_n (q := 58) C 3 rfl dX5_fires_57 rfl ?_
      refine x_get (q := 61) C (T := TX5) iw_X5_fires_X5 rfl 0 11 rfl (by decide) rfl (by decide +kernel : Cond.fieldLink RX5 31 RX5 "powers" "[I" ∈ wsX5_fires) rfl dX5_fires_58 rfl ?_
      refine x_iload_n (q := 62) C 1 rfl dX5_fires_61 rfl ?_
      refine x_ialdN (q := 63) C k 2 (pow k) rfl rfl (by omega) (by omega) rfl dX5_fires_62 rfl ?_
      refine x_imul (q := 64) C ((((l1 + (pow k)) - 1) / (pow k)) * (pow k)) (rfl) dX5_fires_63 rfl ?_
      refine x_iload_n (q := 65) C 2 rfl dX5_fires_64 rfl ?_
      refine x_icmp_ge (q := 68) C 80 dX5_fires_65 (by decide) rfl (fun c_65 => ?_) (fun c_65 => ?_)
      · refine x_iload_n (q := 81) C 2 rfl dX5_fires_80 rfl ?_
        refine x_istore (q := 83) C [(5, .int l1), (4, .int (((l1 + (pow k)) - 1) / (pow k))), (3, .int (nI k)), (2, .int l1), (0, .ref qo)] dX5_fires_81 (by decide) rfl rfl ?_
        refine x_aload_n (q := 84) C 4 rfl dX5_fires_83 rfl ?_
        refine x_get (q := 87) C (T := TX5) iw_X5_fires_X5 rfl 0 17 rfl (by decide) rfl (by decide +kernel : Cond.fieldLink RX5 47 RX5 "fired" "[I" ∈ wsX5_fires) rfl dX5_fires_84 rfl ?_
        refine x_iload_n (q := 88) C 2 rfl dX5_fires_87 rfl ?_
        refine x_iload (q := 90) C 1 rfl dX5_fires_88 rfl ?_
        refine x_iastN (q := 91) C k 4 (upd f1 k (((l1 + (pow k)) - 1) / (pow k))) [(qo, .inr (5, [.int th, .int hh, .int tt, .ref qF, .ref qL, .ref qA, .ref qE, .ref qH, .ref qB, .int (nI n), .ref qS, .ref qP, .ref qC, .int s1, .ref qT, .ref qD, .ref qR, .ref qX, .ref qG, .ref qM, .ref qU, .int ml])), (qS, .inl (cy.1, 4, .inl stp)), (qP, .inl (cy.1, 4, .inl pow)), (qC, .inl (cy.1, 4, .inl cst)), (qX, .inl (cy.1, 4, .inl (upd f1 k (((l1 + (pow k)) - 1) / (pow k)))))] rfl rfl (by omega) (by omega) rfl rfl dX5_fires_90 rfl ?_
        refine x_aload_n (q := 92) C 4 rfl dX5_fires_91 rfl ?_
        refine x_dup (q := 93) C rfl dX5_fires_92 rfl ?_
        refine x_get (q := 96) C (T := TX5) iw_X5_fires_X5 rfl 0 13 rfl (by decide) rfl (by decide +kernel : Cond.fieldLink RX5 94 RX5 "cost" "I" ∈ wsX5_fires) rfl dX5_fires_93 rfl ?_
        refine x_iload (q := 98) C 0 rfl dX5_fires_96 rfl ?_
        refine x_aload_n (q := 99) C 4 rfl dX5_fires_98 rfl ?_
        refine x_get (q := 102) C (T := TX5) iw_X5_fires_X5 rfl 0 12 rfl (by decide) rfl (by decide +kernel : Cond.fieldLink RX5 34 RX5 "costs" "[I" ∈ wsX5_fires) rfl dX5_fires_99 rfl ?_
        refine x_iload_n (q := 103) C 2 rfl dX5_fires_102 rfl ?_
        refine x_ialdN (q := 104) C k 3 (cst k) rfl rfl (by omega) (by omega) rfl dX5_fires_103 rfl ?_
        refine x_imul (q := 105) C (l1 * (cst k)) (rfl) dX5_fires_104 rfl ?_
        refine x_iadd (q := 106) C (s1 + (l1 * (cst k))) (rfl) dX5_fires_105 rfl ?_
        refine x_put (q := 109) C (T := TX5) iw_X5_fires_X5 tyX5 tyX5_ok nmX5 rfl 0 13 [(qo, .inr (5, [.int th, .int hh, .int tt, .ref qF, .ref qL, .ref qA, .ref qE, .ref qH, .ref qB, .int (nI n), .ref qS, .ref qP, .ref qC, .int (s1 + (l1 * (cst k))), .ref qT, .ref qD, .ref qR, .ref qX, .ref qG, .ref qM, .ref qU, .int ml])), (qS, .inl (cy.1, 4, .inl stp)), (qP, .inl (cy.1, 4, .inl pow)), (qC, .inl (cy.1, 4, .inl cst)), (qX, .inl (cy.1, 4, .inl (upd f1 k (((l1 + (pow k)) - 1) / (pow k)))))] rfl rfl (by decide) rfl (by decide +kernel : Cond.fieldLink RX5 94 RX5 "cost" "I" ∈ wsX5_fires) rfl .int (by decide +kernel) rfl rfl (Nat.le_of_ble_eq_true rfl) dX5_fires_106 rfl ?_
        refine x_iload_n (q := 110) C 3 rfl dX5_fires_109 rfl ?_
        refine x_iload (q := 112) C 0 rfl dX5_fires_110 rfl ?_
        refine x_isub (q := 113) C (l1 - l1) (rfl) dX5_fires_112 rfl ?_
        refine x_istore_n (q := 114) C [(2, .int (l1 - l1)), (5, .int l1), (4, .int (((l1 + (pow k)) - 1) / (pow k))), (3, .int (nI k)), (0, .ref qo)] dX5_fires_113 (by decide) rfl rfl ?_
        refine x_aload_n (q := 115) C 4 rfl dX5_fires_114 rfl ?_
        refine x_iload_n (q := 116) C 3 rfl dX5_fires_115 rfl ?_
        refine x_CiP (q := 119) C [0, 3] [1, 2, 4] (cx := [(qo, .inr (5, [.int th, .int hh, .int tt, .ref qF, .ref qL, .ref qA, .ref qE, .ref qH, .ref qB, .int (nI n), .ref qS, .ref qP, .ref qC, .int (s1 + (l1 * (cst k))), .ref qT, .ref qD, .ref qR, .ref qX, .ref qG, .ref qM, .ref qU, .int ml])), (qC, .inl (cy.1, 4, .inl cst))]) (wr := [(qS, .inl (cy.1, 4, .inl stp)), (qP, .inl (cy.1, 4, .inl pow)), (qX, .inl (cy.1, 4, .inl (upd f1 k (((l1 + (pow k)) - 1) / (pow k)))))]) (st := []) rfl rfl rfl rfl (by decide) (fun H locs ls hP hPc hDc hS hFc hl => x_runV C (As := [.int (nI k)]) (c_X5_next_some qo qF qL qA qE qH qB qS qP qC qT qD qR qX qG qM qU n th hh tt (s1 + (l1 * (cst k))) ml cst k hn4 (hI.2.1 k List.mem_cons_self)) (cwV 1 C.2.2.2.2.2.1 gX5_fires_X5_next rfl rfl rfl (by decide +kernel) ⟨Nat.le_of_ble_eq_true rfl, Nat.le_of_ble_eq_true rfl⟩) rfl 0 rfl rfl rfl (Nat.le_of_ble_eq_true rfl) dX5_fires_116 ⟨Nat.le_of_ble_eq_true rfl, Nat.le_of_ble_eq_true rfl⟩ (fun h => absurd h (by decide)) hP hPc hDc hS hFc hl) (k := 0) (n := 0) rfl rfl rfl (fun r_116 w1 hw => ?_)
        obtain ⟨rfl, rfl⟩ := hw
        refine x_ord [3, 0, 1, 4, 2] [(qo, .inr (5, [.int th, .int hh, .int tt, .ref qF, .ref qL, .ref qA, .ref qE, .ref qH, .ref qB, .int (nI n), .ref qS, .ref qP, .ref qC, .int (s1 + (l1 * (cst k))), .ref qT, .ref qD, .ref qR, .ref qX, .ref qG, .ref qM, .ref qU, .int ml])), (qS, .inl (cy.1, 4, .inl stp)), (qP, .inl (cy.1, 4, .inl pow)), (qC, .inl (cy.1, 4, .inl cst)), (qX, .inl (cy.1, 4, .inl (upd f1 k (((l1 + (pow k)) - 1) / (pow k)))))] rfl rfl ?_
        refine x_istore_n (q := 120) C [(3, .int (eO (nxF n cst (some k)))), (2, .int (l1 - l1)), (5, .int l1), (4, .int (((l1 + (pow k)) - 1) / (pow k))), (0, .ref qo)] dX5_fires_119 (by decide) rfl rfl ?_
        refine x_goto C 8 dX5_fires_120 (by decide) ?_
        refine x_less [0, 1, 4] [(3, .int (eO (nxF n cst (some k)))), (2, .int (l1 - l1)), (0, .ref qo)] rfl ?_
        refine x_less [0, 1, 2] [(3, .int (eO ks.head?)), (2, .int (l1 - l1)), (0, .ref qo)] (by rw [show nxF n cst (some k) = ks.head? from hI.1.1]; rfl) ?_
        have e7 : mfireL stp pow cst (k :: ks) l1 s1 f1 = mfireL stp pow cst ks (l1 - l1) (s1 + (l1 * (cst k))) (upd f1 k (((l1 + (pow k)) - 1) / (pow k))) := by
          simp only [mfireL, mUsed, mIts, if_pos c_39, if_pos c_65]
        exact ih (ks, l1 - l1, s1 + (l1 * (cst k)), upd f1 k (((l1 + (pow k)) - 1) / (pow k))) ⟨hI.1.2, fun j hj => hI.2.1 j (List.mem_cons_of_mem _ hj), by rw [← hI.2.2]; exact e7.symm⟩ (by simp)
      · refine x_iload (q := 70) C 0 rfl dX5_fires_68 rfl ?_
        refine x_aload_n (q := 71) C 3 rfl dX5_fires_70 rfl ?_
        refine x_get (q := 74) C (T := TX5) iw_X5_fires_X5 rfl 0 11 rfl (by decide) rfl (by decide +kernel : Cond.fieldLink RX5 31 RX5 "powers" "[I" ∈ wsX5_fires) rfl dX5_fires_71 rfl ?_
        refine x_iload_n (q := 75) C 1 rfl dX5_fires_74 rfl ?_
        refine x_ialdN (q := 76) C k 2 (pow k) rfl rfl (by omega) (by omega) rfl dX5_fires_75 rfl ?_
        refine x_imul (q := 77) C ((((l1 + (pow k)) - 1) / (pow k)) * (pow k)) (rfl) dX5_fires_76 rfl ?_
        refine x_goto C 81 dX5_fires_77 (by decide) ?_
        refine x_istore (q := 83) C [(5, .int ((((l1 + (pow k)) - 1) / (pow k)) * (pow k))), (4, .int (((l1 + (pow k)) - 1) / (pow k))), (3, .int (nI k)), (2, .int l1), (0, .ref qo)] dX5_fires_81 (by decide) rfl rfl ?_
        refine x_aload_n (q := 84) C 4 rfl dX5_fires_83 rfl ?_
        refine x_get (q := 87) C (T := TX5) iw_X5_fires_X5 rfl 0 17 rfl (by decide) rfl (by decide +kernel : Cond.fieldLink RX5 47 RX5 "fired" "[I" ∈ wsX5_fires) rfl dX5_fires_84 rfl ?_
        refine x_iload_n (q := 88) C 2 rfl dX5_fires_87 rfl ?_
        refine x_iload (q := 90) C 1 rfl dX5_fires_88 rfl ?_
        refine x_iastN (q := 91) C k 4 (upd f1 k (((l1 + (pow k)) - 1) / (pow k))) [(qo, .inr (5, [.int th, .int hh, .int tt, .ref qF, .ref qL, .ref qA, .ref qE, .ref qH, .ref qB, .int (nI n), .ref qS, .ref qP, .ref qC, .int s1, .ref qT, .ref qD, .ref qR, .ref qX, .ref qG, .ref qM, .ref qU, .int ml])), (qS, .inl (cy.1, 4, .inl stp)), (qP, .inl (cy.1, 4, .inl pow)), (qC, .inl (cy.1, 4, .inl cst)), (qX, .inl (cy.1, 4, .inl (upd f1 k (((l1 + (pow k)) - 1) / (pow k)))))] rfl rfl (by omega) (by omega) rfl rfl dX5_fires_90 rfl ?_
        refine x_aload_n (q := 92) C 4 rfl dX5_fires_91 rfl ?_
        refine x_dup (q := 93) C rfl dX5_fires_92 rfl ?_
        refine x_get (q := 96) C (T := TX5) iw_X5_fires_X5 rfl 0 13 rfl (by decide) rfl (by decide +kernel : Cond.fieldLink RX5 94 RX5 "cost" "I" ∈ wsX5_fires) rfl dX5_fires_93 rfl ?_
        refine x_iload (q := 98) C 0 rfl dX5_fires_96 rfl ?_
        refine x_aload_n (q := 99) C 4 rfl dX5_fires_98 rfl ?_
        refine x_get (q := 102) C (T := TX5) iw_X5_fires_X5 rfl 0 12 rfl (by decide) rfl (by decide +kernel : Cond.fieldLink RX5 34 RX5 "costs" "[I" ∈ wsX5_fires) rfl dX5_fires_99 rfl ?_
        refine x_iload_n (q := 103) C 2 rfl dX5_fires_102 rfl ?_
        refine x_ialdN (q := 104) C k 3 (cst k) rfl rfl (by omega) (by omega) rfl dX5_fires_103 rfl ?_
        refine x_imul (q := 105) C (((((l1 + (pow k)) - 1) / (pow k)) * (pow k)) * (cst k)) (rfl) dX5_fires_104 rfl ?_
        refine x_iadd (q := 106) C (s1 + (((((l1 + (pow k)) - 1) / (pow k)) * (pow k)) * (cst k))) (rfl) dX5_fires_105 rfl ?_
        refine x_put (q := 109) C (T := TX5) iw_X5_fires_X5 tyX5 tyX5_ok nmX5 rfl 0 13 [(qo, .inr (5, [.int th, .int hh, .int tt, .ref qF, .ref qL, .ref qA, .ref qE, .ref qH, .ref qB, .int (nI n), .ref qS, .ref qP, .ref qC, .int (s1 + (((((l1 + (pow k)) - 1) / (pow k)) * (pow k)) * (cst k))), .ref qT, .ref qD, .ref qR, .ref qX, .ref qG, .ref qM, .ref qU, .int ml])), (qS, .inl (cy.1, 4, .inl stp)), (qP, .inl (cy.1, 4, .inl pow)), (qC, .inl (cy.1, 4, .inl cst)), (qX, .inl (cy.1, 4, .inl (upd f1 k (((l1 + (pow k)) - 1) / (pow k)))))] rfl rfl (by decide) rfl (by decide +kernel : Cond.fieldLink RX5 94 RX5 "cost" "I" ∈ wsX5_fires) rfl .int (by decide +kernel) rfl rfl (Nat.le_of_ble_eq_true rfl) dX5_fires_106 rfl ?_
        refine x_iload_n (q := 110) C 3 rfl dX5_fires_109 rfl ?_
        refine x_iload (q := 112) C 0 rfl dX5_fires_110 rfl ?_
        refine x_isub (q := 113) C (l1 - ((((l1 + (pow k)) - 1) / (pow k)) * (pow k))) (rfl) dX5_fires_112 rfl ?_
        refine x_istore_n (q := 114) C [(2, .int (l1 - ((((l1 + (pow k)) - 1) / (pow k)) * (pow k)))), (5, .int ((((l1 + (pow k)) - 1) / (pow k)) * (pow k))), (4, .int (((l1 + (pow k)) - 1) / (pow k))), (3, .int (nI k)), (0, .ref qo)] dX5_fires_113 (by decide) rfl rfl ?_
        refine x_aload_n (q := 115) C 4 rfl dX5_fires_114 rfl ?_
        refine x_iload_n (q := 116) C 3 rfl dX5_fires_115 rfl ?_
        refine x_CiP (q := 119) C [0, 3] [1, 2, 4] (cx := [(qo, .inr (5, [.int th, .int hh, .int tt, .ref qF, .ref qL, .ref qA, .ref qE, .ref qH, .ref qB, .int (nI n), .ref qS, .ref qP, .ref qC, .int (s1 + (((((l1 + (pow k)) - 1) / (pow k)) * (pow k)) * (cst k))), .ref qT, .ref qD, .ref qR, .ref qX, .ref qG, .ref qM, .ref qU, .int ml])), (qC, .inl (cy.1, 4, .inl cst))]) (wr := [(qS, .inl (cy.1, 4, .inl stp)), (qP, .inl (cy.1, 4, .inl pow)), (qX, .inl (cy.1, 4, .inl (upd f1 k (((l1 + (pow k)) - 1) / (pow k)))))]) (st := []) rfl rfl rfl rfl (by decide) (fun H locs ls hP hPc hDc hS hFc hl => x_runV C (As := [.int (nI k)]) (c_X5_next_some qo qF qL qA qE qH qB qS qP qC qT qD qR qX qG qM qU n th hh tt (s1 + (((((l1 + (pow k)) - 1) / (pow k)) * (pow k)) * (cst k))) ml cst k hn4 (hI.2.1 k List.mem_cons_self)) (cwV 1 C.2.2.2.2.2.1 gX5_fires_X5_next rfl rfl rfl (by decide +kernel) ⟨Nat.le_of_ble_eq_true rfl, Nat.le_of_ble_eq_true rfl⟩) rfl 0 rfl rfl rfl (Nat.le_of_ble_eq_true rfl) dX5_fires_116 ⟨Nat.le_of_ble_eq_true rfl, Nat.le_of_ble_eq_true rfl⟩ (fun h => absurd h (by decide)) hP hPc hDc hS hFc hl) (k := 0) (n := 0) rfl rfl rfl (fun r_116 w1 hw => ?_)
        obtain ⟨rfl, rfl⟩ := hw
        refine x_ord [3, 0, 1, 4, 2] [(qo, .inr (5, [.int th, .int hh, .int tt, .ref qF, .ref qL, .ref qA, .ref qE, .ref qH, .ref qB, .int (nI n), .ref qS, .ref qP, .ref qC, .int (s1 + (((((l1 + (pow k)) - 1) / (pow k)) * (pow k)) * (cst k))), .ref qT, .ref qD, .ref qR, .ref qX, .ref qG, .ref qM, .ref qU, .int ml])), (qS, .inl (cy.1, 4, .inl stp)), (qP, .inl (cy.1, 4, .inl pow)), (qC, .inl (cy.1, 4, .inl cst)), (qX, .inl (cy.1, 4, .inl (upd f1 k (((l1 + (pow k)) - 1) / (pow k)))))] rfl rfl ?_
        refine x_istore_n (q := 120) C [(3, .int (eO (nxF n cst (some k)))), (2, .int (l1 - ((((l1 + (pow k)) - 1) / (pow k)) * (pow k)))), (5, .int ((((l1 + (pow k)) - 1) / (pow k)) * (pow k))), (4, .int (((l1 + (pow k)) - 1) / (pow k))), (0, .ref qo)] dX5_fires_119 (by decide) rfl rfl ?_
        refine x_goto C 8 dX5_fires_120 (by decide) ?_
        refine x_less [0, 1, 4] [(3, .int (eO (nxF n cst (some k)))), (2, .int (l1 - ((((l1 + (pow k)) - 1) / (pow k)) * (pow k)))), (0, .ref qo)] rfl ?_
        refine x_less [0, 1, 2] [(3, .int (eO ks.head?)), (2, .int (l1 - ((((l1 + (pow k)) - 1) / (pow k)) * (pow k)))), (0, .ref qo)] (by rw [show nxF n cst (some k) = ks.head? from hI.1.1]; rfl) ?_
        have e7 : mfireL stp pow cst (k :: ks) l1 s1 f1 = mfireL stp pow cst ks (l1 - ((((l1 + (pow k)) - 1) / (pow k)) * (pow k))) (s1 + (((((l1 + (pow k)) - 1) / (pow k)) * (pow k)) * (cst k))) (upd f1 k (((l1 + (pow k)) - 1) / (pow k))) := by
          simp only [mfireL, mUsed, mIts, if_pos c_39, if_neg c_65]
        exact ih (ks, l1 - ((((l1 + (pow k)) - 1) / (pow k)) * (pow k)), s1 + (((((l1 + (pow k)) - 1) / (pow k)) * (pow k)) * (cst k)), upd f1 k (((l1 + (pow k)) - 1) / (pow k))) ⟨hI.1.2, fun j hj => hI.2.1 j (List.mem_cons_of_mem _ hj), by rw [← hI.2.2]; exact e7.symm⟩ (by simp)
    · refine x_aload_n (q := 43) C 3 rfl dX5_fires_42 rfl ?_
      refine x_get (q := 46) C (T := TX5) iw_X5_fires_X5 rfl 0 10 rfl (by decide) rfl (by decide +kernel : Cond.fieldLink RX5 28 RX5 "steps" "[I" ∈ wsX5_fires) rfl dX5_fires_43 rfl ?_
      refine x_iload_n (q := 47) C 1 rfl dX5_fires_46 rfl ?_
      refine x_ialdN (q := 48) C k 1 (stp k) rfl rfl (by omega) (by omega) rfl dX5_fires_47 rfl ?_
      refine x_goto C 53 dX5_fires_48 (by decide) ?_
      refine x_istore (q := 55) C [(4, .int (stp k)), (3, .int (nI k)), (2, .int l1), (0, .ref qo)] dX5_fires_53 (by decide) rfl rfl ?_
      refine x_iload (q := 57) C 0 rfl dX5_fires_55 rfl ?_
      refine x_aload_n (q := 58) C 3 rfl dX5_fires_57 rfl ?_
      refine x_get (q := 61) C (T := TX5) iw_X5_fires_X5 rfl 0 11 rfl (by decide) rfl (by decide +kernel : Cond.fieldLink RX5 31 RX5 "powers" "[I" ∈ wsX5_fires) rfl dX5_fires_58 rfl ?_
      refine x_iload_n (q := 62) C 1 rfl dX5_fires_61 rfl ?_
      refine x_ialdN (q := 63) C k 2 (pow k) rfl rfl (by omega) (by omega) rfl dX5_fires_62 rfl ?_
      refine x_imul (q := 64) C ((stp k) * (pow k)) (rfl) dX5_fires_63 rfl ?_
      refine x_iload_n (q := 65) C 2 rfl dX5_fires_64 rfl ?_
      refine x_icmp_ge (q := 68) C 80 dX5_fires_65 (by decide) rfl (fun c_65 => ?_) (fun c_65 => ?_)
      · refine x_iload_n (q := 81) C 2 rfl dX5_fires_80 rfl ?_
        refine x_istore (q := 83) C [(5, .int l1), (4, .int (stp k)), (3, .int (nI k)), (2, .int l1), (0, .ref qo)] dX5_fires_81 (by decide) rfl rfl ?_
        refine x_aload_n (q := 84) C 4 rfl dX5_fires_83 rfl ?_
        refine x_get (q := 87) C (T := TX5) iw_X5_fires_X5 rfl 0 17 rfl (by decide) rfl (by decide +kernel : Cond.fieldLink RX5 47 RX5 "fired" "[I" ∈ wsX5_fires) rfl dX5_fires_84 rfl ?_
        refine x_iload_n (q := 88) C 2 rfl dX5_fires_87 rfl ?_
        refine x_iload (q := 90) C 1 rfl dX5_fires_88 rfl ?_
        refine x_iastN (q := 91) C k 4 (upd f1 k (stp k)) [(qo, .inr (5, [.int th, .int hh, .int tt, .ref qF, .ref qL, .ref qA, .ref qE, .ref qH, .ref qB, .int (nI n), .ref qS, .ref qP, .ref qC, .int s1, .ref qT, .ref qD, .ref qR, .ref qX, .ref qG, .ref qM, .ref qU, .int ml])), (qS, .inl (cy.1, 4, .inl stp)), (qP, .inl (cy.1, 4, .inl pow)), (qC, .inl (cy.1, 4, .inl cst)), (qX, .inl (cy.1, 4, .inl (upd f1 k (stp k))))] rfl rfl (by omega) (by omega) rfl rfl dX5_fires_90 rfl ?_
        refine x_aload_n (q := 92) C 4 rfl dX5_fires_91 rfl ?_
        refine x_dup (q := 93) C rfl dX5_fires_92 rfl ?_
        refine x_get (q := 96) C (T := TX5) iw_X5_fires_X5 rfl 0 13 rfl (by decide) rfl (by decide +kernel : Cond.fieldLink RX5 94 RX5 "cost" "I" ∈ wsX5_fires) rfl dX5_fires_93 rfl ?_
        refine x_iload (q := 98) C 0 rfl dX5_fires_96 rfl ?_
        refine x_aload_n (q := 99) C 4 rfl dX5_fires_98 rfl ?_
        refine x_get (q := 102) C (T := TX5) iw_X5_fires_X5 rfl 0 12 rfl (by decide) rfl (by decide +kernel : Cond.fieldLink RX5 34 RX5 "costs" "[I" ∈ wsX5_fires) rfl dX5_fires_99 rfl ?_
        refine x_iload_n (q := 103) C 2 rfl dX5_fires_102 rfl ?_
        refine x_ialdN (q := 104) C k 3 (cst k) rfl rfl (by omega) (by omega) rfl dX5_fires_103 rfl ?_
        refine x_imul (q := 105) C (l1 * (cst k)) (rfl) dX5_fires_104 rfl ?_
        refine x_iadd (q := 106) C (s1 + (l1 * (cst k))) (rfl) dX5_fires_105 rfl ?_
        refine x_put (q := 109) C (T := TX5) iw_X5_fires_X5 tyX5 tyX5_ok nmX5 rfl 0 13 [(qo, .inr (5, [.int th, .int hh, .int tt, .ref qF, .ref qL, .ref qA, .ref qE, .ref qH, .ref qB, .int (nI n), .ref qS, .ref qP, .ref qC, .int (s1 + (l1 * (cst k))), .ref qT, .ref qD, .ref qR, .ref qX, .ref qG, .ref qM, .ref qU, .int ml])), (qS, .inl (cy.1, 4, .inl stp)), (qP, .inl (cy.1, 4, .inl pow)), (qC, .inl (cy.1, 4, .inl cst)), (qX, .inl (cy.1, 4, .inl (upd f1 k (stp k))))] rfl rfl (by decide) rfl (by decide +kernel : Cond.fieldLink RX5 94 RX5 "cost" "I" ∈ wsX5_fires) rfl .int (by decide +kernel) rfl rfl (Nat.le_of_ble_eq_true rfl) dX5_fires_106 rfl ?_
        refine x_iload_n (q := 110) C 3 rfl dX5_fires_109 rfl ?_
        refine x_iload (q := 112) C 0 rfl dX5_fires_110 rfl ?_
        refine x_isub (q := 113) C (l1 - l1) (rfl) dX5_fires_112 rfl ?_
        refine x_istore_n (q := 114) C [(2, .int (l1 - l1)), (5, .int l1), (4, .int (stp k)), (3, .int (nI k)), (0, .ref qo)] dX5_fires_113 (by decide) rfl rfl ?_
        refine x_aload_n (q := 115) C 4 rfl dX5_fires_114 rfl ?_
        refine x_iload_n (q := 116) C 3 rfl dX5_fires_115 rfl ?_
        refine x_CiP (q := 119) C [0, 3] [1, 2, 4] (cx := [(qo, .inr (5, [.int th, .int hh, .int tt, .ref qF, .ref qL, .ref qA, .ref qE, .ref qH, .ref qB, .int (nI n), .ref qS, .ref qP, .ref qC, .int (s1 + (l1 * (cst k))), .ref qT, .ref qD, .ref qR, .ref qX, .ref qG, .ref qM, .ref qU, .int ml])), (qC, .inl (cy.1, 4, .inl cst))]) (wr := [(qS, .inl (cy.1, 4, .inl stp)), (qP, .inl (cy.1, 4, .inl pow)), (qX, .inl (cy.1, 4, .inl (upd f1 k (stp k))))]) (st := []) rfl rfl rfl rfl (by decide) (fun H locs ls hP hPc hDc hS hFc hl => x_runV C (As := [.int (nI k)]) (c_X5_next_some qo qF qL qA qE qH qB qS qP qC qT qD qR qX qG qM qU n th hh tt (s1 + (l1 * (cst k))) ml cst k hn4 (hI.2.1 k List.mem_cons_self)) (cwV 1 C.2.2.2.2.2.1 gX5_fires_X5_next rfl rfl rfl (by decide +kernel) ⟨Nat.le_of_ble_eq_true rfl, Nat.le_of_ble_eq_true rfl⟩) rfl 0 rfl rfl rfl (Nat.le_of_ble_eq_true rfl) dX5_fires_116 ⟨Nat.le_of_ble_eq_true rfl, Nat.le_of_ble_eq_true rfl⟩ (fun h => absurd h (by decide)) hP hPc hDc hS hFc hl) (k := 0) (n := 0) rfl rfl rfl (fun r_116 w1 hw => ?_)
        obtain ⟨rfl, rfl⟩ := hw
        refine x_ord [3, 0, 1, 4, 2] [(qo, .inr (5, [.int th, .int hh, .int tt, .ref qF, .ref qL, .ref qA, .ref qE, .ref qH, .ref qB, .int (nI n), .ref qS, .ref qP, .ref qC, .int (s1 + (l1 * (cst k))), .ref qT, .ref qD, .ref qR, .ref qX, .ref qG, .ref qM, .ref qU, .int ml])), (qS, .inl (cy.1, 4, .inl stp)), (qP, .inl (cy.1, 4, .inl pow)), (qC, .inl (cy.1, 4, .inl cst)), (qX, .inl (cy.1, 4, .inl (upd f1 k (stp k))))] rfl rfl ?_
        refine x_istore_n (q := 120) C [(3, .int (eO (nxF n cst (some k)))), (2, .int (l1 - l1)), (5, .int l1), (4, .int (stp k)), (0, .ref qo)] dX5_fires_119 (by decide) rfl rfl ?_
        refine x_goto C 8 dX5_fires_120 (by decide) ?_
        refine x_less [0, 1, 4] [(3, .int (eO (nxF n cst (some k)))), (2, .int (l1 - l1)), (0, .ref qo)] rfl ?_
        refine x_less [0, 1, 2] [(3, .int (eO ks.head?)), (2, .int (l1 - l1)), (0, .ref qo)] (by rw [show nxF n cst (some k) = ks.head? from hI.1.1]; rfl) ?_
        have e7 : mfireL stp pow cst (k :: ks) l1 s1 f1 = mfireL stp pow cst ks (l1 - l1) (s1 + (l1 * (cst k))) (upd f1 k (stp k)) := by
          simp only [mfireL, mUsed, mIts, if_neg c_39, if_pos c_65]
        exact ih (ks, l1 - l1, s1 + (l1 * (cst k)), upd f1 k (stp k)) ⟨hI.1.2, fun j hj => hI.2.1 j (List.mem_cons_of_mem _ hj), by rw [← hI.2.2]; exact e7.symm⟩ (by simp)
      · refine x_iload (q := 70) C 0 rfl dX5_fires_68 rfl ?_
        refine x_aload_n (q := 71) C 3 rfl dX5_fires_70 rfl ?_
        refine x_get (q := 74) C (T := TX5) iw_X5_fires_X5 rfl 0 11 rfl (by decide) rfl (by decide +kernel : Cond.fieldLink RX5 31 RX5 "powers" "[I" ∈ wsX5_fires) rfl dX5_fires_71 rfl ?_
        refine x_iload_n (q := 75) C 1 rfl dX5_fires_74 rfl ?_
        refine x_ialdN (q := 76) C k 2 (pow k) rfl rfl (by omega) (by omega) rfl dX5_fires_75 rfl ?_
        refine x_imul (q := 77) C ((stp k) * (pow k)) (rfl) dX5_fires_76 rfl ?_
        refine x_goto C 81 dX5_fires_77 (by decide) ?_
        refine x_istore (q := 83) C [(5, .int ((stp k) * (pow k))), (4, .int (stp k)), (3, .int (nI k)), (2, .int l1), (0, .ref qo)] dX5_fires_81 (by decide) rfl rfl ?_
        refine x_aload_n (q := 84) C 4 rfl dX5_fires_83 rfl ?_
        refine x_get (q := 87) C (T := TX5) iw_X5_fires_X5 rfl 0 17 rfl (by decide) rfl (by decide +kernel : Cond.fieldLink RX5 47 RX5 "fired" "[I" ∈ wsX5_fires) rfl dX5_fires_84 rfl ?_
        refine x_iload_n (q := 88) C 2 rfl dX5_fires_87 rfl ?_
        refine x_iload (q := 90) C 1 rfl dX5_fires_88 rfl ?_
        refine x_iastN (q := 91) C k 4 (upd f1 k (stp k)) [(qo, .inr (5, [.int th, .int hh, .int tt, .ref qF, .ref qL, .ref qA, .ref qE, .ref qH, .ref qB, .int (nI n), .ref qS, .ref qP, .ref qC, .int s1, .ref qT, .ref qD, .ref qR, .ref qX, .ref qG, .ref qM, .ref qU, .int ml])), (qS, .inl (cy.1, 4, .inl stp)), (qP, .inl (cy.1, 4, .inl pow)), (qC, .inl (cy.1, 4, .inl cst)), (qX, .inl (cy.1, 4, .inl (upd f1 k (stp k))))] rfl rfl (by omega) (by omega) rfl rfl dX5_fires_90 rfl ?_
        refine x_aload_n (q := 92) C 4 rfl dX5_fires_91 rfl ?_
        refine x_dup (q := 93) C rfl dX5_fires_92 rfl ?_
        refine x_get (q := 96) C (T := TX5) iw_X5_fires_X5 rfl 0 13 rfl (by decide) rfl (by decide +kernel : Cond.fieldLink RX5 94 RX5 "cost" "I" ∈ wsX5_fires) rfl dX5_fires_93 rfl ?_
        refine x_iload (q := 98) C 0 rfl dX5_fires_96 rfl ?_
        refine x_aload_n (q := 99) C 4 rfl dX5_fires_98 rfl ?_
        refine x_get (q := 102) C (T := TX5) iw_X5_fires_X5 rfl 0 12 rfl (by decide) rfl (by decide +kernel : Cond.fieldLink RX5 34 RX5 "costs" "[I" ∈ wsX5_fires) rfl dX5_fires_99 rfl ?_
        refine x_iload_n (q := 103) C 2 rfl dX5_fires_102 rfl ?_
        refine x_ialdN (q := 104) C k 3 (cst k) rfl rfl (by omega) (by omega) rfl dX5_fires_103 rfl ?_
        refine x_imul (q := 105) C (((stp k) * (pow k)) * (cst k)) (rfl) dX5_fires_104 rfl ?_
        refine x_iadd (q := 106) C (s1 + (((stp k) * (pow k)) * (cst k))) (rfl) dX5_fires_105 rfl ?_
        refine x_put (q := 109) C (T := TX5) iw_X5_fires_X5 tyX5 tyX5_ok nmX5 rfl 0 13 [(qo, .inr (5, [.int th, .int hh, .int tt, .ref qF, .ref qL, .ref qA, .ref qE, .ref qH, .ref qB, .int (nI n), .ref qS, .ref qP, .ref qC, .int (s1 + (((stp k) * (pow k)) * (cst k))), .ref qT, .ref qD, .ref qR, .ref qX, .ref qG, .ref qM, .ref qU, .int ml])), (qS, .inl (cy.1, 4, .inl stp)), (qP, .inl (cy.1, 4, .inl pow)), (qC, .inl (cy.1, 4, .inl cst)), (qX, .inl (cy.1, 4, .inl (upd f1 k (stp k))))] rfl rfl (by decide) rfl (by decide +kernel : Cond.fieldLink RX5 94 RX5 "cost" "I" ∈ wsX5_fires) rfl .int (by decide +kernel) rfl rfl (Nat.le_of_ble_eq_true rfl) dX5_fires_106 rfl ?_
        refine x_iload_n (q := 110) C 3 rfl dX5_fires_109 rfl ?_
        refine x_iload (q := 112) C 0 rfl dX5_fires_110 rfl ?_
        refine x_isub (q := 113) C (l1 - ((stp k) * (pow k))) (rfl) dX5_fires_112 rfl ?_
        refine x_istore_n (q := 114) C [(2, .int (l1 - ((stp k) * (pow k)))), (5, .int ((stp k) * (pow k))), (4, .int (stp k)), (3, .int (nI k)), (0, .ref qo)] dX5_fires_113 (by decide) rfl rfl ?_
        refine x_aload_n (q := 115) C 4 rfl dX5_fires_114 rfl ?_
        refine x_iload_n (q := 116) C 3 rfl dX5_fires_115 rfl ?_
        refine x_CiP (q := 119) C [0, 3] [1, 2, 4] (cx := [(qo, .inr (5, [.int th, .int hh, .int tt, .ref qF, .ref qL, .ref qA, .ref qE, .ref qH, .ref qB, .int (nI n), .ref qS, .ref qP, .ref qC, .int (s1 + (((stp k) * (pow k)) * (cst k))), .ref qT, .ref qD, .ref qR, .ref qX, .ref qG, .ref qM, .ref qU, .int ml])), (qC, .inl (cy.1, 4, .inl cst))]) (wr := [(qS, .inl (cy.1, 4, .inl stp)), (qP, .inl (cy.1, 4, .inl pow)), (qX, .inl (cy.1, 4, .inl (upd f1 k (stp k))))]) (st := []) rfl rfl rfl rfl (by decide) (fun H locs ls hP hPc hDc hS hFc hl => x_runV C (As := [.int (nI k)]) (c_X5_next_some qo qF qL qA qE qH qB qS qP qC qT qD qR qX qG qM qU n th hh tt (s1 + (((stp k) * (pow k)) * (cst k))) ml cst k hn4 (hI.2.1 k List.mem_cons_self)) (cwV 1 C.2.2.2.2.2.1 gX5_fires_X5_next rfl rfl rfl (by decide +kernel) ⟨Nat.le_of_ble_eq_true rfl, Nat.le_of_ble_eq_true rfl⟩) rfl 0 rfl rfl rfl (Nat.le_of_ble_eq_true rfl) dX5_fires_116 ⟨Nat.le_of_ble_eq_true rfl, Nat.le_of_ble_eq_true rfl⟩ (fun h => absurd h (by decide)) hP hPc hDc hS hFc hl) (k := 0) (n := 0) rfl rfl rfl (fun r_116 w1 hw => ?_)
        obtain ⟨rfl, rfl⟩ := hw
        refine x_ord [3, 0, 1, 4, 2] [(qo, .inr (5, [.int th, .int hh, .int tt, .ref qF, .ref qL, .ref qA, .ref qE, .ref qH, .ref qB, .int (nI n), .ref qS, .ref qP, .ref qC, .int (s1 + (((stp k) * (pow k)) * (cst k))), .ref qT, .ref qD, .ref qR, .ref qX, .ref qG, .ref qM, .ref qU, .int ml])), (qS, .inl (cy.1, 4, .inl stp)), (qP, .inl (cy.1, 4, .inl pow)), (qC, .inl (cy.1, 4, .inl cst)), (qX, .inl (cy.1, 4, .inl (upd f1 k (stp k))))] rfl rfl ?_
        refine x_istore_n (q := 120) C [(3, .int (eO (nxF n cst (some k)))), (2, .int (l1 - ((stp k) * (pow k)))), (5, .int ((stp k) * (pow k))), (4, .int (stp k)), (0, .ref qo)] dX5_fires_119 (by decide) rfl rfl ?_
        refine x_goto C 8 dX5_fires_120 (by decide) ?_
        refine x_less [0, 1, 4] [(3, .int (eO (nxF n cst (some k)))), (2, .int (l1 - ((stp k) * (pow k)))), (0, .ref qo)] rfl ?_
        refine x_less [0, 1, 2] [(3, .int (eO ks.head?)), (2, .int (l1 - ((stp k) * (pow k)))), (0, .ref qo)] (by rw [show nxF n cst (some k) = ks.head? from hI.1.1]; rfl) ?_
        have e7 : mfireL stp pow cst (k :: ks) l1 s1 f1 = mfireL stp pow cst ks (l1 - ((stp k) * (pow k))) (s1 + (((stp k) * (pow k)) * (cst k))) (upd f1 k (stp k)) := by
          simp only [mfireL, mUsed, mIts, if_neg c_39, if_neg c_65]
        exact ih (ks, l1 - ((stp k) * (pow k)), s1 + (((stp k) * (pow k)) * (cst k)), upd f1 k (stp k)) ⟨hI.1.2, fun j hj => hI.2.1 j (List.mem_cons_of_mem _ hj), by rw [← hI.2.2]; exact e7.symm⟩ (by simp)

theorem iw_X5_power_X5 : ∀ w ∈ wsX50, w ∈ wsX5_power := by decide +kernel
set_option maxHeartbeats 4000000 in
set_option maxRecDepth 100000 in
theorem c_X5_power {l : Launch} {D : va_G} {cy : ClassId × ClassId × ClassId} (qo qF qL qA qE qH qB qS qP qC qT qD qR qX qG qM qU n : Nat) (th hh tt mc ml : Int32) (stp pow : Nat → Int32) (hn4 : n ≤ 4) : xM false l yX5_power wsX5_power ({ frames := 0, cells := 0, slots := 0, locals := 0 }) D cy [.ref qo] ([(qo, .inr (5, [.int th, .int hh, .int tt, .ref qF, .ref qL, .ref qA, .ref qE, .ref qH, .ref qB, .int (nI n), .ref qS, .ref qP, .ref qC, .int mc, .ref qT, .ref qD, .ref qR, .ref qX, .ref qG, .ref qM, .ref qU, .int ml])), (qS, .inl (cy.1, 4, .inl stp)), (qP, .inl (cy.1, 4, .inl pow))]) (xQi D (fun r w => r = mpFun stp pow n ∧ w = [(qo, .inr (5, [.int th, .int hh, .int tt, .ref qF, .ref qL, .ref qA, .ref qE, .ref qH, .ref qB, .int (nI n), .ref qS, .ref qP, .ref qC, .int mc, .ref qT, .ref qD, .ref qR, .ref qX, .ref qG, .ref qM, .ref qU, .int ml])), (qS, .inl (cy.1, 4, .inl stp)), (qP, .inl (cy.1, 4, .inl pow))])) 0 0 := by
  refine xM_of (X := [(qo, .inr (5, [.int th, .int hh, .int tt, .ref qF, .ref qL, .ref qA, .ref qE, .ref qH, .ref qB, .int (nI n), .ref qS, .ref qP, .ref qC, .int mc, .ref qT, .ref qD, .ref qR, .ref qX, .ref qG, .ref qM, .ref qU, .int ml])), (qS, .inl (cy.1, 4, .inl stp)), (qP, .inl (cy.1, 4, .inl pow))]) (pl := []) (nL := 3) (ret := (some .int)) RX5 [(0, .ref qo)] (by decide +kernel) rfl rfl rfl (Nat.le_of_ble_eq_true rfl) (List.append_nil _).symm (fun p e s m args below meth c A C hname hT hZ => ?_)
  refine x_iconst (q := 1) C 0 rfl dX5_power_0 rfl ?_
  refine x_istore_n (q := 2) C [(1, .int 0), (0, .ref qo)] dX5_power_1 (by decide) rfl rfl ?_
  refine x_iconst (q := 3) C 0 rfl dX5_power_2 rfl ?_
  refine x_istore_n (q := 4) C [(2, .int 0), (1, .int 0), (0, .ref qo)] dX5_power_3 (by decide) rfl rfl ?_
  refine x_less [0, 1, 2] [(2, .int 0), (1, .int 0), (0, .ref qo)] rfl ?_
  refine x_up (fun j => [(qo, .inr (5, [.int th, .int hh, .int tt, .ref qF, .ref qL, .ref qA, .ref qE, .ref qH, .ref qB, .int (nI n), .ref qS, .ref qP, .ref qC, .int mc, .ref qT, .ref qD, .ref qR, .ref qX, .ref qG, .ref qM, .ref qU, .int ml])), (qS, .inl (cy.1, 4, .inl stp)), (qP, .inl (cy.1, 4, .inl pow))]) (fun j => [(2, .int (nI j)), (1, .int (itr (mpStep stp pow) 0 j)), (0, .ref qo)]) n rfl rfl (fun j h_j ih_j => ?_) ?_
  · refine x_iload_n (q := 5) C 0 rfl dX5_power_4 rfl ?_
    refine x_aload_n (q := 6) C 2 rfl dX5_power_5 rfl ?_
    refine x_get (q := 9) C (T := TX5) iw_X5_power_X5 rfl 0 9 rfl (by decide) rfl (by decide +kernel : Cond.fieldLink RX5 77 RX5 "boilers" "I" ∈ wsX5_power) rfl dX5_power_6 rfl ?_
    refine x_icmp_ge_f (q := 12) C 34 dX5_power_9 (by decide) rfl (nI_ge (a := j) (b := n) (by omega) (by omega)) ?_
    refine x_iload_n (q := 13) C 1 rfl dX5_power_12 rfl ?_
    refine x_aload_n (q := 14) C 2 rfl dX5_power_13 rfl ?_
    refine x_get (q := 17) C (T := TX5) iw_X5_power_X5 rfl 0 10 rfl (by decide) rfl (by decide +kernel : Cond.fieldLink RX5 28 RX5 "steps" "[I" ∈ wsX5_power) rfl dX5_power_14 rfl ?_
    refine x_iload_n (q := 18) C 0 rfl dX5_power_17 rfl ?_
    refine x_ialdN (q := 19) C j 1 (stp j) rfl rfl (by omega) (by omega) rfl dX5_power_18 rfl ?_
    refine x_aload_n (q := 20) C 2 rfl dX5_power_19 rfl ?_
    refine x_get (q := 23) C (T := TX5) iw_X5_power_X5 rfl 0 11 rfl (by decide) rfl (by decide +kernel : Cond.fieldLink RX5 31 RX5 "powers" "[I" ∈ wsX5_power) rfl dX5_power_20 rfl ?_
    refine x_iload_n (q := 24) C 0 rfl dX5_power_23 rfl ?_
    refine x_ialdN (q := 25) C j 2 (pow j) rfl rfl (by omega) (by omega) rfl dX5_power_24 rfl ?_
    refine x_imul (q := 26) C ((stp j) * (pow j)) (rfl) dX5_power_25 rfl ?_
    refine x_iadd (q := 27) C ((itr (mpStep stp pow) 0 j) + ((stp j) * (pow j))) (rfl) dX5_power_26 rfl ?_
    refine x_istore_n (q := 28) C [(1, .int ((itr (mpStep stp pow) 0 j) + ((stp j) * (pow j)))), (2, .int (nI j)), (0, .ref qo)] dX5_power_27 (by decide) rfl rfl ?_
    refine x_iinc (q := 31) C 1 (nI (j + 1)) [(2, .int (nI (j + 1))), (1, .int ((itr (mpStep stp pow) 0 j) + ((stp j) * (pow j)))), (0, .ref qo)] dX5_power_28 rfl (nI_1 _) (by decide) rfl rfl ?_
    refine x_goto C 4 dX5_power_31 (by decide) ?_
    refine x_less [0, 1, 2] [(2, .int (nI (j + 1))), (1, .int ((itr (mpStep stp pow) 0 j) + ((stp j) * (pow j)))), (0, .ref qo)] rfl ?_
    refine x_less [0, 1, 2] [(2, .int (nI (j + 1))), (1, .int (itr (mpStep stp pow) 0 (j + 1))), (0, .ref qo)] (by first | rfl | (rw [e9]; rfl)) ?_
    refine x_world (X' := [(qo, .inr (5, [.int th, .int hh, .int tt, .ref qF, .ref qL, .ref qA, .ref qE, .ref qH, .ref qB, .int (nI n), .ref qS, .ref qP, .ref qC, .int mc, .ref qT, .ref qD, .ref qR, .ref qX, .ref qG, .ref qM, .ref qU, .int ml])), (qS, .inl (cy.1, 4, .inl stp)), (qP, .inl (cy.1, 4, .inl pow))]) (pl' := []) (by first | rfl | rw [e9]) ?_
    exact ih_j
  · refine x_iload_n (q := 5) C 0 rfl dX5_power_4 rfl ?_
    refine x_aload_n (q := 6) C 2 rfl dX5_power_5 rfl ?_
    refine x_get (q := 9) C (T := TX5) iw_X5_power_X5 rfl 0 9 rfl (by decide) rfl (by decide +kernel : Cond.fieldLink RX5 77 RX5 "boilers" "I" ∈ wsX5_power) rfl dX5_power_6 rfl ?_
    refine x_icmp_ge_t C 34 dX5_power_9 (by decide) (nI_le (a := n) (b := n) (by omega) (by omega)) ?_
    refine x_iload_n (q := 35) C 1 rfl dX5_power_34 rfl ?_
    exact x_iret C .int rfl rfl (⟨rfl, rfl⟩) dX5_power_35 (Nat.le_of_ble_eq_true rfl) (Nat.le_of_ble_eq_true rfl)

theorem iw_X5_serves_X5 : ∀ w ∈ wsX50, w ∈ wsX5_serves := by decide +kernel
set_option maxHeartbeats 4000000 in
set_option maxRecDepth 100000 in
theorem c_X5_serves {l : Launch} {D : va_G} {cy : ClassId × ClassId × ClassId} (qo qF qL qA qE qH qB qS qP qC qT qD qR qX qG qM qU n : Nat) (th hh tt mc ml : Int32) (lo stp pow dm ca g : Nat → Int32) (w : Int32) (hn4 : n ≤ 4) : xM false l yX5_serves wsX5_serves ({ frames := 1, cells := 0, slots := 0, locals := 22 }) D cy [.ref qo, .int w] ([(qo, .inr (5, [.int th, .int hh, .int tt, .ref qF, .ref qL, .ref qA, .ref qE, .ref qH, .ref qB, .int (nI n), .ref qS, .ref qP, .ref qC, .int mc, .ref qT, .ref qD, .ref qR, .ref qX, .ref qG, .ref qM, .ref qU, .int ml])), (qL, .inl (cy.1, 12, .inl lo)), (qS, .inl (cy.1, 4, .inl stp)), (qP, .inl (cy.1, 4, .inl pow)), (qD, .inl (cy.1, 12, .inl dm)), (qR, .inl (cy.2.1, 12, .inl ca)), (qG, .inl (cy.1, 12, .inl g))]) (xQv D (fun w1 => w1 = [(qo, .inr (5, [.int th, .int hh, .int tt, .ref qF, .ref qL, .ref qA, .ref qE, .ref qH, .ref qB, .int (nI n), .ref qS, .ref qP, .ref qC, .int mc, .ref qT, .ref qD, .ref qR, .ref qX, .ref qG, .ref qM, .ref qU, .int (mlsFun ca lo)])), (qL, .inl (cy.1, 12, .inl lo)), (qS, .inl (cy.1, 4, .inl stp)), (qP, .inl (cy.1, 4, .inl pow)), (qD, .inl (cy.1, 12, .inl dm)), (qR, .inl (cy.2.1, 12, .inl ca)), (qG, .inl (cy.1, 12, .inl (mgFun dm g (mLeft (mpFun stp pow n) w (mlsFun ca lo)))))])) 0 0 := by
  refine xM_of (X := [(qo, .inr (5, [.int th, .int hh, .int tt, .ref qF, .ref qL, .ref qA, .ref qE, .ref qH, .ref qB, .int (nI n), .ref qS, .ref qP, .ref qC, .int mc, .ref qT, .ref qD, .ref qR, .ref qX, .ref qG, .ref qM, .ref qU, .int ml])), (qL, .inl (cy.1, 12, .inl lo)), (qS, .inl (cy.1, 4, .inl stp)), (qP, .inl (cy.1, 4, .inl pow)), (qD, .inl (cy.1, 12, .inl dm)), (qR, .inl (cy.2.1, 12, .inl ca)), (qG, .inl (cy.1, 12, .inl g))]) (pl := []) (nL := 5) (ret := none) RX5 [(0, .ref qo), (1, .int w)] (by decide +kernel) rfl rfl rfl (Nat.le_of_ble_eq_true rfl) (List.append_nil _).symm (fun p e s m args below meth c A C hname hT hZ => ?_)
  refine x_aload_n (q := 1) C 0 rfl dX5_serves_0 rfl ?_
  refine x_iconst (q := 2) C 0 rfl dX5_serves_1 rfl ?_
  refine x_put (q := 5) C (T := TX5) iw_X5_serves_X5 tyX5 tyX5_ok nmX5 rfl 0 21 [(qo, .inr (5, [.int th, .int hh, .int tt, .ref qF, .ref qL, .ref qA, .ref qE, .ref qH, .ref qB, .int (nI n), .ref qS, .ref qP, .ref qC, .int mc, .ref qT, .ref qD, .ref qR, .ref qX, .ref qG, .ref qM, .ref qU, .int 0])), (qL, .inl (cy.1, 12, .inl lo)), (qS, .inl (cy.1, 4, .inl stp)), (qP, .inl (cy.1, 4, .inl pow)), (qD, .inl (cy.1, 12, .inl dm)), (qR, .inl (cy.2.1, 12, .inl ca)), (qG, .inl (cy.1, 12, .inl g))] rfl rfl (by decide) rfl (by decide +kernel : Cond.fieldLink RX5 97 RX5 "losses" "I" ∈ wsX5_serves) rfl .int (by decide +kernel) rfl rfl (Nat.le_of_ble_eq_true rfl) dX5_serves_2 rfl ?_
  refine x_iconst (q := 6) C 1 rfl dX5_serves_5 rfl ?_
  refine x_istore_n (q := 7) C [(2, .int 1), (0, .ref qo), (1, .int w)] dX5_serves_6 (by decide) rfl rfl ?_
  refine x_less [0, 1, 2] [(2, .int 1), (0, .ref qo), (1, .int w)] rfl ?_
  refine x_up (fun j => [(qo, .inr (5, [.int th, .int hh, .int tt, .ref qF, .ref qL, .ref qA, .ref qE, .ref qH, .ref qB, .int (nI n), .ref qS, .ref qP, .ref qC, .int mc, .ref qT, .ref qD, .ref qR, .ref qX, .ref qG, .ref qM, .ref qU, .int (itr (mlsStep ca lo) 0 j)])), (qL, .inl (cy.1, 12, .inl lo)), (qS, .inl (cy.1, 4, .inl stp)), (qP, .inl (cy.1, 4, .inl pow)), (qD, .inl (cy.1, 12, .inl dm)), (qR, .inl (cy.2.1, 12, .inl ca)), (qG, .inl (cy.1, 12, .inl g))]) (fun j => [(2, .int (nI (j + 1))), (0, .ref qo), (1, .int w)]) 11 rfl rfl (fun j h_j ih_j => ?_) ?_
  · refine x_iload_n (q := 8) C 0 rfl dX5_serves_7 rfl ?_
    refine x_bipush (q := 10) C 12 rfl dX5_serves_8 rfl ?_
    refine x_icmp_ge_f (q := 13) C 47 dX5_serves_10 (by decide) rfl (nI_ge (a := (j + 1)) (b := 12) (by omega) (by omega)) ?_
    refine x_aload_n (q := 14) C 1 rfl dX5_serves_13 rfl ?_
    refine x_dup (q := 15) C rfl dX5_serves_14 rfl ?_
    refine x_get (q := 18) C (T := TX5) iw_X5_serves_X5 rfl 0 21 rfl (by decide) rfl (by decide +kernel : Cond.fieldLink RX5 97 RX5 "losses" "I" ∈ wsX5_serves) rfl dX5_serves_15 rfl ?_
    refine x_aload_n (q := 19) C 1 rfl dX5_serves_18 rfl ?_
    refine x_get (q := 22) C (T := TX5) iw_X5_serves_X5 rfl 0 16 rfl (by decide) rfl (by decide +kernel : Cond.fieldLink RX5 44 RX5 "carries" "[Z" ∈ wsX5_serves) rfl dX5_serves_19 rfl ?_
    refine x_iload_n (q := 23) C 0 rfl dX5_serves_22 rfl ?_
    refine x_zaldN (q := 24) C (j + 1) 5 (ca (j + 1)) rfl rfl (by omega) (by omega) rfl dX5_serves_23 rfl ?_
    refine x_if_eq (q := 27) C 36 dX5_serves_24 (by decide) rfl (fun c_24 => ?_) (fun c_24 => ?_)
    · refine x_iconst (q := 37) C 0 rfl dX5_serves_36 rfl ?_
      refine x_iadd (q := 38) C ((itr (mlsStep ca lo) 0 j) + 0) (rfl) dX5_serves_37 rfl ?_
      refine x_put (q := 41) C (T := TX5) iw_X5_serves_X5 tyX5 tyX5_ok nmX5 rfl 0 21 [(qo, .inr (5, [.int th, .int hh, .int tt, .ref qF, .ref qL, .ref qA, .ref qE, .ref qH, .ref qB, .int (nI n), .ref qS, .ref qP, .ref qC, .int mc, .ref qT, .ref qD, .ref qR, .ref qX, .ref qG, .ref qM, .ref qU, .int ((itr (mlsStep ca lo) 0 j) + 0)])), (qL, .inl (cy.1, 12, .inl lo)), (qS, .inl (cy.1, 4, .inl stp)), (qP, .inl (cy.1, 4, .inl pow)), (qD, .inl (cy.1, 12, .inl dm)), (qR, .inl (cy.2.1, 12, .inl ca)), (qG, .inl (cy.1, 12, .inl g))] rfl rfl (by decide) rfl (by decide +kernel : Cond.fieldLink RX5 97 RX5 "losses" "I" ∈ wsX5_serves) rfl .int (by decide +kernel) rfl rfl (Nat.le_of_ble_eq_true rfl) dX5_serves_38 rfl ?_
      refine x_iinc (q := 44) C 0 (nI ((j + 1) + 1)) [(2, .int (nI ((j + 1) + 1))), (0, .ref qo), (1, .int w)] dX5_serves_41 rfl (nI_1 _) (by decide) rfl rfl ?_
      refine x_goto C 7 dX5_serves_44 (by decide) ?_
      refine x_less [0, 1, 2] [(2, .int (nI ((j + 1) + 1))), (0, .ref qo), (1, .int w)] rfl ?_
      have e9 : itr (mlsStep ca lo) 0 (j + 1) = (itr (mlsStep ca lo) 0 j) + 0 := by
        show mlsStep ca lo j (itr (mlsStep ca lo) 0 j) = _
        simp only [mlsStep, if_pos c_24]
      refine x_less [0, 1, 2] [(2, .int (nI ((j + 1) + 1))), (0, .ref qo), (1, .int w)] (by first | rfl | (rw [e9]; rfl)) ?_
      refine x_world (X' := [(qo, .inr (5, [.int th, .int hh, .int tt, .ref qF, .ref qL, .ref qA, .ref qE, .ref qH, .ref qB, .int (nI n), .ref qS, .ref qP, .ref qC, .int mc, .ref qT, .ref qD, .ref qR, .ref qX, .ref qG, .ref qM, .ref qU, .int (itr (mlsStep ca lo) 0 (j + 1))])), (qL, .inl (cy.1, 12, .inl lo)), (qS, .inl (cy.1, 4, .inl stp)), (qP, .inl (cy.1, 4, .inl pow)), (qD, .inl (cy.1, 12, .inl dm)), (qR, .inl (cy.2.1, 12, .inl ca)), (qG, .inl (cy.1, 12, .inl g))]) (pl' := []) (by first | rfl | rw [e9]) ?_
      exact ih_j
    · refine x_aload_n (q := 28) C 1 rfl dX5_serves_27 rfl ?_
      refine x_get (q := 31) C (T := TX5) iw_X5_serves_X5 rfl 0 4 rfl (by decide) rfl (by decide +kernel : Cond.fieldLink RX5 13 RX5 "loss" "[I" ∈ wsX5_serves) rfl dX5_serves_28 rfl ?_
      refine x_iload_n (q := 32) C 0 rfl dX5_serves_31 rfl ?_
      refine x_ialdN (q := 33) C (j + 1) 1 (lo (j + 1)) rfl rfl (by omega) (by omega) rfl dX5_serves_32 rfl ?_
      refine x_goto C 37 dX5_serves_33 (by decide) ?_
      refine x_iadd (q := 38) C ((itr (mlsStep ca lo) 0 j) + (lo (j + 1))) (rfl) dX5_serves_37 rfl ?_
      refine x_put (q := 41) C (T := TX5) iw_X5_serves_X5 tyX5 tyX5_ok nmX5 rfl 0 21 [(qo, .inr (5, [.int th, .int hh, .int tt, .ref qF, .ref qL, .ref qA, .ref qE, .ref qH, .ref qB, .int (nI n), .ref qS, .ref qP, .ref qC, .int mc, .ref qT, .ref qD, .ref qR, .ref qX, .ref qG, .ref qM, .ref qU, .int ((itr (mlsStep ca lo) 0 j) + (lo (j + 1)))])), (qL, .inl (cy.1, 12, .inl lo)), (qS, .inl (cy.1, 4, .inl stp)), (qP, .inl (cy.1, 4, .inl pow)), (qD, .inl (cy.1, 12, .inl dm)), (qR, .inl (cy.2.1, 12, .inl ca)), (qG, .inl (cy.1, 12, .inl g))] rfl rfl (by decide) rfl (by decide +kernel : Cond.fieldLink RX5 97 RX5 "losses" "I" ∈ wsX5_serves) rfl .int (by decide +kernel) rfl rfl (Nat.le_of_ble_eq_true rfl) dX5_serves_38 rfl ?_
      refine x_iinc (q := 44) C 0 (nI ((j + 1) + 1)) [(2, .int (nI ((j + 1) + 1))), (0, .ref qo), (1, .int w)] dX5_serves_41 rfl (nI_1 _) (by decide) rfl rfl ?_
      refine x_goto C 7 dX5_serves_44 (by decide) ?_
      refine x_less [0, 1, 2] [(2, .int (nI ((j + 1) + 1))), (0, .ref qo), (1, .int w)] rfl ?_
      have e9 : itr (mlsStep ca lo) 0 (j + 1) = (itr (mlsStep ca lo) 0 j) + (lo (j + 1)) := by
        show mlsStep ca lo j (itr (mlsStep ca lo) 0 j) = _
        simp only [mlsStep, if_neg c_24]
      refine x_less [0, 1, 2] [(2, .int (nI ((j + 1) + 1))), (0, .ref qo), (1, .int w)] (by first | rfl | (rw [e9]; rfl)) ?_
      refine x_world (X' := [(qo, .inr (5, [.int th, .int hh, .int tt, .ref qF, .ref qL, .ref qA, .ref qE, .ref qH, .ref qB, .int (nI n), .ref qS, .ref qP, .ref qC, .int mc, .ref qT, .ref qD, .ref qR, .ref qX, .ref qG, .ref qM, .ref qU, .int (itr (mlsStep ca lo) 0 (j + 1))])), (qL, .inl (cy.1, 12, .inl lo)), (qS, .inl (cy.1, 4, .inl stp)), (qP, .inl (cy.1, 4, .inl pow)), (qD, .inl (cy.1, 12, .inl dm)), (qR, .inl (cy.2.1, 12, .inl ca)), (qG, .inl (cy.1, 12, .inl g))]) (pl' := []) (by first | rfl | rw [e9]) ?_
      exact ih_j
  · refine x_iload_n (q := 8) C 0 rfl dX5_serves_7 rfl ?_
    refine x_bipush (q := 10) C 12 rfl dX5_serves_8 rfl ?_
    refine x_icmp_ge_t C 47 dX5_serves_10 (by decide) (nI_le (a := 12) (b := (11 + 1)) (by omega) (by omega)) ?_
    refine x_join 68 (fun v => v = mLeft (mpFun stp pow n) w (mlsFun ca lo)) [] (fun v hv => ?_) (fun J_47 => ?_)
    · subst hv
      refine x_istore_n (q := 69) C [(2, .int (mLeft (mpFun stp pow n) w (mlsFun ca lo))), (0, .ref qo), (1, .int w)] dX5_serves_68 (by decide) rfl rfl ?_
      refine x_iconst (q := 70) C 1 rfl dX5_serves_69 rfl ?_
      refine x_istore_n (q := 71) C [(3, .int 1), (2, .int (mLeft (mpFun stp pow n) w (mlsFun ca lo))), (0, .ref qo), (1, .int w)] dX5_serves_70 (by decide) rfl rfl ?_
      refine x_less [0, 1, 2] [(3, .int 1), (2, .int (mLeft (mpFun stp pow n) w (mlsFun ca lo))), (0, .ref qo)] rfl ?_
      refine x_up (fun j => [(qo, .inr (5, [.int th, .int hh, .int tt, .ref qF, .ref qL, .ref qA, .ref qE, .ref qH, .ref qB, .int (nI n), .ref qS, .ref qP, .ref qC, .int mc, .ref qT, .ref qD, .ref qR, .ref qX, .ref qG, .ref qM, .ref qU, .int (mlsFun ca lo)])), (qL, .inl (cy.1, 12, .inl lo)), (qS, .inl (cy.1, 4, .inl stp)), (qP, .inl (cy.1, 4, .inl pow)), (qD, .inl (cy.1, 12, .inl dm)), (qR, .inl (cy.2.1, 12, .inl ca)), (qG, .inl (cy.1, 12, .inl ((itr (mgStep dm) (g, mLeft (mpFun stp pow n) w (mlsFun ca lo)) j).1)))]) (fun j => [(3, .int (nI (j + 1))), (2, .int ((itr (mgStep dm) (g, mLeft (mpFun stp pow n) w (mlsFun ca lo)) j).2)), (0, .ref qo)]) 11 rfl rfl (fun j h_j ih_j => ?_) ?_
      · refine x_iload_n (q := 72) C 0 rfl dX5_serves_71 rfl ?_
        refine x_bipush (q := 74) C 12 rfl dX5_serves_72 rfl ?_
        refine x_icmp_ge_f (q := 77) C 131 dX5_serves_74 (by decide) rfl (nI_ge (a := (j + 1)) (b := 12) (by omega) (by omega)) ?_
        refine x_iload_n (q := 78) C 1 rfl dX5_serves_77 rfl ?_
        refine x_if_ge (q := 81) C 85 dX5_serves_78 (by decide) rfl (fun c_78 => ?_) (fun c_78 => ?_)
        · refine x_iload_n (q := 86) C 1 rfl dX5_serves_85 rfl ?_
          refine x_istore (q := 88) C [(4, .int ((itr (mgStep dm) (g, mLeft (mpFun stp pow n) w (mlsFun ca lo)) j).2)), (3, .int (nI (j + 1))), (2, .int ((itr (mgStep dm) (g, mLeft (mpFun stp pow n) w (mlsFun ca lo)) j).2)), (0, .ref qo)] dX5_serves_86 (by decide) rfl rfl ?_
          refine x_aload_n (q := 89) C 3 rfl dX5_serves_88 rfl ?_
          refine x_get (q := 92) C (T := TX5) iw_X5_serves_X5 rfl 0 18 rfl (by decide) rfl (by decide +kernel : Cond.fieldLink RX5 50 RX5 "got" "[I" ∈ wsX5_serves) rfl dX5_serves_89 rfl ?_
          refine x_iload_n (q := 93) C 1 rfl dX5_serves_92 rfl ?_
          refine x_aload_n (q := 94) C 3 rfl dX5_serves_93 rfl ?_
          refine x_get (q := 97) C (T := TX5) iw_X5_serves_X5 rfl 0 15 rfl (by decide) rfl (by decide +kernel : Cond.fieldLink RX5 41 RX5 "demands" "[I" ∈ wsX5_serves) rfl dX5_serves_94 rfl ?_
          refine x_iload_n (q := 98) C 1 rfl dX5_serves_97 rfl ?_
          refine x_ialdN (q := 99) C (j + 1) 4 (dm (j + 1)) rfl rfl (by omega) (by omega) rfl dX5_serves_98 rfl ?_
          refine x_iload (q := 101) C 0 rfl dX5_serves_99 rfl ?_
          refine x_icmp_ge (q := 104) C 113 dX5_serves_101 (by decide) rfl (fun c_101 => ?_) (fun c_101 => ?_)
          · refine x_iload (q := 115) C 0 rfl dX5_serves_113 rfl ?_
            refine x_iastN (q := 116) C (j + 1) 6 (upd ((itr (mgStep dm) (g, mLeft (mpFun stp pow n) w (mlsFun ca lo)) j).1) (j + 1) ((itr (mgStep dm) (g, mLeft (mpFun stp pow n) w (mlsFun ca lo)) j).2)) [(qo, .inr (5, [.int th, .int hh, .int tt, .ref qF, .ref qL, .ref qA, .ref qE, .ref qH, .ref qB, .int (nI n), .ref qS, .ref qP, .ref qC, .int mc, .ref qT, .ref qD, .ref qR, .ref qX, .ref qG, .ref qM, .ref qU, .int (mlsFun ca lo)])), (qL, .inl (cy.1, 12, .inl lo)), (qS, .inl (cy.1, 4, .inl stp)), (qP, .inl (cy.1, 4, .inl pow)), (qD, .inl (cy.1, 12, .inl dm)), (qR, .inl (cy.2.1, 12, .inl ca)), (qG, .inl (cy.1, 12, .inl (upd ((itr (mgStep dm) (g, mLeft (mpFun stp pow n) w (mlsFun ca lo)) j).1) (j + 1) ((itr (mgStep dm) (g, mLeft (mpFun stp pow n) w (mlsFun ca lo)) j).2))))] rfl rfl (by omega) (by omega) rfl rfl dX5_serves_115 rfl ?_
            refine x_iload_n (q := 117) C 2 rfl dX5_serves_116 rfl ?_
            refine x_aload_n (q := 118) C 3 rfl dX5_serves_117 rfl ?_
            refine x_get (q := 121) C (T := TX5) iw_X5_serves_X5 rfl 0 18 rfl (by decide) rfl (by decide +kernel : Cond.fieldLink RX5 50 RX5 "got" "[I" ∈ wsX5_serves) rfl dX5_serves_118 rfl ?_
            refine x_iload_n (q := 122) C 1 rfl dX5_serves_121 rfl ?_
            refine x_ialdN (q := 123) C (j + 1) 6 ((itr (mgStep dm) (g, mLeft (mpFun stp pow n) w (mlsFun ca lo)) j).2) rfl rfl (by omega) (by omega) pk_us dX5_serves_122 rfl ?_
            refine x_isub (q := 124) C (((itr (mgStep dm) (g, mLeft (mpFun stp pow n) w (mlsFun ca lo)) j).2) - ((itr (mgStep dm) (g, mLeft (mpFun stp pow n) w (mlsFun ca lo)) j).2)) (rfl) dX5_serves_123 rfl ?_
            refine x_istore_n (q := 125) C [(2, .int (((itr (mgStep dm) (g, mLeft (mpFun stp pow n) w (mlsFun ca lo)) j).2) - ((itr (mgStep dm) (g, mLeft (mpFun stp pow n) w (mlsFun ca lo)) j).2))), (4, .int ((itr (mgStep dm) (g, mLeft (mpFun stp pow n) w (mlsFun ca lo)) j).2)), (3, .int (nI (j + 1))), (0, .ref qo)] dX5_serves_124 (by decide) rfl rfl ?_
            refine x_iinc (q := 128) C 2 (nI ((j + 1) + 1)) [(3, .int (nI ((j + 1) + 1))), (2, .int (((itr (mgStep dm) (g, mLeft (mpFun stp pow n) w (mlsFun ca lo)) j).2) - ((itr (mgStep dm) (g, mLeft (mpFun stp pow n) w (mlsFun ca lo)) j).2))), (4, .int ((itr (mgStep dm) (g, mLeft (mpFun stp pow n) w (mlsFun ca lo)) j).2)), (0, .ref qo)] dX5_serves_125 rfl (nI_1 _) (by decide) rfl rfl ?_
            refine x_goto C 71 dX5_serves_128 (by decide) ?_
            refine x_less [0, 1, 3] [(3, .int (nI ((j + 1) + 1))), (2, .int (((itr (mgStep dm) (g, mLeft (mpFun stp pow n) w (mlsFun ca lo)) j).2) - ((itr (mgStep dm) (g, mLeft (mpFun stp pow n) w (mlsFun ca lo)) j).2))), (0, .ref qo)] rfl ?_
            have e9 : (itr (mgStep dm) (g, mLeft (mpFun stp pow n) w (mlsFun ca lo)) (j + 1)) = (upd ((itr (mgStep dm) (g, mLeft (mpFun stp pow n) w (mlsFun ca lo)) j).1) (j + 1) ((itr (mgStep dm) (g, mLeft (mpFun stp pow n) w (mlsFun ca lo)) j).2), ((itr (mgStep dm) (g, mLeft (mpFun stp pow n) w (mlsFun ca lo)) j).2) - ((itr (mgStep dm) (g, mLeft (mpFun stp pow n) w (mlsFun ca lo)) j).2)) := by
              show mgStep dm j (itr (mgStep dm) (g, mLeft (mpFun stp pow n) w (mlsFun ca lo)) j) = _
              simp only [mgStep, mgV, if_pos c_78, if_pos c_101]
            refine x_less [0, 1, 2] [(3, .int (nI ((j + 1) + 1))), (2, .int ((itr (mgStep dm) (g, mLeft (mpFun stp pow n) w (mlsFun ca lo)) (j + 1)).2)), (0, .ref qo)] (by first | rfl | (rw [e9]; rfl)) ?_
            refine x_world (X' := [(qo, .inr (5, [.int th, .int hh, .int tt, .ref qF, .ref qL, .ref qA, .ref qE, .ref qH, .ref qB, .int (nI n), .ref qS, .ref qP, .ref qC, .int mc, .ref qT, .ref qD, .ref qR, .ref qX, .ref qG, .ref qM, .ref qU, .int (mlsFun ca lo)])), (qL, .inl (cy.1, 12, .inl lo)), (qS, .inl (cy.1, 4, .inl stp)), (qP, .inl (cy.1, 4, .inl pow)), (qD, .inl (cy.1, 12, .inl dm)), (qR, .inl (cy.2.1, 12, .inl ca)), (qG, .inl (cy.1, 12, .inl ((itr (mgStep dm) (g, mLeft (mpFun stp pow n) w (mlsFun ca lo)) (j + 1)).1)))]) (pl' := []) (by first | rfl | rw [e9]) ?_
            exact ih_j
          · refine x_aload_n (q := 105) C 3 rfl dX5_serves_104 rfl ?_
            refine x_get (q := 108) C (T := TX5) iw_X5_serves_X5 rfl 0 15 rfl (by decide) rfl (by decide +kernel : Cond.fieldLink RX5 41 RX5 "demands" "[I" ∈ wsX5_serves) rfl dX5_serves_105 rfl ?_
            refine x_iload_n (q := 109) C 1 rfl dX5_serves_108 rfl ?_
            refine x_ialdN (q := 110) C (j + 1) 4 (dm (j + 1)) rfl rfl (by omega) (by omega) rfl dX5_serves_109 rfl ?_
            refine x_goto C 115 dX5_serves_110 (by decide) ?_
            refine x_iastN (q := 116) C (j + 1) 6 (upd ((itr (mgStep dm) (g, mLeft (mpFun stp pow n) w (mlsFun ca lo)) j).1) (j + 1) (dm (j + 1))) [(qo, .inr (5, [.int th, .int hh, .int tt, .ref qF, .ref qL, .ref qA, .ref qE, .ref qH, .ref qB, .int (nI n), .ref qS, .ref qP, .ref qC, .int mc, .ref qT, .ref qD, .ref qR, .ref qX, .ref qG, .ref qM, .ref qU, .int (mlsFun ca lo)])), (qL, .inl (cy.1, 12, .inl lo)), (qS, .inl (cy.1, 4, .inl stp)), (qP, .inl (cy.1, 4, .inl pow)), (qD, .inl (cy.1, 12, .inl dm)), (qR, .inl (cy.2.1, 12, .inl ca)), (qG, .inl (cy.1, 12, .inl (upd ((itr (mgStep dm) (g, mLeft (mpFun stp pow n) w (mlsFun ca lo)) j).1) (j + 1) (dm (j + 1)))))] rfl rfl (by omega) (by omega) rfl rfl dX5_serves_115 rfl ?_
            refine x_iload_n (q := 117) C 2 rfl dX5_serves_116 rfl ?_
            refine x_aload_n (q := 118) C 3 rfl dX5_serves_117 rfl ?_
            refine x_get (q := 121) C (T := TX5) iw_X5_serves_X5 rfl 0 18 rfl (by decide) rfl (by decide +kernel : Cond.fieldLink RX5 50 RX5 "got" "[I" ∈ wsX5_serves) rfl dX5_serves_118 rfl ?_
            refine x_iload_n (q := 122) C 1 rfl dX5_serves_121 rfl ?_
            refine x_ialdN (q := 123) C (j + 1) 6 (dm (j + 1)) rfl rfl (by omega) (by omega) pk_us dX5_serves_122 rfl ?_
            refine x_isub (q := 124) C (((itr (mgStep dm) (g, mLeft (mpFun stp pow n) w (mlsFun ca lo)) j).2) - (dm (j + 1))) (rfl) dX5_serves_123 rfl ?_
            refine x_istore_n (q := 125) C [(2, .int (((itr (mgStep dm) (g, mLeft (mpFun stp pow n) w (mlsFun ca lo)) j).2) - (dm (j + 1)))), (4, .int ((itr (mgStep dm) (g, mLeft (mpFun stp pow n) w (mlsFun ca lo)) j).2)), (3, .int (nI (j + 1))), (0, .ref qo)] dX5_serves_124 (by decide) rfl rfl ?_
            refine x_iinc (q := 128) C 2 (nI ((j + 1) + 1)) [(3, .int (nI ((j + 1) + 1))), (2, .int (((itr (mgStep dm) (g, mLeft (mpFun stp pow n) w (mlsFun ca lo)) j).2) - (dm (j + 1)))), (4, .int ((itr (mgStep dm) (g, mLeft (mpFun stp pow n) w (mlsFun ca lo)) j).2)), (0, .ref qo)] dX5_serves_125 rfl (nI_1 _) (by decide) rfl rfl ?_
            refine x_goto C 71 dX5_serves_128 (by decide) ?_
            refine x_less [0, 1, 3] [(3, .int (nI ((j + 1) + 1))), (2, .int (((itr (mgStep dm) (g, mLeft (mpFun stp pow n) w (mlsFun ca lo)) j).2) - (dm (j + 1)))), (0, .ref qo)] rfl ?_
            have e9 : (itr (mgStep dm) (g, mLeft (mpFun stp pow n) w (mlsFun ca lo)) (j + 1)) = (upd ((itr (mgStep dm) (g, mLeft (mpFun stp pow n) w (mlsFun ca lo)) j).1) (j + 1) (dm (j + 1)), ((itr (mgStep dm) (g, mLeft (mpFun stp pow n) w (mlsFun ca lo)) j).2) - (dm (j + 1))) := by
              show mgStep dm j (itr (mgStep dm) (g, mLeft (mpFun stp pow n) w (mlsFun ca lo)) j) = _
              simp only [mgStep, mgV, if_pos c_78, if_neg c_101]
            refine x_less [0, 1, 2] [(3, .int (nI ((j + 1) + 1))), (2, .int ((itr (mgStep dm) (g, mLeft (mpFun stp pow n) w (mlsFun ca lo)) (j + 1)).2)), (0, .ref qo)] (by first | rfl | (rw [e9]; rfl)) ?_
            refine x_world (X' := [(qo, .inr (5, [.int th, .int hh, .int tt, .ref qF, .ref qL, .ref qA, .ref qE, .ref qH, .ref qB, .int (nI n), .ref qS, .ref qP, .ref qC, .int mc, .ref qT, .ref qD, .ref qR, .ref qX, .ref qG, .ref qM, .ref qU, .int (mlsFun ca lo)])), (qL, .inl (cy.1, 12, .inl lo)), (qS, .inl (cy.1, 4, .inl stp)), (qP, .inl (cy.1, 4, .inl pow)), (qD, .inl (cy.1, 12, .inl dm)), (qR, .inl (cy.2.1, 12, .inl ca)), (qG, .inl (cy.1, 12, .inl ((itr (mgStep dm) (g, mLeft (mpFun stp pow n) w (mlsFun ca lo)) (j + 1)).1)))]) (pl' := []) (by first | rfl | rw [e9]) ?_
            exact ih_j
        · refine x_iconst (q := 82) C 0 rfl dX5_serves_81 rfl ?_
          refine x_goto C 86 dX5_serves_82 (by decide) ?_
          refine x_istore (q := 88) C [(4, .int 0), (3, .int (nI (j + 1))), (2, .int ((itr (mgStep dm) (g, mLeft (mpFun stp pow n) w (mlsFun ca lo)) j).2)), (0, .ref qo)] dX5_serves_86 (by decide) rfl rfl ?_
          refine x_aload_n (q := 89) C 3 rfl dX5_serves_88 rfl ?_
          refine x_get (q := 92) C (T := TX5) iw_X5_serves_X5 rfl 0 18 rfl (by decide) rfl (by decide +kernel : Cond.fieldLink RX5 50 RX5 "got" "[I" ∈ wsX5_serves) rfl dX5_serves_89 rfl ?_
          refine x_iload_n (q := 93) C 1 rfl dX5_serves_92 rfl ?_
          refine x_aload_n (q := 94) C 3 rfl dX5_serves_93 rfl ?_
          refine x_get (q := 97) C (T := TX5) iw_X5_serves_X5 rfl 0 15 rfl (by decide) rfl (by decide +kernel : Cond.fieldLink RX5 41 RX5 "demands" "[I" ∈ wsX5_serves) rfl dX5_serves_94 rfl ?_
          refine x_iload_n (q := 98) C 1 rfl dX5_serves_97 rfl ?_
          refine x_ialdN (q := 99) C (j + 1) 4 (dm (j + 1)) rfl rfl (by omega) (by omega) rfl dX5_serves_98 rfl ?_
          refine x_iload (q := 101) C 0 rfl dX5_serves_99 rfl ?_
          refine x_icmp_ge (q := 104) C 113 dX5_serves_101 (by decide) rfl (fun c_101 => ?_) (fun c_101 => ?_)
          · refine x_iload (q := 115) C 0 rfl dX5_serves_113 rfl ?_
            refine x_iastN (q := 116) C (j + 1) 6 (upd ((itr (mgStep dm) (g, mLeft (mpFun stp pow n) w (mlsFun ca lo)) j).1) (j + 1) 0) [(qo, .inr (5, [.int th, .int hh, .int tt, .ref qF, .ref qL, .ref qA, .ref qE, .ref qH, .ref qB, .int (nI n), .ref qS, .ref qP, .ref qC, .int mc, .ref qT, .ref qD, .ref qR, .ref qX, .ref qG, .ref qM, .ref qU, .int (mlsFun ca lo)])), (qL, .inl (cy.1, 12, .inl lo)), (qS, .inl (cy.1, 4, .inl stp)), (qP, .inl (cy.1, 4, .inl pow)), (qD, .inl (cy.1, 12, .inl dm)), (qR, .inl (cy.2.1, 12, .inl ca)), (qG, .inl (cy.1, 12, .inl (upd ((itr (mgStep dm) (g, mLeft (mpFun stp pow n) w (mlsFun ca lo)) j).1) (j + 1) 0)))] rfl rfl (by omega) (by omega) rfl rfl dX5_serves_115 rfl ?_
            refine x_iload_n (q := 117) C 2 rfl dX5_serves_116 rfl ?_
            refine x_aload_n (q := 118) C 3 rfl dX5_serves_117 rfl ?_
            refine x_get (q := 121) C (T := TX5) iw_X5_serves_X5 rfl 0 18 rfl (by decide) rfl (by decide +kernel : Cond.fieldLink RX5 50 RX5 "got" "[I" ∈ wsX5_serves) rfl dX5_serves_118 rfl ?_
            refine x_iload_n (q := 122) C 1 rfl dX5_serves_121 rfl ?_
            refine x_ialdN (q := 123) C (j + 1) 6 0 rfl rfl (by omega) (by omega) pk_us dX5_serves_122 rfl ?_
            refine x_isub (q := 124) C (((itr (mgStep dm) (g, mLeft (mpFun stp pow n) w (mlsFun ca lo)) j).2) - 0) (rfl) dX5_serves_123 rfl ?_
            refine x_istore_n (q := 125) C [(2, .int (((itr (mgStep dm) (g, mLeft (mpFun stp pow n) w (mlsFun ca lo)) j).2) - 0)), (4, .int 0), (3, .int (nI (j + 1))), (0, .ref qo)] dX5_serves_124 (by decide) rfl rfl ?_
            refine x_iinc (q := 128) C 2 (nI ((j + 1) + 1)) [(3, .int (nI ((j + 1) + 1))), (2, .int (((itr (mgStep dm) (g, mLeft (mpFun stp pow n) w (mlsFun ca lo)) j).2) - 0)), (4, .int 0), (0, .ref qo)] dX5_serves_125 rfl (nI_1 _) (by decide) rfl rfl ?_
            refine x_goto C 71 dX5_serves_128 (by decide) ?_
            refine x_less [0, 1, 3] [(3, .int (nI ((j + 1) + 1))), (2, .int (((itr (mgStep dm) (g, mLeft (mpFun stp pow n) w (mlsFun ca lo)) j).2) - 0)), (0, .ref qo)] rfl ?_
            have e9 : (itr (mgStep dm) (g, mLeft (mpFun stp pow n) w (mlsFun ca lo)) (j + 1)) = (upd ((itr (mgStep dm) (g, mLeft (mpFun stp pow n) w (mlsFun ca lo)) j).1) (j + 1) 0, ((itr (mgStep dm) (g, mLeft (mpFun stp pow n) w (mlsFun ca lo)) j).2) - 0) := by
              show mgStep dm j (itr (mgStep dm) (g, mLeft (mpFun stp pow n) w (mlsFun ca lo)) j) = _
              simp only [mgStep, mgV, if_neg c_78, if_pos c_101]
            refine x_less [0, 1, 2] [(3, .int (nI ((j + 1) + 1))), (2, .int ((itr (mgStep dm) (g, mLeft (mpFun stp pow n) w (mlsFun ca lo)) (j + 1)).2)), (0, .ref qo)] (by first | rfl | (rw [e9]; rfl)) ?_
            refine x_world (X' := [(qo, .inr (5, [.int th, .int hh, .int tt, .ref qF, .ref qL, .ref qA, .ref qE, .ref qH, .ref qB, .int (nI n), .ref qS, .ref qP, .ref qC, .int mc, .ref qT, .ref qD, .ref qR, .ref qX, .ref qG, .ref qM, .ref qU, .int (mlsFun ca lo)])), (qL, .inl (cy.1, 12, .inl lo)), (qS, .inl (cy.1, 4, .inl stp)), (qP, .inl (cy.1, 4, .inl pow)), (qD, .inl (cy.1, 12, .inl dm)), (qR, .inl (cy.2.1, 12, .inl ca)), (qG, .inl (cy.1, 12, .inl ((itr (mgStep dm) (g, mLeft (mpFun stp pow n) w (mlsFun ca lo)) (j + 1)).1)))]) (pl' := []) (by first | rfl | rw [e9]) ?_
            exact ih_j
          · refine x_aload_n (q := 105) C 3 rfl dX5_serves_104 rfl ?_
            refine x_get (q := 108) C (T := TX5) iw_X5_serves_X5 rfl 0 15 rfl (by decide) rfl (by decide +kernel : Cond.fieldLink RX5 41 RX5 "demands" "[I" ∈ wsX5_serves) rfl dX5_serves_105 rfl ?_
            refine x_iload_n (q := 109) C 1 rfl dX5_serves_108 rfl ?_
            refine x_ialdN (q := 110) C (j + 1) 4 (dm (j + 1)) rfl rfl (by omega) (by omega) rfl dX5_serves_109 rfl ?_
            refine x_goto C 115 dX5_serves_110 (by decide) ?_
            refine x_iastN (q := 116) C (j + 1) 6 (upd ((itr (mgStep dm) (g, mLeft (mpFun stp pow n) w (mlsFun ca lo)) j).1) (j + 1) (dm (j + 1))) [(qo, .inr (5, [.int th, .int hh, .int tt, .ref qF, .ref qL, .ref qA, .ref qE, .ref qH, .ref qB, .int (nI n), .ref qS, .ref qP, .ref qC, .int mc, .ref qT, .ref qD, .ref qR, .ref qX, .ref qG, .ref qM, .ref qU, .int (mlsFun ca lo)])), (qL, .inl (cy.1, 12, .inl lo)), (qS, .inl (cy.1, 4, .inl stp)), (qP, .inl (cy.1, 4, .inl pow)), (qD, .inl (cy.1, 12, .inl dm)), (qR, .inl (cy.2.1, 12, .inl ca)), (qG, .inl (cy.1, 12, .inl (upd ((itr (mgStep dm) (g, mLeft (mpFun stp pow n) w (mlsFun ca lo)) j).1) (j + 1) (dm (j + 1)))))] rfl rfl (by omega) (by omega) rfl rfl dX5_serves_115 rfl ?_
            refine x_iload_n (q := 117) C 2 rfl dX5_serves_116 rfl ?_
            refine x_aload_n (q := 118) C 3 rfl dX5_serves_117 rfl ?_
            refine x_get (q := 121) C (T := TX5) iw_X5_serves_X5 rfl 0 18 rfl (by decide) rfl (by decide +kernel : Cond.fieldLink RX5 50 RX5 "got" "[I" ∈ wsX5_serves) rfl dX5_serves_118 rfl ?_
            refine x_iload_n (q := 122) C 1 rfl dX5_serves_121 rfl ?_
            refine x_ialdN (q := 123) C (j + 1) 6 (dm (j + 1)) rfl rfl (by omega) (by omega) pk_us dX5_serves_122 rfl ?_
            refine x_isub (q := 124) C (((itr (mgStep dm) (g, mLeft (mpFun stp pow n) w (mlsFun ca lo)) j).2) - (dm (j + 1))) (rfl) dX5_serves_123 rfl ?_
            refine x_istore_n (q := 125) C [(2, .int (((itr (mgStep dm) (g, mLeft (mpFun stp pow n) w (mlsFun ca lo)) j).2) - (dm (j + 1)))), (4, .int 0), (3, .int (nI (j + 1))), (0, .ref qo)] dX5_serves_124 (by decide) rfl rfl ?_
            refine x_iinc (q := 128) C 2 (nI ((j + 1) + 1)) [(3, .int (nI ((j + 1) + 1))), (2, .int (((itr (mgStep dm) (g, mLeft (mpFun stp pow n) w (mlsFun ca lo)) j).2) - (dm (j + 1)))), (4, .int 0), (0, .ref qo)] dX5_serves_125 rfl (nI_1 _) (by decide) rfl rfl ?_
            refine x_goto C 71 dX5_serves_128 (by decide) ?_
            refine x_less [0, 1, 3] [(3, .int (nI ((j + 1) + 1))), (2, .int (((itr (mgStep dm) (g, mLeft (mpFun stp pow n) w (mlsFun ca lo)) j).2) - (dm (j + 1)))), (0, .ref qo)] rfl ?_
            have e9 : (itr (mgStep dm) (g, mLeft (mpFun stp pow n) w (mlsFun ca lo)) (j + 1)) = (upd ((itr (mgStep dm) (g, mLeft (mpFun stp pow n) w (mlsFun ca lo)) j).1) (j + 1) (dm (j + 1)), ((itr (mgStep dm) (g, mLeft (mpFun stp pow n) w (mlsFun ca lo)) j).2) - (dm (j + 1))) := by
              show mgStep dm j (itr (mgStep dm) (g, mLeft (mpFun stp pow n) w (mlsFun ca lo)) j) = _
              simp only [mgStep, mgV, if_neg c_78, if_neg c_101]
            refine x_less [0, 1, 2] [(3, .int (nI ((j + 1) + 1))), (2, .int ((itr (mgStep dm) (g, mLeft (mpFun stp pow n) w (mlsFun ca lo)) (j + 1)).2)), (0, .ref qo)] (by first | rfl | (rw [e9]; rfl)) ?_
            refine x_world (X' := [(qo, .inr (5, [.int th, .int hh, .int tt, .ref qF, .ref qL, .ref qA, .ref qE, .ref qH, .ref qB, .int (nI n), .ref qS, .ref qP, .ref qC, .int mc, .ref qT, .ref qD, .ref qR, .ref qX, .ref qG, .ref qM, .ref qU, .int (mlsFun ca lo)])), (qL, .inl (cy.1, 12, .inl lo)), (qS, .inl (cy.1, 4, .inl stp)), (qP, .inl (cy.1, 4, .inl pow)), (qD, .inl (cy.1, 12, .inl dm)), (qR, .inl (cy.2.1, 12, .inl ca)), (qG, .inl (cy.1, 12, .inl ((itr (mgStep dm) (g, mLeft (mpFun stp pow n) w (mlsFun ca lo)) (j + 1)).1)))]) (pl' := []) (by first | rfl | rw [e9]) ?_
            exact ih_j
      · refine x_iload_n (q := 72) C 0 rfl dX5_serves_71 rfl ?_
        refine x_bipush (q := 74) C 12 rfl dX5_serves_72 rfl ?_
        refine x_icmp_ge_t C 131 dX5_serves_74 (by decide) (nI_le (a := 12) (b := (11 + 1)) (by omega) (by omega)) ?_
        exact x_vret C rfl (rfl) dX5_serves_131 (Nat.le_of_ble_eq_true rfl) (Nat.le_of_ble_eq_true rfl)
    · refine x_aload_n (q := 48) C 1 rfl dX5_serves_47 rfl ?_
      refine x_CiP (q := 51) C [0, 2, 3] [1, 4, 5, 6] (cx := [(qo, .inr (5, [.int th, .int hh, .int tt, .ref qF, .ref qL, .ref qA, .ref qE, .ref qH, .ref qB, .int (nI n), .ref qS, .ref qP, .ref qC, .int mc, .ref qT, .ref qD, .ref qR, .ref qX, .ref qG, .ref qM, .ref qU, .int (itr (mlsStep ca lo) 0 11)])), (qS, .inl (cy.1, 4, .inl stp)), (qP, .inl (cy.1, 4, .inl pow))]) (wr := [(qL, .inl (cy.1, 12, .inl lo)), (qD, .inl (cy.1, 12, .inl dm)), (qR, .inl (cy.2.1, 12, .inl ca)), (qG, .inl (cy.1, 12, .inl g))]) (st := []) rfl rfl rfl rfl (by decide) (fun H locs ls hP hPc hDc hS hFc hl => x_runV C (As := []) (c_X5_power qo qF qL qA qE qH qB qS qP qC qT qD qR qX qG qM qU n th hh tt mc (itr (mlsStep ca lo) 0 11) stp pow hn4) (cwV 0 C.2.2.2.2.2.1 gX5_serves_X5_power rfl rfl rfl (by decide +kernel) ⟨Nat.le_of_ble_eq_true rfl, Nat.le_of_ble_eq_true rfl⟩) rfl 0 rfl rfl rfl (Nat.le_of_ble_eq_true rfl) dX5_serves_48 ⟨Nat.le_of_ble_eq_true rfl, Nat.le_of_ble_eq_true rfl⟩ (fun h => absurd h (by decide)) hP hPc hDc hS hFc hl) (k := 0) (n := 0) rfl rfl rfl (fun r_48 w1 hw => ?_)
      obtain ⟨rfl, rfl⟩ := hw
      refine x_ord [4, 0, 5, 6, 1, 2, 3] [(qo, .inr (5, [.int th, .int hh, .int tt, .ref qF, .ref qL, .ref qA, .ref qE, .ref qH, .ref qB, .int (nI n), .ref qS, .ref qP, .ref qC, .int mc, .ref qT, .ref qD, .ref qR, .ref qX, .ref qG, .ref qM, .ref qU, .int (itr (mlsStep ca lo) 0 11)])), (qL, .inl (cy.1, 12, .inl lo)), (qS, .inl (cy.1, 4, .inl stp)), (qP, .inl (cy.1, 4, .inl pow)), (qD, .inl (cy.1, 12, .inl dm)), (qR, .inl (cy.2.1, 12, .inl ca)), (qG, .inl (cy.1, 12, .inl g))] rfl rfl ?_
      refine x_iload_n (q := 52) C 2 rfl dX5_serves_51 rfl ?_
      refine x_icmp_ge (q := 55) C 67 dX5_serves_52 (by decide) rfl (fun c_52 => ?_) (fun c_52 => ?_)
      · refine x_iload_n (q := 68) C 2 rfl dX5_serves_67 rfl ?_
        exact J_47 _ (by simp only [mLeft, mlsFun, if_pos c_52])
      · refine x_aload_n (q := 56) C 1 rfl dX5_serves_55 rfl ?_
        refine x_CiP (q := 59) C [0, 2, 3] [1, 4, 5, 6] (cx := [(qo, .inr (5, [.int th, .int hh, .int tt, .ref qF, .ref qL, .ref qA, .ref qE, .ref qH, .ref qB, .int (nI n), .ref qS, .ref qP, .ref qC, .int mc, .ref qT, .ref qD, .ref qR, .ref qX, .ref qG, .ref qM, .ref qU, .int (itr (mlsStep ca lo) 0 11)])), (qS, .inl (cy.1, 4, .inl stp)), (qP, .inl (cy.1, 4, .inl pow))]) (wr := [(qL, .inl (cy.1, 12, .inl lo)), (qD, .inl (cy.1, 12, .inl dm)), (qR, .inl (cy.2.1, 12, .inl ca)), (qG, .inl (cy.1, 12, .inl g))]) (st := []) rfl rfl rfl rfl (by decide) (fun H locs ls hP hPc hDc hS hFc hl => x_runV C (As := []) (c_X5_power qo qF qL qA qE qH qB qS qP qC qT qD qR qX qG qM qU n th hh tt mc (itr (mlsStep ca lo) 0 11) stp pow hn4) (cwV 0 C.2.2.2.2.2.1 gX5_serves_X5_power rfl rfl rfl (by decide +kernel) ⟨Nat.le_of_ble_eq_true rfl, Nat.le_of_ble_eq_true rfl⟩) rfl 0 rfl rfl rfl (Nat.le_of_ble_eq_true rfl) dX5_serves_56 ⟨Nat.le_of_ble_eq_true rfl, Nat.le_of_ble_eq_true rfl⟩ (fun h => absurd h (by decide)) hP hPc hDc hS hFc hl) (k := 0) (n := 0) rfl rfl rfl (fun r_56 w1 hw => ?_)
        obtain ⟨rfl, rfl⟩ := hw
        refine x_ord [4, 0, 5, 6, 1, 2, 3] [(qo, .inr (5, [.int th, .int hh, .int tt, .ref qF, .ref qL, .ref qA, .ref qE, .ref qH, .ref qB, .int (nI n), .ref qS, .ref qP, .ref qC, .int mc, .ref qT, .ref qD, .ref qR, .ref qX, .ref qG, .ref qM, .ref qU, .int (itr (mlsStep ca lo) 0 11)])), (qL, .inl (cy.1, 12, .inl lo)), (qS, .inl (cy.1, 4, .inl stp)), (qP, .inl (cy.1, 4, .inl pow)), (qD, .inl (cy.1, 12, .inl dm)), (qR, .inl (cy.2.1, 12, .inl ca)), (qG, .inl (cy.1, 12, .inl g))] rfl rfl ?_
        refine x_aload_n (q := 60) C 1 rfl dX5_serves_59 rfl ?_
        refine x_get (q := 63) C (T := TX5) iw_X5_serves_X5 rfl 0 21 rfl (by decide) rfl (by decide +kernel : Cond.fieldLink RX5 97 RX5 "losses" "I" ∈ wsX5_serves) rfl dX5_serves_60 rfl ?_
        refine x_isub (q := 64) C ((mpFun stp pow n) - (itr (mlsStep ca lo) 0 11)) (rfl) dX5_serves_63 rfl ?_
        refine x_goto C 68 dX5_serves_64 (by decide) ?_
        exact J_47 _ (by simp only [mLeft, mlsFun, if_neg c_52])
