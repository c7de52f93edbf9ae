set_option maxHeartbeats 4000000 in
set_option maxRecDepth 100000 in
/-- areMetered -/
theorem c_L_areMetered {l : Launch} {D : va_G} {cy : ClassId × ClassId × ClassId} (go no po mo gB : Nat) (nS nL nA nH nV nT nC nD : Nat) (mE mT mS mF mA : Nat) (aN aD : Nat) (sr : Nat → Nat) (lo ar er b : Nat → Int32) (sv to su dd : Nat → Int32) (S ph lt ll sl : Int32) (hsr : ∀ j, 1 ≤ j → j < 12 → sr j < j) (hsu : ∀ j, su j = 0 ∨ su j = 1) (hM : ∀ i, i < 11 → sv (i + 1) = dd (i + 1) ∧ to (i + 1) = tT sr lo er dd S (i + 1) (11 - i) ∧ su (i + 1) = mS9 sr er S (i + 1) (11 - i)) : xM false l yL_areMetered wsL_areMetered ({ frames := 2, cells := 0, slots := 0, locals := 41 }) D cy [.ref go, .ref aN, .ref aD, .int S] ([(go, .inr (4, [.ref no, .ref po, .ref mo, .ref gB, .int ph, .int lt, .int ll])), (no, .inr (2, [.ref nS, .ref nL, .ref nA, .ref nH, .ref nV, .ref nT, .ref nC, .ref nD, .int sl])), (nV, .inl (cy.1, 12, .inl sv)), (mo, .inr (1, [.ref mE, .ref mT, .ref mS, .ref mF, .ref mA])), (mT, .inl (cy.1, 12, .inl to)), (mS, .inl (cy.2.1, 12, .inl su)), (aN, .inl (cy.1, 60, .inl (nF sr lo ar er b))), (aD, .inl (cy.1, 12, .inl dd))]) (xQi D (fun r w => r = 1 ∧ w = [(go, .inr (4, [.ref no, .ref po, .ref mo, .ref gB, .int ph, .int lt, .int ll])), (no, .inr (2, [.ref nS, .ref nL, .ref nA, .ref nH, .ref nV, .ref nT, .ref nC, .ref nD, .int sl])), (nV, .inl (cy.1, 12, .inl sv)), (mo, .inr (1, [.ref mE, .ref mT, .ref mS, .ref mF, .ref mA])), (mT, .inl (cy.1, 12, .inl to)), (mS, .inl (cy.2.1, 12, .inl su)), (aN, .inl (cy.1, 60, .inl (nF sr lo ar er b))), (aD, .inl (cy.1, 12, .inl dd))])) 0 0 := by
  refine xM_of (X := [(go, .inr (4, [.ref no, .ref po, .ref mo, .ref gB, .int ph, .int lt, .int ll])), (no, .inr (2, [.ref nS, .ref nL, .ref nA, .ref nH, .ref nV, .ref nT, .ref nC, .ref nD, .int sl])), (nV, .inl (cy.1, 12, .inl sv)), (mo, .inr (1, [.ref mE, .ref mT, .ref mS, .ref mF, .ref mA])), (mT, .inl (cy.1, 12, .inl to)), (mS, .inl (cy.2.1, 12, .inl su)), (aN, .inl (cy.1, 60, .inl (nF sr lo ar er b))), (aD, .inl (cy.1, 12, .inl dd))]) (pl := []) (nL := 11) (ret := (some .boolean)) RL [(0, .ref go), (1, .ref aN), (2, .ref aD), (3, .int S)] (by decide +kernel) rfl rfl rfl (Nat.le_of_ble_eq_true rfl) (List.append_nil _).symm (fun p e s m args below meth c A C hname hT hZ => ?_)
  refine x_iconst (q := 1) C 1 rfl dL_areMetered_0 rfl ?_
  refine x_istore (q := 3) C [(4, .int 1), (0, .ref go), (1, .ref aN), (2, .ref aD), (3, .int S)] dL_areMetered_1 (by decide) rfl rfl ?_
  refine x_iconst (q := 4) C 1 rfl dL_areMetered_3 rfl ?_
  refine x_istore (q := 6) C [(5, .int 1), (4, .int 1), (0, .ref go), (1, .ref aN), (2, .ref aD), (3, .int S)] dL_areMetered_4 (by decide) rfl rfl ?_
  refine x_less [1, 0, 2, 3, 4, 5] [(4, .int 1), (5, .int 1), (0, .ref go), (1, .ref aN), (2, .ref aD), (3, .int S)] rfl ?_
  refine x_up (fun i => [(go, .inr (4, [.ref no, .ref po, .ref mo, .ref gB, .int ph, .int lt, .int ll])), (no, .inr (2, [.ref nS, .ref nL, .ref nA, .ref nH, .ref nV, .ref nT, .ref nC, .ref nD, .int sl])), (nV, .inl (cy.1, 12, .inl sv)), (mo, .inr (1, [.ref mE, .ref mT, .ref mS, .ref mF, .ref mA])), (mT, .inl (cy.1, 12, .inl to)), (mS, .inl (cy.2.1, 12, .inl su)), (aN, .inl (cy.1, 60, .inl (nF sr lo ar er b))), (aD, .inl (cy.1, 12, .inl dd))]) (fun i => [(4, .int 1), (5, .int (nI (i + 1))), (0, .ref go), (1, .ref aN), (2, .ref aD), (3, .int S)]) 11 rfl rfl (fun i h_i ih_i => ?_) ?_
  · refine x_iload (q := 8) C 1 rfl dL_areMetered_6 rfl ?_
    refine x_bipush (q := 10) C 12 rfl dL_areMetered_8 rfl ?_
    refine x_icmp_ge_f (q := 13) C 241 dL_areMetered_10 (by decide) rfl (nI_ge (a := (i + 1)) (b := 12) (by omega) (by omega)) ?_
    refine x_iload (q := 15) C 0 rfl dL_areMetered_13 rfl ?_
    refine x_if_eq_f (q := 18) C 241 dL_areMetered_15 (by decide) rfl (by decide) ?_
    refine x_join 33 (fun v => v = if sb S (i + 1) = 1 then 1 else 0) [] (fun v hv => ?_) (fun J_18 => ?_)
    · subst hv
      refine x_istore (q := 35) C [(6, .int (if sb S (i + 1) = 1 then 1 else 0)), (4, .int 1), (5, .int (nI (i + 1))), (0, .ref go), (1, .ref aN), (2, .ref aD), (3, .int S)] dL_areMetered_33 (by decide) rfl rfl ?_
      refine x_join 51 (fun v => v = if sb S (i + 1) = 1 then er (i + 1) else 0) [] (fun v hv => ?_) (fun J_35 => ?_)
      · subst hv
        refine x_istore (q := 53) C [(7, .int (if sb S (i + 1) = 1 then er (i + 1) else 0)), (6, .int (if sb S (i + 1) = 1 then 1 else 0)), (4, .int 1), (5, .int (nI (i + 1))), (0, .ref go), (1, .ref aN), (2, .ref aD), (3, .int S)] dL_areMetered_51 (by decide) rfl rfl ?_
        refine x_iconst (q := 54) C 0 rfl dL_areMetered_53 rfl ?_
        refine x_istore (q := 56) C [(8, .int 0), (7, .int (if sb S (i + 1) = 1 then er (i + 1) else 0)), (6, .int (if sb S (i + 1) = 1 then 1 else 0)), (4, .int 1), (5, .int (nI (i + 1))), (0, .ref go), (1, .ref aN), (2, .ref aD), (3, .int S)] dL_areMetered_54 (by decide) rfl rfl ?_
        refine x_iload (q := 58) C 4 rfl dL_areMetered_56 rfl ?_
        refine x_istore (q := 60) C [(9, .int (nI (i + 1))), (8, .int 0), (7, .int (if sb S (i + 1) = 1 then er (i + 1) else 0)), (6, .int (if sb S (i + 1) = 1 then 1 else 0)), (4, .int 1), (5, .int (nI (i + 1))), (0, .ref go), (1, .ref aN), (2, .ref aD), (3, .int S)] dL_areMetered_58 (by decide) rfl rfl ?_
        refine x_less [0, 2, 1, 3, 4, 5, 6, 7, 8, 9] [(9, .int (nI (i + 1))), (7, .int (if sb S (i + 1) = 1 then er (i + 1) else 0)), (8, .int 0), (6, .int (if sb S (i + 1) = 1 then 1 else 0)), (4, .int 1), (5, .int (nI (i + 1))), (0, .ref go), (1, .ref aN), (2, .ref aD), (3, .int S)] rfl ?_
        refine x_up (fun d => [(go, .inr (4, [.ref no, .ref po, .ref mo, .ref gB, .int ph, .int lt, .int ll])), (no, .inr (2, [.ref nS, .ref nL, .ref nA, .ref nH, .ref nV, .ref nT, .ref nC, .ref nD, .int sl])), (nV, .inl (cy.1, 12, .inl sv)), (mo, .inr (1, [.ref mE, .ref mT, .ref mS, .ref mF, .ref mA])), (mT, .inl (cy.1, 12, .inl to)), (mS, .inl (cy.2.1, 12, .inl su)), (aN, .inl (cy.1, 60, .inl (nF sr lo ar er b))), (aD, .inl (cy.1, 12, .inl dd))]) (fun d => [(9, .int (nI (i + 1 + d))), (7, .int (tT sr lo er dd S (i + 1) d)), (8, .int (mB sr er S (i + 1) d)), (6, .int (if sb S (i + 1) = 1 then 1 else 0)), (4, .int 1), (5, .int (nI (i + 1))), (0, .ref go), (1, .ref aN), (2, .ref aD), (3, .int S)]) (11 - i) rfl rfl (fun d h_d ih_d => ?_) ?_
        · refine x_iload (q := 62) C 0 rfl dL_areMetered_60 rfl ?_
          refine x_bipush (q := 64) C 12 rfl dL_areMetered_62 rfl ?_
          refine x_icmp_ge_f (q := 67) C 173 dL_areMetered_64 (by decide) rfl (nI_ge (a := (i + 1 + d)) (b := 12) (by omega) (by omega)) ?_
          refine x_join 93 (fun v => v = if pN sr (11 - (i + 1)) (i + 1 + d) = i + 1 ∧ sb S (i + 1 + d) = 1 then 1 else 0) [] (fun v hv => ?_) (fun J_67 => ?_)
          · subst hv
            refine x_istore (q := 95) C [(10, .int (if pN sr (11 - (i + 1)) (i + 1 + d) = i + 1 ∧ sb S (i + 1 + d) = 1 then 1 else 0)), (9, .int (nI (i + 1 + d))), (7, .int (tT sr lo er dd S (i + 1) d)), (8, .int (mB sr er S (i + 1) d)), (6, .int (if sb S (i + 1) = 1 then 1 else 0)), (4, .int 1), (5, .int (nI (i + 1))), (0, .ref go), (1, .ref aN), (2, .ref aD), (3, .int S)] dL_areMetered_93 (by decide) rfl rfl ?_
            refine x_iload (q := 97) C 2 rfl dL_areMetered_95 rfl ?_
            refine x_join 129 (fun v => v = tq sr lo dd S (i + 1) (i + 1 + d)) [.int (tT sr lo er dd S (i + 1) d)] (fun v hv => ?_) (fun J_97 => ?_)
            · subst hv
              refine x_iadd (q := 130) C ((tT sr lo er dd S (i + 1) d) + (tq sr lo dd S (i + 1) (i + 1 + d))) (rfl) dL_areMetered_129 rfl ?_
              refine x_istore (q := 132) C [(7, .int ((tT sr lo er dd S (i + 1) d) + (tq sr lo dd S (i + 1) (i + 1 + d)))), (10, .int (if pN sr (11 - (i + 1)) (i + 1 + d) = i + 1 ∧ sb S (i + 1 + d) = 1 then 1 else 0)), (9, .int (nI (i + 1 + d))), (8, .int (mB sr er S (i + 1) d)), (6, .int (if sb S (i + 1) = 1 then 1 else 0)), (4, .int 1), (5, .int (nI (i + 1))), (0, .ref go), (1, .ref aN), (2, .ref aD), (3, .int S)] dL_areMetered_130 (by decide) rfl rfl ?_
              refine x_iload (q := 134) C 3 rfl dL_areMetered_132 rfl ?_
              refine x_join 164 (fun v => v = bq sr er S (i + 1) (i + 1 + d)) [.int (mB sr er S (i + 1) d)] (fun v hv => ?_) (fun J_134 => ?_)
              · subst hv
                refine x_iadd (q := 165) C ((mB sr er S (i + 1) d) + (bq sr er S (i + 1) (i + 1 + d))) (rfl) dL_areMetered_164 rfl ?_
                refine x_istore (q := 167) C [(8, .int ((mB sr er S (i + 1) d) + (bq sr er S (i + 1) (i + 1 + d)))), (7, .int ((tT sr lo er dd S (i + 1) d) + (tq sr lo dd S (i + 1) (i + 1 + d)))), (10, .int (if pN sr (11 - (i + 1)) (i + 1 + d) = i + 1 ∧ sb S (i + 1 + d) = 1 then 1 else 0)), (9, .int (nI (i + 1 + d))), (6, .int (if sb S (i + 1) = 1 then 1 else 0)), (4, .int 1), (5, .int (nI (i + 1))), (0, .ref go), (1, .ref aN), (2, .ref aD), (3, .int S)] dL_areMetered_165 (by decide) rfl rfl ?_
                refine x_iinc (q := 170) C 3 (nI ((i + 1 + d) + 1)) [(9, .int (nI ((i + 1 + d) + 1))), (8, .int ((mB sr er S (i + 1) d) + (bq sr er S (i + 1) (i + 1 + d)))), (7, .int ((tT sr lo er dd S (i + 1) d) + (tq sr lo dd S (i + 1) (i + 1 + d)))), (10, .int (if pN sr (11 - (i + 1)) (i + 1 + d) = i + 1 ∧ sb S (i + 1 + d) = 1 then 1 else 0)), (6, .int (if sb S (i + 1) = 1 then 1 else 0)), (4, .int 1), (5, .int (nI (i + 1))), (0, .ref go), (1, .ref aN), (2, .ref aD), (3, .int S)] dL_areMetered_167 rfl (nI_1 _) (by decide) rfl rfl ?_
                refine x_goto C 60 dL_areMetered_170 (by decide) ?_
                refine x_less [0, 2, 1, 4, 5, 6, 7, 8, 9, 10] [(9, .int (nI ((i + 1 + d) + 1))), (7, .int ((tT sr lo er dd S (i + 1) d) + (tq sr lo dd S (i + 1) (i + 1 + d)))), (8, .int ((mB sr er S (i + 1) d) + (bq sr er S (i + 1) (i + 1 + d)))), (6, .int (if sb S (i + 1) = 1 then 1 else 0)), (4, .int 1), (5, .int (nI (i + 1))), (0, .ref go), (1, .ref aN), (2, .ref aD), (3, .int S)] rfl ?_
                refine x_less [0, 1, 2, 3, 4, 5, 6, 7, 8, 9] [(9, .int (nI (i + 1 + (d + 1)))), (7, .int (tT sr lo er dd S (i + 1) (d + 1))), (8, .int (mB sr er S (i + 1) (d + 1))), (6, .int (if sb S (i + 1) = 1 then 1 else 0)), (4, .int 1), (5, .int (nI (i + 1))), (0, .ref go), (1, .ref aN), (2, .ref aD), (3, .int S)] (by first | rfl | (rw [e9]; rfl)) ?_
                refine x_world (X' := [(go, .inr (4, [.ref no, .ref po, .ref mo, .ref gB, .int ph, .int lt, .int ll])), (no, .inr (2, [.ref nS, .ref nL, .ref nA, .ref nH, .ref nV, .ref nT, .ref nC, .ref nD, .int sl])), (nV, .inl (cy.1, 12, .inl sv)), (mo, .inr (1, [.ref mE, .ref mT, .ref mS, .ref mF, .ref mA])), (mT, .inl (cy.1, 12, .inl to)), (mS, .inl (cy.2.1, 12, .inl su)), (aN, .inl (cy.1, 60, .inl (nF sr lo ar er b))), (aD, .inl (cy.1, 12, .inl dd))]) (pl' := []) (by first | rfl | rw [e9]) ?_
                exact ih_d
              · refine x_aload_n (q := 135) C 8 rfl dL_areMetered_134 rfl ?_
                refine x_iload (q := 137) C 2 rfl dL_areMetered_135 rfl ?_
                refine x_ialdN (q := 138) C (i + 1 + d) 6 (nI (sr (i + 1 + d))) rfl rfl (by omega) (by omega) (nF_0 (by omega)) dL_areMetered_137 rfl ?_
                refine x_iload (q := 140) C 6 rfl dL_areMetered_138 rfl ?_
                refine x_icmp_ne (q := 143) C 163 dL_areMetered_140 (by decide) rfl (fun c_140 => ?_) (fun c_140 => ?_)
                · have c_140 : ¬ (sr (i + 1 + d) = i + 1) := (fun h => c_140 (congrArg nI h))
                  refine x_iconst (q := 164) C 0 rfl dL_areMetered_163 rfl ?_
                  exact J_134 _ (by rw [bq, if_neg (fun h => c_140 h.1)])
                · have c_140 : sr (i + 1 + d) = i + 1 := ((nI_eq (by have := hsr (i + 1 + d) (by omega) (by omega); omega) (by omega)).mp c_140)
                  refine x_iload_n (q := 144) C 10 rfl dL_areMetered_143 rfl ?_
                  refine x_iload (q := 146) C 2 rfl dL_areMetered_144 rfl ?_
                  refine x_ishr (q := 147) C (S >>> (nI (i + 1 + d) &&& 31)) rfl dL_areMetered_146 rfl ?_
                  refine x_iconst (q := 148) C 1 rfl dL_areMetered_147 rfl ?_
                  refine x_iand (q := 149) C (sb S (i + 1 + d)) rfl dL_areMetered_148 rfl ?_
                  refine x_iconst (q := 150) C 1 rfl dL_areMetered_149 rfl ?_
                  refine x_icmp_ne (q := 153) C 163 dL_areMetered_150 (by decide) rfl (fun c_150 => ?_) (fun c_150 => ?_)
                  · refine x_iconst (q := 164) C 0 rfl dL_areMetered_163 rfl ?_
                    exact J_134 _ (by rw [bq, if_neg (fun h => c_150 h.2)])
                  · refine x_aload_n (q := 154) C 8 rfl dL_areMetered_153 rfl ?_
                    refine x_bipush (q := 156) C 36 rfl dL_areMetered_154 rfl ?_
                    refine x_iload (q := 158) C 2 rfl dL_areMetered_156 rfl ?_
                    refine x_iadd (q := 159) C (nI (36 + (i + 1 + d))) (nI_add 36 (i + 1 + d)) dL_areMetered_158 rfl ?_
                    refine x_ialdN (q := 160) C (36 + (i + 1 + d)) 6 (er (i + 1 + d)) rfl rfl (by omega) (by omega) (nF_36 (by omega)) dL_areMetered_159 rfl ?_
                    refine x_goto C 164 dL_areMetered_160 (by decide) ?_
                    exact J_134 _ (by rw [bq, if_pos ⟨c_140, c_150⟩])
            · refine x_iload (q := 99) C 0 rfl dL_areMetered_97 rfl ?_
              refine x_if_eq (q := 102) C 128 dL_areMetered_99 (by decide) rfl (fun c_99 => ?_) (fun c_99 => ?_)
              · have c_99 : ¬ (pN sr (11 - (i + 1)) (i + 1 + d) = i + 1 ∧ sb S (i + 1 + d) = 1) := (ite_0 c_99)
                refine x_iconst (q := 129) C 0 rfl dL_areMetered_128 rfl ?_
                exact J_97 _ (by rw [tq, if_neg c_99])
              · have c_99 : pN sr (11 - (i + 1)) (i + 1 + d) = i + 1 ∧ sb S (i + 1 + d) = 1 := (ite_n0 c_99)
                refine x_aload_n (q := 103) C 9 rfl dL_areMetered_102 rfl ?_
                refine x_iload (q := 105) C 1 rfl dL_areMetered_103 rfl ?_
                refine x_ialdN (q := 106) C (i + 1 + d) 7 (dd (i + 1 + d)) rfl rfl (by omega) (by omega) rfl dL_areMetered_105 rfl ?_
                refine x_join 124 (fun v => v = if i + 1 + d = i + 1 then 0 else lo (i + 1 + d)) [.int (dd (i + 1 + d)), .int (tT sr lo er dd S (i + 1) d)] (fun v hv => ?_) (fun J_106 => ?_)
                · subst hv
                  refine x_iadd (q := 125) C ((dd (i + 1 + d)) + (if i + 1 + d = i + 1 then 0 else lo (i + 1 + d))) (rfl) dL_areMetered_124 rfl ?_
                  refine x_goto C 129 dL_areMetered_125 (by decide) ?_
                  exact J_97 _ (by rw [tq, if_pos c_99])
                · refine x_iload (q := 108) C 1 rfl dL_areMetered_106 rfl ?_
                  refine x_iload (q := 110) C 6 rfl dL_areMetered_108 rfl ?_
                  refine x_icmp_ne (q := 113) C 117 dL_areMetered_110 (by decide) rfl (fun c_110 => ?_) (fun c_110 => ?_)
                  · have c_110 : ¬ (i + 1 + d = i + 1) := (fun h => c_110 (congrArg nI h))
                    refine x_aload_n (q := 118) C 8 rfl dL_areMetered_117 rfl ?_
                    refine x_bipush (q := 120) C 12 rfl dL_areMetered_118 rfl ?_
                    refine x_iload (q := 122) C 1 rfl dL_areMetered_120 rfl ?_
                    refine x_iadd (q := 123) C (nI (12 + (i + 1 + d))) (nI_add 12 (i + 1 + d)) dL_areMetered_122 rfl ?_
                    refine x_ialdN (q := 124) C (12 + (i + 1 + d)) 6 (lo (i + 1 + d)) rfl rfl (by omega) (by omega) (nF_12 (by omega)) dL_areMetered_123 rfl ?_
                    exact J_106 _ ((if_neg c_110).symm)
                  · have c_110 : i + 1 + d = i + 1 := ((nI_eq (by omega) (by omega)).mp c_110)
                    refine x_iconst (q := 114) C 0 rfl dL_areMetered_113 rfl ?_
                    refine x_goto C 124 dL_areMetered_114 (by decide) ?_
                    exact J_106 _ ((if_pos c_110).symm)
          · refine x_aload_n (q := 68) C 7 rfl dL_areMetered_67 rfl ?_
            refine x_iload (q := 70) C 5 rfl dL_areMetered_68 rfl ?_
            refine x_iload (q := 72) C 0 rfl dL_areMetered_70 rfl ?_
            refine x_CiP (q := 75) C [6] [0, 1, 2, 3, 4, 5, 7] (cx := [(aN, .inl (cy.1, 60, .inl (nF sr lo ar er b)))]) (wr := [(go, .inr (4, [.ref no, .ref po, .ref mo, .ref gB, .int ph, .int lt, .int ll])), (no, .inr (2, [.ref nS, .ref nL, .ref nA, .ref nH, .ref nV, .ref nT, .ref nC, .ref nD, .int sl])), (nV, .inl (cy.1, 12, .inl sv)), (mo, .inr (1, [.ref mE, .ref mT, .ref mS, .ref mF, .ref mA])), (mT, .inl (cy.1, 12, .inl to)), (mS, .inl (cy.2.1, 12, .inl su)), (aD, .inl (cy.1, 12, .inl dd))]) (st := []) rfl rfl rfl rfl (by decide) (fun H locs ls hP hPc hDc hS hFc hl => x_runS C (As := [.ref aN, .int (nI (i + 1)), .int (nI (i + 1 + d))]) (c_L_isOnWay aN sr lo ar er b (i + 1) (i + 1 + d) hsr (by omega) (by omega)) (va_cwS 3 C.2.2.2.2.2.1 gL_areMetered_L_isOnWay rfl rfl rfl (by decide +kernel) ⟨Nat.le_of_ble_eq_true rfl, Nat.le_of_ble_eq_true rfl⟩) rfl rfl (Nat.le_of_ble_eq_true rfl) dL_areMetered_72 ⟨Nat.le_of_ble_eq_true rfl, Nat.le_of_ble_eq_true rfl⟩ (fun h => absurd h (by decide)) hP hPc hDc hS hFc hl) (k := 0) (n := 0) rfl rfl rfl (fun r_72 w1 hw => ?_)
            obtain ⟨rfl, rfl⟩ := hw
            refine x_ord [0, 1, 2, 3, 4, 5, 7, 6] [(go, .inr (4, [.ref no, .ref po, .ref mo, .ref gB, .int ph, .int lt, .int ll])), (no, .inr (2, [.ref nS, .ref nL, .ref nA, .ref nH, .ref nV, .ref nT, .ref nC, .ref nD, .int sl])), (nV, .inl (cy.1, 12, .inl sv)), (mo, .inr (1, [.ref mE, .ref mT, .ref mS, .ref mF, .ref mA])), (mT, .inl (cy.1, 12, .inl to)), (mS, .inl (cy.2.1, 12, .inl su)), (aN, .inl (cy.1, 60, .inl (nF sr lo ar er b))), (aD, .inl (cy.1, 12, .inl dd))] rfl rfl ?_
            refine x_if_eq (q := 78) C 92 dL_areMetered_75 (by decide) rfl (fun c_75 => ?_) (fun c_75 => ?_)
            · have c_75 : ¬ (pN sr (11 - (i + 1)) (i + 1 + d) = i + 1) := (ite_0 c_75)
              refine x_iconst (q := 93) C 0 rfl dL_areMetered_92 rfl ?_
              exact J_67 _ ((if_neg (fun h => c_75 h.1)).symm)
            · have c_75 : pN sr (11 - (i + 1)) (i + 1 + d) = i + 1 := (ite_n0 c_75)
              refine x_iload_n (q := 79) C 9 rfl dL_areMetered_78 rfl ?_
              refine x_iload (q := 81) C 0 rfl dL_areMetered_79 rfl ?_
              refine x_ishr (q := 82) C (S >>> (nI (i + 1 + d) &&& 31)) rfl dL_areMetered_81 rfl ?_
              refine x_iconst (q := 83) C 1 rfl dL_areMetered_82 rfl ?_
              refine x_iand (q := 84) C (sb S (i + 1 + d)) rfl dL_areMetered_83 rfl ?_
              refine x_iconst (q := 85) C 1 rfl dL_areMetered_84 rfl ?_
              refine x_icmp_ne (q := 88) C 92 dL_areMetered_85 (by decide) rfl (fun c_85 => ?_) (fun c_85 => ?_)
              · refine x_iconst (q := 93) C 0 rfl dL_areMetered_92 rfl ?_
                exact J_67 _ ((if_neg (fun h => c_85 h.2)).symm)
              · refine x_iconst (q := 89) C 1 rfl dL_areMetered_88 rfl ?_
                refine x_goto C 93 dL_areMetered_89 (by decide) ?_
                exact J_67 _ ((if_pos ⟨c_75, c_85⟩).symm)
        · refine x_iload (q := 62) C 0 rfl dL_areMetered_60 rfl ?_
          refine x_bipush (q := 64) C 12 rfl dL_areMetered_62 rfl ?_
          refine x_icmp_ge_t C 173 dL_areMetered_64 (by decide) (nI_le (a := 12) (b := (i + 1 + (11 - i))) (by omega) (by omega)) ?_
          refine x_aload_n (q := 174) C 6 rfl dL_areMetered_173 rfl ?_
          refine x_iload (q := 176) C 5 rfl dL_areMetered_174 rfl ?_
          refine x_CiP (q := 179) C [0, 1, 2] [3, 4, 5, 6, 7] (cx := [(go, .inr (4, [.ref no, .ref po, .ref mo, .ref gB, .int ph, .int lt, .int ll])), (no, .inr (2, [.ref nS, .ref nL, .ref nA, .ref nH, .ref nV, .ref nT, .ref nC, .ref nD, .int sl])), (nV, .inl (cy.1, 12, .inl sv))]) (wr := [(mo, .inr (1, [.ref mE, .ref mT, .ref mS, .ref mF, .ref mA])), (mT, .inl (cy.1, 12, .inl to)), (mS, .inl (cy.2.1, 12, .inl su)), (aN, .inl (cy.1, 60, .inl (nF sr lo ar er b))), (aD, .inl (cy.1, 12, .inl dd))]) (st := []) rfl rfl rfl rfl (by decide) (fun H locs ls hP hPc hDc hS hFc hl => x_runV C (As := [.int (nI (i + 1))]) (c_X4_got go no po mo gB nS nL nA nH nV nT nC nD sv ph lt ll sl (i + 1) (by omega) (by omega)) (cwV 1 C.2.2.2.2.2.1 gL_areMetered_X4_got rfl rfl rfl (by decide +kernel) ⟨Nat.le_of_ble_eq_true rfl, Nat.le_of_ble_eq_true rfl⟩) rfl 0 rfl rfl rfl (Nat.le_of_ble_eq_true rfl) dL_areMetered_176 ⟨Nat.le_of_ble_eq_true rfl, Nat.le_of_ble_eq_true rfl⟩ (fun h => absurd h (by decide)) hP hPc hDc hS hFc hl) (k := 0) (n := 0) rfl rfl rfl (fun r_176 w1 hw => ?_)
          obtain ⟨rfl, rfl⟩ := hw
          refine x_ord [5, 6, 7, 0, 1, 2, 3, 4] [(go, .inr (4, [.ref no, .ref po, .ref mo, .ref gB, .int ph, .int lt, .int ll])), (no, .inr (2, [.ref nS, .ref nL, .ref nA, .ref nH, .ref nV, .ref nT, .ref nC, .ref nD, .int sl])), (nV, .inl (cy.1, 12, .inl sv)), (mo, .inr (1, [.ref mE, .ref mT, .ref mS, .ref mF, .ref mA])), (mT, .inl (cy.1, 12, .inl to)), (mS, .inl (cy.2.1, 12, .inl su)), (aN, .inl (cy.1, 60, .inl (nF sr lo ar er b))), (aD, .inl (cy.1, 12, .inl dd))] rfl rfl ?_
          refine x_aload_n (q := 180) C 8 rfl dL_areMetered_179 rfl ?_
          refine x_iload (q := 182) C 5 rfl dL_areMetered_180 rfl ?_
          refine x_ialdN (q := 183) C (i + 1) 7 (dd (i + 1)) rfl rfl (by omega) (by omega) rfl dL_areMetered_182 rfl ?_
          refine x_icmp_ne_f (q := 186) C 232 dL_areMetered_183 (by decide) rfl ((hM i h_i).1) ?_
          refine x_aload_n (q := 187) C 6 rfl dL_areMetered_186 rfl ?_
          refine x_iload (q := 189) C 5 rfl dL_areMetered_187 rfl ?_
          refine x_CiP (q := 192) C [0, 3, 4] [1, 2, 5, 6, 7] (cx := [(go, .inr (4, [.ref no, .ref po, .ref mo, .ref gB, .int ph, .int lt, .int ll])), (mo, .inr (1, [.ref mE, .ref mT, .ref mS, .ref mF, .ref mA])), (mT, .inl (cy.1, 12, .inl to))]) (wr := [(no, .inr (2, [.ref nS, .ref nL, .ref nA, .ref nH, .ref nV, .ref nT, .ref nC, .ref nD, .int sl])), (nV, .inl (cy.1, 12, .inl sv)), (mS, .inl (cy.2.1, 12, .inl su)), (aN, .inl (cy.1, 60, .inl (nF sr lo ar er b))), (aD, .inl (cy.1, 12, .inl dd))]) (st := []) rfl rfl rfl rfl (by decide) (fun H locs ls hP hPc hDc hS hFc hl => x_runV C (As := [.int (nI (i + 1))]) (c_X4_meter go no po mo gB mE mT mS mF mA to ph lt ll (i + 1) (by omega) (by omega)) (cwV 1 C.2.2.2.2.2.1 gL_areMetered_X4_meter rfl rfl rfl (by decide +kernel) ⟨Nat.le_of_ble_eq_true rfl, Nat.le_of_ble_eq_true rfl⟩) rfl 0 rfl rfl rfl (Nat.le_of_ble_eq_true rfl) dL_areMetered_189 ⟨Nat.le_of_ble_eq_true rfl, Nat.le_of_ble_eq_true rfl⟩ (fun h => absurd h (by decide)) hP hPc hDc hS hFc hl) (k := 0) (n := 0) rfl rfl rfl (fun r_189 w1 hw => ?_)
          obtain ⟨rfl, rfl⟩ := hw
          refine x_ord [5, 0, 1, 6, 7, 2, 3, 4] [(go, .inr (4, [.ref no, .ref po, .ref mo, .ref gB, .int ph, .int lt, .int ll])), (no, .inr (2, [.ref nS, .ref nL, .ref nA, .ref nH, .ref nV, .ref nT, .ref nC, .ref nD, .int sl])), (nV, .inl (cy.1, 12, .inl sv)), (mo, .inr (1, [.ref mE, .ref mT, .ref mS, .ref mF, .ref mA])), (mT, .inl (cy.1, 12, .inl to)), (mS, .inl (cy.2.1, 12, .inl su)), (aN, .inl (cy.1, 60, .inl (nF sr lo ar er b))), (aD, .inl (cy.1, 12, .inl dd))] rfl rfl ?_
          refine x_iload (q := 194) C 1 rfl dL_areMetered_192 rfl ?_
          refine x_icmp_ne_f (q := 197) C 232 dL_areMetered_194 (by decide) rfl ((hM i h_i).2.1) ?_
          refine x_aload_n (q := 198) C 6 rfl dL_areMetered_197 rfl ?_
          refine x_iload (q := 200) C 5 rfl dL_areMetered_198 rfl ?_
          refine x_CiP (q := 203) C [0, 3, 5] [1, 2, 4, 6, 7] (cx := [(go, .inr (4, [.ref no, .ref po, .ref mo, .ref gB, .int ph, .int lt, .int ll])), (mo, .inr (1, [.ref mE, .ref mT, .ref mS, .ref mF, .ref mA])), (mS, .inl (cy.2.1, 12, .inl su))]) (wr := [(no, .inr (2, [.ref nS, .ref nL, .ref nA, .ref nH, .ref nV, .ref nT, .ref nC, .ref nD, .int sl])), (nV, .inl (cy.1, 12, .inl sv)), (mT, .inl (cy.1, 12, .inl to)), (aN, .inl (cy.1, 60, .inl (nF sr lo ar er b))), (aD, .inl (cy.1, 12, .inl dd))]) (st := []) rfl rfl rfl rfl (by decide) (fun H locs ls hP hPc hDc hS hFc hl => x_runV C (As := [.int (nI (i + 1))]) (c_X4_isSuspected go no po mo gB mE mT mS mF mA su ph lt ll (i + 1) hsu (by omega) (by omega)) (cwV 1 C.2.2.2.2.2.1 gL_areMetered_X4_isSuspected rfl rfl rfl (by decide +kernel) ⟨Nat.le_of_ble_eq_true rfl, Nat.le_of_ble_eq_true rfl⟩) rfl 0 rfl rfl rfl (Nat.le_of_ble_eq_true rfl) dL_areMetered_200 ⟨Nat.le_of_ble_eq_true rfl, Nat.le_of_ble_eq_true rfl⟩ (fun h => absurd h (by decide)) hP hPc hDc hS hFc hl) (k := 0) (n := 0) rfl rfl rfl (fun r_200 w1 hw => ?_)
          obtain ⟨rfl, rfl⟩ := hw
          refine x_ord [5, 0, 1, 6, 2, 7, 3, 4] [(go, .inr (4, [.ref no, .ref po, .ref mo, .ref gB, .int ph, .int lt, .int ll])), (no, .inr (2, [.ref nS, .ref nL, .ref nA, .ref nH, .ref nV, .ref nT, .ref nC, .ref nD, .int sl])), (nV, .inl (cy.1, 12, .inl sv)), (mo, .inr (1, [.ref mE, .ref mT, .ref mS, .ref mF, .ref mA])), (mT, .inl (cy.1, 12, .inl to)), (mS, .inl (cy.2.1, 12, .inl su)), (aN, .inl (cy.1, 60, .inl (nF sr lo ar er b))), (aD, .inl (cy.1, 12, .inl dd))] rfl rfl ?_
          refine x_join 225 (fun v => v = mS9 sr er S (i + 1) (11 - i)) [.int (su (i + 1))] (fun v hv => ?_) (fun J_203 => ?_)
          · subst hv
            refine x_icmp_ne_f (q := 228) C 232 dL_areMetered_225 (by decide) rfl ((hM i h_i).2.2) ?_
            refine x_iconst (q := 229) C 1 rfl dL_areMetered_228 rfl ?_
            refine x_goto C 233 dL_areMetered_229 (by decide) ?_
            refine x_istore (q := 235) C [(4, .int 1), (9, .int (nI (i + 1 + (11 - i)))), (7, .int (tT sr lo er dd S (i + 1) (11 - i))), (8, .int (mB sr er S (i + 1) (11 - i))), (6, .int (if sb S (i + 1) = 1 then 1 else 0)), (5, .int (nI (i + 1))), (0, .ref go), (1, .ref aN), (2, .ref aD), (3, .int S)] dL_areMetered_233 (by decide) rfl rfl ?_
            refine x_iinc (q := 238) C 5 (nI ((i + 1) + 1)) [(5, .int (nI ((i + 1) + 1))), (4, .int 1), (9, .int (nI (i + 1 + (11 - i)))), (7, .int (tT sr lo er dd S (i + 1) (11 - i))), (8, .int (mB sr er S (i + 1) (11 - i))), (6, .int (if sb S (i + 1) = 1 then 1 else 0)), (0, .ref go), (1, .ref aN), (2, .ref aD), (3, .int S)] dL_areMetered_235 rfl (nI_1 _) (by decide) rfl rfl ?_
            refine x_goto C 6 dL_areMetered_238 (by decide) ?_
            refine x_less [1, 0, 6, 7, 8, 9] [(4, .int 1), (5, .int (nI ((i + 1) + 1))), (0, .ref go), (1, .ref aN), (2, .ref aD), (3, .int S)] rfl ?_
            refine x_less [0, 1, 2, 3, 4, 5] [(4, .int 1), (5, .int (nI ((i + 1) + 1))), (0, .ref go), (1, .ref aN), (2, .ref aD), (3, .int S)] (by first | rfl | (rw [e9]; rfl)) ?_
            refine x_world (X' := [(go, .inr (4, [.ref no, .ref po, .ref mo, .ref gB, .int ph, .int lt, .int ll])), (no, .inr (2, [.ref nS, .ref nL, .ref nA, .ref nH, .ref nV, .ref nT, .ref nC, .ref nD, .int sl])), (nV, .inl (cy.1, 12, .inl sv)), (mo, .inr (1, [.ref mE, .ref mT, .ref mS, .ref mF, .ref mA])), (mT, .inl (cy.1, 12, .inl to)), (mS, .inl (cy.2.1, 12, .inl su)), (aN, .inl (cy.1, 60, .inl (nF sr lo ar er b))), (aD, .inl (cy.1, 12, .inl dd))]) (pl' := []) (by first | rfl | rw [e9]) ?_
            exact ih_i
          · refine x_iload (q := 205) C 3 rfl dL_areMetered_203 rfl ?_
            refine x_if_eq (q := 208) C 224 dL_areMetered_205 (by decide) rfl (fun c_205 => ?_) (fun c_205 => ?_)
            · have c_205 : ¬ (sb S (i + 1) = 1) := (ite_0 c_205)
              refine x_iconst (q := 225) C 0 rfl dL_areMetered_224 rfl ?_
              exact J_203 _ (by rw [mS9, if_neg c_205])
            · have c_205 : sb S (i + 1) = 1 := (ite_n0 c_205)
              refine x_aload_n (q := 209) C 7 rfl dL_areMetered_208 rfl ?_
              refine x_bipush (q := 211) C 36 rfl dL_areMetered_209 rfl ?_
              refine x_iload (q := 213) C 5 rfl dL_areMetered_211 rfl ?_
              refine x_iadd (q := 214) C (nI (36 + (i + 1))) (nI_add 36 (i + 1)) dL_areMetered_213 rfl ?_
              refine x_ialdN (q := 215) C (36 + (i + 1)) 6 (er (i + 1)) rfl rfl (by omega) (by omega) (nF_36 (by omega)) dL_areMetered_214 rfl ?_
              refine x_iload (q := 217) C 2 rfl dL_areMetered_215 rfl ?_
              refine x_icmp_eq (q := 220) C 224 dL_areMetered_217 (by decide) rfl (fun c_217 => ?_) (fun c_217 => ?_)
              · refine x_iconst (q := 225) C 0 rfl dL_areMetered_224 rfl ?_
                exact J_203 _ (by rw [mS9, if_pos c_205, if_pos c_217])
              · refine x_iconst (q := 221) C 1 rfl dL_areMetered_220 rfl ?_
                refine x_goto C 225 dL_areMetered_221 (by decide) ?_
                exact J_203 _ (by rw [mS9, if_pos c_205, if_neg c_217])
      · refine x_iload (q := 37) C 0 rfl dL_areMetered_35 rfl ?_
        refine x_if_eq (q := 40) C 50 dL_areMetered_37 (by decide) rfl (fun c_37 => ?_) (fun c_37 => ?_)
        · have c_37 : ¬ (sb S (i + 1) = 1) := (ite_0 c_37)
          refine x_iconst (q := 51) C 0 rfl dL_areMetered_50 rfl ?_
          exact J_35 _ ((if_neg c_37).symm)
        · have c_37 : sb S (i + 1) = 1 := (ite_n0 c_37)
          refine x_aload_n (q := 41) C 4 rfl dL_areMetered_40 rfl ?_
          refine x_bipush (q := 43) C 36 rfl dL_areMetered_41 rfl ?_
          refine x_iload (q := 45) C 2 rfl dL_areMetered_43 rfl ?_
          refine x_iadd (q := 46) C (nI (36 + (i + 1))) (nI_add 36 (i + 1)) dL_areMetered_45 rfl ?_
          refine x_ialdN (q := 47) C (36 + (i + 1)) 6 (er (i + 1)) rfl rfl (by omega) (by omega) (nF_36 (by omega)) dL_areMetered_46 rfl ?_
          refine x_goto C 51 dL_areMetered_47 (by decide) ?_
          exact J_35 _ ((if_pos c_37).symm)
    · refine x_iload_n (q := 19) C 5 rfl dL_areMetered_18 rfl ?_
      refine x_iload (q := 21) C 1 rfl dL_areMetered_19 rfl ?_
      refine x_ishr (q := 22) C (S >>> (nI (i + 1) &&& 31)) rfl dL_areMetered_21 rfl ?_
      refine x_iconst (q := 23) C 1 rfl dL_areMetered_22 rfl ?_
      refine x_iand (q := 24) C (sb S (i + 1)) rfl dL_areMetered_23 rfl ?_
      refine x_iconst (q := 25) C 1 rfl dL_areMetered_24 rfl ?_
      refine x_icmp_ne (q := 28) C 32 dL_areMetered_25 (by decide) rfl (fun c_25 => ?_) (fun c_25 => ?_)
      · refine x_iconst (q := 33) C 0 rfl dL_areMetered_32 rfl ?_
        exact J_18 _ ((if_neg c_25).symm)
      · refine x_iconst (q := 29) C 1 rfl dL_areMetered_28 rfl ?_
        refine x_goto C 33 dL_areMetered_29 (by decide) ?_
        exact J_18 _ ((if_pos c_25).symm)
  · refine x_iload (q := 8) C 1 rfl dL_areMetered_6 rfl ?_
    refine x_bipush (q := 10) C 12 rfl dL_areMetered_8 rfl ?_
    refine x_icmp_ge_t C 241 dL_areMetered_10 (by decide) (nI_le (a := 12) (b := (11 + 1)) (by omega) (by omega)) ?_
    refine x_iload (q := 243) C 0 rfl dL_areMetered_241 rfl ?_
    exact x_iret C .boolean rfl rfl (⟨rfl, rfl⟩) dL_areMetered_243 (Nat.le_of_ble_eq_true rfl) (Nat.le_of_ble_eq_true rfl)

set_option maxHeartbeats 4000000 in
set_option maxRecDepth 100000 in
/-- areFired -/
theorem c_L_areFired {l : Launch} {D : va_G} {cy : ClassId × ClassId × ClassId} (go no po mo gB : Nat) (aC aB : Nat) (n : Nat) (ad : Nat → Nat) (stp pow cst frd : Nat → Int32) (nx : Nat → Option Nat) (ord : List Nat) (ph lt ll ap sp c3 w9 : Int32) (hch : chn nx ord) (hlt : ∀ k ∈ ord, k < n) (hn4 : n ≤ 4) (hfind : ∀ k, k < n → findL (nI k) ord = some k) (hF : ∀ k, k < n → ¬ frd k < 0 ∧ ¬ stp k < frd k ∧ (frd k = stp k ∨ ¬ frd k * pow k < lft w9 (ahd stp pow cst k n)) ∧ (frd k = 0 ∨ ¬ lft w9 (ahd stp pow cst k n) ≤ (frd k - 1) * pow k)) (hsp : sp = c3 + gvn stp pow cst w9 n n) : xM false l yL_areFired wsL_areFired ({ frames := 2, cells := 0, slots := 0, locals := 44 }) D cy [.ref go, .ref aC, .ref aB, .int w9] ([(go, .inr (4, [.ref no, .ref po, .ref mo, .ref gB, .int ph, .int lt, .int ll])), (po, .inr (3, [va_rf (Option.map ad ord.head?), .int (nI n), .int ap, .int sp])), (aC, .inl (cy.1, 4, .inl (cF ph lt n c3))), (aB, .inl (cy.1, 12, .inl (bF stp pow cst)))] ++ bl ad stp pow cst frd nx n) (xQi2 D (fun r w => r = 1 ∧ w = ([(go, .inr (4, [.ref no, .ref po, .ref mo, .ref gB, .int ph, .int lt, .int ll])), (po, .inr (3, [va_rf (Option.map ad ord.head?), .int (nI n), .int ap, .int sp])), (aC, .inl (cy.1, 4, .inl (cF ph lt n (c3 + gvn stp pow cst w9 n n)))), (aB, .inl (cy.1, 12, .inl (bF stp pow cst)))], bl ad stp pow cst frd nx n))) 0 0 := by
  refine xM_of (X := [(go, .inr (4, [.ref no, .ref po, .ref mo, .ref gB, .int ph, .int lt, .int ll])), (po, .inr (3, [va_rf (Option.map ad ord.head?), .int (nI n), .int ap, .int sp])), (aC, .inl (cy.1, 4, .inl (cF ph lt n c3))), (aB, .inl (cy.1, 12, .inl (bF stp pow cst)))]) (pl := bl ad stp pow cst frd nx n) (nL := 11) (ret := (some .boolean)) RL [(0, .ref go), (1, .ref aC), (2, .ref aB), (3, .int w9)] (by decide +kernel) rfl rfl rfl (Nat.le_of_ble_eq_true rfl) rfl (fun p e s m args below meth c A C hname hT hZ => ?_)
  refine x_iconst (q := 1) C 1 rfl dL_areFired_0 rfl ?_
  refine x_istore (q := 3) C [(4, .int 1), (0, .ref go), (1, .ref aC), (2, .ref aB), (3, .int w9)] dL_areFired_1 (by decide) rfl rfl ?_
  refine x_iconst (q := 4) C 0 rfl dL_areFired_3 rfl ?_
  refine x_istore (q := 6) C [(5, .int 0), (4, .int 1), (0, .ref go), (1, .ref aC), (2, .ref aB), (3, .int w9)] dL_areFired_4 (by decide) rfl rfl ?_
  refine x_iconst (q := 7) C 0 rfl dL_areFired_6 rfl ?_
  refine x_istore (q := 9) C [(6, .int 0), (5, .int 0), (4, .int 1), (0, .ref go), (1, .ref aC), (2, .ref aB), (3, .int w9)] dL_areFired_7 (by decide) rfl rfl ?_
  refine x_less [0, 1, 2, 3, 4, 5, 6] [(6, .int 0), (5, .int 0), (4, .int 1), (0, .ref go), (1, .ref aC), (2, .ref aB), (3, .int w9)] rfl ?_
  refine x_up (fun i => [(go, .inr (4, [.ref no, .ref po, .ref mo, .ref gB, .int ph, .int lt, .int ll])), (po, .inr (3, [va_rf (Option.map ad ord.head?), .int (nI n), .int ap, .int sp])), (aC, .inl (cy.1, 4, .inl (cF ph lt n c3))), (aB, .inl (cy.1, 12, .inl (bF stp pow cst)))]) (fun i => [(6, .int (nI i)), (5, .int (gvn stp pow cst w9 n i)), (4, .int 1), (0, .ref go), (1, .ref aC), (2, .ref aB), (3, .int w9)]) n rfl rfl (fun i h_i ih_i => ?_) ?_
  · refine x_iload (q := 11) C 0 rfl dL_areFired_9 rfl ?_
    refine x_aload_n (q := 12) C 4 rfl dL_areFired_11 rfl ?_
    refine x_iconst (q := 13) C 2 rfl dL_areFired_12 rfl ?_
    refine x_ialdN (q := 14) C 2 2 (nI n) rfl rfl (by omega) (by omega) rfl dL_areFired_13 rfl ?_
    refine x_icmp_ge_f (q := 17) C 250 dL_areFired_14 (by decide) rfl (nI_ge (a := i) (b := n) (by omega) (by omega)) ?_
    refine x_iload (q := 19) C 2 rfl dL_areFired_17 rfl ?_
    refine x_if_eq_f (q := 22) C 250 dL_areFired_19 (by decide) rfl (by decide) ?_
    refine x_iconst (q := 23) C 0 rfl dL_areFired_22 rfl ?_
    refine x_istore (q := 25) C [(7, .int 0), (6, .int (nI i)), (5, .int (gvn stp pow cst w9 n i)), (4, .int 1), (0, .ref go), (1, .ref aC), (2, .ref aB), (3, .int w9)] dL_areFired_23 (by decide) rfl rfl ?_
    refine x_iconst (q := 26) C 0 rfl dL_areFired_25 rfl ?_
    refine x_istore (q := 28) C [(8, .int 0), (7, .int 0), (6, .int (nI i)), (5, .int (gvn stp pow cst w9 n i)), (4, .int 1), (0, .ref go), (1, .ref aC), (2, .ref aB), (3, .int w9)] dL_areFired_26 (by decide) rfl rfl ?_
    refine x_less [0, 1, 2, 3, 4, 5, 6, 7, 8] [(8, .int 0), (7, .int 0), (6, .int (nI i)), (5, .int (gvn stp pow cst w9 n i)), (4, .int 1), (0, .ref go), (1, .ref aC), (2, .ref aB), (3, .int w9)] rfl ?_
    refine x_up (fun d => [(go, .inr (4, [.ref no, .ref po, .ref mo, .ref gB, .int ph, .int lt, .int ll])), (po, .inr (3, [va_rf (Option.map ad ord.head?), .int (nI n), .int ap, .int sp])), (aC, .inl (cy.1, 4, .inl (cF ph lt n c3))), (aB, .inl (cy.1, 12, .inl (bF stp pow cst)))]) (fun d => [(8, .int (nI d)), (7, .int (ahd stp pow cst i d)), (6, .int (nI i)), (5, .int (gvn stp pow cst w9 n i)), (4, .int 1), (0, .ref go), (1, .ref aC), (2, .ref aB), (3, .int w9)]) n rfl rfl (fun d h_d ih_d => ?_) ?_
    · refine x_iload (q := 30) C 0 rfl dL_areFired_28 rfl ?_
      refine x_aload_n (q := 31) C 6 rfl dL_areFired_30 rfl ?_
      refine x_iconst (q := 32) C 2 rfl dL_areFired_31 rfl ?_
      refine x_ialdN (q := 33) C 2 2 (nI n) rfl rfl (by omega) (by omega) rfl dL_areFired_32 rfl ?_
      refine x_icmp_ge_f (q := 36) C 115 dL_areFired_33 (by decide) rfl (nI_ge (a := d) (b := n) (by omega) (by omega)) ?_
      refine x_join 82 (fun v => v = isA cst i d) [] (fun v hv => ?_) (fun J_36 => ?_)
      · subst hv
        refine x_istore (q := 84) C [(9, .int (isA cst i d)), (8, .int (nI d)), (7, .int (ahd stp pow cst i d)), (6, .int (nI i)), (5, .int (gvn stp pow cst w9 n i)), (4, .int 1), (0, .ref go), (1, .ref aC), (2, .ref aB), (3, .int w9)] dL_areFired_82 (by decide) rfl rfl ?_
        refine x_iload (q := 86) C 2 rfl dL_areFired_84 rfl ?_
        refine x_join 106 (fun v => v = if isA cst i d = 0 then 0 else stp d * pow d) [.int (ahd stp pow cst i d)] (fun v hv => ?_) (fun J_86 => ?_)
        · subst hv
          refine x_iadd (q := 107) C ((ahd stp pow cst i d) + (if isA cst i d = 0 then 0 else stp d * pow d)) (rfl) dL_areFired_106 rfl ?_
          refine x_istore (q := 109) C [(7, .int ((ahd stp pow cst i d) + (if isA cst i d = 0 then 0 else stp d * pow d))), (9, .int (isA cst i d)), (8, .int (nI d)), (6, .int (nI i)), (5, .int (gvn stp pow cst w9 n i)), (4, .int 1), (0, .ref go), (1, .ref aC), (2, .ref aB), (3, .int w9)] dL_areFired_107 (by decide) rfl rfl ?_
          refine x_iinc (q := 112) C 2 (nI (d + 1)) [(8, .int (nI (d + 1))), (7, .int ((ahd stp pow cst i d) + (if isA cst i d = 0 then 0 else stp d * pow d))), (9, .int (isA cst i d)), (6, .int (nI i)), (5, .int (gvn stp pow cst w9 n i)), (4, .int 1), (0, .ref go), (1, .ref aC), (2, .ref aB), (3, .int w9)] dL_areFired_109 rfl (nI_1 _) (by decide) rfl rfl ?_
          refine x_goto C 28 dL_areFired_112 (by decide) ?_
          refine x_less [0, 1, 3, 4, 5, 6, 7, 8, 9] [(8, .int (nI (d + 1))), (7, .int ((ahd stp pow cst i d) + (if isA cst i d = 0 then 0 else stp d * pow d))), (6, .int (nI i)), (5, .int (gvn stp pow cst w9 n i)), (4, .int 1), (0, .ref go), (1, .ref aC), (2, .ref aB), (3, .int w9)] rfl ?_
          refine x_less [0, 1, 2, 3, 4, 5, 6, 7, 8] [(8, .int (nI (d + 1))), (7, .int (ahd stp pow cst i (d + 1))), (6, .int (nI i)), (5, .int (gvn stp pow cst w9 n i)), (4, .int 1), (0, .ref go), (1, .ref aC), (2, .ref aB), (3, .int w9)] (by first | rfl | (rw [e9]; rfl)) ?_
          refine x_world (X' := [(go, .inr (4, [.ref no, .ref po, .ref mo, .ref gB, .int ph, .int lt, .int ll])), (po, .inr (3, [va_rf (Option.map ad ord.head?), .int (nI n), .int ap, .int sp])), (aC, .inl (cy.1, 4, .inl (cF ph lt n c3))), (aB, .inl (cy.1, 12, .inl (bF stp pow cst)))]) (pl' := bl ad stp pow cst frd nx n) (by first | rfl | rw [e9]) ?_
          exact ih_d
        · refine x_iload (q := 88) C 0 rfl dL_areFired_86 rfl ?_
          refine x_if_eq (q := 91) C 105 dL_areFired_88 (by decide) rfl (fun c_88 => ?_) (fun c_88 => ?_)
          · refine x_iconst (q := 106) C 0 rfl dL_areFired_105 rfl ?_
            exact J_86 _ ((if_pos c_88).symm)
          · refine x_aload_n (q := 92) C 8 rfl dL_areFired_91 rfl ?_
            refine x_iload (q := 94) C 1 rfl dL_areFired_92 rfl ?_
            refine x_ialdN (q := 95) C d 3 (stp d) rfl rfl (by omega) (by omega) (bF_0 (by omega)) dL_areFired_94 rfl ?_
            refine x_aload_n (q := 96) C 8 rfl dL_areFired_95 rfl ?_
            refine x_iconst (q := 97) C 4 rfl dL_areFired_96 rfl ?_
            refine x_iload (q := 99) C 1 rfl dL_areFired_97 rfl ?_
            refine x_iadd (q := 100) C (nI (4 + d)) (nI_add 4 d) dL_areFired_99 rfl ?_
            refine x_ialdN (q := 101) C (4 + d) 3 (pow d) rfl rfl (by omega) (by omega) (bF_4 (by omega)) dL_areFired_100 rfl ?_
            refine x_imul (q := 102) C ((stp d) * (pow d)) (rfl) dL_areFired_101 rfl ?_
            refine x_goto C 106 dL_areFired_102 (by decide) ?_
            exact J_86 _ ((if_neg c_88).symm)
      · refine x_aload_n (q := 37) C 7 rfl dL_areFired_36 rfl ?_
        refine x_bipush (q := 39) C 8 rfl dL_areFired_37 rfl ?_
        refine x_iload (q := 41) C 0 rfl dL_areFired_39 rfl ?_
        refine x_iadd (q := 42) C (nI (8 + d)) (nI_add 8 d) dL_areFired_41 rfl ?_
        refine x_ialdN (q := 43) C (8 + d) 3 (cst d) rfl rfl (by omega) (by omega) bF_8 dL_areFired_42 rfl ?_
        refine x_aload_n (q := 44) C 7 rfl dL_areFired_43 rfl ?_
        refine x_bipush (q := 46) C 8 rfl dL_areFired_44 rfl ?_
        refine x_iload (q := 48) C 2 rfl dL_areFired_46 rfl ?_
        refine x_iadd (q := 49) C (nI (8 + i)) (nI_add 8 i) dL_areFired_48 rfl ?_
        refine x_ialdN (q := 50) C (8 + i) 3 (cst i) rfl rfl (by omega) (by omega) bF_8 dL_areFired_49 rfl ?_
        refine x_icmp_lt (q := 53) C 77 dL_areFired_50 (by decide) rfl (fun c_50 => ?_) (fun c_50 => ?_)
        · refine x_iconst (q := 78) C 1 rfl dL_areFired_77 rfl ?_
          refine x_goto C 82 dL_areFired_78 (by decide) ?_
          exact J_36 _ (by simp only [isA, if_pos c_50])
        · refine x_aload_n (q := 54) C 7 rfl dL_areFired_53 rfl ?_
          refine x_bipush (q := 56) C 8 rfl dL_areFired_54 rfl ?_
          refine x_iload (q := 58) C 0 rfl dL_areFired_56 rfl ?_
          refine x_iadd (q := 59) C (nI (8 + d)) (nI_add 8 d) dL_areFired_58 rfl ?_
          refine x_ialdN (q := 60) C (8 + d) 3 (cst d) rfl rfl (by omega) (by omega) bF_8 dL_areFired_59 rfl ?_
          refine x_aload_n (q := 61) C 7 rfl dL_areFired_60 rfl ?_
          refine x_bipush (q := 63) C 8 rfl dL_areFired_61 rfl ?_
          refine x_iload (q := 65) C 2 rfl dL_areFired_63 rfl ?_
          refine x_iadd (q := 66) C (nI (8 + i)) (nI_add 8 i) dL_areFired_65 rfl ?_
          refine x_ialdN (q := 67) C (8 + i) 3 (cst i) rfl rfl (by omega) (by omega) bF_8 dL_areFired_66 rfl ?_
          refine x_icmp_ne (q := 70) C 81 dL_areFired_67 (by decide) rfl (fun c_67 => ?_) (fun c_67 => ?_)
          · refine x_iconst (q := 82) C 0 rfl dL_areFired_81 rfl ?_
            exact J_36 _ (by simp only [isA, if_neg c_50, if_neg c_67])
          · refine x_iload (q := 72) C 0 rfl dL_areFired_70 rfl ?_
            refine x_iload (q := 74) C 2 rfl dL_areFired_72 rfl ?_
            refine x_icmp_ge (q := 77) C 81 dL_areFired_74 (by decide) rfl (fun c_74 => ?_) (fun c_74 => ?_)
            · refine x_iconst (q := 82) C 0 rfl dL_areFired_81 rfl ?_
              exact J_36 _ (by simp only [isA, if_neg c_50, if_pos c_67, if_pos c_74])
            · refine x_iconst (q := 78) C 1 rfl dL_areFired_77 rfl ?_
              refine x_goto C 82 dL_areFired_78 (by decide) ?_
              exact J_36 _ (by simp only [isA, if_neg c_50, if_pos c_67, if_neg c_74])
    · refine x_iload (q := 30) C 0 rfl dL_areFired_28 rfl ?_
      refine x_aload_n (q := 31) C 6 rfl dL_areFired_30 rfl ?_
      refine x_iconst (q := 32) C 2 rfl dL_areFired_31 rfl ?_
      refine x_ialdN (q := 33) C 2 2 (nI n) rfl rfl (by omega) (by omega) rfl dL_areFired_32 rfl ?_
      refine x_icmp_ge_t C 115 dL_areFired_33 (by decide) (nI_le (a := n) (b := n) (by omega) (by omega)) ?_
      refine x_join 129 (fun v => v = lft w9 (ahd stp pow cst i n)) [] (fun v hv => ?_) (fun J_115 => ?_)
      · subst hv
        refine x_istore (q := 131) C [(8, .int (lft w9 (ahd stp pow cst i n))), (7, .int (ahd stp pow cst i n)), (6, .int (nI i)), (5, .int (gvn stp pow cst w9 n i)), (4, .int 1), (0, .ref go), (1, .ref aC), (2, .ref aB), (3, .int w9)] dL_areFired_129 (by decide) rfl rfl ?_
        refine x_aload_n (q := 132) C 5 rfl dL_areFired_131 rfl ?_
        refine x_iload (q := 134) C 2 rfl dL_areFired_132 rfl ?_
        refine x_CiT (q := 137) C [0, 1] [2, 3] (cx := [(go, .inr (4, [.ref no, .ref po, .ref mo, .ref gB, .int ph, .int lt, .int ll])), (po, .inr (3, [va_rf (Option.map ad ord.head?), .int (nI n), .int ap, .int sp]))]) (wr := [(aC, .inl (cy.1, 4, .inl (cF ph lt n c3))), (aB, .inl (cy.1, 12, .inl (bF stp pow cst)))]) (st := []) rfl rfl rfl rfl (by decide) (fun H locs ls hP hPc hDc hS hFc hl => x_runV C (As := [.int (nI i)]) (c_X4_fired go no po mo gB n ad stp pow cst frd nx ord (nI n) ap sp ph lt ll (nI i) i hch hlt (hfind i (by omega))) (cwV 1 C.2.2.2.2.2.1 gL_areFired_X4_fired rfl rfl rfl (by decide +kernel) ⟨Nat.le_of_ble_eq_true rfl, Nat.le_of_ble_eq_true rfl⟩) rfl 0 rfl rfl rfl (Nat.le_of_ble_eq_true rfl) dL_areFired_134 ⟨Nat.le_of_ble_eq_true rfl, Nat.le_of_ble_eq_true rfl⟩ (fun h => absurd h (by decide)) hP hPc hDc hS hFc hl) (k := 0) (n := 0) rfl rfl rfl (fun r_134 x1 pl1 hw => ?_)
        obtain ⟨rfl, hw⟩ := hw
        obtain ⟨rfl, rfl⟩ := Prod.mk.inj hw
        refine x_ord [2, 3, 0, 1] [(go, .inr (4, [.ref no, .ref po, .ref mo, .ref gB, .int ph, .int lt, .int ll])), (po, .inr (3, [va_rf (Option.map ad ord.head?), .int (nI n), .int ap, .int sp])), (aC, .inl (cy.1, 4, .inl (cF ph lt n c3))), (aB, .inl (cy.1, 12, .inl (bF stp pow cst)))] rfl rfl ?_
        refine x_istore (q := 139) C [(9, .int (frd i)), (8, .int (lft w9 (ahd stp pow cst i n))), (7, .int (ahd stp pow cst i n)), (6, .int (nI i)), (5, .int (gvn stp pow cst w9 n i)), (4, .int 1), (0, .ref go), (1, .ref aC), (2, .ref aB), (3, .int w9)] dL_areFired_137 (by decide) rfl rfl ?_
        refine x_aload_n (q := 140) C 8 rfl dL_areFired_139 rfl ?_
        refine x_iload (q := 142) C 3 rfl dL_areFired_140 rfl ?_
        refine x_ialdN (q := 143) C i 3 (stp i) rfl rfl (by omega) (by omega) (bF_0 (by omega)) dL_areFired_142 rfl ?_
        refine x_aload_n (q := 144) C 8 rfl dL_areFired_143 rfl ?_
        refine x_iconst (q := 145) C 4 rfl dL_areFired_144 rfl ?_
        refine x_iload (q := 147) C 3 rfl dL_areFired_145 rfl ?_
        refine x_iadd (q := 148) C (nI (4 + i)) (nI_add 4 i) dL_areFired_147 rfl ?_
        refine x_ialdN (q := 149) C (4 + i) 3 (pow i) rfl rfl (by omega) (by omega) (bF_4 (by omega)) dL_areFired_148 rfl ?_
        refine x_imul (q := 150) C ((stp i) * (pow i)) (rfl) dL_areFired_149 rfl ?_
        refine x_istore (q := 152) C [(10, .int ((stp i) * (pow i))), (9, .int (frd i)), (8, .int (lft w9 (ahd stp pow cst i n))), (7, .int (ahd stp pow cst i n)), (6, .int (nI i)), (5, .int (gvn stp pow cst w9 n i)), (4, .int 1), (0, .ref go), (1, .ref aC), (2, .ref aB), (3, .int w9)] dL_areFired_150 (by decide) rfl rfl ?_
        refine x_iload (q := 154) C 5 rfl dL_areFired_152 rfl ?_
        refine x_join 168 (fun v => v = if stp i * pow i ≤ lft w9 (ahd stp pow cst i n) then stp i * pow i else lft w9 (ahd stp pow cst i n)) [.int (gvn stp pow cst w9 n i)] (fun v hv => ?_) (fun J_154 => ?_)
        · subst hv
          refine x_aload_n (q := 169) C 9 rfl dL_areFired_168 rfl ?_
          refine x_bipush (q := 171) C 8 rfl dL_areFired_169 rfl ?_
          refine x_iload (q := 173) C 4 rfl dL_areFired_171 rfl ?_
          refine x_iadd (q := 174) C (nI (8 + i)) (nI_add 8 i) dL_areFired_173 rfl ?_
          refine x_ialdN (q := 175) C (8 + i) 3 (cst i) rfl rfl (by omega) (by omega) bF_8 dL_areFired_174 rfl ?_
          refine x_imul (q := 176) C ((if stp i * pow i ≤ lft w9 (ahd stp pow cst i n) then stp i * pow i else lft w9 (ahd stp pow cst i n)) * (cst i)) (rfl) dL_areFired_175 rfl ?_
          refine x_iadd (q := 177) C ((gvn stp pow cst w9 n i) + ((if stp i * pow i ≤ lft w9 (ahd stp pow cst i n) then stp i * pow i else lft w9 (ahd stp pow cst i n)) * (cst i))) (rfl) dL_areFired_176 rfl ?_
          refine x_istore (q := 179) C [(5, .int ((gvn stp pow cst w9 n i) + ((if stp i * pow i ≤ lft w9 (ahd stp pow cst i n) then stp i * pow i else lft w9 (ahd stp pow cst i n)) * (cst i)))), (10, .int ((stp i) * (pow i))), (9, .int (frd i)), (8, .int (lft w9 (ahd stp pow cst i n))), (7, .int (ahd stp pow cst i n)), (6, .int (nI i)), (4, .int 1), (0, .ref go), (1, .ref aC), (2, .ref aB), (3, .int w9)] dL_areFired_177 (by decide) rfl rfl ?_
          refine x_join 242 (fun v => v = 1) [] (fun v hv => ?_) (fun J_179 => ?_)
          · subst hv
            refine x_istore (q := 244) C [(4, .int 1), (5, .int ((gvn stp pow cst w9 n i) + ((if stp i * pow i ≤ lft w9 (ahd stp pow cst i n) then stp i * pow i else lft w9 (ahd stp pow cst i n)) * (cst i)))), (10, .int ((stp i) * (pow i))), (9, .int (frd i)), (8, .int (lft w9 (ahd stp pow cst i n))), (7, .int (ahd stp pow cst i n)), (6, .int (nI i)), (0, .ref go), (1, .ref aC), (2, .ref aB), (3, .int w9)] dL_areFired_242 (by decide) rfl rfl ?_
            refine x_iinc (q := 247) C 6 (nI (i + 1)) [(6, .int (nI (i + 1))), (4, .int 1), (5, .int ((gvn stp pow cst w9 n i) + ((if stp i * pow i ≤ lft w9 (ahd stp pow cst i n) then stp i * pow i else lft w9 (ahd stp pow cst i n)) * (cst i)))), (10, .int ((stp i) * (pow i))), (9, .int (frd i)), (8, .int (lft w9 (ahd stp pow cst i n))), (7, .int (ahd stp pow cst i n)), (0, .ref go), (1, .ref aC), (2, .ref aB), (3, .int w9)] dL_areFired_244 rfl (nI_1 _) (by decide) rfl rfl ?_
            refine x_goto C 9 dL_areFired_247 (by decide) ?_
            refine x_less [0, 2, 1, 7, 8, 9, 10] [(6, .int (nI (i + 1))), (5, .int ((gvn stp pow cst w9 n i) + ((if stp i * pow i ≤ lft w9 (ahd stp pow cst i n) then stp i * pow i else lft w9 (ahd stp pow cst i n)) * (cst i)))), (4, .int 1), (0, .ref go), (1, .ref aC), (2, .ref aB), (3, .int w9)] rfl ?_
            refine x_less [0, 1, 2, 3, 4, 5, 6] [(6, .int (nI (i + 1))), (5, .int (gvn stp pow cst w9 n (i + 1))), (4, .int 1), (0, .ref go), (1, .ref aC), (2, .ref aB), (3, .int w9)] (by first | rfl | (rw [e9]; rfl)) ?_
            refine x_world (X' := [(go, .inr (4, [.ref no, .ref po, .ref mo, .ref gB, .int ph, .int lt, .int ll])), (po, .inr (3, [va_rf (Option.map ad ord.head?), .int (nI n), .int ap, .int sp])), (aC, .inl (cy.1, 4, .inl (cF ph lt n c3))), (aB, .inl (cy.1, 12, .inl (bF stp pow cst)))]) (pl' := bl ad stp pow cst frd nx n) (by first | rfl | rw [e9]) ?_
            exact ih_i
          · refine x_iload (q := 181) C 2 rfl dL_areFired_179 rfl ?_
            refine x_if_lt_f (q := 184) C 241 dL_areFired_181 (by decide) rfl ((hF i h_i).1) ?_
            refine x_iload (q := 186) C 2 rfl dL_areFired_184 rfl ?_
            refine x_aload_n (q := 187) C 9 rfl dL_areFired_186 rfl ?_
            refine x_iload (q := 189) C 5 rfl dL_areFired_187 rfl ?_
            refine x_ialdN (q := 190) C i 3 (stp i) rfl rfl (by omega) (by omega) (bF_0 (by omega)) dL_areFired_189 rfl ?_
            refine x_icmp_gt_f (q := 193) C 241 dL_areFired_190 (by decide) rfl ((hF i h_i).2.1) ?_
            refine x_iload (q := 195) C 2 rfl dL_areFired_193 rfl ?_
            refine x_aload_n (q := 196) C 9 rfl dL_areFired_195 rfl ?_
            refine x_iload (q := 198) C 5 rfl dL_areFired_196 rfl ?_
            refine x_ialdN (q := 199) C i 3 (stp i) rfl rfl (by omega) (by omega) (bF_0 (by omega)) dL_areFired_198 rfl ?_
            refine x_icmp_eq (q := 202) C 216 dL_areFired_199 (by decide) rfl (fun c_199 => ?_) (fun c_199 => ?_)
            · refine x_iload (q := 218) C 2 rfl dL_areFired_216 rfl ?_
              refine x_if_eq (q := 221) C 237 dL_areFired_218 (by decide) rfl (fun c_218 => ?_) (fun c_218 => ?_)
              · refine x_iconst (q := 238) C 1 rfl dL_areFired_237 rfl ?_
                refine x_goto C 242 dL_areFired_238 (by decide) ?_
                exact J_179 _ (rfl)
              · refine x_iload (q := 223) C 2 rfl dL_areFired_221 rfl ?_
                refine x_iconst (q := 224) C 1 rfl dL_areFired_223 rfl ?_
                refine x_isub (q := 225) C ((frd i) - 1) (rfl) dL_areFired_224 rfl ?_
                refine x_aload_n (q := 226) C 9 rfl dL_areFired_225 rfl ?_
                refine x_iconst (q := 227) C 4 rfl dL_areFired_226 rfl ?_
                refine x_iload (q := 229) C 5 rfl dL_areFired_227 rfl ?_
                refine x_iadd (q := 230) C (nI (4 + i)) (nI_add 4 i) dL_areFired_229 rfl ?_
                refine x_ialdN (q := 231) C (4 + i) 3 (pow i) rfl rfl (by omega) (by omega) (bF_4 (by omega)) dL_areFired_230 rfl ?_
                refine x_imul (q := 232) C (((frd i) - 1) * (pow i)) (rfl) dL_areFired_231 rfl ?_
                refine x_iload (q := 234) C 3 rfl dL_areFired_232 rfl ?_
                refine x_icmp_ge_f (q := 237) C 241 dL_areFired_234 (by decide) rfl ((hF i h_i).2.2.2.resolve_left c_218) ?_
                refine x_iconst (q := 238) C 1 rfl dL_areFired_237 rfl ?_
                refine x_goto C 242 dL_areFired_238 (by decide) ?_
                exact J_179 _ (rfl)
            · refine x_iload (q := 204) C 2 rfl dL_areFired_202 rfl ?_
              refine x_aload_n (q := 205) C 9 rfl dL_areFired_204 rfl ?_
              refine x_iconst (q := 206) C 4 rfl dL_areFired_205 rfl ?_
              refine x_iload (q := 208) C 5 rfl dL_areFired_206 rfl ?_
              refine x_iadd (q := 209) C (nI (4 + i)) (nI_add 4 i) dL_areFired_208 rfl ?_
              refine x_ialdN (q := 210) C (4 + i) 3 (pow i) rfl rfl (by omega) (by omega) (bF_4 (by omega)) dL_areFired_209 rfl ?_
              refine x_imul (q := 211) C ((frd i) * (pow i)) (rfl) dL_areFired_210 rfl ?_
              refine x_iload (q := 213) C 3 rfl dL_areFired_211 rfl ?_
              refine x_icmp_lt_f (q := 216) C 241 dL_areFired_213 (by decide) rfl ((hF i h_i).2.2.1.resolve_left c_199) ?_
              refine x_iload (q := 218) C 2 rfl dL_areFired_216 rfl ?_
              refine x_if_eq (q := 221) C 237 dL_areFired_218 (by decide) rfl (fun c_218 => ?_) (fun c_218 => ?_)
              · refine x_iconst (q := 238) C 1 rfl dL_areFired_237 rfl ?_
                refine x_goto C 242 dL_areFired_238 (by decide) ?_
                exact J_179 _ (rfl)
              · refine x_iload (q := 223) C 2 rfl dL_areFired_221 rfl ?_
                refine x_iconst (q := 224) C 1 rfl dL_areFired_223 rfl ?_
                refine x_isub (q := 225) C ((frd i) - 1) (rfl) dL_areFired_224 rfl ?_
                refine x_aload_n (q := 226) C 9 rfl dL_areFired_225 rfl ?_
                refine x_iconst (q := 227) C 4 rfl dL_areFired_226 rfl ?_
                refine x_iload (q := 229) C 5 rfl dL_areFired_227 rfl ?_
                refine x_iadd (q := 230) C (nI (4 + i)) (nI_add 4 i) dL_areFired_229 rfl ?_
                refine x_ialdN (q := 231) C (4 + i) 3 (pow i) rfl rfl (by omega) (by omega) (bF_4 (by omega)) dL_areFired_230 rfl ?_
                refine x_imul (q := 232) C (((frd i) - 1) * (pow i)) (rfl) dL_areFired_231 rfl ?_
                refine x_iload (q := 234) C 3 rfl dL_areFired_232 rfl ?_
                refine x_icmp_ge_f (q := 237) C 241 dL_areFired_234 (by decide) rfl ((hF i h_i).2.2.2.resolve_left c_218) ?_
                refine x_iconst (q := 238) C 1 rfl dL_areFired_237 rfl ?_
                refine x_goto C 242 dL_areFired_238 (by decide) ?_
                exact J_179 _ (rfl)
        · refine x_iload (q := 156) C 2 rfl dL_areFired_154 rfl ?_
          refine x_iload (q := 158) C 0 rfl dL_areFired_156 rfl ?_
          refine x_icmp_ge (q := 161) C 166 dL_areFired_158 (by decide) rfl (fun c_158 => ?_) (fun c_158 => ?_)
          · refine x_iload (q := 168) C 0 rfl dL_areFired_166 rfl ?_
            exact J_154 _ ((if_pos c_158).symm)
          · refine x_iload (q := 163) C 2 rfl dL_areFired_161 rfl ?_
            refine x_goto C 168 dL_areFired_163 (by decide) ?_
            exact J_154 _ ((if_neg c_158).symm)
      · refine x_iload_n (q := 116) C 8 rfl dL_areFired_115 rfl ?_
        refine x_iload (q := 118) C 1 rfl dL_areFired_116 rfl ?_
        refine x_icmp_le (q := 121) C 128 dL_areFired_118 (by decide) rfl (fun c_118 => ?_) (fun c_118 => ?_)
        · refine x_iconst (q := 129) C 0 rfl dL_areFired_128 rfl ?_
          exact J_115 _ (by rw [lft, if_pos c_118])
        · refine x_iload_n (q := 122) C 8 rfl dL_areFired_121 rfl ?_
          refine x_iload (q := 124) C 1 rfl dL_areFired_122 rfl ?_
          refine x_isub (q := 125) C (w9 - (ahd stp pow cst i n)) (rfl) dL_areFired_124 rfl ?_
          refine x_goto C 129 dL_areFired_125 (by decide) ?_
          exact J_115 _ (by rw [lft, if_neg c_118])
  · refine x_iload (q := 11) C 0 rfl dL_areFired_9 rfl ?_
    refine x_aload_n (q := 12) C 4 rfl dL_areFired_11 rfl ?_
    refine x_iconst (q := 13) C 2 rfl dL_areFired_12 rfl ?_
    refine x_ialdN (q := 14) C 2 2 (nI n) rfl rfl (by omega) (by omega) rfl dL_areFired_13 rfl ?_
    refine x_icmp_ge_t C 250 dL_areFired_14 (by decide) (nI_le (a := n) (b := n) (by omega) (by omega)) ?_
    refine x_aload_n (q := 251) C 4 rfl dL_areFired_250 rfl ?_
    refine x_iconst (q := 252) C 3 rfl dL_areFired_251 rfl ?_
    refine x_dup2 (q := 253) C rfl rfl dL_areFired_252 rfl ?_
    refine x_ialdN (q := 254) C 3 2 c3 rfl rfl (by omega) (by omega) rfl dL_areFired_253 rfl ?_
    refine x_iload (q := 256) C 1 rfl dL_areFired_254 rfl ?_
    refine x_iadd (q := 257) C (c3 + (gvn stp pow cst w9 n n)) (rfl) dL_areFired_256 rfl ?_
    refine x_iastN (q := 258) C 3 2 (cF ph lt n (c3 + (gvn stp pow cst w9 n n))) [(go, .inr (4, [.ref no, .ref po, .ref mo, .ref gB, .int ph, .int lt, .int ll])), (po, .inr (3, [va_rf (Option.map ad ord.head?), .int (nI n), .int ap, .int sp])), (aC, .inl (cy.1, 4, .inl (cF ph lt n (c3 + (gvn stp pow cst w9 n n))))), (aB, .inl (cy.1, 12, .inl (bF stp pow cst)))] rfl rfl (by omega) (by omega) cF_u3 rfl dL_areFired_257 rfl ?_
    refine x_iload (q := 260) C 2 rfl dL_areFired_258 rfl ?_
    refine x_if_eq_f (q := 263) C 277 dL_areFired_260 (by decide) rfl (by decide) ?_
    refine x_aload_n (q := 264) C 3 rfl dL_areFired_263 rfl ?_
    refine x_CiP (q := 267) C [0, 1] [2, 3] (cx := [(go, .inr (4, [.ref no, .ref po, .ref mo, .ref gB, .int ph, .int lt, .int ll])), (po, .inr (3, [va_rf (Option.map ad ord.head?), .int (nI n), .int ap, .int sp]))]) (wr := [(aC, .inl (cy.1, 4, .inl (cF ph lt n (c3 + (gvn stp pow cst w9 n n))))), (aB, .inl (cy.1, 12, .inl (bF stp pow cst)))]) (st := []) rfl rfl rfl rfl (by decide) (fun H locs ls hP hPc hDc hS hFc hl => x_runV C (As := []) (c_X4_cost go no po mo gB (Option.map ad ord.head?) ph lt ll (nI n) ap sp) (cwV 0 C.2.2.2.2.2.1 gL_areFired_X4_cost rfl rfl rfl (by decide +kernel) ⟨Nat.le_of_ble_eq_true rfl, Nat.le_of_ble_eq_true rfl⟩) rfl 0 rfl rfl rfl (Nat.le_of_ble_eq_true rfl) dL_areFired_264 ⟨Nat.le_of_ble_eq_true rfl, Nat.le_of_ble_eq_true rfl⟩ (fun h => absurd h (by decide)) hP hPc hDc hS hFc hl) (k := 0) (n := 0) rfl rfl rfl (fun r_264 w1 hw => ?_)
    obtain ⟨hr9, rfl⟩ := hw
    refine x_ord [2, 3, 0, 1] [(go, .inr (4, [.ref no, .ref po, .ref mo, .ref gB, .int ph, .int lt, .int ll])), (po, .inr (3, [va_rf (Option.map ad ord.head?), .int (nI n), .int ap, .int sp])), (aC, .inl (cy.1, 4, .inl (cF ph lt n (c3 + (gvn stp pow cst w9 n n))))), (aB, .inl (cy.1, 12, .inl (bF stp pow cst)))] rfl rfl ?_
    refine x_top sp hr9 ?_
    refine x_aload_n (q := 268) C 4 rfl dL_areFired_267 rfl ?_
    refine x_iconst (q := 269) C 3 rfl dL_areFired_268 rfl ?_
    refine x_ialdN (q := 270) C 3 2 (c3 + (gvn stp pow cst w9 n n)) rfl rfl (by omega) (by omega) rfl dL_areFired_269 rfl ?_
    refine x_icmp_ne_f (q := 273) C 277 dL_areFired_270 (by decide) rfl hsp ?_
    refine x_iconst (q := 274) C 1 rfl dL_areFired_273 rfl ?_
    refine x_goto C 278 dL_areFired_274 (by decide) ?_
    exact x_iretT C .boolean rfl rfl (⟨rfl, rfl⟩) dL_areFired_278 (Nat.le_of_ble_eq_true rfl) (Nat.le_of_ble_eq_true rfl)
