/-! boilers: fired alike -/
theorem fire_pf {S P N : Nat} (hS : S ≤ 5) (hP1 : 1 ≤ P) (hP : P ≤ 100) (hN : N ≤ 1000000) : ∀ fuel i, i ≤ min S ((N + P - 1) / P) → min S ((N + P - 1) / P) < i + fuel → pf (nI S) (nI P) (nI N) fuel (nI i) = nI (min S ((N + P - 1) / P)) := by
  intro fuel
  induction fuel with
  | zero => intro i h1 h2; omega
  | succ fuel ih =>
    intro i h1 h2
    have hiP : i * P ≤ 5 * 100 := Nat.mul_le_mul (by omega) hP
    have hc : (N + P - 1) / P ≤ i ↔ N ≤ i * P := by
      rw [Nat.div_le_iff_le_mul_add_pred (by omega)]
      rw [Nat.mul_comm P i]
      omega
    simp only [pf]
    by_cases g1 : nI S ≤ nI i
    · rw [if_pos g1]
      rw [nI_leI (by omega) (by omega)] at g1
      exact congrArg nI (by omega)
    · rw [if_neg g1]
      rw [nI_leI (by omega) (by omega)] at g1
      rw [pk_mul]
      by_cases g2 : nI N ≤ nI (i * P)
      · rw [if_pos g2]
        rw [nI_leI (by omega) (by omega)] at g2
        have := hc.mpr g2
        exact congrArg nI (by omega)
      · rw [if_neg g2]
        rw [nI_leI (by omega) (by omega)] at g2
        have g3 : ¬ (N + P - 1) / P ≤ i := fun h => g2 (hc.mp h)
        rw [nI_1]
        exact ih (i + 1) (by omega) (by omega)
theorem fire_one {s p : Int32} {N : Nat} (hs : 1 ≤ s.toInt ∧ s.toInt ≤ 5) (hp : 1 ≤ p.toInt ∧ p.toInt ≤ 100) (hN : N ≤ 1000000) : pFire s p (nI N) = mIts s p (nI N) ∧ pUsed s p (nI N) = mUsed s p (nI N) ∧ ∃ N', N' ≤ N ∧ nI N - mUsed s p (nI N) = nI N' := by
  obtain ⟨S, hS, rfl⟩ := nI_of (x := s) (by rw [i_lt, i_0]; omega)
  obtain ⟨P, hP, rfl⟩ := nI_of (x := p) (by rw [i_lt, i_0]; omega)
  rw [nI_toInt hS] at hs
  rw [nI_toInt hP] at hp
  have hS5 : S ≤ 5 := by omega
  have hP1 : 1 ≤ P := by omega
  have hP100 : P ≤ 100 := by omega
  have e1 : pFire (nI S) (nI P) (nI N) = nI (min S ((N + P - 1) / P)) := fire_pf hS5 hP1 hP100 hN 6 0 (Nat.zero_le _) (Nat.lt_of_le_of_lt (Nat.min_le_left _ _) (by omega))
  have hdiv : (N + P - 1) / P ≤ N + P - 1 := Nat.div_le_self _ _
  have e2 : mIts (nI S) (nI P) (nI N) = nI (min S ((N + P - 1) / P)) := by
    unfold mIts
    rw [nI_add, show (1 : Int32) = nI 1 from rfl, pk_sub (by omega), pk_div (by omega) (by omega) (by omega)]
    by_cases g : nI ((N + P - 1) / P) ≤ nI S
    · rw [if_pos g]
      rw [nI_leI (by omega) (by omega)] at g
      exact congrArg nI (by omega)
    · rw [if_neg g]
      rw [nI_leI (by omega) (by omega)] at g
      exact congrArg nI (by omega)
  have hF : min S ((N + P - 1) / P) * P ≤ 5 * 100 := Nat.mul_le_mul (by omega) hP100
  have e3 : mUsed (nI S) (nI P) (nI N) = nI (min N (min S ((N + P - 1) / P) * P)) := by
    unfold mUsed
    rw [e2, pk_mul]
    by_cases g : nI N ≤ nI (min S ((N + P - 1) / P) * P)
    · rw [if_pos g]
      rw [nI_leI (by omega) (by omega)] at g
      exact congrArg nI (by omega)
    · rw [if_neg g]
      rw [nI_leI (by omega) (by omega)] at g
      exact congrArg nI (by omega)
  refine ⟨e1.trans e2.symm, ?_, N - min N (min S ((N + P - 1) / P) * P), by omega, ?_⟩
  · rw [e3]
    unfold pUsed
    rw [e1, pk_mul]
    unfold imin
    by_cases g : nI (min S ((N + P - 1) / P) * P) < nI N
    · rw [if_pos g]
      rw [nI_ltI (by omega) (by omega)] at g
      exact congrArg nI (by omega)
    · rw [if_neg g]
      rw [nI_ltI (by omega) (by omega)] at g
      exact congrArg nI (by omega)
  · rw [e3, pk_sub (by omega)]
theorem fire_eq {n : Nat} {stp pow cst : Nat → Int32} (hb : ∀ k, k < n → (1 ≤ (stp k).toInt ∧ (stp k).toInt ≤ 5) ∧ 1 ≤ (pow k).toInt ∧ (pow k).toInt ≤ 100) : ∀ (ord : List Nat) (N : Nat) (s : Int32) (f : Nat → Int32), (∀ k ∈ ord, k < n) → N ≤ 1000000 → mfireL stp pow cst ord (nI N) s f = fireL stp pow cst ord (nI N) s f := by
  intro ord
  induction ord with
  | nil => intro N s f _ _; rfl
  | cons k ks ih =>
    intro N s f hk hN
    obtain ⟨h1, h2⟩ := hb k (hk k List.mem_cons_self)
    obtain ⟨q1, q2, N', q3, q4⟩ := fire_one h1 h2 hN
    simp only [mfireL, fireL]
    rw [q1, q2, q4]
    exact ih N' _ _ (fun j hj => hk j (List.mem_cons_of_mem _ hj)) (by omega)
theorem fire_z {n : Nat} {stp pow cst : Nat → Int32} : ∀ (ord : List Nat) (l s : Int32) (f : Nat → Int32), (∀ k ∈ ord, k < n) → (∀ k, n ≤ k → f k = 0) → ∀ k, n ≤ k → (fireL stp pow cst ord l s f).2 k = 0 := by
  intro ord
  induction ord with
  | nil => intro l s f _ h k hk; exact h k hk
  | cons a ks ih =>
    intro l s f h1 h2 k hk
    simp only [fireL]
    refine ih _ _ _ (fun j hj => h1 j (List.mem_cons_of_mem _ hj)) (fun j hj => ?_) k hk
    have := h1 a List.mem_cons_self
    rw [va_up_ne _ _ (by omega)]
    exact h2 j hj
theorem power_bd {n : Nat} {stp pow : Nat → Int32} (hn : n ≤ 4) (hb : ∀ k, k < n → (1 ≤ (stp k).toInt ∧ (stp k).toInt ≤ 5) ∧ 1 ≤ (pow k).toInt ∧ (pow k).toInt ≤ 100) : 0 ≤ (mpFun stp pow n).toInt ∧ (mpFun stp pow n).toInt ≤ 2000 := by
  have K : ∀ i, i ≤ n → 0 ≤ (itr (mpStep stp pow) 0 i).toInt ∧ (itr (mpStep stp pow) 0 i).toInt ≤ 500 * i := by
    intro i
    induction i with
    | zero => intro _; exact ⟨by show 0 ≤ (0 : Int32).toInt; rw [i_0]; omega, by show (0 : Int32).toInt ≤ _; rw [i_0]; omega⟩
    | succ i ih =>
      intro hi
      obtain ⟨a1, a2⟩ := ih (by omega)
      obtain ⟨⟨b1, b2⟩, b3, b4⟩ := hb i (by omega)
      obtain ⟨S, hS, eS⟩ := nI_of (x := stp i) (by rw [i_lt, i_0]; omega)
      obtain ⟨P, hP, eP⟩ := nI_of (x := pow i) (by rw [i_lt, i_0]; omega)
      rw [eS, nI_toInt hS] at b1 b2
      rw [eP, nI_toInt hP] at b3 b4
      have hSP : S * P ≤ 5 * 100 := Nat.mul_le_mul (by omega) (by omega)
      show 0 ≤ (itr (mpStep stp pow) 0 i + stp i * pow i).toInt ∧ (itr (mpStep stp pow) 0 i + stp i * pow i).toInt ≤ _
      rw [eS, eP, pk_mul, i_add (by rw [nI_toInt (by omega)]; omega) (by rw [nI_toInt (by omega)]; omega), nI_toInt (by omega)]
      omega
  have := K n (Nat.le_refl _)
  unfold mpFun
  omega
