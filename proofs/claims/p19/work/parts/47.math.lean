/-! the order of firing: what 'next' finds; a boiler more -/
def kl (cst : Nat → Int32) (g b : Nat) : Prop := (cst g).toInt < (cst b).toInt ∨ ((cst g).toInt = (cst b).toInt ∧ g < b)
def beh (cst : Nat → Int32) : Option Nat → Nat → Prop
  | none, _ => True
  | some g, b => kl cst g b
theorem nxB_iff {cst : Nat → Int32} {last : Option Nat} {b : Nat} : nxB cst last b = true ↔ beh cst last b := by
  cases last with
  | none => exact ⟨fun _ => trivial, fun _ => rfl⟩
  | some g =>
    simp only [nxB, beh, kl]
    by_cases h1 : cst g < cst b
    · rw [if_pos h1]
      rw [i_lt] at h1
      exact ⟨fun _ => Or.inl h1, fun _ => rfl⟩
    · rw [if_neg h1]
      rw [i_lt] at h1
      by_cases h2 : cst b = cst g
      · rw [if_pos h2]
        rw [i_eq] at h2
        by_cases h3 : b ≤ g
        · rw [if_pos h3]
          exact ⟨fun h => (by cases h), fun h => by omega⟩
        · rw [if_neg h3]
          exact ⟨fun _ => Or.inr ⟨by omega, by omega⟩, fun _ => rfl⟩
      · rw [if_neg h2]
        rw [i_eq] at h2
        exact ⟨fun h => (by cases h), fun h => by omega⟩
theorem nx_spec (n : Nat) (cst : Nat → Int32) (last : Option Nat) : (nxF n cst last = none ∧ ∀ b, b < n → ¬ beh cst last b) ∨ (∃ g, nxF n cst last = some g ∧ g < n ∧ beh cst last g ∧ ∀ b, b < n → beh cst last b → b = g ∨ kl cst g b) := by
  have K : ∀ i, i ≤ n → (itr (nxStep n cst last) none i = none ∧ ∀ b, n - i ≤ b → b < n → ¬ beh cst last b) ∨ (∃ g, itr (nxStep n cst last) none i = some g ∧ g < n ∧ n - i ≤ g ∧ beh cst last g ∧ ∀ b, n - i ≤ b → b < n → beh cst last b → b = g ∨ kl cst g b) := by
    intro i
    induction i with
    | zero => intro _; exact Or.inl ⟨rfl, fun b h1 h2 => by omega⟩
    | succ i ih =>
      intro hi
      have hm : ∀ b, n - (i + 1) ≤ b → b < n → b = n - 1 - i ∨ n - i ≤ b := fun b h1 h2 => by omega
      rw [itr_s]
      by_cases hb : beh cst last (n - 1 - i)
      · have hb' := nxB_iff.mpr hb
        refine Or.inr ?_
        rcases ih (by omega) with ⟨e, h⟩ | ⟨g, e, g1, g0, g2, h⟩
        · refine ⟨n - 1 - i, by rw [e]; simp only [nxStep, if_pos hb'], by omega, by omega, hb, fun b h1 h2 h3 => ?_⟩
          rcases hm b h1 h2 with h4 | h4
          · exact Or.inl h4
          · exact absurd h3 (h b h4 h2)
        · by_cases hc : cst g < cst (n - 1 - i)
          · refine ⟨g, by rw [e]; simp only [nxStep, if_pos hb', if_pos hc], g1, by omega, g2, fun b h1 h2 h3 => ?_⟩
            rcases hm b h1 h2 with h4 | h4
            · rw [h4]; rw [i_lt] at hc; exact Or.inr (Or.inl hc)
            · exact h b h4 h2 h3
          · refine ⟨n - 1 - i, by rw [e]; simp only [nxStep, if_pos hb', if_neg hc], by omega, by omega, hb, fun b h1 h2 h3 => ?_⟩
            rw [i_lt] at hc
            rcases hm b h1 h2 with h4 | h4
            · exact Or.inl h4
            · refine Or.inr ?_
              rcases h b h4 h2 h3 with h5 | h5
              · rw [h5]; unfold kl; omega
              · unfold kl at h5 ⊢; omega
      · have hb' : ¬ nxB cst last (n - 1 - i) = true := fun h => hb (nxB_iff.mp h)
        have e9 : ∀ f, nxStep n cst last i f = f := fun f => by simp only [nxStep, if_neg hb']
        rw [e9]
        rcases ih (by omega) with ⟨e, h⟩ | ⟨g, e, g1, g0, g2, h⟩
        · refine Or.inl ⟨e, fun b h1 h2 h3 => ?_⟩
          rcases hm b h1 h2 with h4 | h4
          · rw [h4] at h3; exact hb h3
          · exact h b h4 h2 h3
        · refine Or.inr ⟨g, e, g1, by omega, g2, fun b h1 h2 h3 => ?_⟩
          rcases hm b h1 h2 with h4 | h4
          · rw [h4] at h3; exact absurd h3 hb
          · exact h b h4 h2 h3
  rcases K n (Nat.le_refl _) with ⟨e, h⟩ | ⟨g, e, g1, -, g2, h⟩
  · exact Or.inl ⟨e, fun b hb => h b (by omega) hb⟩
  · exact Or.inr ⟨g, e, g1, g2, fun b hb => h b (by omega) hb⟩
theorem nx_none {n : Nat} {cst : Nat → Int32} {last : Option Nat} (h : ∀ b, b < n → ¬ beh cst last b) : nxF n cst last = none := by
  rcases nx_spec n cst last with ⟨e, -⟩ | ⟨g, e, g1, g2, -⟩
  · exact e
  · exact absurd g2 (h g g1)
theorem nx_some {n : Nat} {cst : Nat → Int32} {last : Option Nat} {g : Nat} (h1 : g < n) (h2 : beh cst last g) (h3 : ∀ b, b < n → beh cst last b → b = g ∨ kl cst g b) : nxF n cst last = some g := by
  rcases nx_spec n cst last with ⟨-, h⟩ | ⟨g', e, g1, g2, h⟩
  · exact absurd h2 (h g h1)
  · rw [e]
    rcases h g h1 h2 with h4 | h4
    · rw [h4]
    · rcases h3 g' g1 g2 with h5 | h5
      · rw [h5]
      · unfold kl at h4 h5; omega
/-- the two searches look at the same boilers -/
theorem nx_same {n n' : Nat} {cst cst' : Nat → Int32} {last last' : Option Nat} (hn : ∀ b, b < n → beh cst last b → b < n' ∧ beh cst' last' b) (hn' : ∀ b, b < n' → beh cst' last' b → b < n ∧ beh cst last b) (hk : ∀ g b, g < n → b < n → kl cst g b → kl cst' g b) : nxF n' cst' last' = nxF n cst last := by
  rcases nx_spec n cst last with ⟨e, h⟩ | ⟨g, e, g1, g2, h⟩
  · rw [e]
    exact nx_none (fun b hb h2 => h b (hn' b hb h2).1 (hn' b hb h2).2)
  · rw [e]
    obtain ⟨a1, a2⟩ := hn g g1 g2
    refine nx_some a1 a2 (fun b hb h2 => ?_)
    obtain ⟨b1, b2⟩ := hn' b hb h2
    rcases h b b1 b2 with h3 | h3
    · exact Or.inl h3
    · exact Or.inr (hk g b g1 b1 h3)
theorem lfb_spec {nx : Nat → Option Nat} {cst : Nat → Int32} {c9 : Int32} : ∀ (ord : List Nat) (last : Option Nat), chn nx ord → (∀ b, last = some b → nx b = ord.head? ∧ ¬ c9 < cst b) → (lfb cst c9 last ord = none → last = none ∧ ∀ k, ord.head? = some k → c9 < cst k) ∧ ∀ b, lfb cst c9 last ord = some b → ¬ c9 < cst b ∧ ∀ j, nx b = some j → c9 < cst j := by
  intro ord
  induction ord with
  | nil =>
    intro last _ hl
    refine ⟨fun h => ⟨h, fun k hk => by cases hk⟩, fun b h => ?_⟩
    obtain ⟨h1, h2⟩ := hl b h
    exact ⟨h2, fun j hj => by rw [h1] at hj; cases hj⟩
  | cons k ks ih =>
    intro last hc hl
    simp only [lfb]
    by_cases hk : c9 < cst k
    · rw [if_pos hk]
      refine ⟨fun h => ⟨h, fun j hj => by cases hj; exact hk⟩, fun b h => ?_⟩
      obtain ⟨h1, h2⟩ := hl b h
      exact ⟨h2, fun j hj => by rw [h1] at hj; cases hj; exact hk⟩
    · rw [if_neg hk]
      obtain ⟨i1, i2⟩ := ih (some k) hc.2 (fun b hb => by cases hb; exact ⟨hc.1, hk⟩)
      exact ⟨fun h => (by have h9 := (i1 h).1; cases h9), i2⟩
def insA (b n : Nat) : List Nat → List Nat
  | [] => []
  | k :: ks => if k = b then k :: n :: ks else k :: insA b n ks
def insOrd (n : Nat) (ord : List Nat) : Option Nat → List Nat
  | none => n :: ord
  | some b => insA b n ord
theorem insA_mem {b n x : Nat} : ∀ {ord : List Nat}, b ∈ ord → (x ∈ insA b n ord ↔ x = n ∨ x ∈ ord) := by
  intro ord
  induction ord with
  | nil => intro h; cases h
  | cons k ks ih =>
    intro h
    simp only [insA]
    by_cases hk : k = b
    · rw [if_pos hk]
      simp only [List.mem_cons]
      constructor
      · rintro (h1 | h1 | h1)
        · exact Or.inr (Or.inl h1)
        · exact Or.inl h1
        · exact Or.inr (Or.inr h1)
      · rintro (h1 | h1 | h1)
        · exact Or.inr (Or.inl h1)
        · exact Or.inl h1
        · exact Or.inr (Or.inr h1)
    · rw [if_neg hk]
      rcases List.mem_cons.mp h with h1 | h1
      · exact absurd h1.symm hk
      · simp only [List.mem_cons]
        rw [ih h1]
        constructor
        · rintro (h2 | h2 | h2)
          · exact Or.inr (Or.inl h2)
          · exact Or.inl h2
          · exact Or.inr (Or.inr h2)
        · rintro (h2 | h2 | h2)
          · exact Or.inr (Or.inl h2)
          · exact Or.inl h2
          · exact Or.inr (Or.inr h2)
theorem insA_head {b n : Nat} (ord : List Nat) : (insA b n ord).head? = ord.head? := by
  cases ord with
  | nil => rfl
  | cons k ks => simp only [insA]; split <;> rfl
theorem chain_lt {n : Nat} {cst : Nat → Int32} : ∀ {ks : List Nat} {k : Nat}, chn (fun k => nxF n cst (some k)) (k :: ks) → ∀ j ∈ ks, kl cst k j := by
  intro ks
  induction ks with
  | nil => intro k _ j hj; cases hj
  | cons a ks ih =>
    intro k hc j hj
    have h1 : nxF n cst (some k) = some a := hc.1
    have h2 : kl cst k a := by
      rcases nx_spec n cst (some k) with ⟨e, -⟩ | ⟨g, e, -, g2, -⟩
      · rw [e] at h1; cases h1
      · rw [e] at h1; cases h1; exact g2
    rcases List.mem_cons.mp hj with h3 | h3
    · rw [h3]; exact h2
    · have h4 := ih hc.2 j h3
      unfold kl at h2 h4 ⊢
      omega
theorem chn_other {nx nx' : Nat → Option Nat} : ∀ {ord : List Nat}, (∀ k ∈ ord, nx' k = nx k) → chn nx ord → chn nx' ord := by
  intro ord h hc
  exact chn_congr (fun k hk => (h k hk).symm) hc
theorem chn_insA {n m b : Nat} {cst : Nat → Int32} {nx nx' : Nat → Option Nat} (hb' : nx' b = some n) (hn' : nx' n = nx b) (ho : ∀ k, k ≠ b → k ≠ n → nx' k = nx k) : ∀ {ord : List Nat}, chn nx ord → chn (fun k => nxF m cst (some k)) ord → n ∉ ord → chn nx' (insA b n ord) := by
  intro ord
  induction ord with
  | nil => intro _ _ _; trivial
  | cons k ks ih =>
    intro h1 h2 h3
    simp only [insA]
    have hkn : k ≠ n := fun h => h3 (by rw [h]; exact List.mem_cons_self)
    have hks : n ∉ ks := fun h => h3 (List.mem_cons_of_mem _ h)
    by_cases hk : k = b
    · rw [if_pos hk]
      subst hk
      refine ⟨hb', hn'.trans h1.1, chn_other (fun j hj => ho j (fun e => ?_) (fun e => ?_)) h1.2⟩
      · have := chain_lt h2 j hj
        rw [e] at this
        unfold kl at this
        omega
      · rw [e] at hj; exact hks hj
    · rw [if_neg hk]
      refine ⟨?_, ih h1.2 h2.2 hks⟩
      rw [ho k hk hkn, insA_head]
      exact h1.1
theorem in_bd {v a b : Int32} (h : ¬ pWithin v a b = 0) : a.toInt ≤ v.toInt ∧ v.toInt ≤ b.toInt := by
  unfold pWithin at h
  split at h
  · exact absurd rfl h
  · split at h
    · exact absurd rfl h
    · rename_i h1 h2
      rw [i_lt] at h1 h2
      omega
theorem boiler_bd {S P c9 : Int32} {n : Nat} (hn : n ≤ 4) (h : cdBoiler S P c9 (nI n) = 0) : ((1 ≤ S.toInt ∧ S.toInt ≤ 5) ∧ 1 ≤ P.toInt ∧ P.toInt ≤ 100) ∧ n < 4 := by
  unfold cdBoiler at h
  split at h
  · exact absurd h (by decide)
  · split at h
    · exact absurd h (by decide)
    · split at h
      · exact absurd h (by decide)
      · split at h
        · rename_i h1 h2 h3 h4
          have a1 := in_bd h1
          have a2 := in_bd h2
          rw [show (4 : Int32) = nI 4 from rfl, nI_ltI (by omega) (by omega)] at h4
          exact ⟨⟨a1, a2⟩, h4⟩
        · exact absurd h (by decide)
theorem mp_congr {stp pow stp' pow' : Nat → Int32} : ∀ n, (∀ k, k < n → stp' k = stp k ∧ pow' k = pow k) → mpFun stp' pow' n = mpFun stp pow n := by
  intro n
  induction n with
  | zero => intro _; rfl
  | succ n ih =>
    intro h
    show mpFun stp' pow' n + stp' n * pow' n = mpFun stp pow n + stp n * pow n
    rw [ih (fun k hk => h k (by omega)), (h n (by omega)).1, (h n (by omega)).2]
theorem up_z {f : Nat → Int32} {n : Nat} (h : f n = 0) : va_up f n 0 = f := by
  funext j
  simp only [va_up]
  split
  · rename_i e; rw [e, h]
  · rfl
/-- a boiler more -/
theorem B_add {n : Nat} {stp pow cst frd : Nat → Int32} {nx : Nat → Option Nat} {ord : List Nat} {ap S P c9 : Int32} (hB : BInv n stp pow cst frd nx ord ap) (hc : cdBoiler S P c9 (nI n) = 0) :
    BInv (n + 1) (va_up stp n S) (va_up pow n P) (va_up cst n c9) frd (addNx nx n ord.head? (lfb cst c9 none ord)) (insOrd n ord (lfb cst c9 none ord)) (ap + S * P) ∧ addFst n ord.head? (lfb cst c9 none ord) = (insOrd n ord (lfb cst c9 none ord)).head? ∧ va_up frd n 0 = frd := by
  obtain ⟨b1, b2, b3, b4, b5, b6, b7, b8, b9⟩ := hB
  obtain ⟨c1, c2⟩ := boiler_bd b1 hc
  obtain ⟨cst', hcst⟩ : ∃ f, f = va_up cst n c9 := ⟨_, rfl⟩
  rw [← hcst]
  have hcn : cst' n = c9 := by rw [hcst, va_up_self]
  have hco : ∀ k, k < n → cst' k = cst k := fun k hk => by rw [hcst, va_up_ne _ _ (by omega)]
  have hkl : ∀ g b, g < n → b < n → (kl cst' g b ↔ kl cst g b) := fun g b h1 h2 => by unfold kl; rw [hco g h1, hco b h2]
  have hkn : ∀ g, g < n → (kl cst' g n ↔ (cst g).toInt ≤ c9.toInt) := fun g h1 => by unfold kl; rw [hco g h1, hcn]; omega
  have hnk : ∀ b, b < n → (kl cst' n b ↔ c9.toInt < (cst b).toInt) := fun b h1 => by unfold kl; rw [hco b h1, hcn]; omega
  have hnn : ¬ kl cst' n n := by unfold kl; omega
  have hch2 : chn (fun k => nxF n cst (some k)) ord := chn_congr (fun k hk => b8 k (b5 k hk)) b4
  have hno : n ∉ ord := fun h => by have := b5 n h; omega
  have hfz : va_up frd n 0 = frd := up_z (b9 n (Nat.le_refl _))
  have hstp : ∀ k, k < n + 1 → (1 ≤ (va_up stp n S k).toInt ∧ (va_up stp n S k).toInt ≤ 5) ∧ 1 ≤ (va_up pow n P k).toInt ∧ (va_up pow n P k).toInt ≤ 100 := fun k hk => by
    by_cases h : k = n
    · subst h; rw [va_up_self, va_up_self]; exact c1
    · rw [va_up_ne _ _ h, va_up_ne _ _ h]; exact b2 k (by omega)
  have hap : ap + S * P = mpFun (va_up stp n S) (va_up pow n P) (n + 1) := by
    show _ = mpFun (va_up stp n S) (va_up pow n P) n + va_up stp n S n * va_up pow n P n
    rw [va_up_self, va_up_self, mp_congr (stp := stp) (pow := pow) n (fun k hk => ⟨va_up_ne _ _ (by omega), va_up_ne _ _ (by omega)⟩), b3]
  obtain ⟨l1, l2⟩ := lfb_spec (nx := nx) (cst := cst) (c9 := c9) ord none b4 (fun b hb => by cases hb)
  cases hl : lfb cst c9 none ord with
  | none =>
    have hhd := (l1 hl).2
    -- all others are behind the new one
    have hall : ∀ b, b < n → c9.toInt < (cst b).toInt := fun b hb => by
      rcases nx_spec n cst none with ⟨e, h⟩ | ⟨g, e, g1, -, h⟩
      · exact absurd trivial (h b hb)
      · have h1 := hhd g (b7.symm.trans e)
        rw [i_lt] at h1
        rcases h b hb trivial with h2 | h2
        · rw [h2]; exact h1
        · unfold kl at h2; omega
    have e0 : nxF (n + 1) cst' none = some n := nx_some (by omega) trivial (fun b hb _ => by
      by_cases h : b = n
      · exact Or.inl h
      · exact Or.inr ((hnk b (by omega)).mpr (hall b (by omega))))
    have en : nxF (n + 1) cst' (some n) = nxF n cst none := nx_same (fun b hb _ => ⟨by omega, (hnk b hb).mpr (hall b hb)⟩) (fun b hb h => by
      have hb2 : b < n := by
        by_cases h2 : b = n
        · rw [h2] at h; exact absurd h hnn
        · omega
      exact ⟨hb2, trivial⟩) (fun g b h1 h2 h3 => (hkl g b h1 h2).mpr h3)
    have ek : ∀ k, k < n → nxF (n + 1) cst' (some k) = nxF n cst (some k) := fun k hk => nx_same (fun b hb h => ⟨by omega, (hkl k b hk hb).mpr h⟩) (fun b hb h => by
      have hb2 : b < n := by
        by_cases h2 : b = n
        · rw [h2] at h
          have := (hkn k hk).mp h
          have := hall k hk
          omega
        · omega
      exact ⟨hb2, (hkl k b hk hb2).mp h⟩) (fun g b h1 h2 h3 => (hkl g b h1 h2).mpr h3)
    have hnxk : ∀ k, k < n → addNx nx n ord.head? none k = nx k := fun k hk => va_up_ne _ _ (by omega)
    have hnxn : addNx nx n ord.head? none n = ord.head? := va_up_self _ _ _
    refine ⟨⟨by omega, hstp, hap, ⟨hnxn, chn_other (fun k hk => hnxk k (b5 k hk)) b4⟩, fun k hk => ?_, fun k hk => ?_, e0, fun k hk => ?_, fun k hk => b9 k (by omega)⟩, rfl, hfz⟩
    · rcases List.mem_cons.mp hk with h | h
      · omega
      · have := b5 k h; omega
    · by_cases h : k = n
      · rw [h]; exact List.mem_cons_self
      · exact List.mem_cons_of_mem _ (b6 k (by omega))
    · by_cases h : k = n
      · rw [h, hnxn, en, b7]
      · rw [hnxk k (by omega), ek k (by omega), b8 k (by omega)]
  | some b =>
    obtain ⟨p1, p2⟩ := l2 b hl
    rw [i_lt] at p1
    have hbo : b ∈ ord := by
      rcases lfb_mem hl with h | h
      · cases h
      · exact h
    have hbn := b5 b hbo
    have hnb := b8 b hbn
    -- what is behind b costs more than the new one
    have hbeh : ∀ j, j < n → kl cst b j → c9.toInt < (cst j).toInt := fun j hj h => by
      rcases nx_spec n cst (some b) with ⟨e, h2⟩ | ⟨g, e, g1, g2, h2⟩
      · exact absurd h (h2 j hj)
      · have h3 := p2 g (hnb.trans e)
        rw [i_lt] at h3
        rcases h2 j hj h with h4 | h4
        · rw [h4]; exact h3
        · unfold kl at h4; omega
    have e0 : nxF (n + 1) cst' none = nxF n cst none := by
      rcases nx_spec n cst none with ⟨e, h⟩ | ⟨g, e, g1, -, h⟩
      · exact absurd trivial (h b hbn)
      · rw [e]
        refine nx_some (by omega) trivial (fun j hj _ => ?_)
        by_cases h2 : j = n
        · rw [h2]
          refine Or.inr ((hkn g g1).mpr ?_)
          rcases h b hbn trivial with h3 | h3
          · rw [← h3]; omega
          · unfold kl at h3; omega
        · rcases h j (by omega) trivial with h3 | h3
          · exact Or.inl h3
          · exact Or.inr ((hkl g j g1 (by omega)).mpr h3)
    have eb : nxF (n + 1) cst' (some b) = some n := nx_some (by omega) ((hkn b hbn).mpr (by omega)) (fun j hj h => by
      by_cases h2 : j = n
      · exact Or.inl h2
      · exact Or.inr ((hnk j (by omega)).mpr (hbeh j (by omega) ((hkl b j hbn (by omega)).mp h))))
    have en : nxF (n + 1) cst' (some n) = nxF n cst (some b) := nx_same (fun j hj h => ⟨by omega, (hnk j hj).mpr (hbeh j hj h)⟩) (fun j hj h => by
      have hj2 : j < n := by
        by_cases h2 : j = n
        · rw [h2] at h; exact absurd h hnn
        · omega
      have h3 := (hnk j hj2).mp h
      exact ⟨hj2, by show kl cst b j; unfold kl; omega⟩) (fun g j h1 h2 h3 => (hkl g j h1 h2).mpr h3)
    have ek : ∀ k, k < n → k ≠ b → nxF (n + 1) cst' (some k) = nxF n cst (some k) := fun k hk hkb => by
      by_cases hcl : (cst k).toInt ≤ c9.toInt
      · have hkb2 : kl cst k b := by
          have h1 : ¬ kl cst b k := fun h => by have := hbeh k hk h; omega
          unfold kl at h1 ⊢
          omega
        rcases nx_spec n cst (some k) with ⟨e, h⟩ | ⟨g, e, g1, g2, h⟩
        · exact absurd hkb2 (h b hbn)
        · rw [e]
          refine nx_some (by omega) ((hkl k g hk g1).mpr g2) (fun j hj h2 => ?_)
          by_cases h3 : j = n
          · rw [h3]
            refine Or.inr ((hkn g g1).mpr ?_)
            rcases h b hbn hkb2 with h4 | h4
            · rw [← h4]; omega
            · unfold kl at h4; omega
          · rcases h j (by omega) ((hkl k j hk (by omega)).mp h2) with h4 | h4
            · exact Or.inl h4
            · exact Or.inr ((hkl g j g1 (by omega)).mpr h4)
      · refine nx_same (fun j hj h => ⟨by omega, (hkl k j hk hj).mpr h⟩) (fun j hj h => ?_) (fun g j h1 h2 h3 => (hkl g j h1 h2).mpr h3)
        have hj2 : j < n := by
          by_cases h2 : j = n
          · rw [h2] at h; exact absurd ((hkn k hk).mp h) hcl
          · omega
        exact ⟨hj2, (hkl k j hk hj2).mp h⟩
    have hxb : addNx nx n ord.head? (some b) b = some n := va_up_self _ _ _
    have hxn : addNx nx n ord.head? (some b) n = nx b := by
      show va_up (va_up nx n (nx b)) b (some n) n = nx b
      rw [va_up_ne _ _ (by omega), va_up_self]
    have hxo : ∀ k, k ≠ b → k ≠ n → addNx nx n ord.head? (some b) k = nx k := fun k h1 h2 => by
      show va_up (va_up nx n (nx b)) b (some n) k = nx k
      rw [va_up_ne _ _ h1, va_up_ne _ _ h2]
    refine ⟨⟨by omega, hstp, hap, chn_insA hxb hxn hxo b4 hch2 hno, fun k hk => ?_, fun k hk => ?_, ?_, fun k hk => ?_, fun k hk => b9 k (by omega)⟩, ?_, hfz⟩
    · rcases (insA_mem hbo).mp hk with h | h
      · omega
      · have := b5 k h; omega
    · refine (insA_mem hbo).mpr ?_
      by_cases h : k = n
      · exact Or.inl h
      · exact Or.inr (b6 k (by omega))
    · rw [e0, b7]; exact (insA_head ord).symm
    · by_cases h : k = n
      · rw [h, hxn, en, hnb]
      · by_cases h2 : k = b
        · rw [h2, hxb, eb]
        · rw [hxo k h2 h, ek k (by omega) h2, b8 k (by omega)]
    · exact (insA_head ord).symm
