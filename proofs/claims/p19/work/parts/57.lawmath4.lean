/-! boilers: the class's firing against the law's sums over those ahead -/
def lsum (f : Nat → Int32) : List Nat → Int32
  | [] => 0
  | k :: ks => f k + lsum f ks
theorem lsum_app (f : Nat → Int32) : ∀ a b, lsum f (a ++ b) = lsum f a + lsum f b := by
  intro a b
  induction a with
  | nil => show lsum f b = 0 + lsum f b; rw [Int32.zero_add]
  | cons k ks ih => show f k + lsum f (ks ++ b) = f k + lsum f ks + lsum f b; rw [ih, Int32.add_assoc]
theorem lsum_congr {f g : Nat → Int32} : ∀ {l : List Nat}, (∀ k ∈ l, f k = g k) → lsum f l = lsum g l := by
  intro l
  induction l with
  | nil => intro _; rfl
  | cons k ks ih => intro h; show f k + _ = g k + _; rw [h k List.mem_cons_self, ih (fun j hj => h j (List.mem_cons_of_mem _ hj))]
theorem lsum_zero {f : Nat → Int32} : ∀ {l : List Nat}, (∀ k ∈ l, f k = 0) → lsum f l = 0 := by
  intro l
  induction l with
  | nil => intro _; rfl
  | cons k ks ih => intro h; show f k + _ = 0; rw [h k List.mem_cons_self, ih (fun j hj => h j (List.mem_cons_of_mem _ hj))]; rfl
theorem lsum_perm {f : Nat → Int32} {a b : List Nat} (h : a.Perm b) : lsum f a = lsum f b := by
  induction h with
  | nil => rfl
  | cons x _ ih => show f x + _ = f x + _; rw [ih]
  | swap x y l => show f y + (f x + lsum f l) = f x + (f y + lsum f l); ac_rfl
  | trans _ _ ih1 ih2 => rw [ih1, ih2]
theorem lsum_rng (f : Nat → Int32) : ∀ n (l : List Nat), l.Nodup → (∀ a, a ∈ l ↔ a < n) → itr (fun o s => s + f o) 0 n = lsum f l := by
  intro n
  induction n with
  | zero =>
    intro l _ h
    cases l with
    | nil => rfl
    | cons k ks => exact absurd ((h k).mp List.mem_cons_self) (Nat.not_lt_zero _)
  | succ n ih =>
    intro l hd h
    have hn : n ∈ l := (h n).mpr (Nat.lt_succ_self _)
    rw [itr_s, lsum_perm (List.perm_cons_erase hn)]
    show _ + f n = f n + lsum f (l.erase n)
    rw [ih (l.erase n) (hd.erase n) (fun a => by
      rw [hd.mem_erase_iff, h a]
      omega), Int32.add_comm]
theorem kl_not {cst : Nat → Int32} {a b : Nat} (h : kl cst a b) : ¬ kl cst b a := by
  unfold kl at h ⊢
  omega
theorem ord_nd {n : Nat} {cst : Nat → Int32} : ∀ {l : List Nat}, chn (fun k => nxF n cst (some k)) l → l.Nodup := by
  intro l
  induction l with
  | nil => intro _; exact List.nodup_nil
  | cons k ks ih =>
    intro h
    refine List.nodup_cons.mpr ⟨fun hk => ?_, ih h.2⟩
    have := chain_lt h k hk
    exact kl_not this this
theorem isA_kl {cst : Nat → Int32} {k o : Nat} (hk : k < 4) (ho : o < 4) : isA cst k o = 0 ↔ ¬ kl cst o k := by
  unfold isA kl
  by_cases h1 : cst o < cst k
  · rw [if_pos h1]
    rw [i_lt] at h1
    exact ⟨fun h => absurd h (by decide), fun h => absurd (Or.inl h1) h⟩
  · rw [if_neg h1]
    rw [i_lt] at h1
    by_cases h2 : cst o = cst k
    · rw [if_pos h2]
      rw [i_eq] at h2
      by_cases h3 : nI k ≤ nI o
      · rw [if_pos h3]
        rw [i_le, nI_toInt (by omega), nI_toInt (by omega)] at h3
        exact ⟨fun _ => by omega, fun _ => rfl⟩
      · rw [if_neg h3]
        rw [i_le, nI_toInt (by omega), nI_toInt (by omega)] at h3
        exact ⟨fun h => absurd h (by decide), fun h => absurd (Or.inr ⟨h2, by omega⟩) h⟩
    · rw [if_neg h2]
      rw [i_eq] at h2
      exact ⟨fun _ => by omega, fun _ => rfl⟩
/-- one boiler's steps -/
theorem pFire_ok {s p l : Int32} (hs : 1 ≤ s.toInt ∧ s.toInt ≤ 5) (hp : 1 ≤ p.toInt ∧ p.toInt ≤ 100) (hl : 0 ≤ l.toInt ∧ l.toInt ≤ 1000000) :
    (¬ pFire s p l < 0 ∧ ¬ s < pFire s p l ∧ (pFire s p l = s ∨ ¬ pFire s p l * p < l) ∧ (pFire s p l = 0 ∨ ¬ l ≤ (pFire s p l - 1) * p)) ∧ pUsed s p l = (if s * p ≤ l then s * p else l) ∧ (0 ≤ (s * p).toInt ∧ (s * p).toInt ≤ 500) := by
  obtain ⟨S, hS, rfl⟩ := nI_of (x := s) (by rw [i_lt, i_0]; omega)
  obtain ⟨P, hP, rfl⟩ := nI_of (x := p) (by rw [i_lt, i_0]; omega)
  obtain ⟨N, hN, rfl⟩ := nI_of (x := l) (by rw [i_lt, i_0]; omega)
  rw [nI_toInt hS] at hs
  rw [nI_toInt hP] at hp
  rw [nI_toInt hN] at hl
  have e1 : pFire (nI S) (nI P) (nI N) = nI (min S ((N + P - 1) / P)) := fire_pf (by omega) (by omega) (by omega) (by omega) 6 0 (Nat.zero_le _) (Nat.lt_of_le_of_lt (Nat.min_le_left _ _) (by omega))
  obtain ⟨q, hq⟩ : ∃ q, q = (N + P - 1) / P := ⟨_, rfl⟩
  have h1 : q * P ≤ N + P - 1 := by rw [hq]; exact Nat.div_mul_le_self _ _
  have h2 : N + P - 1 < q * P + P := by
    have := Nat.lt_mul_div_succ (N + P - 1) (show 0 < P by omega)
    rw [← hq, Nat.mul_add, Nat.mul_one, Nat.mul_comm] at this
    exact this
  rw [← hq] at e1
  have hSP : S * P ≤ 5 * 100 := Nat.mul_le_mul (by omega) (by omega)
  obtain ⟨r, hr⟩ : ∃ r, r = min S q := ⟨_, rfl⟩
  rw [← hr] at e1
  have hrS : r ≤ S := by omega
  have hrP : r * P ≤ S * P := Nat.mul_le_mul hrS (Nat.le_refl _)
  have hrq : r * P ≤ q * P := Nat.mul_le_mul (by omega) (Nat.le_refl _)
  have hor : r = S ∨ N ≤ r * P := by
    by_cases h : S ≤ q
    · left; omega
    · right
      have : r = q := by omega
      rw [this]; omega
  have hpos : r = 0 ∨ (r - 1) * P < N := by
    by_cases h : r = 0
    · exact Or.inl h
    · right
      obtain ⟨r', hr'⟩ : ∃ r', r = r' + 1 := ⟨r - 1, by omega⟩
      rw [hr', Nat.add_mul, Nat.one_mul] at hrq
      rw [hr', Nat.add_sub_cancel]
      omega
  have hr1 : (r - 1) * P ≤ S * P := Nat.mul_le_mul (by omega) (Nat.le_refl _)
  have eSP : nI S * nI P = nI (S * P) := nI_mul (by omega) (by omega) (by omega)
  have erP : nI r * nI P = nI (r * P) := nI_mul (by omega) (by omega) (by omega)
  rw [e1]
  refine ⟨⟨?_, ?_, ?_, ?_⟩, ?_, ?_⟩
  · rw [i_lt, i_0, nI_toInt (by omega)]; omega
  · rw [i_lt, nI_toInt (by omega), nI_toInt (by omega)]; omega
  · rcases hor with h | h
    · exact Or.inl (by rw [h])
    · exact Or.inr (by rw [erP, i_lt, nI_toInt (by omega), nI_toInt (by omega)]; omega)
  · rcases hpos with h | h
    · exact Or.inl (by rw [h]; rfl)
    · by_cases h0 : r = 0
      · exact Or.inl (by rw [h0]; rfl)
      · right
        rw [show (1 : Int32) = nI 1 from rfl, nI_sub (by omega) (by omega), nI_mul (by omega) (by omega) (by omega), i_le, nI_toInt (by omega), nI_toInt (by omega)]
        omega
  · unfold pUsed
    rw [e1, eSP, erP, i_eq, i_min, nI_toInt (by omega), nI_toInt (by omega)]
    by_cases h : nI (S * P) ≤ nI N
    · rw [if_pos h, nI_toInt (by omega)]
      rw [i_le, nI_toInt (by omega), nI_toInt (by omega)] at h
      rcases hor with h9 | h9
      · rw [h9]; omega
      · omega
    · rw [if_neg h, nI_toInt (by omega)]
      rw [i_le, nI_toInt (by omega), nI_toInt (by omega)] at h
      rcases hor with h9 | h9
      · rw [h9]; omega
      · omega
  · rw [eSP, nI_toInt (by omega)]; omega
theorem lft_bd {w a : Int32} (hw : 0 ≤ w.toInt ∧ w.toInt ≤ 100000) (ha : 0 ≤ a.toInt ∧ a.toInt ≤ 100000) : (lft w a).toInt = max 0 (w.toInt - a.toInt) := by
  unfold lft
  by_cases h : w ≤ a
  · rw [if_pos h, i_0]; rw [i_le] at h; omega
  · rw [if_neg h, i_sub (by omega) (by omega)]; rw [i_le] at h; omega
section FI
variable {n : Nat} {stp pow cst : Nat → Int32}
theorem lsum_bd (hb : ∀ k, k < n → (1 ≤ (stp k).toInt ∧ (stp k).toInt ≤ 5) ∧ 1 ≤ (pow k).toInt ∧ (pow k).toInt ≤ 100) : ∀ {l : List Nat}, (∀ k ∈ l, k < n) → l.length ≤ 100 → 0 ≤ (lsum (fun o => stp o * pow o) l).toInt ∧ (lsum (fun o => stp o * pow o) l).toInt ≤ 500 * l.length := by
  intro l
  induction l with
  | nil => intro _ _; exact ⟨by show 0 ≤ (0 : Int32).toInt; rw [i_0]; omega, by show (0 : Int32).toInt ≤ _; rw [i_0]; omega⟩
  | cons k ks ih =>
    intro h hl
    rw [List.length_cons] at hl ⊢
    obtain ⟨q1, q2⟩ := ih (fun j hj => h j (List.mem_cons_of_mem _ hj)) (by omega)
    obtain ⟨b1, b2⟩ := hb k (h k List.mem_cons_self)
    obtain ⟨-, -, b3, b4⟩ := pFire_ok (l := 0) b1 b2 (by rw [i_0]; omega)
    show 0 ≤ (stp k * pow k + lsum (fun o => stp o * pow o) ks).toInt ∧ (stp k * pow k + lsum (fun o => stp o * pow o) ks).toInt ≤ _
    rw [i_add (by omega) (by omega)]
    omega
theorem fire_run (hn : n ≤ 4) (hb : ∀ k, k < n → (1 ≤ (stp k).toInt ∧ (stp k).toInt ≤ 5) ∧ 1 ≤ (pow k).toInt ∧ (pow k).toInt ≤ 100) {ord : List Nat} (hc : chn (fun k => nxF n cst (some k)) ord) (hm : ∀ k, k ∈ ord ↔ k < n) {w : Int32} (hw : 0 ≤ w.toInt ∧ w.toInt ≤ 100000) :
    ∀ (post pre : List Nat) (s : Int32) (f : Nat → Int32), ord = pre ++ post → chn (fun k => nxF n cst (some k)) post → (∀ o ∈ pre, ∀ k ∈ post, kl cst o k) → pre.length + post.length ≤ 100 →
      (∀ k ∈ post, (fireL stp pow cst post (lft w (lsum (fun o => stp o * pow o) pre)) s f).2 k = pFire (stp k) (pow k) (lft w (ahd stp pow cst k n))) ∧ (∀ k, k ∉ post → (fireL stp pow cst post (lft w (lsum (fun o => stp o * pow o) pre)) s f).2 k = f k) ∧
      (fireL stp pow cst post (lft w (lsum (fun o => stp o * pow o) pre)) s f).1 = s + lsum (fun k => (if stp k * pow k ≤ lft w (ahd stp pow cst k n) then stp k * pow k else lft w (ahd stp pow cst k n)) * cst k) post := by
  intro post
  induction post with
  | nil =>
    intro pre s f _ _ _ _
    exact ⟨fun k hk => absurd hk List.not_mem_nil, fun k _ => rfl, (show s = s + 0 by rw [Int32.add_zero])⟩
  | cons k ks ih =>
    intro pre s f ho hch hkl hlen
    rw [List.length_cons] at hlen
    have hkn : k < n := (hm k).mp (by rw [ho]; exact List.mem_append_right _ List.mem_cons_self)
    have hpre : ∀ o ∈ pre, o < n := fun o h => (hm o).mp (by rw [ho]; exact List.mem_append_left _ h)
    have hks : ∀ o ∈ ks, o < n := fun o h => (hm o).mp (by rw [ho]; exact List.mem_append_right _ (List.mem_cons_of_mem _ h))
    have hlt := chain_lt hch
    have eA : ahd stp pow cst k n = lsum (fun o => stp o * pow o) pre := by
      unfold ahd
      rw [lsum_rng (fun o => if isA cst k o = 0 then 0 else stp o * pow o) n ord (ord_nd hc) hm, ho, lsum_app]
      have z1 : lsum (fun o => if isA cst k o = 0 then 0 else stp o * pow o) pre = lsum (fun o => stp o * pow o) pre := lsum_congr (fun o h => if_neg (fun h9 => (isA_kl (by omega) (by have := hpre o h; omega)).mp h9 (hkl o h k List.mem_cons_self)))
      have z2 : lsum (fun o => if isA cst k o = 0 then 0 else stp o * pow o) (k :: ks) = 0 := lsum_zero (fun o h => if_pos ((isA_kl (by omega) (by
        rcases List.mem_cons.mp h with h9 | h9
        · omega
        · have := hks o h9; omega)).mpr (by
        rcases List.mem_cons.mp h with h9 | h9
        · rw [h9]; intro h8; exact kl_not h8 h8
        · exact kl_not (hlt o h9))))
      rw [z1, z2, Int32.add_zero]
    obtain ⟨b1, b2⟩ := hb k hkn
    have hM := lsum_bd hb hpre (by omega)
    have hl := lft_bd hw (a := lsum (fun o => stp o * pow o) pre) ⟨hM.1, by omega⟩
    obtain ⟨-, u1, u2, u3⟩ := pFire_ok (l := lft w (lsum (fun o => stp o * pow o) pre)) b1 b2 (by omega)
    have hM2 : (lsum (fun o => stp o * pow o) (pre ++ [k])).toInt = (lsum (fun o => stp o * pow o) pre).toInt + (stp k * pow k).toInt := by
      rw [lsum_app]
      show (_ + (stp k * pow k + 0)).toInt = _
      rw [Int32.add_zero, i_add (by omega) (by omega)]
    have hl2 := lft_bd hw (a := lsum (fun o => stp o * pow o) (pre ++ [k])) (by omega)
    have eL : lft w (lsum (fun o => stp o * pow o) pre) - pUsed (stp k) (pow k) (lft w (lsum (fun o => stp o * pow o) pre)) = lft w (lsum (fun o => stp o * pow o) (pre ++ [k])) := by
      rw [u1, i_eq, hl2, hM2]
      by_cases h : stp k * pow k ≤ lft w (lsum (fun o => stp o * pow o) pre)
      · rw [if_pos h]
        rw [i_le] at h
        rw [i_sub (by omega) (by omega), hl]
        omega
      · rw [if_neg h]
        rw [i_le] at h
        rw [i_sub (by omega) (by omega), hl]
        omega
    have hknk : k ∉ ks := fun h => by have := hlt k h; exact kl_not this this
    obtain ⟨r1, r2, r3⟩ := ih (pre ++ [k]) (s + pUsed (stp k) (pow k) (lft w (lsum (fun o => stp o * pow o) pre)) * cst k) (va_up f k (pFire (stp k) (pow k) (lft w (lsum (fun o => stp o * pow o) pre)))) (by rw [ho, List.append_assoc]; rfl) hch.2 (fun o h j hj => by
      rcases List.mem_append.mp h with h9 | h9
      · exact hkl o h9 j (List.mem_cons_of_mem _ hj)
      · rw [List.mem_singleton.mp h9]; exact hlt j hj) (by rw [List.length_append]; show pre.length + 1 + ks.length ≤ 100; omega)
    have eF : fireL stp pow cst (k :: ks) (lft w (lsum (fun o => stp o * pow o) pre)) s f = fireL stp pow cst ks (lft w (lsum (fun o => stp o * pow o) (pre ++ [k]))) (s + pUsed (stp k) (pow k) (lft w (lsum (fun o => stp o * pow o) pre)) * cst k) (va_up f k (pFire (stp k) (pow k) (lft w (lsum (fun o => stp o * pow o) pre)))) := by
      rw [← eL]; rfl
    rw [eF]
    refine ⟨fun j hj => ?_, fun j hj => ?_, ?_⟩
    · by_cases hjk : j ∈ ks
      · exact r1 j hjk
      · rcases List.mem_cons.mp hj with h9 | h9
        · rw [r2 j hjk, h9, eA]
          exact if_pos rfl
        · exact absurd h9 hjk
    · rw [r2 j (fun h => hj (List.mem_cons_of_mem _ h))]
      exact if_neg (fun h => hj (by rw [h]; exact List.mem_cons_self))
    · rw [r3]
      show _ = s + ((if stp k * pow k ≤ lft w (ahd stp pow cst k n) then stp k * pow k else lft w (ahd stp pow cst k n)) * cst k + _)
      rw [eA, ← u1, Int32.add_assoc]
end FI
theorem find_ok {n : Nat} {stp pow cst frd : Nat → Int32} {nx : Nat → Option Nat} {ord : List Nat} {ap : Int32} (hB : BInv n stp pow cst frd nx ord ap) : ∀ k, k < n → findL (nI k) ord = some k := fun k hk => by
  obtain ⟨b1, -, -, -, b5, b6, -⟩ := hB
  obtain ⟨f1, f2⟩ := findL_iff (x := nI k) (m := n) b1 b5
  rcases h : findL (nI k) ord with _ | z
  · exact absurd rfl (f2 h k (b6 k hk))
  · obtain ⟨q1, q2⟩ := f1 z h
    rw [(nI_eq (by omega) (by omega)).mp q1]
theorem fired_ok {n : Nat} {stp pow cst frd : Nat → Int32} {nx : Nat → Option Nat} {ord : List Nat} {ap sp w w2 : Int32} (hB : BInv n stp pow cst frd nx ord ap) (hw : 0 ≤ w2.toInt ∧ w2.toInt ≤ 100000) (he : w = w2) :
    (∀ k, k < n → ¬ (fireL stp pow cst ord w sp frd).2 k < 0 ∧ ¬ stp k < (fireL stp pow cst ord w sp frd).2 k ∧ ((fireL stp pow cst ord w sp frd).2 k = stp k ∨ ¬ (fireL stp pow cst ord w sp frd).2 k * pow k < lft w2 (ahd stp pow cst k n)) ∧ ((fireL stp pow cst ord w sp frd).2 k = 0 ∨ ¬ lft w2 (ahd stp pow cst k n) ≤ ((fireL stp pow cst ord w sp frd).2 k - 1) * pow k)) ∧
    (fireL stp pow cst ord w sp frd).1 = sp + gvn stp pow cst w2 n n ∧ (∀ k, n ≤ k → (fireL stp pow cst ord w sp frd).2 k = 0) ∧ (∀ k, k < n → ¬ (fireL stp pow cst ord w sp frd).2 k < 0) := by
  subst he
  obtain ⟨b1, b2, -, b4, b5, b6, -, b8, b9⟩ := hB
  have hc : chn (fun k => nxF n cst (some k)) ord := chn_congr (fun k hk => b8 k (b5 k hk)) b4
  have hm : ∀ k, k ∈ ord ↔ k < n := fun k => ⟨b5 k, b6 k⟩
  have hnd := ord_nd hc
  have hln : ord.length ≤ 100 := by
    have hp : ord.length ≤ (List.range n).length := hnd.length_le_of_subset (fun a h => List.mem_range.mpr (b5 a h))
    rw [List.length_range] at hp
    omega
  obtain ⟨r1, r2, r3⟩ := fire_run b1 b2 hc hm hw ord [] sp frd rfl hc (fun o h => by cases h) (by show 0 + ord.length ≤ 100; omega)
  have e0 : lft w (lsum (fun o => stp o * pow o) []) = w := by
    show lft w 0 = w
    unfold lft
    by_cases h : w ≤ 0
    · rw [if_pos h]; rw [i_le, i_0] at h; rw [i_eq, i_0]; omega
    · rw [if_neg h, Int32.sub_zero]
  rw [e0] at r1 r2 r3
  have hk : ∀ k, k < n → 0 ≤ (lft w (ahd stp pow cst k n)).toInt ∧ (lft w (ahd stp pow cst k n)).toInt ≤ 1000000 := fun k hk => by
    have hg : ∀ m, m ≤ n → 0 ≤ (ahd stp pow cst k m).toInt ∧ (ahd stp pow cst k m).toInt ≤ 500 * m := by
      intro m
      induction m with
      | zero => intro _; exact ⟨by show 0 ≤ (0 : Int32).toInt; rw [i_0]; omega, by show (0 : Int32).toInt ≤ _; rw [i_0]; omega⟩
      | succ m ih =>
        intro hm9
        obtain ⟨q1, q2⟩ := ih (by omega)
        obtain ⟨c1, c2⟩ := b2 m (by omega)
        obtain ⟨-, -, b3, b4⟩ := pFire_ok (l := 0) c1 c2 (by rw [i_0]; omega)
        show 0 ≤ (ahd stp pow cst k m + (if isA cst k m = 0 then 0 else stp m * pow m)).toInt ∧ (ahd stp pow cst k m + (if isA cst k m = 0 then 0 else stp m * pow m)).toInt ≤ _
        split
        · rw [Int32.add_zero]; omega
        · rw [i_add (by omega) (by omega)]; omega
    obtain ⟨g1, g2⟩ := hg n (Nat.le_refl _)
    have := lft_bd hw (a := ahd stp pow cst k n) ⟨g1, by omega⟩
    omega
  have hF : ∀ k, k < n → ¬ (fireL stp pow cst ord w sp frd).2 k < 0 ∧ ¬ stp k < (fireL stp pow cst ord w sp frd).2 k ∧ ((fireL stp pow cst ord w sp frd).2 k = stp k ∨ ¬ (fireL stp pow cst ord w sp frd).2 k * pow k < lft w (ahd stp pow cst k n)) ∧ ((fireL stp pow cst ord w sp frd).2 k = 0 ∨ ¬ lft w (ahd stp pow cst k n) ≤ ((fireL stp pow cst ord w sp frd).2 k - 1) * pow k) := fun k h => by
    rw [r1 k (b6 k h)]
    exact (pFire_ok (b2 k h).1 (b2 k h).2 (hk k h)).1
  refine ⟨hF, ?_, fun k h => ?_, fun k h => (hF k h).1⟩
  · rw [r3]
    unfold gvn
    rw [lsum_rng (fun k => (if stp k * pow k ≤ lft w (ahd stp pow cst k n) then stp k * pow k else lft w (ahd stp pow cst k n)) * cst k) n ord hnd hm]
  · rw [r2 k (fun h9 => by have := b5 k h9; omega)]
    exact b9 k h
