/-! meters: class and reference alike -/
theorem i_cancel {a b c : Int32} (h : a + b = a + c) : b = c := by
  first
  | exact (Int32.add_right_inj a).mp h
  | grind
theorem rIni_at (sv fl ac : Nat → Int32) : ∀ j, 1 ≤ j → j ≤ 11 → (itr (rIni sv) (fl, ac) 11).1 j = sv j ∧ (itr (rIni sv) (fl, ac) 11).2 j = sv j := by
  have K : ∀ n, n ≤ 11 → ∀ j, 1 ≤ j → j ≤ n → (itr (rIni sv) (fl, ac) n).1 j = sv j ∧ (itr (rIni sv) (fl, ac) n).2 j = sv j := by
    intro n
    induction n with
    | zero => intro _ j a b; omega
    | succ n ih =>
      intro hn j a b
      show upd _ (n + 1) _ j = _ ∧ upd _ (n + 1) _ j = _
      by_cases hj : j = n + 1
      · subst hj; simp [upd]
      · simp only [upd, if_neg hj]; exact ih (by omega) j a (by omega)
  exact K 11 (Nat.le_refl _)
theorem me1_at (go me : Nat → Int32) : ∀ j, 1 ≤ j → j ≤ 11 → itr (me1 go) me 11 j = go j := by
  have K : ∀ n, n ≤ 11 → ∀ j, 1 ≤ j → j ≤ n → itr (me1 go) me n j = go j := by
    intro n
    induction n with
    | zero => intro _ j a b; omega
    | succ n ih =>
      intro hn j a b
      show upd _ (n + 1) _ j = _
      by_cases hj : j = n + 1
      · subst hj; simp [upd]
      · simp only [upd, if_neg hj]; exact ih (by omega) j a (by omega)
  exact K 11 (Nat.le_refl _)
/-- what the error of the pipe o adds to the sum below j -/
def wr (C er : Nat → Int32) (o : Nat) : Int32 := if C o = 0 then 0 else er o
def gj (sr : Nat → Nat) (C er : Nat → Int32) (j o : Nat) : Int32 := if sr o = j then wr C er o else 0
section RD
variable {sr : Nat → Nat} {lo C C' er sv to su fl ac go me : Nat → Int32}
theorem rd_pCL {j : Nat} (h1 : 1 ≤ j) (h2 : j ≤ 11) : pCL C lo j = if C j = 0 then 0 else lo j := by
  simp only [pCL, pH_nI j (by omega), if_neg (show j ≠ 0 by omega)]
  rw [if_neg (by decide)]
/-- flows: the class's, the reference's; what the accounts hold beyond them -/
theorem rd_flow (hsr : ∀ j, 1 ≤ j → j < 12 → sr j < j) (hC : ∀ j, 1 ≤ j → j ≤ 11 → C j = C' j) (hcl : ∀ j, 1 ≤ j → j ≤ 11 → 1 ≤ sr j → C j ≠ 0 → C (sr j) ≠ 0) (hz : ∀ j, 1 ≤ j → j ≤ 11 → C j = 0 → sv j = 0) (hg : ∀ j, 1 ≤ j → j ≤ 11 → sv j = go j) :
    ∀ n, n ≤ 11 → ∀ j, 1 ≤ j → j ≤ 11 → (itr (rStep sr lo C er) ((to, su), itr (rIni sv) (fl, ac) 11) n).2.1 j = itr (me2 sr C' lo) (itr (me1 go) me 11) n j ∧ (C j = 0 → (itr (rStep sr lo C er) ((to, su), itr (rIni sv) (fl, ac) 11) n).2.1 j = 0) ∧ (itr (rStep sr lo C er) ((to, su), itr (rIni sv) (fl, ac) 11) n).2.2 j = (itr (rStep sr lo C er) ((to, su), itr (rIni sv) (fl, ac) 11) n).2.1 j + sumDn (gj sr C er j) n := by
  intro n
  induction n with
  | zero =>
    intro _ j a b
    obtain ⟨i1, i2⟩ := rIni_at sv fl ac j a b
    refine ⟨?_, fun h => ?_, ?_⟩
    · show (itr (rIni sv) (fl, ac) 11).1 j = itr (me1 go) me 11 j
      rw [i1, me1_at go me j a b, hg j a b]
    · show (itr (rIni sv) (fl, ac) 11).1 j = 0
      rw [i1, hz j a b h]
    · show (itr (rIni sv) (fl, ac) 11).2 j = (itr (rIni sv) (fl, ac) 11).1 j + 0
      rw [i1, i2, Int32.add_zero]
  | succ n ih =>
    intro hn j a b
    obtain ⟨x, hx⟩ : ∃ x, x = itr (rStep sr lo C er) ((to, su), itr (rIni sv) (fl, ac) 11) n := ⟨_, rfl⟩
    obtain ⟨m, hm⟩ : ∃ m, m = itr (me2 sr C' lo) (itr (me1 go) me 11) n := ⟨_, rfl⟩
    rw [itr_s (rStep sr lo C er) _ n, itr_s (me2 sr C' lo) _ n, ← hx, ← hm, sumDn_s]
    have ih := ih (by omega)
    rw [← hx, ← hm] at ih
    obtain ⟨o, ho⟩ : ∃ o, o = 11 - n := ⟨_, rfl⟩
    have ho1 : 1 ≤ o := by omega
    have ho2 : o ≤ 11 := by omega
    have hk := hsr o ho1 (by omega)
    obtain ⟨q1, q2, q3⟩ := ih j a b
    obtain ⟨p1, p2, p3⟩ := ih o ho1 ho2
    have e1 : (rStep sr lo C er n x).2.1 = if pHouse (nI (sr o)) = 0 then x.2.1 else upd x.2.1 (sr o) (x.2.1 (sr o) + (x.2.1 o + pCL C lo o)) := by rw [ho]; rfl
    have e2 : (rStep sr lo C er n x).2.2 = if pHouse (nI (sr o)) = 0 then x.2.2 else upd x.2.2 (sr o) (x.2.2 (sr o) + (rTold C er o x.2.1 + pCL C lo o)) := by rw [ho]; rfl
    have e3 : me2 sr C' lo n m = if nI (sr o) ≤ 0 then m else if C' o = 0 then m else upd m (sr o) (m (sr o) + (m o + lo o)) := by rw [ho]; rfl
    rw [e1, e2, e3, pH_nI _ (by omega), ← ho, ← hC o ho1 ho2, rd_pCL ho1 ho2]
    by_cases hz0 : sr o = 0
    · rw [if_pos hz0, if_pos rfl, if_pos rfl, if_pos ((nI_le0 _ (by omega)).mpr hz0)]
      refine ⟨q1, q2, ?_⟩
      rw [show gj sr C er j o = 0 by rw [gj, if_neg (by omega)], Int32.add_zero]
      exact q3
    · have e10 : ¬ (1 : Int32) = 0 := by decide
      rw [if_neg hz0]
      simp only [if_neg e10]
      rw [if_neg (fun h => hz0 ((nI_le0 _ (by omega)).mp h))]
      by_cases hj : j = sr o
      · have hg2 : gj sr C er j o = wr C er o := by rw [gj, if_pos hj.symm]
        rw [hg2]
        by_cases hc : C o = 0
        · have hf : x.2.1 o = 0 := p2 hc
          have ht : rTold C er o x.2.1 = 0 := by rw [rTold, if_pos hc]
          have hw : wr C er o = 0 := by rw [wr, if_pos hc]
          rw [if_pos hc, if_pos hc, ht, hf, hw]
          rw [hj] at q1 q2 q3 ⊢
          simp only [upd, if_true, Int32.add_zero]
          exact ⟨q1, q2, q3⟩
        · have hck : C (sr o) ≠ 0 := hcl o ho1 ho2 (by omega) hc
          have ht : rTold C er o x.2.1 = x.2.1 o + er o := by rw [rTold, if_neg hc]
          have hw : wr C er o = er o := by rw [wr, if_neg hc]
          rw [if_neg hc, if_neg hc, ht, hw]
          rw [hj] at q1 q2 q3 ⊢
          simp only [upd, if_true]
          refine ⟨by rw [q1, p1], fun h => absurd h hck, ?_⟩
          rw [q3]
          ac_rfl
      · have hg2 : gj sr C er j o = 0 := by rw [gj, if_neg (fun h => hj h.symm)]
        rw [hg2, Int32.add_zero]
        by_cases hc : C o = 0
        · rw [if_pos hc, if_pos hc]
          simp only [upd, if_neg hj]
          exact ⟨q1, q2, q3⟩
        · rw [if_neg hc, if_neg hc]
          simp only [upd, if_neg hj]
          exact ⟨q1, q2, q3⟩
/-- behind its own round a junction's rows stand -/
theorem rd_stab (hsr : ∀ j, 1 ≤ j → j < 12 → sr j < j) (x0 : ((Nat → Int32) × (Nat → Int32)) × ((Nat → Int32) × (Nat → Int32))) (n : Nat) : ∀ d, n + d ≤ 11 → ∀ j, 11 - n ≤ j → (itr (rStep sr lo C er) x0 (n + d)).2.1 j = (itr (rStep sr lo C er) x0 n).2.1 j ∧ (itr (rStep sr lo C er) x0 (n + d)).2.2 j = (itr (rStep sr lo C er) x0 n).2.2 j := by
  intro d
  induction d with
  | zero => intro _ j _; exact ⟨rfl, rfl⟩
  | succ d ih =>
    intro h j hj
    obtain ⟨i1, i2⟩ := ih (by omega) j hj
    have hk := hsr (11 - (n + d)) (by omega) (by omega)
    rw [show n + (d + 1) = (n + d) + 1 by omega, itr_s, ← i1, ← i2]
    have hne : j ≠ sr (11 - (n + d)) := by omega
    constructor
    · show (if _ then _ else upd _ _ _) j = _
      split
      · rfl
      · simp only [upd, if_neg hne]
    · show (if _ then _ else upd _ _ _) j = _
      split
      · rfl
      · simp only [upd, if_neg hne]
theorem rd_told (hsr : ∀ j, 1 ≤ j → j < 12 → sr j < j) (x0 : ((Nat → Int32) × (Nat → Int32)) × ((Nat → Int32) × (Nat → Int32))) : ∀ n, n ≤ 11 → ∀ j, 11 - n < j → j ≤ 11 → (itr (rStep sr lo C er) x0 n).1.1 j = rTold C er j (itr (rStep sr lo C er) x0 11).2.1 ∧ (itr (rStep sr lo C er) x0 n).1.2 j = if rTold C er j (itr (rStep sr lo C er) x0 11).2.1 = (itr (rStep sr lo C er) x0 11).2.2 j then 0 else 1 := by
  intro n
  induction n with
  | zero => intro _ j a b; omega
  | succ n ih =>
    intro hn j a b
    show upd (itr (rStep sr lo C er) x0 n).1.1 (11 - n) (rTold C er (11 - n) (itr (rStep sr lo C er) x0 n).2.1) j = _ ∧ upd (itr (rStep sr lo C er) x0 n).1.2 (11 - n) (if rTold C er (11 - n) (itr (rStep sr lo C er) x0 n).2.1 = (itr (rStep sr lo C er) x0 n).2.2 (11 - n) then 0 else 1) j = _
    by_cases hj : j = 11 - n
    · obtain ⟨s1, s2⟩ := rd_stab (lo := lo) (C := C) (er := er) hsr x0 n (11 - n) (by omega) j (by omega)
      rw [show n + (11 - n) = 11 by omega] at s1 s2
      have et : rTold C er j (itr (rStep sr lo C er) x0 n).2.1 = rTold C er j (itr (rStep sr lo C er) x0 11).2.1 := by simp only [rTold, s1]
      rw [← hj]
      simp only [upd, if_true]
      rw [et, s2]
      exact ⟨rfl, rfl⟩
    · simp only [upd, if_neg hj]
      exact ih (by omega) j (by omega) b
theorem me3_at (m0 s0 : Nat → Int32) : ∀ n, n ≤ 11 → (∀ j, 1 ≤ j → j ≤ 11 → (itr (me3 sr C' er) (m0, s0) n).1 j = if j ≤ n then m0 j + wr C' er j else m0 j) ∧ (∀ j, 1 ≤ j → j ≤ n → (itr (me3 sr C' er) (m0, s0) n).2 j = if wr C' er j = itr (biStep sr C' er (j - 1)) 0 (11 - j) then 0 else 1) := by
  intro n
  induction n with
  | zero => intro _; exact ⟨fun j a b => by rw [if_neg (by omega)]; rfl, fun j a b => by omega⟩
  | succ n ih =>
    intro hn
    obtain ⟨h1, h2⟩ := ih (by omega)
    refine ⟨fun j a b => ?_, fun j a b => ?_⟩
    · show upd (itr (me3 sr C' er) (m0, s0) n).1 (n + 1) ((itr (me3 sr C' er) (m0, s0) n).1 (n + 1) + wrong C' er n) j = _
      by_cases hj : j = n + 1
      · subst hj
        simp only [upd, if_true]
        rw [h1 (n + 1) (by omega) (by omega), if_neg (by omega), if_pos (Nat.le_refl _)]
        rfl
      · simp only [upd, if_neg hj]
        rw [h1 j a b]
        by_cases hl : j ≤ n
        · rw [if_pos hl, if_pos (by omega)]
        · rw [if_neg hl, if_neg (by omega)]
    · show upd (itr (me3 sr C' er) (m0, s0) n).2 (n + 1) (if wrong C' er n = itr (biStep sr C' er n) 0 (10 - n) then 0 else 1) j = _
      by_cases hj : j = n + 1
      · subst hj
        simp only [upd, if_true]
        rw [show n + 1 - 1 = n by omega, show 11 - (n + 1) = 10 - n by omega]
        rfl
      · simp only [upd, if_neg hj]
        exact h2 j a (by omega)
theorem bi_eq (hsr : ∀ j, 1 ≤ j → j < 12 → sr j < j) (hC : ∀ j, 1 ≤ j → j ≤ 11 → C j = C' j) {j : Nat} (h1 : 1 ≤ j) (h2 : j ≤ 11) : itr (biStep sr C' er (j - 1)) 0 (11 - j) = sumDn (gj sr C er j) 11 := by
  have e1 : itr (biStep sr C' er (j - 1)) 0 (11 - j) = sumFr (gj sr C er j) (j + 1) (11 - j) := by
    have e2 : ∀ m, m ≤ 11 - j → itr (biStep sr C' er (j - 1)) 0 m = sumFr (gj sr C er j) (j + 1) m := by
      intro m
      induction m with
      | zero => intro _; rfl
      | succ m ih =>
        intro hm
        show itr (biStep sr C' er (j - 1)) 0 m + _ = _
        rw [ih (by omega), sumFr_s]
        congr 1
        have eo : j - 1 + 2 + m = j + 1 + m := by omega
        rw [eo, show j - 1 + 1 = j by omega]
        have hs := hsr (j + 1 + m) (by omega) (by omega)
        unfold gj wr
        rw [hC (j + 1 + m) (by omega) (by omega)]
        by_cases he : sr (j + 1 + m) = j
        · rw [if_pos he, if_pos (by rw [he])]
        · rw [if_neg he, if_neg (fun h => he ((nI_eq (by omega) (by omega)).mp h))]
    exact e2 _ (Nat.le_refl _)
  rw [e1, sum_dn_up, ← sum_fr_up, show (11 : Nat) = j + (11 - j) by omega, sumFr_split, show j + (11 - j) - j = 11 - j by omega, show 1 + j = j + 1 by omega]
  rw [sumFr_zero j (fun i hi => ?_), Int32.zero_add]
  have hs := hsr (1 + i) (by omega) (by omega)
  rw [gj, if_neg (by omega)]
theorem read_eq (hsr : ∀ j, 1 ≤ j → j < 12 → sr j < j) (hC : ∀ j, 1 ≤ j → j ≤ 11 → C j = C' j) (hcl : ∀ j, 1 ≤ j → j ≤ 11 → 1 ≤ sr j → C j ≠ 0 → C (sr j) ≠ 0) (hz : ∀ j, 1 ≤ j → j ≤ 11 → C j = 0 → sv j = 0) (hg : ∀ j, 1 ≤ j → j ≤ 11 → sv j = go j) (sum : Nat → Int32) :
    ∀ j, 1 ≤ j → j ≤ 11 → (rFun sr lo C er sv to su fl ac).1.1 j = (meFun sr lo C' er go me sum).1 j ∧ (rFun sr lo C er sv to su fl ac).1.2 j = (meFun sr lo C' er go me sum).2 j ∧ ((rFun sr lo C er sv to su fl ac).1.2 j = 0 ∨ (rFun sr lo C er sv to su fl ac).1.2 j = 1) := by
  intro j a b
  obtain ⟨f1, f2, f3⟩ := rd_flow (lo := lo) (er := er) (to := to) (su := su) (fl := fl) (ac := ac) (me := me) hsr hC hcl hz hg 11 (Nat.le_refl _) j a b
  obtain ⟨t1, t2⟩ := rd_told (lo := lo) (C := C) (er := er) hsr ((to, su), itr (rIni sv) (fl, ac) 11) 11 (Nat.le_refl _) j (by omega) b
  obtain ⟨m1, m2⟩ := me3_at (sr := sr) (C' := C') (er := er) (itr (me2 sr C' lo) (itr (me1 go) me 11) 11) sum 11 (Nat.le_refl _)
  have m1 := m1 j a b
  have m2 := m2 j a b
  rw [if_pos b] at m1
  have hw : wr C' er j = wr C er j := by simp only [wr, hC j a b]
  have eT : rTold C er j (itr (rStep sr lo C er) ((to, su), itr (rIni sv) (fl, ac) 11) 11).2.1 = (itr (rStep sr lo C er) ((to, su), itr (rIni sv) (fl, ac) 11) 11).2.1 j + wr C er j := by
    unfold rTold wr
    split
    · rename_i h; rw [f2 h]; rfl
    · rfl
  refine ⟨?_, ?_, ?_⟩
  · show (itr (rStep sr lo C er) ((to, su), itr (rIni sv) (fl, ac) 11) 11).1.1 j = _
    rw [t1, eT, f1]
    show _ = (itr (me3 sr C' er) (itr (me2 sr C' lo) (itr (me1 go) me 11) 11, sum) 11).1 j
    rw [m1, hw]
  · show (itr (rStep sr lo C er) ((to, su), itr (rIni sv) (fl, ac) 11) 11).1.2 j = _
    rw [t2, eT, f3]
    show _ = (itr (me3 sr C' er) (itr (me2 sr C' lo) (itr (me1 go) me 11) 11, sum) 11).2 j
    rw [m2, hw, bi_eq hsr hC a b]
    by_cases h : wr C er j = sumDn (gj sr C er j) 11
    · rw [if_pos (by rw [h]), if_pos h]
    · rw [if_neg (fun h2 => h (i_cancel h2)), if_neg h]
  · show (itr (rStep sr lo C er) ((to, su), itr (rIni sv) (fl, ac) 11) 11).1.2 j = 0 ∨ (itr (rStep sr lo C er) ((to, su), itr (rIni sv) (fl, ac) 11) 11).1.2 j = 1
    rw [t2]
    split
    · exact Or.inl rfl
    · exact Or.inr rfl
/-- suspicions are 0 or 1 everywhere -/
theorem read_01 (hsu : ∀ j, su j = 0 ∨ su j = 1) : ∀ j, (rFun sr lo C er sv to su fl ac).1.2 j = 0 ∨ (rFun sr lo C er sv to su fl ac).1.2 j = 1 := by
  have K := itr_inv (s1 := rStep sr lo C er) (a := ((to, su), itr (rIni sv) (fl, ac) 11)) (fun _ x => ∀ j, x.1.2 j = 0 ∨ x.1.2 j = 1) 11 hsu (by
    intro n x hn hP j
    show upd x.1.2 (11 - n) (if _ then 0 else 1) j = 0 ∨ upd x.1.2 (11 - n) (if _ then 0 else 1) j = 1
    simp only [upd]
    split
    · split
      · exact Or.inl rfl
      · exact Or.inr rfl
    · exact hP j) 11 (Nat.le_refl _)
  exact K
end RD
