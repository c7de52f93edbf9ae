/-! meters: the class's against the law's sums over ways -/
theorem sumUp_add (f g : Nat → Int32) : ∀ n, sumUp (fun x => f x + g x) n = sumUp f n + sumUp g n := by
  intro n
  induction n with
  | zero => rfl
  | succ n ih =>
    rw [sumUp_s, sumUp_s, sumUp_s, ih]
    ac_rfl
theorem sumUp_zero {f : Nat → Int32} : ∀ n, (∀ j, 1 ≤ j → j ≤ n → f j = 0) → sumUp f n = 0 := by
  intro n
  induction n with
  | zero => intro _; rfl
  | succ n ih => intro h; rw [sumUp_s, ih (fun j a b => h j a (by omega)), h (n + 1) (by omega) (by omega)]; rfl
theorem sumUp_one {f : Nat → Int32} {k : Nat} (hk : 1 ≤ k) : ∀ n, k ≤ n → (∀ j, 1 ≤ j → j ≤ n → j ≠ k → f j = 0) → sumUp f n = f k := by
  intro n
  induction n with
  | zero => intro h; omega
  | succ n ih =>
    intro h h2
    rw [sumUp_s]
    by_cases hn : k = n + 1
    · rw [sumUp_zero n (fun j a b => h2 j a (by omega) (by omega)), Int32.zero_add, hn]
    · rw [ih (by omega) (fun j a b c => h2 j a (by omega) c), h2 (n + 1) (by omega) (by omega) (by omega), Int32.add_zero]
theorem itr_fr (f : Nat → Int32) (a : Nat) (e : Int32) : ∀ n, itr (fun i s => s + f (a + i)) e n = e + sumFr f a n := by
  intro n
  induction n with
  | zero => show e = e + 0; rw [Int32.add_zero]
  | succ n ih => rw [itr_s, ih, sumFr_s, Int32.add_assoc]
theorem fr_up {f : Nat → Int32} {j : Nat} (h1 : 1 ≤ j) (h2 : j ≤ 11) (hf : ∀ x, 1 ≤ x → x < j → f x = 0) : sumFr f j (12 - j) = sumUp f 11 := by
  rw [← sum_fr_up, show (11 : Nat) = (j - 1) + (12 - j) by omega, sumFr_split, show 1 + (j - 1) = j by omega, sumFr_zero (j - 1) (fun i hi => hf (1 + i) (by omega) (by omega)), Int32.zero_add]
section ME
variable {sr : Nat → Nat} {lo C er sv to su fl ac dd : Nat → Int32} {S : Int32}
/-- what stands at j when the n highest junctions have handed theirs down -/
def fT (sr : Nat → Nat) (lo C sv : Nat → Int32) (n j x : Nat) : Int32 := if pN sr n x = j then sv x + (if 11 - n < x then pCL C lo x else 0) else 0
theorem fT_step (hsr : ∀ j, 1 ≤ j → j < 12 → sr j < j) {n j x : Nat} (hn : n < 11) (hj1 : 1 ≤ j) (hj : j ≤ 10 - n) (hx1 : 1 ≤ x) (hx : x ≤ 11) : fT sr lo C sv (n + 1) j x = fT sr lo C sv n j x + ((if sr (11 - n) = j then fT sr lo C sv n (11 - n) x else 0) + (if x = 11 - n then (if sr (11 - n) = j then pCL C lo (11 - n) else 0) else 0)) := by
  have hs := hsr (11 - n) (by omega) (by omega)
  obtain ⟨k, hk⟩ : ∃ k, k = 11 - n := ⟨_, rfl⟩
  have e11 : 11 - (n + 1) = k - 1 := by omega
  have e12 : 11 - n = k := hk.symm
  unfold fT
  simp only [pN, e12, e11]
  rw [e12] at hs
  by_cases hp : pN sr n x = k
  · rw [if_pos hp, if_neg (show ¬ pN sr n x = j by omega), if_pos hp, Int32.zero_add]
    have hxk : k ≤ x := by
      rcases Nat.lt_or_ge x k with h | h
      · rw [pN_small n (by omega) x (by omega)] at hp; omega
      · exact h
    rw [if_pos (show k - 1 < x by omega)]
    by_cases hj2 : sr k = j
    · rw [if_pos hj2, if_pos hj2, if_pos hj2]
      by_cases hxe : x = k
      · subst hxe
        rw [if_neg (Nat.lt_irrefl _), if_pos rfl, Int32.add_zero]
      · rw [if_pos (show k < x by omega), if_neg hxe, Int32.add_zero]
    · rw [if_neg hj2, if_neg hj2]
      split <;> rfl
  · have hxk : x ≠ k := fun h => hp (by rw [h, pN_small n (by omega) k (by omega)])
    rw [if_neg hp, if_neg hp, if_neg hxk, Int32.add_zero]
    have e13 : (if sr k = j then (0 : Int32) else 0) = 0 := by split <;> rfl
    rw [e13, Int32.add_zero]
    by_cases hc : k < x
    · rw [if_pos hc, if_pos (show k - 1 < x by omega)]
    · rw [if_neg hc, if_neg (show ¬ k - 1 < x by omega)]
theorem fl_run (hsr : ∀ j, 1 ≤ j → j < 12 → sr j < j) : ∀ n, n ≤ 11 → ∀ j, 1 ≤ j → j ≤ 11 - n → (itr (rStep sr lo C er) ((to, su), itr (rIni sv) (fl, ac) 11) n).2.1 j = sumUp (fT sr lo C sv n j) 11 := by
  intro n
  induction n with
  | zero =>
    intro _ j a b
    show (itr (rIni sv) (fl, ac) 11).1 j = _
    rw [(rIni_at sv fl ac j a (by omega)).1, sumUp_one a 11 (by omega) (fun x q1 q2 q3 => by
      unfold fT
      rw [if_neg (show ¬ pN sr 0 x = j from q3)])]
    unfold fT
    rw [if_pos (show pN sr 0 j = j from rfl), if_neg (by omega), Int32.add_zero]
  | succ n ih =>
    intro hn j a b
    obtain ⟨x, hx⟩ : ∃ x, x = itr (rStep sr lo C er) ((to, su), itr (rIni sv) (fl, ac) 11) n := ⟨_, rfl⟩
    have ihj := ih (by omega) j a (by omega)
    have ihk := ih (by omega) (11 - n) (by omega) (Nat.le_refl _)
    rw [← hx] at ihj ihk
    have hs := hsr (11 - n) (by omega) (by omega)
    rw [itr_s, ← hx]
    have e1 : (rStep sr lo C er n x).2.1 = if pHouse (nI (sr (11 - n))) = 0 then x.2.1 else upd x.2.1 (sr (11 - n)) (x.2.1 (sr (11 - n)) + (x.2.1 (11 - n) + pCL C lo (11 - n))) := rfl
    have eS : sumUp (fT sr lo C sv (n + 1) j) 11 = sumUp (fT sr lo C sv n j) 11 + (sumUp (fun x => if sr (11 - n) = j then fT sr lo C sv n (11 - n) x else 0) 11 + sumUp (fun x => if x = 11 - n then (if sr (11 - n) = j then pCL C lo (11 - n) else 0) else 0) 11) := by
      rw [← sumUp_add, ← sumUp_add]
      exact sumUp_congr 11 (fun x q1 q2 => fT_step hsr (by omega) a (by omega) q1 q2)
    have e3 : sumUp (fun x => if x = 11 - n then (if sr (11 - n) = j then pCL C lo (11 - n) else 0) else 0) 11 = if sr (11 - n) = j then pCL C lo (11 - n) else 0 := by
      rw [sumUp_one (k := 11 - n) (by omega) 11 (by omega) (fun x q1 q2 q3 => if_neg q3)]
      exact if_pos rfl
    rw [e1, eS, e3]
    by_cases hz : sr (11 - n) = 0
    · rw [if_pos (by rw [pH_nI _ (by omega), if_pos hz]), ihj, if_neg (by omega), sumUp_zero 11 (fun x _ _ => if_neg (by omega)), Int32.add_zero, Int32.add_zero]
    · rw [if_neg (by rw [pH_nI _ (by omega), if_neg hz]; decide)]
      by_cases hj : j = sr (11 - n)
      · have e5 : sumUp (fun x => if sr (11 - n) = j then fT sr lo C sv n (11 - n) x else 0) 11 = sumUp (fT sr lo C sv n (11 - n)) 11 := sumUp_congr 11 (fun x _ _ => if_pos hj.symm)
        rw [e5, if_pos hj.symm, ← ihk, ← ihj]
        simp only [upd, if_pos hj]
        rw [hj]
      · rw [if_neg (fun h => hj h.symm), sumUp_zero 11 (fun x _ _ => if_neg (fun h => hj h.symm)), Int32.add_zero, Int32.add_zero]
        simp only [upd, if_neg hj]
        exact ihj
theorem met (hsr : ∀ j, 1 ≤ j → j < 12 → sr j < j) (hcl : ∀ j, 1 ≤ j → j ≤ 11 → 1 ≤ sr j → C j ≠ 0 → C (sr j) ≠ 0) (hz : ∀ j, 1 ≤ j → j ≤ 11 → C j = 0 → sv j = 0) (hb : ∀ k, 1 ≤ k → k ≤ 11 → (sb S k = 1 ↔ ¬ C k = 0)) (hdd : ∀ j, 1 ≤ j → j ≤ 11 → sv j = dd j) {j : Nat} (a : 1 ≤ j) (b : j ≤ 11) :
    (rFun sr lo C er sv to su fl ac).1.1 j = tT sr lo er dd S j (12 - j) ∧ (rFun sr lo C er sv to su fl ac).1.2 j = mS9 sr er S j (12 - j) := by
  obtain ⟨-, f2, f3⟩ := rd_flow (C' := C) (go := sv) (lo := lo) (er := er) (to := to) (su := su) (fl := fl) (ac := ac) (me := fun _ => 0) hsr (fun _ _ _ => rfl) hcl hz (fun _ _ _ => rfl) 11 (Nat.le_refl _) j a b
  obtain ⟨t1, t2⟩ := rd_told (lo := lo) (C := C) (er := er) hsr ((to, su), itr (rIni sv) (fl, ac) 11) 11 (Nat.le_refl _) j (by omega) b
  obtain ⟨s1, -⟩ := rd_stab (lo := lo) (C := C) (er := er) hsr ((to, su), itr (rIni sv) (fl, ac) 11) (11 - j) j (by omega) j (by omega)
  rw [show 11 - j + j = 11 by omega, fl_run hsr (11 - j) (by omega) j a (by omega)] at s1
  have eF : sumUp (fT sr lo C sv (11 - j) j) 11 = sumUp (tq sr lo dd S j) 11 := sumUp_congr 11 (fun x q1 q2 => by
    unfold fT tq
    rw [show 11 - (11 - j) = j by omega]
    by_cases hp : pN sr (11 - j) x = j
    · have hx : j ≤ x := by
        rcases Nat.lt_or_ge x j with h | h
        · rw [pN_at b (by omega)] at hp; omega
        · exact h
      rw [if_pos hp, rd_pCL q1 q2]
      by_cases hc : C x = 0
      · rw [if_neg (show ¬ (pN sr (11 - j) x = j ∧ sb S x = 1) from fun h => (hb x q1 q2).mp h.2 hc), hz x q1 q2 hc, if_pos hc]
        split <;> rfl
      · rw [if_pos (show pN sr (11 - j) x = j ∧ sb S x = 1 from ⟨hp, (hb x q1 q2).mpr hc⟩), if_neg hc, hdd x q1 q2]
        by_cases hxe : x = j
        · rw [if_pos hxe, if_neg (show ¬ j < x by omega)]
        · rw [if_neg hxe, if_pos (show j < x by omega)]
    · rw [if_neg hp, if_neg (fun h => hp h.1)])
  have eT : tT sr lo er dd S j (12 - j) = (if sb S j = 1 then er j else 0) + sumUp (tq sr lo dd S j) 11 := by
    unfold tT
    rw [itr_fr (tq sr lo dd S j) j, fr_up a b (fun x q1 q2 => by
      unfold tq
      rw [pN_at b (by omega), if_neg (fun h => absurd h.1 (by omega))])]
  have eB : mB sr er S j (12 - j) = sumDn (gj sr C er j) 11 := by
    unfold mB
    rw [itr_fr (bq sr er S j) j, Int32.zero_add, fr_up a b (fun x q1 q2 => by
      have := hsr x q1 (by omega)
      unfold bq
      rw [if_neg (fun h => absurd h.1 (by omega))]), sum_dn_up]
    refine sumUp_congr 11 (fun x q1 q2 => ?_)
    unfold bq gj wr
    by_cases h1 : sr x = j
    · rw [if_pos h1]
      by_cases hc : C x = 0
      · rw [if_pos hc, if_neg (fun h => (hb x q1 q2).mp h.2 hc)]
      · rw [if_neg hc, if_pos ⟨h1, (hb x q1 q2).mpr hc⟩]
    · rw [if_neg h1, if_neg (fun h => h1 h.1)]
  have eW : rTold C er j (itr (rStep sr lo C er) ((to, su), itr (rIni sv) (fl, ac) 11) 11).2.1 = (itr (rStep sr lo C er) ((to, su), itr (rIni sv) (fl, ac) 11) 11).2.1 j + wr C er j := by
    unfold rTold wr
    split
    · rename_i h; rw [f2 h]; rfl
    · rfl
  have ewr : wr C er j = if sb S j = 1 then er j else 0 := by
    unfold wr
    by_cases hc : C j = 0
    · rw [if_pos hc, if_neg (fun h => (hb j a b).mp h hc)]
    · rw [if_neg hc, if_pos ((hb j a b).mpr hc)]
  constructor
  · show (itr (rStep sr lo C er) ((to, su), itr (rIni sv) (fl, ac) 11) 11).1.1 j = _
    rw [t1, eW, s1, eF, eT, ewr, Int32.add_comm]
  · show (itr (rStep sr lo C er) ((to, su), itr (rIni sv) (fl, ac) 11) 11).1.2 j = _
    rw [t2, eW, f3, ← eB]
    unfold mS9
    by_cases hc : C j = 0
    · rw [if_neg (fun h => (hb j a b).mp h hc)]
      have e0 : mB sr er S j (12 - j) = 0 := by
        rw [eB, sum_dn_up]
        refine sumUp_zero 11 (fun x q1 q2 => ?_)
        unfold gj wr
        by_cases h1 : sr x = j
        · rw [if_pos h1]
          by_cases hcx : C x = 0
          · rw [if_pos hcx]
          · exact absurd hc (by rw [← h1]; exact hcl x q1 q2 (by omega) hcx)
        · rw [if_neg h1]
      rw [e0, ewr, if_neg (fun h => (hb j a b).mp h hc), if_pos rfl]
    · rw [if_pos ((hb j a b).mpr hc), ewr, if_pos ((hb j a b).mpr hc)]
      by_cases h : er j = mB sr er S j (12 - j)
      · rw [if_pos h, if_pos (by rw [h])]
      · rw [if_neg h, if_neg (fun h2 => h (i_cancel h2))]
end ME
theorem meters_ok {sr : Nat → Nat} {lo ar sh ht h1 d1 c1 sv er to su fl ac : Nat → Int32} {t ap S : Int32} (hN : NInv sr lo ar sh) (hap : 0 ≤ ap.toInt ∧ ap.toInt ≤ 2000) (hpw : ¬ pWithin t (-20) 30 = 0) (hS : setP sr (dv (hFun sr sh ht) ar t) 11 S) :
    ∀ i, i < 11 → (sFun (oD sr ar sh h1 d1 t).1 sv (imax 0 (ap - oL sr lo ar sh h1 d1 c1 t))) (i + 1) = (jF (zD sr ar sh ht t) (lf9 (zW sr lo ar sh ht t) ap (zS sr ar sh ht t) (zL sr lo ar sh ht t)) 11).1 (i + 1) ∧
      (rFun sr lo (oC sr ar sh h1 d1 c1 t) er (sFun (oD sr ar sh h1 d1 t).1 sv (imax 0 (ap - oL sr lo ar sh h1 d1 c1 t))) to su fl ac).1.1 (i + 1) = tT sr lo er (jF (zD sr ar sh ht t) (lf9 (zW sr lo ar sh ht t) ap (zS sr ar sh ht t) (zL sr lo ar sh ht t)) 11).1 S (i + 1) (11 - i) ∧
      (rFun sr lo (oC sr ar sh h1 d1 c1 t) er (sFun (oD sr ar sh h1 d1 t).1 sv (imax 0 (ap - oL sr lo ar sh h1 d1 c1 t))) to su fl ac).1.2 (i + 1) = mS9 sr er S (i + 1) (11 - i) := by
  have hsr := hN.1
  have hL := L_bd (ht := ht) (t := t) hN
  rw [L_any (ht := ht) hsr]
  obtain ⟨d, hdd⟩ : ∃ d, d = (oD sr ar sh h1 d1 t).1 := ⟨_, rfl⟩
  rw [← hdd]
  have hd : ∀ j, 1 ≤ j → j ≤ 11 → 0 ≤ (d j).toInt ∧ (d j).toInt ≤ 190 := fun j a c => by
    rw [hdd, net_d.1 j a c]; exact d_bd (ht := h1) hN hpw j a c
  have he : ∀ j, 1 ≤ j → j ≤ 11 → zD sr ar sh ht t j = d j := fun j a c => by rw [hdd]; exact (D_any hsr j a c).symm
  have eS : zS sr ar sh ht t = sumUp d 11 := by rw [zS_sumD]; exact sumUp_congr 11 he
  have ew : zW sr lo ar sh ht t = sumUp d 11 + zL sr lo ar sh ht t := by unfold zW; rw [eS]
  rw [ew, eS]
  have R := (jF_run (sv := sv) hd he hap hL 11 (Nat.le_refl _)).1.2
  have hsv : ∀ j, 1 ≤ j → j ≤ 11 → sFun d sv (imax 0 (ap - zL sr lo ar sh ht t)) j = (jF (zD sr ar sh ht t) (lf9 (sumUp d 11 + zL sr lo ar sh ht t) ap (sumUp d 11) (zL sr lo ar sh ht t)) 11).1 j := fun j a b => (R j a b).symm
  have hC : ∀ k, 1 ≤ k → k ≤ 11 → (sb S k = 1 ↔ ¬ oC sr ar sh h1 d1 c1 t k = 0) := fun k a b => by
    rw [C_any (ht := ht) hsr k a b]
    exact set_C hsr hS k a b
  have hz : ∀ j, 1 ≤ j → j ≤ 11 → oC sr ar sh h1 d1 c1 t j = 0 → sFun d sv (imax 0 (ap - zL sr lo ar sh ht t)) j = 0 := fun j a b hc => by
    refine serve_zero hd ?_ j a b ?_
    · rw [i_max, i_0]; omega
    · have h9 := net_pos (dm := d1) (ca := c1) j a b hc
      rw [← (net_d (dm := d1)).1 j a b, ← hdd, i_le, i_0] at h9
      have := hd j a b
      rw [i_eq, i_0]
      omega
  intro i hi
  have M := met (lo := lo) (er := er) (to := to) (su := su) (fl := fl) (ac := ac) hsr (net_cl (dm := d1) (ca := c1) hsr) hz hC hsv (j := i + 1) (by omega) (by omega)
  rw [show 12 - (i + 1) = 11 - i by omega] at M
  exact ⟨hsv (i + 1) (by omega) (by omega), M.1, M.2⟩
