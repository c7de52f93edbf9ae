/-! what holds behind any number of steps of p19's law -/
def I19 (sr : Nat → Nat) (lo ar sh su : Nat → Int32) (n : Nat) (stp pow cst frd : Nat → Int32) (nx : Nat → Option Nat) (ord : List Nat) (ap : Int32) : Prop := NInv sr lo ar sh ∧ (∀ j, su j = 0 ∨ su j = 1) ∧ BInv n stp pow cst frd nx ord ap ∧ (∀ k, k < n → ¬ frd k < 0)
theorem vu_s {α : Type} {f : Nat → α} {k : Nat} {v : α} : va_up f k v k = v := if_pos rfl
theorem pW_n {q a b : Nat} (h1 : a ≤ q) (h2 : q ≤ b) (hb : b < 2 ^ 31) : ¬ pWithin (nI q) (nI a) (nI b) = 0 := pW_of (by rw [nI_toInt (by omega), nI_toInt (by omega)]; omega) (by rw [nI_toInt (by omega), nI_toInt (by omega)]; omega)
theorem tI_20 {q : Nat} (h : q ≤ 1000) : (nI q - 20).toInt = (q : Int) - 20 := pk_sub_toInt (a := q) (b := 20) (by omega) (by omega)
theorem pW_err {q : Nat} (h : q ≤ 40) : ¬ pWithin (nI q - 20) (-20) 20 = 0 := pW_of (by rw [tI_20 (by omega), show (-20 : Int32).toInt = -20 from rfl]; omega) (by rw [tI_20 (by omega), show (20 : Int32).toInt = 20 from rfl]; omega)
theorem pW_cold {q : Nat} (h : q ≤ 50) : ¬ pWithin (nI q - 20) (-20) 30 = 0 := pW_of (by rw [tI_20 (by omega), show (-20 : Int32).toInt = -20 from rfl]; omega) (by rw [tI_20 (by omega), show (30 : Int32).toInt = 30 from rfl]; omega)
theorem pW_warm {q : Nat} (h : 10 ≤ q) (h2 : q ≤ 30) : ¬ pWithin (nI q) (-20) 30 = 0 := pW_of (by rw [nI_toInt (by omega), show (-20 : Int32).toInt = -20 from rfl]; omega) (by rw [nI_toInt (by omega), show (30 : Int32).toInt = 30 from rfl]; omega)
theorem nI_ps9 {q : Nat} (h : 1 ≤ q) (h2 : q < 2 ^ 31) : ¬ nI q = 0 := fun h9 => by
  rw [i_eq, nI_toInt h2, i_0] at h9
  omega
theorem cdB_ok {S P c9 : Int32} {n : Nat} (hn : n < 4) (h1 : ¬ pWithin S 1 5 = 0) (h2 : ¬ pWithin P 1 100 = 0) (h3 : ¬ pWithin c9 1 100 = 0) : cdBoiler S P c9 (nI n) = 0 := by
  unfold cdBoiler
  rw [if_neg h1, if_neg h2, if_neg h3, if_pos (show nI n < 4 from nI_lt (a := n) (b := 4) hn (by omega))]
theorem B_use {n : Nat} {stp pow cst frd : Nat → Int32} {nx : Nat → Option Nat} {ord : List Nat} {ap : Int32} (hB : BInv n stp pow cst frd nx ord ap) : (∀ k, k < n → ∀ j, nx k = some j → j < n) ∧ (∀ j, ord.head? = some j → j < n) := by
  obtain ⟨b1, b2, b3, b4, b5, b6, b7, b8, b9⟩ := hB
  exact ⟨fun k hk j hj => nxF_lt ((b8 k hk).symm.trans hj), fun j hj => nxF_lt (b7.trans hj)⟩
section I9
variable {sr : Nat → Nat} {lo ar sh su : Nat → Int32} {n : Nat} {stp pow cst frd : Nat → Int32} {nx : Nat → Option Nat} {ord : List Nat} {ap : Int32} {j f q : Nat}
theorem I_feed (h : I19 sr lo ar sh su n stp pow cst frd nx ord ap) (hf : f < j) (hq : q ≤ 20) : I19 (va_up sr j f) (upd lo j (nI q)) ar sh su n stp pow cst frd nx ord ap := by
  obtain ⟨⟨n1, n2, n3, n4⟩, h2⟩ := h
  refine ⟨⟨fun i a1 b1 => ?_, fun i a1 b1 => ?_, n3, n4⟩, h2⟩
  · simp only [va_up]
    split
    · rename_i e; rw [e]; exact hf
    · exact n1 i a1 b1
  · rw [upd_at]
    split
    · rw [nI_toInt (by omega)]; omega
    · exact n2 i a1 b1
theorem I_area (h : I19 sr lo ar sh su n stp pow cst frd nx ord ap) (hq : q ≤ 50) : I19 sr lo (upd ar j (nI q)) sh su n stp pow cst frd nx ord ap := by
  obtain ⟨⟨n1, n2, n3, n4⟩, h2⟩ := h
  refine ⟨⟨n1, n2, fun i a1 b1 => ?_, n4⟩, h2⟩
  rw [upd_at]
  split
  · rw [nI_toInt (by omega)]; omega
  · exact n3 i a1 b1
theorem I_rep (h : I19 sr lo ar sh su n stp pow cst frd nx ord ap) (hq : q < 2 ^ 31) : I19 sr lo ar (upd sh j (nI q)) su n stp pow cst frd nx ord ap := by
  obtain ⟨⟨n1, n2, n3, n4⟩, h2⟩ := h
  refine ⟨⟨n1, n2, n3, fun i a1 b1 => ?_⟩, h2⟩
  rw [upd_at]
  split
  · rw [nI_toInt hq]; omega
  · exact n4 i a1 b1
theorem I_hour {su1 frd1 : Nat → Int32} (h : I19 sr lo ar sh su n stp pow cst frd nx ord ap) (hs : ∀ j, su1 j = 0 ∨ su1 j = 1) (hz : ∀ k, n ≤ k → frd1 k = 0) (hf : ∀ k, k < n → ¬ frd1 k < 0) : I19 sr lo ar (eFun sh) su1 n stp pow cst frd1 nx ord ap := by
  obtain ⟨⟨n1, n2, n3, n4⟩, -, ⟨b1, b2, b3, b4, b5, b6, b7, b8, b9⟩, -⟩ := h
  exact ⟨⟨n1, n2, n3, shut_nn n4⟩, hs, ⟨b1, b2, b3, b4, b5, b6, b7, b8, hz⟩, hf⟩
theorem I_boil {S P c9 : Int32} (h : I19 sr lo ar sh su n stp pow cst frd nx ord ap) (hc : cdBoiler S P c9 (nI n) = 0) : I19 sr lo ar sh su (n + 1) (va_up stp n S) (va_up pow n P) (va_up cst n c9) frd (addNx nx n ord.head? (lfb cst c9 none ord)) (insOrd n ord (lfb cst c9 none ord)) (ap + S * P) := by
  obtain ⟨h1, h2, h3, h4⟩ := h
  refine ⟨h1, h2, (B_add h3 hc).1, fun k hk => ?_⟩
  by_cases hkn : k = n
  · rw [h3.2.2.2.2.2.2.2.2 k (by omega)]; decide
  · exact h4 k (by omega)
end I9
