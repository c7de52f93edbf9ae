/-! the class's answers: rows for calls that are in range -/
theorem pH_k {k : Nat} (h1 : 1 ≤ k) (h2 : k < 12) : ¬ pHouse (nI k) = 0 := by
  have K : ∀ k, k < 12 → 1 ≤ k → ¬ pHouse (nI k) = 0 := by decide
  exact K k h2 h1
theorem src_up {sr : Nat → Nat} {k f : Nat} : upd (fun i => nI (sr i)) k (nI f) = fun i => nI (va_up sr k f i) := by
  funext i
  simp only [upd, va_up]
  split <;> rfl
theorem pW_k {f k : Nat} (h1 : f < k) (h2 : k < 12) : ¬ pWithin (nI f) 0 (nI k - 1) = 0 := by
  have K : ∀ k, k < 12 → ∀ f, f < k → ¬ pWithin (nI f) 0 (nI k - 1) = 0 := by decide
  exact K k h2 f h1
theorem pW_of {v a b : Int32} (h1 : a.toInt ≤ v.toInt) (h2 : v.toInt ≤ b.toInt) : ¬ pWithin v a b = 0 := by
  unfold pWithin
  rw [if_neg (by rw [Int32.lt_iff_toInt_lt]; omega), if_neg (by rw [Int32.lt_iff_toInt_lt]; omega)]
  decide
theorem findL_mem9 {x : Int32} : ∀ {ord : List Nat} {k : Nat}, findL x ord = some k → k ∈ ord := by
  intro ord
  induction ord with
  | nil => intro k h; cases h
  | cons a ks ih =>
    intro k h
    simp only [findL] at h
    split at h
    · cases h; exact List.mem_cons_self
    · exact List.mem_cons_of_mem _ (ih h)
