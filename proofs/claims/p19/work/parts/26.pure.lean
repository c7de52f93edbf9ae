/-! the class's answers: which exception is due (0: none) -/
def cdH (j : Int32) : Int32 := if pHouse j = 0 then 1 else 0
def cdFeed (j f lo ph : Int32) : Int32 := if pHouse j = 0 then 1 else if pWithin f 0 (j - 1) = 0 then 1 else if pWithin lo 0 20 = 0 then 1 else if ph ≤ 0 then 0 else 2
def cdIn (j v a b : Int32) : Int32 := if pHouse j = 0 then 1 else if pWithin v a b = 0 then 1 else 0
def cdBoiler (s p c cn : Int32) : Int32 := if pWithin s 1 5 = 0 then 1 else if pWithin p 1 100 = 0 then 1 else if pWithin c 1 100 = 0 then 1 else if cn < 4 then 0 else 2
def cdRepair (j h sh ph lt : Int32) : Int32 := if pHouse j = 0 then 1 else if pWithin h 1 20 = 0 then 1 else if sh ≤ 0 then (if ph ≤ 0 then 0 else if 10 ≤ lt then 0 else 2) else 2
def cdTemp (t : Int32) : Int32 := if pWithin t (-20) 30 = 0 then 1 else 0
def cdFired (x : Int32) (ord : List Nat) : Int32 := match findL x ord with
  | none => 1
  | some _ => 0
theorem pHouse_in {x : Int32} (h : ¬ pHouse x = 0) : vp_in x 12 := by
  rw [vp_in_iff]
  simp only [pHouse] at h
  split at h
  · simp at h
  · split at h
    · simp at h
    · rename_i h1 h2
      rw [Int32.lt_iff_toInt_lt, show (1 : Int32).toInt = 1 from rfl] at h1
      rw [Int32.le_iff_toInt_le, show (12 : Int32).toInt = 12 from rfl] at h2
      omega
theorem findL_mem {x : Int32} : ∀ {ord : List Nat} {k : Nat}, findL x ord = some k → k ∈ ord := by
  intro ord
  induction ord with
  | nil => intro k h; cases h
  | cons a ks ih =>
    intro k h
    simp only [findL] at h
    split at h
    · cases h; exact List.mem_cons_self
    · exact List.mem_cons_of_mem _ (ih h)
/-! the class's answers: rows for calls that are in range -/
theorem pH_k {k : Nat} (h1 : 1 ≤ k) (h2 : k < 12) : ¬ pHouse (nI k) = 0 := by
  have K : ∀ k, k < 12 → 1 ≤ k → ¬ pHouse (nI k) = 0 := by decide
  exact K k h2 h1
theorem src_up {sr : Nat → Nat} {k f : Nat} : upd (fun i => nI (sr i)) k (nI f) = fun i => nI (va_up sr k f i) := by
  funext i
  simp only [upd, va_up]
  split <;> rfl
theorem pW_k {f k : Nat} (h1 : f < k) (h2 : k < 12) : ¬ pWithin (nI f) 0 (nI k - 1) = 0 := by
  have K : ∀ k, k < 12 → ∀ f, f < k → ¬ pWithin (nI f) 0 (nI k - 1) = 0 := by decide
  exact K k h2 f h1
theorem pW_of {v a b : Int32} (h1 : a.toInt ≤ v.toInt) (h2 : v.toInt ≤ b.toInt) : ¬ pWithin v a b = 0 := by
  unfold pWithin
  rw [if_neg (by rw [Int32.lt_iff_toInt_lt]; omega), if_neg (by rw [Int32.lt_iff_toInt_lt]; omega)]
  decide
theorem findL_mem9 {x : Int32} : ∀ {ord : List Nat} {k : Nat}, findL x ord = some k → k ∈ ord := by
  intro ord
  induction ord with
  | nil => intro k h; cases h
  | cons a ks ih =>
    intro k h
    simp only [findL] at h
    split at h
    · cases h; exact List.mem_cons_self
    · exact List.mem_cons_of_mem _ (ih h)
