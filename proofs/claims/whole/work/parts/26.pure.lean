/-! the class's answers: which exception is due (0: none) -/
def cdH (j : Int32) : Int32 := if pHouse j = 0 then 1 else 0
def cdFeed (j f lo ph : Int32) : Int32 := if pHouse j = 0 then 1 else if pWithin f 0 (j - 1) = 0 then 1 else if pWithin lo 0 20 = 0 then 1 else if ph ≤ 0 then 0 else 2
def cdIn (j v a b : Int32) : Int32 := if pHouse j = 0 then 1 else if pWithin v a b = 0 then 1 else 0
def cdBoiler (s p c cn : Int32) : Int32 := if pWithin s 1 5 = 0 then 1 else if pWithin p 1 100 = 0 then 1 else if pWithin c 1 100 = 0 then 1 else if cn < 4 then 0 else 2
def cdRepair (j h sh ph lt : Int32) : Int32 := if pHouse j = 0 then 1 else if pWithin h 1 20 = 0 then 1 else if sh ≤ 0 then (if ph ≤ 0 then 0 else if 10 ≤ lt then 0 else 2) else 2
def cdTemp (t : Int32) : Int32 := if pWithin t (-20) 30 = 0 then 1 else 0
def cdFired (x : Int32) (ord : List Nat) : Int32 := match findL x ord with
  | none => 1
  | some _ => 0
theorem pHouse_in {x : Int32} (h : ¬ pHouse x = 0) : vp_in x 12 := by
  rw [vp_in_iff]
  simp only [pHouse] at h
  split at h
  · simp at h
  · split at h
    · simp at h
    · rename_i h1 h2
      rw [Int32.lt_iff_toInt_lt, show (1 : Int32).toInt = 1 from rfl] at h1
      rw [Int32.le_iff_toInt_le, show (12 : Int32).toInt = 12 from rfl] at h2
      omega
theorem findL_mem {x : Int32} : ∀ {ord : List Nat} {k : Nat}, findL x ord = some k → k ∈ ord := by
  intro ord
  induction ord with
  | nil => intro k h; cases h
  | cons a ks ih =>
    intro k h
    simp only [findL] at h
    split at h
    · cases h; exact List.mem_cons_self
    · exact List.mem_cons_of_mem _ (ih h)
theorem atN_46 : ∀ w ∈ (vx_atS RX4 46 "java/lang/IllegalArgumentException" ["java/lang/RuntimeException", "java/lang/Exception"]).filter (fun w => !goodWord w), w ∈ xNest := by decide +kernel
theorem atG_46 : (Cond.classLink RX4 42 "java/lang/IllegalArgumentException" :: Cond.initialized "java/lang/IllegalArgumentException" :: vx_atS RX4 46 "java/lang/IllegalArgumentException" ["java/lang/RuntimeException", "java/lang/Exception"]).all vx_ot = true := by decide +kernel
theorem atN_57 : ∀ w ∈ (vx_atS RX4 57 "java/lang/IllegalStateException" ["java/lang/RuntimeException", "java/lang/Exception"]).filter (fun w => !goodWord w), w ∈ xNest := by decide +kernel
theorem atG_57 : (Cond.classLink RX4 53 "java/lang/IllegalStateException" :: Cond.initialized "java/lang/IllegalStateException" :: vx_atS RX4 57 "java/lang/IllegalStateException" ["java/lang/RuntimeException", "java/lang/Exception"]).all vx_ot = true := by decide +kernel
theorem atN_146 : ∀ w ∈ (vx_atS RX4 146 "java/lang/IndexOutOfBoundsException" ["java/lang/RuntimeException", "java/lang/Exception"]).filter (fun w => !goodWord w), w ∈ xNest := by decide +kernel
theorem atG_146 : (Cond.classLink RX4 142 "java/lang/IndexOutOfBoundsException" :: Cond.initialized "java/lang/IndexOutOfBoundsException" :: vx_atS RX4 146 "java/lang/IndexOutOfBoundsException" ["java/lang/RuntimeException", "java/lang/Exception"]).all vx_ot = true := by decide +kernel
