/-! the chain of boilers: rows -/
def addNx (nx : Nat → Option Nat) (n : Nat) (fst : Option Nat) : Option Nat → (Nat → Option Nat)
  | none => va_up nx n fst
  | some b => va_up (va_up nx n (nx b)) b (some n)
def addFst (n : Nat) (fst : Option Nat) : Option Nat → Option Nat
  | none => some n
  | some _ => fst
theorem lfb_mem {cst : Nat → Int32} {p : Int32} : ∀ {ord : List Nat} {last : Option Nat} {b : Nat}, lfb cst p last ord = some b → last = some b ∨ b ∈ ord := by
  intro ord
  induction ord with
  | nil => intro last b h; exact Or.inl h
  | cons k ks ih =>
    intro last b h
    simp only [lfb] at h
    split at h
    · exact Or.inl h
    · rcases ih h with h1 | h1
      · cases h1; exact Or.inr List.mem_cons_self
      · exact Or.inr (List.mem_cons_of_mem _ h1)
theorem bl_push {X : va_W} {ad ad' : Nat → Nat} {stp pow cst frd stp' pow' cst' frd' : Nat → Int32} {nx nx' : Nat → Option Nat} {n : Nat} {q : Nat × va_E} (hq : q = bcell ad' stp' pow' cst' frd' nx' n) (h : ∀ k, k < n → bcell ad stp pow cst frd nx k = bcell ad' stp' pow' cst' frd' nx' k) : ((X ++ [q]) ++ bl ad stp pow cst frd nx n).Perm (X ++ bl ad' stp' pow' cst' frd' nx' (n + 1)) := by
  rw [bl_congr h, hq, List.append_assoc]
  refine List.Perm.append_left X ?_
  rw [show bl ad' stp' pow' cst' frd' nx' (n + 1) = bl ad' stp' pow' cst' frd' nx' n ++ [bcell ad' stp' pow' cst' frd' nx' n] by simp [bl, List.range_succ]]
  exact List.perm_append_comm
theorem bl_push2 {X : va_W} {ad ad' : Nat → Nat} {stp pow cst frd stp' pow' cst' frd' : Nat → Int32} {nx nx' : Nat → Option Nat} {n b : Nat} {q1 q2 : Nat × va_E} (hb : b < n) (hq1 : q1 = bcell ad' stp' pow' cst' frd' nx' n) (hq2 : q2 = bcell ad' stp' pow' cst' frd' nx' b) (h : ∀ k, k < n → k ≠ b → bcell ad stp pow cst frd nx k = bcell ad' stp' pow' cst' frd' nx' k) : ((X ++ [q1, q2]) ++ blr ad stp pow cst frd nx n b).Perm (X ++ bl ad' stp' pow' cst' frd' nx' (n + 1)) := by
  have e : blr ad stp pow cst frd nx n b = blr ad' stp' pow' cst' frd' nx' n b := by
    refine List.map_congr_left (fun j hj => ?_)
    obtain ⟨hne, hm⟩ := (List.nodup_range).mem_erase_iff.mp hj
    exact h j (List.mem_range.mp hm) hne
  rw [e, hq1, hq2]
  have h1 : (X ++ [bcell ad' stp' pow' cst' frd' nx' n, bcell ad' stp' pow' cst' frd' nx' b]) ++ blr ad' stp' pow' cst' frd' nx' n b = (X ++ [bcell ad' stp' pow' cst' frd' nx' n]) ++ ([bcell ad' stp' pow' cst' frd' nx' b] ++ blr ad' stp' pow' cst' frd' nx' n b) := by simp
  rw [h1]
  refine (List.Perm.append_left _ ?_).trans (bl_push rfl (fun _ _ => rfl))
  exact (bl_out (X := []) hb).symm
theorem map_up {ad : Nat → Nat} {n o : Nat} {r : Option Nat} (h : ∀ j, r = some j → j < n) : r.map (va_up ad n o) = r.map ad := by
  cases r with
  | none => rfl
  | some j => simp [va_up, Nat.ne_of_lt (h j rfl)]
theorem add_cell {ad : Nat → Nat} {stp pow cst frd : Nat → Int32} {nx nx' : Nat → Option Nat} {n o k : Nat} {a b c : Int32} (hk : k < n) (hn : nx' k = nx k) (hx : ∀ j, nx k = some j → j < n) : bcell ad stp pow cst frd nx k = bcell (va_up ad n o) (va_up stp n a) (va_up pow n b) (va_up cst n c) (va_up frd n 0) nx' k := by
  have hne : k ≠ n := by omega
  simp [bcell, va_up, hne, hn, ← map_up (ad := ad) (o := o) hx]
