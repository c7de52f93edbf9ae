/-! the boilers: a tail of the world, by their numbers; the chain in which they are fired -/
def bcell (ad : Nat → Nat) (stp pow cst frd : Nat → Int32) (nx : Nat → Option Nat) (k : Nat) : Nat × va_E := (ad k, .inr (0, [.int (nI k), .int (stp k), .int (pow k), .int (cst k), .int (frd k), va_rf ((nx k).map ad)]))
def bl (ad : Nat → Nat) (stp pow cst frd : Nat → Int32) (nx : Nat → Option Nat) (n : Nat) : va_W := (List.range n).map (bcell ad stp pow cst frd nx)
def blr (ad : Nat → Nat) (stp pow cst frd : Nat → Int32) (nx : Nat → Option Nat) (n k : Nat) : va_W := ((List.range n).erase k).map (bcell ad stp pow cst frd nx)
theorem bl_at {X : va_W} {ad : Nat → Nat} {stp pow cst frd : Nat → Int32} {nx : Nat → Option Nat} {n k : Nat} (h : k < n) : (X ++ bl ad stp pow cst frd nx n)[X.length + k]? = some (ad k, .inr (0, [.int (nI k), .int (stp k), .int (pow k), .int (cst k), .int (frd k), va_rf ((nx k).map ad)])) := by
  rw [List.getElem?_append_right (by omega), show X.length + k - X.length = k by omega]
  simp [bl, bcell, h]
theorem bl_out {X : va_W} {ad : Nat → Nat} {stp pow cst frd : Nat → Int32} {nx : Nat → Option Nat} {n k : Nat} (h : k < n) : (X ++ bl ad stp pow cst frd nx n).Perm ((X ++ [bcell ad stp pow cst frd nx k]) ++ blr ad stp pow cst frd nx n k) := by
  rw [List.append_assoc]
  refine List.Perm.append_left X ?_
  exact (List.perm_cons_erase (List.mem_range.mpr h)).map _
theorem bl_in {X : va_W} {ad : Nat → Nat} {stp pow cst frd frd' : Nat → Int32} {nx nx' : Nat → Option Nat} {n k : Nat} {q : Nat × va_E} (h : k < n) (hq : q = bcell ad stp pow cst frd' nx' k) (h1 : ∀ j, j ≠ k → frd' j = frd j) (h2 : ∀ j, j ≠ k → nx' j = nx j) : ((X ++ [q]) ++ blr ad stp pow cst frd nx n k).Perm (X ++ bl ad stp pow cst frd' nx' n) := by
  have e : blr ad stp pow cst frd nx n k = blr ad stp pow cst frd' nx' n k := by
    refine List.map_congr_left (fun j hj => ?_)
    have hne : j ≠ k := ((List.nodup_range).mem_erase_iff.mp hj).1
    simp [bcell, h1 j hne, h2 j hne]
  rw [e, hq]
  exact (bl_out h).symm
theorem bl_congr {ad ad' : Nat → Nat} {stp pow cst frd stp' pow' cst' frd' : Nat → Int32} {nx nx' : Nat → Option Nat} {n : Nat} (h : ∀ k, k < n → bcell ad stp pow cst frd nx k = bcell ad' stp' pow' cst' frd' nx' k) : bl ad stp pow cst frd nx n = bl ad' stp' pow' cst' frd' nx' n := List.map_congr_left (fun k hk => h k (List.mem_range.mp hk))
/-- a chain of numbers, each with the next -/
def chn (nx : Nat → Option Nat) : List Nat → Prop
  | [] => True
  | k :: ks => nx k = ks.head? ∧ chn nx ks
