/-! what holds between the class and the reference behind any number of calls -/
def BInv (n : Nat) (stp pow cst frd : Nat → Int32) (nx : Nat → Option Nat) (ord : List Nat) (ap : Int32) : Prop :=
  n ≤ 4 ∧ (∀ k, k < n → (1 ≤ (stp k).toInt ∧ (stp k).toInt ≤ 5) ∧ 1 ≤ (pow k).toInt ∧ (pow k).toInt ≤ 100) ∧ ap = mpFun stp pow n ∧ chn nx ord ∧ (∀ k ∈ ord, k < n) ∧ (∀ k, k < n → k ∈ ord) ∧ nxF n cst none = ord.head? ∧ (∀ k, k < n → nx k = nxF n cst (some k)) ∧ (∀ k, n ≤ k → frd k = 0)
def NInv (sr : Nat → Nat) (lo ar sh : Nat → Int32) : Prop :=
  (∀ j, 1 ≤ j → j < 12 → sr j < j) ∧ (∀ j, 1 ≤ j → j < 12 → 0 ≤ (lo j).toInt ∧ (lo j).toInt ≤ 20) ∧ (∀ j, 1 ≤ j → j < 12 → 0 ≤ (ar j).toInt ∧ (ar j).toInt ≤ 50) ∧ (∀ j, 1 ≤ j → j < 12 → 0 ≤ (sh j).toInt)
def MInv (to su me sum : Nat → Int32) : Prop :=
  (∀ j, su j = 0 ∨ su j = 1) ∧ (∀ j, 1 ≤ j → j < 12 → to j = me j) ∧ (∀ j, 1 ≤ j → j < 12 → su j = sum j)
def Inv (cnt : Nat) (sr : Nat → Nat) (lo ar sh to su me sum : Nat → Int32) (n : Nat) (stp pow cst frd : Nat → Int32) (nx : Nat → Option Nat) (ord : List Nat) (ap ph : Int32) : Prop :=
  NInv sr lo ar sh ∧ MInv to su me sum ∧ BInv n stp pow cst frd nx ord ap ∧ ∃ k, k ≤ cnt ∧ ph = nI k
theorem Inv_mono {cnt : Nat} {sr : Nat → Nat} {lo ar sh to su me sum : Nat → Int32} {n : Nat} {stp pow cst frd : Nat → Int32} {nx : Nat → Option Nat} {ord : List Nat} {ap ph : Int32} (h : Inv cnt sr lo ar sh to su me sum n stp pow cst frd nx ord ap ph) : Inv (cnt + 1) sr lo ar sh to su me sum n stp pow cst frd nx ord ap ph := by
  obtain ⟨h1, h2, h3, k, hk, h4⟩ := h
  exact ⟨h1, h2, h3, k, by omega, h4⟩
theorem nxF_lt {n : Nat} {cst : Nat → Int32} {last : Option Nat} {f : Nat} (h : nxF n cst last = some f) : f < n := nxI_lt (Nat.le_refl n) h
theorem chn_congr {f g : Nat → Option Nat} : ∀ {ord : List Nat}, (∀ k ∈ ord, f k = g k) → chn f ord → chn g ord := by
  intro ord
  induction ord with
  | nil => intro _ _; trivial
  | cons k ks ih => intro h hc; exact ⟨by rw [← h k List.mem_cons_self]; exact hc.1, ih (fun j hj => h j (List.mem_cons_of_mem _ hj)) hc.2⟩
theorem Inv_use {cnt : Nat} {sr : Nat → Nat} {lo ar sh to su me sum : Nat → Int32} {n : Nat} {stp pow cst frd : Nat → Int32} {nx : Nat → Option Nat} {ord : List Nat} {ap ph : Int32} (h : Inv cnt sr lo ar sh to su me sum n stp pow cst frd nx ord ap ph) :
    (∀ j, 1 ≤ j → j < 12 → sr j < j) ∧ (∀ j, su j = 0 ∨ su j = 1) ∧ n ≤ 4 ∧ chn nx ord ∧ (∀ k ∈ ord, k < n) ∧ (∀ k, k < n → ∀ j, nx k = some j → j < n) ∧ (∀ j, ord.head? = some j → j < n) ∧ (∀ k, k < n → stp k ≤ 5) ∧ nxF n cst none = ord.head? ∧ chn (fun k => nxF n cst (some k)) ord ∧ (∀ k, k < n → ¬ pow k = 0) := by
  obtain ⟨h1, h2, ⟨b1, b2, b3, b4, b5, b6, b7, b8, b9⟩, h4⟩ := h
  refine ⟨h1.1, h2.1, b1, b4, b5, fun k hk j hj => nxF_lt ((b8 k hk).symm.trans hj), fun j hj => nxF_lt (b7.trans hj), fun k hk => ?_, b7, chn_congr (fun k hk => b8 k (b5 k hk)) b4, fun k hk h => ?_⟩
  · rw [Int32.le_iff_toInt_le, show (5 : Int32).toInt = 5 from rfl]; exact (b2 k hk).1.2
  · have := (b2 k hk).2.1
    rw [h, show (0 : Int32).toInt = 0 from rfl] at this
    omega
