/-! rows on bits (a starting text of the kit) -/
def bt (x : Int32) (i : Nat) : Bool := x.toBitVec.getLsbD i
theorem b_ext {x y : Int32} (h : ∀ i, i < 32 → bt x i = bt y i) : x = y := Int32.toBitVec_inj.mp (BitVec.eq_of_getLsbD_eq (fun i hi => h i hi))
theorem b_or (x y : Int32) (i : Nat) : bt (x ||| y) i = (bt x i || bt y i) := by unfold bt; rw [Int32.toBitVec_or, BitVec.getLsbD_or]
theorem b_and (x y : Int32) (i : Nat) : bt (x &&& y) i = (bt x i && bt y i) := by unfold bt; rw [Int32.toBitVec_and, BitVec.getLsbD_and]
theorem b_xor (x y : Int32) (i : Nat) : bt (x ^^^ y) i = (bt x i ^^ bt y i) := by unfold bt; rw [Int32.toBitVec_xor, BitVec.getLsbD_xor]
theorem b_big {x : Int32} {i : Nat} (h : 32 ≤ i) : bt x i = false := BitVec.getLsbD_of_ge _ _ h
theorem b_m1 : ∀ i, i < 32 → bt (-1) i = true := by decide +kernel
theorem b_0 (i : Nat) : bt 0 i = false := BitVec.getLsbD_zero
theorem s_l : ∀ n, n < 32 → ((nI n &&& 31).toBitVec.smod 32).toNat = n := by decide +kernel
theorem s_u : ∀ n, n < 32 → (((nI n).toUInt32 &&& Int32.toUInt32 31).toBitVec % 32).toNat = n := by decide +kernel
theorem b_shl (n : Nat) (hn : n < 32) (x : Int32) {i : Nat} (hi : i < 32) : bt (x <<< (nI n &&& 31)) i = (decide (n ≤ i) && bt x (i - n)) := by
  unfold bt
  rw [Int32.toBitVec_shiftLeft]
  show (x.toBitVec <<< ((nI n &&& 31).toBitVec.smod 32).toNat).getLsbD i = _
  rw [s_l n hn, BitVec.getLsbD_shiftLeft]
  rcases Nat.lt_or_ge i n with h | h
  · simp [h, Nat.not_le.mpr h]
  · simp [hi, h, Nat.not_lt.mpr h]
theorem b_ushr (n : Nat) (hn : n < 32) (x : Int32) (i : Nat) : bt ((x.toUInt32 >>> ((nI n).toUInt32 &&& Int32.toUInt32 31)).toInt32) i = bt x (n + i) := by
  show (x.toUInt32 >>> ((nI n).toUInt32 &&& Int32.toUInt32 31)).toBitVec.getLsbD i = x.toUInt32.toBitVec.getLsbD (n + i)
  rw [UInt32.toBitVec_shiftRight]
  show (x.toUInt32.toBitVec >>> (((nI n).toUInt32 &&& Int32.toUInt32 31).toBitVec % 32).toNat).getLsbD i = _
  rw [s_u n hn, BitVec.getLsbD_ushiftRight]
theorem b_sshr (n : Nat) (hn : n < 32) (x : Int32) {i : Nat} (hi : i < 32) : bt (x >>> (nI n &&& 31)) i = if n + i < 32 then bt x (n + i) else bt x 31 := by
  unfold bt
  rw [Int32.toBitVec_shiftRight]
  show (x.toBitVec.sshiftRight ((nI n &&& 31).toBitVec.smod 32).toNat).getLsbD i = _
  rw [s_l n hn, BitVec.getLsbD_sshiftRight, BitVec.msb_eq_getLsbD_last]
  simp [hi]
/-! the law's hour as functions; its set of pipes -/
def setP (sr : Nat → Nat) (f : Nat → Int32) (i : Nat) (S : Int32) : Prop := ∀ k, 1 ≤ k → k ≤ 11 → (bt S k = true ↔ ∃ x, 1 ≤ x ∧ x ≤ i ∧ ¬ f x ≤ 0 ∧ onw sr k x)
def setI (sr : Nat → Nat) (S S1 : Int32) (j y : Nat) : Prop := ∀ k, 1 ≤ k → k ≤ 11 → ((bt S1 k = true ∨ onw sr k y) ↔ (bt S k = true ∨ onw sr k j))
def bLn (S : Int32) (lo : Nat → Int32) (n : Nat) : Int32 := itr (fun i s => s + (if sb S (i + 1) = 1 then lo (i + 1) else 0)) 0 n
def kT (left d : Int32) : Int32 := if 0 ≤ left then (if d ≤ left then d else left) else 0
def jSt (n : Nat) (v : (Nat → Int32) × Int32) : (Nat → Int32) × Int32 := (upd v.1 (n + 1) (kT v.2 (v.1 (n + 1))), v.2 - kT v.2 (v.1 (n + 1)))
def jF (d : Nat → Int32) (left : Int32) (n : Nat) : (Nat → Int32) × Int32 := itr jSt (d, left) n
def cG (h ar : Nat → Int32) (t : Int32) (j : Nat) : Int32 := if h j = 0 then (if ar j ≤ 0 then 0 else if 18 ≤ t then 0 else 1) else 0
def bSt (d : Nat → Int32) (left : Int32) (h ar : Nat → Int32) (t pr : Int32) (n : Nat) (b : Nat → Int32) : Nat → Int32 := upd b (n + 1) (b (n + 1) + (pr * kT (jF d left n).2 ((jF d left n).1 (n + 1)) - (if cG h ar t (n + 1) = 0 then 0 else 3)))
def bG (d : Nat → Int32) (left : Int32) (h ar : Nat → Int32) (t pr : Int32) (b : Nat → Int32) (n : Nat) : Nat → Int32 := itr (bSt d left h ar t pr) b n
def tT (sr : Nat → Nat) (lo er dd : Nat → Int32) (S : Int32) (j n : Nat) : Int32 := itr (fun i s => s + tq sr lo dd S j (j + i)) (if sb S j = 1 then er j else 0) n
theorem bt_1 : ∀ i, i < 32 → bt 1 i = decide (i = 0) := by decide +kernel
theorem sb_bt {S : Int32} {k : Nat} (hk : k < 31) : sb S k = if bt S k = true then 1 else 0 := by
  refine b_ext (fun i hi => ?_)
  unfold sb
  rw [b_and, b_sshr k (by omega) S hi, bt_1 i hi]
  by_cases h0 : i = 0
  · subst h0
    rw [if_pos (by omega), Nat.add_zero]
    cases hb : bt S k
    · rw [if_neg (by decide)]; exact (b_0 0).symm
    · rw [if_pos rfl, bt_1 0 (by omega)]; rfl
  · rw [decide_eq_false h0, Bool.and_false]
    split
    · rw [bt_1 i hi, decide_eq_false h0]
    · exact (b_0 i).symm
theorem sb_1 {S : Int32} {k : Nat} (hk : k < 31) : sb S k = 1 ↔ bt S k = true := by
  rw [sb_bt hk]
  by_cases h : bt S k = true
  · rw [if_pos h]; exact ⟨fun _ => h, fun _ => rfl⟩
  · rw [if_neg h]; exact ⟨fun h9 => absurd h9 (by decide), fun h9 => absurd h9 h⟩
theorem bt_set {S : Int32} {y k : Nat} (hy : y < 32) (hk : k < 32) : bt (S ||| (1 <<< (nI y &&& 31))) k = true ↔ (bt S k = true ∨ k = y) := by
  rw [b_or, b_shl y hy 1 hk]
  by_cases h : y ≤ k
  · rw [bt_1 (k - y) (by omega), decide_eq_true h, Bool.true_and, Bool.or_eq_true, decide_eq_true_eq]
    have : (k - y = 0) ↔ k = y := by omega
    rw [this]
  · rw [decide_eq_false h, Bool.false_and, Bool.or_false]
    exact ⟨Or.inl, fun h9 => h9.elim id (fun h8 => absurd h8 (by omega))⟩
section SP
variable {sr : Nat → Nat} {f : Nat → Int32} {S S1 : Int32} {i j y : Nat}
theorem set_0 : setP sr f 0 0 := fun k _ _ => ⟨fun h => by rw [b_0] at h; exact absurd h (by decide), fun ⟨x, h1, h2, _⟩ => by omega⟩
theorem set_in (hsr : ∀ j, 1 ≤ j → j < 12 → sr j < j) (h : setI sr S S1 j y) (h1 : 1 ≤ y) (h2 : y ≤ 11) : setI sr S (S1 ||| (1 <<< (nI y &&& 31))) j (sr y) := fun k a b => by
  rw [← h k a b, bt_set (by omega) (by omega), onw_rec hsr a b h1 h2, or_assoc]
theorem set_out0 (h : setP sr f i S) (hI : setI sr S S1 (i + 1) 0) (hf : ¬ f (i + 1) ≤ 0) : setP sr f (i + 1) S1 := fun k a b => by
  have e := hI k a b
  have e0 : ¬ onw sr k 0 := onw_0 a
  constructor
  · intro h1
    rcases e.mp (Or.inl h1) with h2 | h2
    · obtain ⟨x, q1, q2, q3, q4⟩ := (h k a b).mp h2
      exact ⟨x, q1, by omega, q3, q4⟩
    · exact ⟨i + 1, by omega, by omega, hf, h2⟩
  · rintro ⟨x, q1, q2, q3, q4⟩
    refine (e.mpr ?_).elim id (fun h9 => absurd h9 e0)
    by_cases hx : x = i + 1
    · subst hx; exact Or.inr q4
    · exact Or.inl ((h k a b).mpr ⟨x, q1, by omega, q3, q4⟩)
theorem set_outd (h : setP sr f i S) (hf : f (i + 1) ≤ 0) : setP sr f (i + 1) S := fun k a b => by
  rw [h k a b]
  constructor
  · rintro ⟨x, q1, q2, q3, q4⟩
    exact ⟨x, q1, by omega, q3, q4⟩
  · rintro ⟨x, q1, q2, q3, q4⟩
    by_cases hx : x = i + 1
    · subst hx; exact absurd hf q3
    · exact ⟨x, q1, by omega, q3, q4⟩
end SP
def zD (sr : Nat → Nat) (ar sh ht : Nat → Int32) (t : Int32) : Nat → Int32 := (oD sr ar sh ht (fun _ => 0) t).1
def zS (sr : Nat → Nat) (ar sh ht : Nat → Int32) (t : Int32) : Int32 := (oD sr ar sh ht (fun _ => 0) t).2
def zL (sr : Nat → Nat) (lo ar sh ht : Nat → Int32) (t : Int32) : Int32 := oL sr lo ar sh ht (fun _ => 0) (fun _ => 0) t
def zW (sr : Nat → Nat) (lo ar sh ht : Nat → Int32) (t : Int32) : Int32 := zS sr ar sh ht t + zL sr lo ar sh ht t
def pr9 (w ap : Int32) : Int32 := if 2 * w ≤ ap then 2 else 3
def lf9 (w ap s l : Int32) : Int32 := if w ≤ ap then s else ap - l
