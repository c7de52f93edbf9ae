/-! numbers of the law of p19: demand, houses without heat -/
theorem cold_eq {a t : Int32} (h1 : 0 ≤ a.toInt) (h2 : a.toInt ≤ 50) (h3 : -20 ≤ t.toInt) (h4 : t.toInt ≤ 30) : (if 18 ≤ t then 0 else a * (18 - t)) / 10 + (if (if 18 ≤ t then 0 else a * (18 - t)) - (if 18 ≤ t then 0 else a * (18 - t)) / 10 * 10 ≤ 0 then 0 else 1) = pWant a t := by
  unfold pWant
  by_cases h : 18 ≤ t
  · have h9 : ¬ t < 18 := by rw [Int32.le_iff_toInt_le] at h; rw [Int32.lt_iff_toInt_lt]; omega
    rw [if_pos h, if_neg h9]
    decide
  · have h9 : t < 18 := by rw [Int32.le_iff_toInt_le] at h; rw [Int32.lt_iff_toInt_lt]; omega
    rw [if_neg h, if_pos h9]
    have e18 : (18 : Int32).toInt = 18 := rfl
    have ht : t.toInt < 18 := by rw [Int32.lt_iff_toInt_lt] at h9; exact h9
    have e1 : (18 - t).toInt = 18 - t.toInt := by rw [i_sub (by omega) (by omega), e18]
    obtain ⟨A, hA⟩ : ∃ A : Nat, a.toInt = A := ⟨a.toInt.toNat, by omega⟩
    obtain ⟨B, hB⟩ : ∃ B : Nat, 18 - t.toInt = B := ⟨(18 - t.toInt).toNat, by omega⟩
    have ea : a = nI A := i_ext (by rw [nI_toInt (by omega)]; exact hA)
    have eb : 18 - t = nI B := i_ext (by rw [nI_toInt (by omega), e1]; exact hB)
    have hAB : A * B ≤ 50 * 38 := Nat.mul_le_mul (by omega) (by omega)
    rw [ea, eb, nI_mul (by omega) (by omega) (by omega)]
    obtain ⟨N, hN⟩ : ∃ N, N = A * B := ⟨_, rfl⟩
    rw [← hN] at hAB ⊢
    rw [show (10 : Int32) = nI 10 from rfl, show (9 : Int32) = nI 9 from rfl, nI_div (by omega) (by omega) (by omega), nI_mul (by omega) (by omega) (by omega), nI_sub (by omega) (by omega), nI_add, nI_div (by omega) (by omega) (by omega)]
    by_cases hr : N - N / 10 * 10 = 0
    · rw [hr, if_pos (by decide), Int32.add_zero]
      congr 1
      omega
    · rw [if_neg (fun h8 => hr (by rw [Int32.le_iff_toInt_le, nI_toInt (by omega), show (0 : Int32).toInt = 0 from rfl] at h8; omega)), nI_1]
      congr 1
      omega
theorem due_eq {ar h : Nat → Int32} : nFun ar h = dueF h ar 11 := by
  have K : ∀ n, itr (nStep ar h) 0 n = dueF h ar n := by
    intro n
    induction n with
    | zero => rfl
    | succ n ih =>
      show nStep ar h n (itr (nStep ar h) 0 n) = dueF h ar n + _
      rw [ih]
      unfold nStep
      by_cases h1 : ar (n + 1) ≤ 0
      · rw [if_pos h1, if_pos h1, Int32.add_zero]
      · rw [if_neg h1, if_neg h1]
        by_cases h2 : h (n + 1) = 0
        · rw [if_pos h2, if_pos h2]
        · rw [if_neg h2, if_neg h2, Int32.add_zero]
  exact K 11
