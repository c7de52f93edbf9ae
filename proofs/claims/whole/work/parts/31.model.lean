theorem iw_X5_thrown_X5 : ∀ w ∈ wsX50, w ∈ wsX5_thrown := by decide +kernel
set_option maxHeartbeats 4000000 in
set_option maxRecDepth 100000 in
theorem c_X5_thrown {l : Launch} {D : va_G} {cy : ClassId × ClassId × ClassId} (qo qF qL qA qE qH qB qS qP qC qT qD qR qX qG qM qU n : Nat) (th hh tt mc ml : Int32) : xM false l yX5_thrown wsX5_thrown ({ frames := 0, cells := 0, slots := 0, locals := 0 }) D cy [.ref qo] ([(qo, .inr (5, [.int th, .int hh, .int tt, .ref qF, .ref qL, .ref qA, .ref qE, .ref qH, .ref qB, .int (nI n), .ref qS, .ref qP, .ref qC, .int mc, .ref qT, .ref qD, .ref qR, .ref qX, .ref qG, .ref qM, .ref qU, .int ml]))]) (xQi D (fun r w => r = th ∧ w = [(qo, .inr (5, [.int th, .int hh, .int tt, .ref qF, .ref qL, .ref qA, .ref qE, .ref qH, .ref qB, .int (nI n), .ref qS, .ref qP, .ref qC, .int mc, .ref qT, .ref qD, .ref qR, .ref qX, .ref qG, .ref qM, .ref qU, .int ml]))])) 0 0 := by
  refine xM_of (X := [(qo, .inr (5, [.int th, .int hh, .int tt, .ref qF, .ref qL, .ref qA, .ref qE, .ref qH, .ref qB, .int (nI n), .ref qS, .ref qP, .ref qC, .int mc, .ref qT, .ref qD, .ref qR, .ref qX, .ref qG, .ref qM, .ref qU, .int ml]))]) (pl := []) (nL := 1) (ret := (some .int)) RX5 [(0, .ref qo)] (by decide +kernel) rfl rfl rfl (Nat.le_of_ble_eq_true rfl) (List.append_nil _).symm (fun p e s m args below meth c A C hname hT hZ => ?_)
  refine x_aload_n (q := 1) C 0 rfl dX5_thrown_0 rfl ?_
  refine x_get (q := 4) C (T := TX5) iw_X5_thrown_X5 rfl 0 0 rfl (by decide) rfl (by decide +kernel : Cond.fieldLink RX5 59 RX5 "thrown" "I" ∈ wsX5_thrown) rfl dX5_thrown_1 rfl ?_
  exact x_iret C .int rfl rfl (⟨rfl, rfl⟩) dX5_thrown_4 (Nat.le_of_ble_eq_true rfl) (Nat.le_of_ble_eq_true rfl)

set_option maxHeartbeats 4000000 in
set_option maxRecDepth 100000 in
/-- isIn -/
theorem c_X5_isIn {l : Launch} {D : va_G} {cy : ClassId × ClassId × ClassId} (x a b : Int32) : xM false l yX5_isIn wsX5_isIn ({ frames := 0, cells := 0, slots := 0, locals := 0 }) D cy [.int x, .int a, .int b] ([]) (xQi D (fun r w => r = pWithin x a b ∧ w = [])) 0 0 := by
  refine xM_of (X := []) (pl := []) (nL := 3) (ret := (some .boolean)) RX5 [(0, .int x), (1, .int a), (2, .int b)] (by decide +kernel) rfl rfl rfl (Nat.le_of_ble_eq_true rfl) (List.append_nil _).symm (fun p e s m args below meth c A C hname hT hZ => ?_)
  refine x_iload_n (q := 1) C 0 rfl dX5_isIn_0 rfl ?_
  refine x_iload_n (q := 2) C 1 rfl dX5_isIn_1 rfl ?_
  refine x_icmp_lt (q := 5) C 14 dX5_isIn_2 (by decide) rfl (fun c_2 => ?_) (fun c_2 => ?_)
  · refine x_iconst (q := 15) C 0 rfl dX5_isIn_14 rfl ?_
    exact x_iret C .boolean rfl rfl (⟨by simp [pWithin, c_2], rfl⟩) dX5_isIn_15 (Nat.le_of_ble_eq_true rfl) (Nat.le_of_ble_eq_true rfl)
  · refine x_iload_n (q := 6) C 0 rfl dX5_isIn_5 rfl ?_
    refine x_iload_n (q := 7) C 2 rfl dX5_isIn_6 rfl ?_
    refine x_icmp_gt (q := 10) C 14 dX5_isIn_7 (by decide) rfl (fun c_7 => ?_) (fun c_7 => ?_)
    · refine x_iconst (q := 15) C 0 rfl dX5_isIn_14 rfl ?_
      exact x_iret C .boolean rfl rfl (⟨by simp [pWithin, c_2, c_7], rfl⟩) dX5_isIn_15 (Nat.le_of_ble_eq_true rfl) (Nat.le_of_ble_eq_true rfl)
    · refine x_iconst (q := 11) C 1 rfl dX5_isIn_10 rfl ?_
      refine x_goto C 15 dX5_isIn_11 (by decide) ?_
      exact x_iret C .boolean rfl rfl (⟨by simp [pWithin, c_2, c_7], rfl⟩) dX5_isIn_15 (Nat.le_of_ble_eq_true rfl) (Nat.le_of_ble_eq_true rfl)

set_option maxHeartbeats 4000000 in
set_option maxRecDepth 100000 in
/-- isHouse -/
theorem c_X5_isHouse {l : Launch} {D : va_G} {cy : ClassId × ClassId × ClassId} (x : Int32) : xM false l yX5_isHouse wsX5_isHouse ({ frames := 1, cells := 0, slots := 0, locals := 22 }) D cy [.int x] ([]) (xQi D (fun r w => r = pHouse x ∧ w = [])) 0 0 := by
  refine xM_of (X := []) (pl := []) (nL := 1) (ret := (some .boolean)) RX5 [(0, .int x)] (by decide +kernel) rfl rfl rfl (Nat.le_of_ble_eq_true rfl) (List.append_nil _).symm (fun p e s m args below meth c A C hname hT hZ => ?_)
  refine x_iload_n (q := 1) C 0 rfl dX5_isHouse_0 rfl ?_
  refine x_iconst (q := 2) C 1 rfl dX5_isHouse_1 rfl ?_
  refine x_bipush (q := 4) C 11 rfl dX5_isHouse_2 rfl ?_
  refine x_CiP (q := 7) C [] [] (cx := []) (wr := []) (st := []) rfl rfl rfl rfl (by decide) (fun H locs ls hP hPc hDc hS hFc hl => x_runS C (As := [.int x, .int 1, .int 11]) (c_X5_isIn x 1 11) (va_cwS 3 C.2.2.2.2.2.1 gX5_isHouse_X5_isIn rfl rfl rfl (by decide +kernel) ⟨Nat.le_of_ble_eq_true rfl, Nat.le_of_ble_eq_true rfl⟩) rfl rfl (Nat.le_of_ble_eq_true rfl) dX5_isHouse_4 ⟨Nat.le_of_ble_eq_true rfl, Nat.le_of_ble_eq_true rfl⟩ (fun h => absurd h (by decide)) hP hPc hDc hS hFc hl) (k := 0) (n := 0) rfl rfl rfl (fun r_4 w1 hw => ?_)
  obtain ⟨rfl, rfl⟩ := hw
  refine x_ord [] [] rfl rfl ?_
  exact x_iret C .boolean rfl (by simp only [pWithin]; split; rfl; split <;> rfl) (⟨pHouse_eq x, rfl⟩) dX5_isHouse_7 (Nat.le_of_ble_eq_true rfl) (Nat.le_of_ble_eq_true rfl)

set_option maxHeartbeats 4000000 in
set_option maxRecDepth 100000 in
/-- isTemperature -/
theorem c_X5_isTemperature {l : Launch} {D : va_G} {cy : ClassId × ClassId × ClassId} (t : Int32) : xM false l yX5_isTemperature wsX5_isTemperature ({ frames := 1, cells := 0, slots := 0, locals := 22 }) D cy [.int t] ([]) (xQi D (fun r w => r = pWithin t (-20) 30 ∧ w = [])) 0 0 := by
  refine xM_of (X := []) (pl := []) (nL := 1) (ret := (some .boolean)) RX5 [(0, .int t)] (by decide +kernel) rfl rfl rfl (Nat.le_of_ble_eq_true rfl) (List.append_nil _).symm (fun p e s m args below meth c A C hname hT hZ => ?_)
  refine x_iload_n (q := 1) C 0 rfl dX5_isTemperature_0 rfl ?_
  refine x_bipush (q := 3) C (-20) rfl dX5_isTemperature_1 rfl ?_
  refine x_bipush (q := 5) C 30 rfl dX5_isTemperature_3 rfl ?_
  refine x_CiP (q := 8) C [] [] (cx := []) (wr := []) (st := []) rfl rfl rfl rfl (by decide) (fun H locs ls hP hPc hDc hS hFc hl => x_runS C (As := [.int t, .int (-20), .int 30]) (c_X5_isIn t (-20) 30) (va_cwS 3 C.2.2.2.2.2.1 gX5_isTemperature_X5_isIn rfl rfl rfl (by decide +kernel) ⟨Nat.le_of_ble_eq_true rfl, Nat.le_of_ble_eq_true rfl⟩) rfl rfl (Nat.le_of_ble_eq_true rfl) dX5_isTemperature_5 ⟨Nat.le_of_ble_eq_true rfl, Nat.le_of_ble_eq_true rfl⟩ (fun h => absurd h (by decide)) hP hPc hDc hS hFc hl) (k := 0) (n := 0) rfl rfl rfl (fun r_5 w1 hw => ?_)
  obtain ⟨rfl, rfl⟩ := hw
  refine x_ord [] [] rfl rfl ?_
  exact x_iret C .boolean rfl (by simp only [pWithin]; split; rfl; split <;> rfl) (⟨rfl, rfl⟩) dX5_isTemperature_8 (Nat.le_of_ble_eq_true rfl) (Nat.le_of_ble_eq_true rfl)

set_option maxHeartbeats 4000000 in
set_option maxRecDepth 100000 in
/-- need -/
theorem c_X5_need {l : Launch} {D : va_G} {cy : ClassId × ClassId × ClassId} (a t : Int32) : xM false l yX5_need wsX5_need ({ frames := 0, cells := 0, slots := 0, locals := 0 }) D cy [.int a, .int t] ([]) (xQi D (fun r w => r = pWant a t ∧ w = [])) 0 0 := by
  refine xM_of (X := []) (pl := []) (nL := 2) (ret := (some .int)) RX5 [(0, .int a), (1, .int t)] (by decide +kernel) rfl rfl rfl (Nat.le_of_ble_eq_true rfl) (List.append_nil _).symm (fun p e s m args below meth c A C hname hT hZ => ?_)
  refine x_iload_n (q := 1) C 1 rfl dX5_need_0 rfl ?_
  refine x_bipush (q := 3) C 18 rfl dX5_need_1 rfl ?_
  refine x_icmp_lt (q := 6) C 10 dX5_need_3 (by decide) rfl (fun c_3 => ?_) (fun c_3 => ?_)
  · refine x_iload_n (q := 11) C 0 rfl dX5_need_10 rfl ?_
    refine x_bipush (q := 13) C 18 rfl dX5_need_11 rfl ?_
    refine x_iload_n (q := 14) C 1 rfl dX5_need_13 rfl ?_
    refine x_isub (q := 15) C (18 - t) (rfl) dX5_need_14 rfl ?_
    refine x_imul (q := 16) C (a * (18 - t)) (rfl) dX5_need_15 rfl ?_
    refine x_bipush (q := 18) C 9 rfl dX5_need_16 rfl ?_
    refine x_iadd (q := 19) C ((a * (18 - t)) + 9) (rfl) dX5_need_18 rfl ?_
    refine x_bipush (q := 21) C 10 rfl dX5_need_19 rfl ?_
    refine x_idiv (q := 22) C (((a * (18 - t)) + 9) / 10) (rfl) (by decide) dX5_need_21 rfl ?_
    exact x_iret C .int rfl rfl (⟨by simp [pWant, c_3], rfl⟩) dX5_need_22 (Nat.le_of_ble_eq_true rfl) (Nat.le_of_ble_eq_true rfl)
  · refine x_iconst (q := 7) C 0 rfl dX5_need_6 rfl ?_
    refine x_goto C 22 dX5_need_7 (by decide) ?_
    exact x_iret C .int rfl rfl (⟨by simp [pWant, c_3], rfl⟩) dX5_need_22 (Nat.le_of_ble_eq_true rfl) (Nat.le_of_ble_eq_true rfl)

theorem iw_X5_holds_X5 : ∀ w ∈ wsX50, w ∈ wsX5_holds := by decide +kernel
set_option maxHeartbeats 4000000 in
set_option maxRecDepth 100000 in
theorem c_X5_holds {l : Launch} {D : va_G} {cy : ClassId × ClassId × ClassId} (qo qF qL qA qE qH qB qS qP qC qT qD qR qX qG qM qU n : Nat) (th hh tt mc ml : Int32) (x : Int32) : xM false l yX5_holds wsX5_holds ({ frames := 0, cells := 0, slots := 0, locals := 0 }) D cy [.ref qo, .int x] ([(qo, .inr (5, [.int th, .int hh, .int tt, .ref qF, .ref qL, .ref qA, .ref qE, .ref qH, .ref qB, .int (nI n), .ref qS, .ref qP, .ref qC, .int mc, .ref qT, .ref qD, .ref qR, .ref qX, .ref qG, .ref qM, .ref qU, .int ml]))]) (xQi D (fun r w => r = pHolds x ∧ w = [(qo, .inr (5, [.int x, .int hh, .int tt, .ref qF, .ref qL, .ref qA, .ref qE, .ref qH, .ref qB, .int (nI n), .ref qS, .ref qP, .ref qC, .int mc, .ref qT, .ref qD, .ref qR, .ref qX, .ref qG, .ref qM, .ref qU, .int ml]))])) 0 0 := by
  refine xM_of (X := [(qo, .inr (5, [.int th, .int hh, .int tt, .ref qF, .ref qL, .ref qA, .ref qE, .ref qH, .ref qB, .int (nI n), .ref qS, .ref qP, .ref qC, .int mc, .ref qT, .ref qD, .ref qR, .ref qX, .ref qG, .ref qM, .ref qU, .int ml]))]) (pl := []) (nL := 2) (ret := (some .boolean)) RX5 [(0, .ref qo), (1, .int x)] (by decide +kernel) rfl rfl rfl (Nat.le_of_ble_eq_true rfl) (List.append_nil _).symm (fun p e s m args below meth c A C hname hT hZ => ?_)
  refine x_aload_n (q := 1) C 0 rfl dX5_holds_0 rfl ?_
  refine x_iload_n (q := 2) C 1 rfl dX5_holds_1 rfl ?_
  refine x_put (q := 5) C (T := TX5) iw_X5_holds_X5 tyX5 tyX5_ok nmX5 rfl 0 0 [(qo, .inr (5, [.int x, .int hh, .int tt, .ref qF, .ref qL, .ref qA, .ref qE, .ref qH, .ref qB, .int (nI n), .ref qS, .ref qP, .ref qC, .int mc, .ref qT, .ref qD, .ref qR, .ref qX, .ref qG, .ref qM, .ref qU, .int ml]))] rfl rfl (by decide) rfl (by decide +kernel : Cond.fieldLink RX5 59 RX5 "thrown" "I" ∈ wsX5_holds) rfl .int (by decide +kernel) rfl rfl (Nat.le_of_ble_eq_true rfl) dX5_holds_2 rfl ?_
  refine x_iload_n (q := 6) C 1 rfl dX5_holds_5 rfl ?_
  refine x_if_ne (q := 9) C 13 dX5_holds_6 (by decide) rfl (fun c_6 => ?_) (fun c_6 => ?_)
  · refine x_iconst (q := 14) C 0 rfl dX5_holds_13 rfl ?_
    exact x_iret C .boolean rfl rfl (⟨by simp [pHolds, c_6], rfl⟩) dX5_holds_14 (Nat.le_of_ble_eq_true rfl) (Nat.le_of_ble_eq_true rfl)
  · refine x_iconst (q := 10) C 1 rfl dX5_holds_9 rfl ?_
    refine x_goto C 14 dX5_holds_10 (by decide) ?_
    exact x_iret C .boolean rfl rfl (⟨by simp [pHolds, c_6], rfl⟩) dX5_holds_14 (Nat.le_of_ble_eq_true rfl) (Nat.le_of_ble_eq_true rfl)

theorem iw_X5_hours_X5 : ∀ w ∈ wsX50, w ∈ wsX5_hours := by decide +kernel
set_option maxHeartbeats 4000000 in
set_option maxRecDepth 100000 in
theorem c_X5_hours {l : Launch} {D : va_G} {cy : ClassId × ClassId × ClassId} (qo qF qL qA qE qH qB qS qP qC qT qD qR qX qG qM qU n : Nat) (th hh tt mc ml : Int32) : xM false l yX5_hours wsX5_hours ({ frames := 0, cells := 0, slots := 0, locals := 0 }) D cy [.ref qo] ([(qo, .inr (5, [.int th, .int hh, .int tt, .ref qF, .ref qL, .ref qA, .ref qE, .ref qH, .ref qB, .int (nI n), .ref qS, .ref qP, .ref qC, .int mc, .ref qT, .ref qD, .ref qR, .ref qX, .ref qG, .ref qM, .ref qU, .int ml]))]) (xQi D (fun r w => r = hh ∧ w = [(qo, .inr (5, [.int 0, .int hh, .int tt, .ref qF, .ref qL, .ref qA, .ref qE, .ref qH, .ref qB, .int (nI n), .ref qS, .ref qP, .ref qC, .int mc, .ref qT, .ref qD, .ref qR, .ref qX, .ref qG, .ref qM, .ref qU, .int ml]))])) 0 0 := by
  refine xM_of (X := [(qo, .inr (5, [.int th, .int hh, .int tt, .ref qF, .ref qL, .ref qA, .ref qE, .ref qH, .ref qB, .int (nI n), .ref qS, .ref qP, .ref qC, .int mc, .ref qT, .ref qD, .ref qR, .ref qX, .ref qG, .ref qM, .ref qU, .int ml]))]) (pl := []) (nL := 1) (ret := (some .int)) RX5 [(0, .ref qo)] (by decide +kernel) rfl rfl rfl (Nat.le_of_ble_eq_true rfl) (List.append_nil _).symm (fun p e s m args below meth c A C hname hT hZ => ?_)
  refine x_aload_n (q := 1) C 0 rfl dX5_hours_0 rfl ?_
  refine x_iconst (q := 2) C 0 rfl dX5_hours_1 rfl ?_
  refine x_put (q := 5) C (T := TX5) iw_X5_hours_X5 tyX5 tyX5_ok nmX5 rfl 0 0 [(qo, .inr (5, [.int 0, .int hh, .int tt, .ref qF, .ref qL, .ref qA, .ref qE, .ref qH, .ref qB, .int (nI n), .ref qS, .ref qP, .ref qC, .int mc, .ref qT, .ref qD, .ref qR, .ref qX, .ref qG, .ref qM, .ref qU, .int ml]))] rfl rfl (by decide) rfl (by decide +kernel : Cond.fieldLink RX5 59 RX5 "thrown" "I" ∈ wsX5_hours) rfl .int (by decide +kernel) rfl rfl (Nat.le_of_ble_eq_true rfl) dX5_hours_2 rfl ?_
  refine x_aload_n (q := 6) C 0 rfl dX5_hours_5 rfl ?_
  refine x_get (q := 9) C (T := TX5) iw_X5_hours_X5 rfl 0 1 rfl (by decide) rfl (by decide +kernel : Cond.fieldLink RX5 71 RX5 "hours" "I" ∈ wsX5_hours) rfl dX5_hours_6 rfl ?_
  exact x_iret C .int rfl rfl (⟨rfl, rfl⟩) dX5_hours_9 (Nat.le_of_ble_eq_true rfl) (Nat.le_of_ble_eq_true rfl)

theorem iw_X5_losses_X5 : ∀ w ∈ wsX50, w ∈ wsX5_losses := by decide +kernel
set_option maxHeartbeats 4000000 in
set_option maxRecDepth 100000 in
theorem c_X5_losses {l : Launch} {D : va_G} {cy : ClassId × ClassId × ClassId} (qo qF qL qA qE qH qB qS qP qC qT qD qR qX qG qM qU n : Nat) (th hh tt mc ml : Int32) : xM false l yX5_losses wsX5_losses ({ frames := 0, cells := 0, slots := 0, locals := 0 }) D cy [.ref qo] ([(qo, .inr (5, [.int th, .int hh, .int tt, .ref qF, .ref qL, .ref qA, .ref qE, .ref qH, .ref qB, .int (nI n), .ref qS, .ref qP, .ref qC, .int mc, .ref qT, .ref qD, .ref qR, .ref qX, .ref qG, .ref qM, .ref qU, .int ml]))]) (xQi D (fun r w => r = ml ∧ w = [(qo, .inr (5, [.int 0, .int hh, .int tt, .ref qF, .ref qL, .ref qA, .ref qE, .ref qH, .ref qB, .int (nI n), .ref qS, .ref qP, .ref qC, .int mc, .ref qT, .ref qD, .ref qR, .ref qX, .ref qG, .ref qM, .ref qU, .int ml]))])) 0 0 := by
  refine xM_of (X := [(qo, .inr (5, [.int th, .int hh, .int tt, .ref qF, .ref qL, .ref qA, .ref qE, .ref qH, .ref qB, .int (nI n), .ref qS, .ref qP, .ref qC, .int mc, .ref qT, .ref qD, .ref qR, .ref qX, .ref qG, .ref qM, .ref qU, .int ml]))]) (pl := []) (nL := 1) (ret := (some .int)) RX5 [(0, .ref qo)] (by decide +kernel) rfl rfl rfl (Nat.le_of_ble_eq_true rfl) (List.append_nil _).symm (fun p e s m args below meth c A C hname hT hZ => ?_)
  refine x_aload_n (q := 1) C 0 rfl dX5_losses_0 rfl ?_
  refine x_iconst (q := 2) C 0 rfl dX5_losses_1 rfl ?_
  refine x_put (q := 5) C (T := TX5) iw_X5_losses_X5 tyX5 tyX5_ok nmX5 rfl 0 0 [(qo, .inr (5, [.int 0, .int hh, .int tt, .ref qF, .ref qL, .ref qA, .ref qE, .ref qH, .ref qB, .int (nI n), .ref qS, .ref qP, .ref qC, .int mc, .ref qT, .ref qD, .ref qR, .ref qX, .ref qG, .ref qM, .ref qU, .int ml]))] rfl rfl (by decide) rfl (by decide +kernel : Cond.fieldLink RX5 59 RX5 "thrown" "I" ∈ wsX5_losses) rfl .int (by decide +kernel) rfl rfl (Nat.le_of_ble_eq_true rfl) dX5_losses_2 rfl ?_
  refine x_aload_n (q := 6) C 0 rfl dX5_losses_5 rfl ?_
  refine x_get (q := 9) C (T := TX5) iw_X5_losses_X5 rfl 0 21 rfl (by decide) rfl (by decide +kernel : Cond.fieldLink RX5 97 RX5 "losses" "I" ∈ wsX5_losses) rfl dX5_losses_6 rfl ?_
  exact x_iret C .int rfl rfl (⟨rfl, rfl⟩) dX5_losses_9 (Nat.le_of_ble_eq_true rfl) (Nat.le_of_ble_eq_true rfl)

theorem iw_X5_cost_X5 : ∀ w ∈ wsX50, w ∈ wsX5_cost := by decide +kernel
set_option maxHeartbeats 4000000 in
set_option maxRecDepth 100000 in
theorem c_X5_cost {l : Launch} {D : va_G} {cy : ClassId × ClassId × ClassId} (qo qF qL qA qE qH qB qS qP qC qT qD qR qX qG qM qU n : Nat) (th hh tt mc ml : Int32) : xM false l yX5_cost wsX5_cost ({ frames := 0, cells := 0, slots := 0, locals := 0 }) D cy [.ref qo] ([(qo, .inr (5, [.int th, .int hh, .int tt, .ref qF, .ref qL, .ref qA, .ref qE, .ref qH, .ref qB, .int (nI n), .ref qS, .ref qP, .ref qC, .int mc, .ref qT, .ref qD, .ref qR, .ref qX, .ref qG, .ref qM, .ref qU, .int ml]))]) (xQi D (fun r w => r = mc ∧ w = [(qo, .inr (5, [.int 0, .int hh, .int tt, .ref qF, .ref qL, .ref qA, .ref qE, .ref qH, .ref qB, .int (nI n), .ref qS, .ref qP, .ref qC, .int mc, .ref qT, .ref qD, .ref qR, .ref qX, .ref qG, .ref qM, .ref qU, .int ml]))])) 0 0 := by
  refine xM_of (X := [(qo, .inr (5, [.int th, .int hh, .int tt, .ref qF, .ref qL, .ref qA, .ref qE, .ref qH, .ref qB, .int (nI n), .ref qS, .ref qP, .ref qC, .int mc, .ref qT, .ref qD, .ref qR, .ref qX, .ref qG, .ref qM, .ref qU, .int ml]))]) (pl := []) (nL := 1) (ret := (some .int)) RX5 [(0, .ref qo)] (by decide +kernel) rfl rfl rfl (Nat.le_of_ble_eq_true rfl) (List.append_nil _).symm (fun p e s m args below meth c A C hname hT hZ => ?_)
  refine x_aload_n (q := 1) C 0 rfl dX5_cost_0 rfl ?_
  refine x_iconst (q := 2) C 0 rfl dX5_cost_1 rfl ?_
  refine x_put (q := 5) C (T := TX5) iw_X5_cost_X5 tyX5 tyX5_ok nmX5 rfl 0 0 [(qo, .inr (5, [.int 0, .int hh, .int tt, .ref qF, .ref qL, .ref qA, .ref qE, .ref qH, .ref qB, .int (nI n), .ref qS, .ref qP, .ref qC, .int mc, .ref qT, .ref qD, .ref qR, .ref qX, .ref qG, .ref qM, .ref qU, .int ml]))] rfl rfl (by decide) rfl (by decide +kernel : Cond.fieldLink RX5 59 RX5 "thrown" "I" ∈ wsX5_cost) rfl .int (by decide +kernel) rfl rfl (Nat.le_of_ble_eq_true rfl) dX5_cost_2 rfl ?_
  refine x_aload_n (q := 6) C 0 rfl dX5_cost_5 rfl ?_
  refine x_get (q := 9) C (T := TX5) iw_X5_cost_X5 rfl 0 13 rfl (by decide) rfl (by decide +kernel : Cond.fieldLink RX5 94 RX5 "cost" "I" ∈ wsX5_cost) rfl dX5_cost_6 rfl ?_
  exact x_iret C .int rfl rfl (⟨rfl, rfl⟩) dX5_cost_9 (Nat.le_of_ble_eq_true rfl) (Nat.le_of_ble_eq_true rfl)

theorem iw_X5_heats_X5 : ∀ w ∈ wsX50, w ∈ wsX5_heats := by decide +kernel
set_option maxHeartbeats 4000000 in
set_option maxRecDepth 100000 in
theorem c_X5_heats {l : Launch} {D : va_G} {cy : ClassId × ClassId × ClassId} (qo qF qL qA qE qH qB qS qP qC qT qD qR qX qG qM qU n : Nat) (th hh tt mc ml : Int32) (sr : Nat → Nat) (sh ht : Nat → Int32) (hsr : ∀ j, 1 ≤ j → j < 12 → sr j < j) : xM false l yX5_heats wsX5_heats ({ frames := 0, cells := 0, slots := 0, locals := 0 }) D cy [.ref qo] ([(qo, .inr (5, [.int th, .int hh, .int tt, .ref qF, .ref qL, .ref qA, .ref qE, .ref qH, .ref qB, .int (nI n), .ref qS, .ref qP, .ref qC, .int mc, .ref qT, .ref qD, .ref qR, .ref qX, .ref qG, .ref qM, .ref qU, .int ml])), (qF, .inl (cy.1, 12, .inl (fun i => nI (sr i)))), (qH, .inl (cy.1, 12, .inl sh)), (qT, .inl (cy.2.1, 12, .inl ht))]) (xQv D (fun w => w = [(qo, .inr (5, [.int th, .int hh, .int tt, .ref qF, .ref qL, .ref qA, .ref qE, .ref qH, .ref qB, .int (nI n), .ref qS, .ref qP, .ref qC, .int mc, .ref qT, .ref qD, .ref qR, .ref qX, .ref qG, .ref qM, .ref qU, .int ml])), (qF, .inl (cy.1, 12, .inl (fun i => nI (sr i)))), (qH, .inl (cy.1, 12, .inl sh)), (qT, .inl (cy.2.1, 12, .inl (mhFun sr sh ht)))])) 0 0 := by
  refine xM_of (X := [(qo, .inr (5, [.int th, .int hh, .int tt, .ref qF, .ref qL, .ref qA, .ref qE, .ref qH, .ref qB, .int (nI n), .ref qS, .ref qP, .ref qC, .int mc, .ref qT, .ref qD, .ref qR, .ref qX, .ref qG, .ref qM, .ref qU, .int ml])), (qF, .inl (cy.1, 12, .inl (fun i => nI (sr i)))), (qH, .inl (cy.1, 12, .inl sh)), (qT, .inl (cy.2.1, 12, .inl ht))]) (pl := []) (nL := 2) (ret := none) RX5 [(0, .ref qo)] (by decide +kernel) rfl rfl rfl (Nat.le_of_ble_eq_true rfl) (List.append_nil _).symm (fun p e s m args below meth c A C hname hT hZ => ?_)
  refine x_aload_n (q := 1) C 0 rfl dX5_heats_0 rfl ?_
  refine x_get (q := 4) C (T := TX5) iw_X5_heats_X5 rfl 0 14 rfl (by decide) rfl (by decide +kernel : Cond.fieldLink RX5 37 RX5 "hasHeat" "[Z" ∈ wsX5_heats) rfl dX5_heats_1 rfl ?_
  refine x_iconst (q := 5) C 0 rfl dX5_heats_4 rfl ?_
  refine x_iconst (q := 6) C 1 rfl dX5_heats_5 rfl ?_
  refine x_zastN (q := 7) C 0 3 (upd ht 0 1) [(qo, .inr (5, [.int th, .int hh, .int tt, .ref qF, .ref qL, .ref qA, .ref qE, .ref qH, .ref qB, .int (nI n), .ref qS, .ref qP, .ref qC, .int mc, .ref qT, .ref qD, .ref qR, .ref qX, .ref qG, .ref qM, .ref qU, .int ml])), (qF, .inl (cy.1, 12, .inl (fun i => nI (sr i)))), (qH, .inl (cy.1, 12, .inl sh)), (qT, .inl (cy.2.1, 12, .inl (upd ht 0 1)))] rfl rfl (by omega) (by omega) (congrArg _ vpz1) rfl dX5_heats_6 rfl ?_
  refine x_iconst (q := 8) C 1 rfl dX5_heats_7 rfl ?_
  refine x_istore_n (q := 9) C [(1, .int 1), (0, .ref qo)] dX5_heats_8 (by decide) rfl rfl ?_
  refine x_less [0, 1] [(1, .int 1), (0, .ref qo)] rfl ?_
  refine x_up (fun j => [(qo, .inr (5, [.int th, .int hh, .int tt, .ref qF, .ref qL, .ref qA, .ref qE, .ref qH, .ref qB, .int (nI n), .ref qS, .ref qP, .ref qC, .int mc, .ref qT, .ref qD, .ref qR, .ref qX, .ref qG, .ref qM, .ref qU, .int ml])), (qF, .inl (cy.1, 12, .inl (fun i => nI (sr i)))), (qH, .inl (cy.1, 12, .inl sh)), (qT, .inl (cy.2.1, 12, .inl (itr (mhStep sr sh) (upd ht 0 1) j)))]) (fun j => [(1, .int (nI (j + 1))), (0, .ref qo)]) 11 rfl rfl (fun j h_j ih_j => ?_) ?_
  · refine x_iload_n (q := 10) C 0 rfl dX5_heats_9 rfl ?_
    refine x_bipush (q := 12) C 12 rfl dX5_heats_10 rfl ?_
    refine x_icmp_ge_f (q := 15) C 55 dX5_heats_12 (by decide) rfl (nI_ge (a := (j + 1)) (b := 12) (by omega) (by omega)) ?_
    refine x_aload_n (q := 16) C 1 rfl dX5_heats_15 rfl ?_
    refine x_get (q := 19) C (T := TX5) iw_X5_heats_X5 rfl 0 14 rfl (by decide) rfl (by decide +kernel : Cond.fieldLink RX5 37 RX5 "hasHeat" "[Z" ∈ wsX5_heats) rfl dX5_heats_16 rfl ?_
    refine x_iload_n (q := 20) C 0 rfl dX5_heats_19 rfl ?_
    refine x_aload_n (q := 21) C 1 rfl dX5_heats_20 rfl ?_
    refine x_get (q := 24) C (T := TX5) iw_X5_heats_X5 rfl 0 7 rfl (by decide) rfl (by decide +kernel : Cond.fieldLink RX5 22 RX5 "shut" "[I" ∈ wsX5_heats) rfl dX5_heats_21 rfl ?_
    refine x_iload_n (q := 25) C 0 rfl dX5_heats_24 rfl ?_
    refine x_ialdN (q := 26) C (j + 1) 2 (sh (j + 1)) rfl rfl (by omega) (by omega) rfl dX5_heats_25 rfl ?_
    refine x_if_ne (q := 29) C 47 dX5_heats_26 (by decide) rfl (fun c_26 => ?_) (fun c_26 => ?_)
    · refine x_iconst (q := 48) C 0 rfl dX5_heats_47 rfl ?_
      refine x_zastN (q := 49) C (j + 1) 3 (upd (itr (mhStep sr sh) (upd ht 0 1) j) (j + 1) 0) [(qo, .inr (5, [.int th, .int hh, .int tt, .ref qF, .ref qL, .ref qA, .ref qE, .ref qH, .ref qB, .int (nI n), .ref qS, .ref qP, .ref qC, .int mc, .ref qT, .ref qD, .ref qR, .ref qX, .ref qG, .ref qM, .ref qU, .int ml])), (qF, .inl (cy.1, 12, .inl (fun i => nI (sr i)))), (qH, .inl (cy.1, 12, .inl sh)), (qT, .inl (cy.2.1, 12, .inl (upd (itr (mhStep sr sh) (upd ht 0 1) j) (j + 1) 0)))] rfl rfl (by omega) (by omega) (congrArg _ vpz0) rfl dX5_heats_48 rfl ?_
      refine x_iinc (q := 52) C 0 (nI ((j + 1) + 1)) [(1, .int (nI ((j + 1) + 1))), (0, .ref qo)] dX5_heats_49 rfl (nI_1 _) (by decide) rfl rfl ?_
      refine x_goto C 9 dX5_heats_52 (by decide) ?_
      refine x_less [0, 1] [(1, .int (nI ((j + 1) + 1))), (0, .ref qo)] rfl ?_
      have e9 : itr (mhStep sr sh) (upd ht 0 1) (j + 1) = upd (itr (mhStep sr sh) (upd ht 0 1) j) (j + 1) 0 := by
        show mhStep sr sh j (itr (mhStep sr sh) (upd ht 0 1) (j)) = _
        simp [mhStep, c_26]
      refine x_less [0, 1] [(1, .int (nI ((j + 1) + 1))), (0, .ref qo)] (by first | rfl | (rw [e9]; rfl)) ?_
      refine x_world (X' := [(qo, .inr (5, [.int th, .int hh, .int tt, .ref qF, .ref qL, .ref qA, .ref qE, .ref qH, .ref qB, .int (nI n), .ref qS, .ref qP, .ref qC, .int mc, .ref qT, .ref qD, .ref qR, .ref qX, .ref qG, .ref qM, .ref qU, .int ml])), (qF, .inl (cy.1, 12, .inl (fun i => nI (sr i)))), (qH, .inl (cy.1, 12, .inl sh)), (qT, .inl (cy.2.1, 12, .inl (itr (mhStep sr sh) (upd ht 0 1) (j + 1))))]) (pl' := []) (by first | rfl | rw [e9]) ?_
      exact ih_j
    · refine x_aload_n (q := 30) C 1 rfl dX5_heats_29 rfl ?_
      refine x_get (q := 33) C (T := TX5) iw_X5_heats_X5 rfl 0 14 rfl (by decide) rfl (by decide +kernel : Cond.fieldLink RX5 37 RX5 "hasHeat" "[Z" ∈ wsX5_heats) rfl dX5_heats_30 rfl ?_
      refine x_aload_n (q := 34) C 1 rfl dX5_heats_33 rfl ?_
      refine x_get (q := 37) C (T := TX5) iw_X5_heats_X5 rfl 0 3 rfl (by decide) rfl (by decide +kernel : Cond.fieldLink RX5 7 RX5 "from" "[I" ∈ wsX5_heats) rfl dX5_heats_34 rfl ?_
      refine x_iload_n (q := 38) C 0 rfl dX5_heats_37 rfl ?_
      refine x_ialdN (q := 39) C (j + 1) 1 (nI (sr (j + 1))) rfl rfl (by omega) (by omega) rfl dX5_heats_38 rfl ?_
      refine x_zaldN (q := 40) C (sr (j + 1)) 3 ((itr (mhStep sr sh) (upd ht 0 1) j) (sr (j + 1))) rfl rfl (by have := hsr (j + 1) (by omega) (by omega); omega) (by omega) rfl dX5_heats_39 rfl ?_
      refine x_if_eq (q := 43) C 47 dX5_heats_40 (by decide) rfl (fun c_40 => ?_) (fun c_40 => ?_)
      · refine x_iconst (q := 48) C 0 rfl dX5_heats_47 rfl ?_
        refine x_zastN (q := 49) C (j + 1) 3 (upd (itr (mhStep sr sh) (upd ht 0 1) j) (j + 1) 0) [(qo, .inr (5, [.int th, .int hh, .int tt, .ref qF, .ref qL, .ref qA, .ref qE, .ref qH, .ref qB, .int (nI n), .ref qS, .ref qP, .ref qC, .int mc, .ref qT, .ref qD, .ref qR, .ref qX, .ref qG, .ref qM, .ref qU, .int ml])), (qF, .inl (cy.1, 12, .inl (fun i => nI (sr i)))), (qH, .inl (cy.1, 12, .inl sh)), (qT, .inl (cy.2.1, 12, .inl (upd (itr (mhStep sr sh) (upd ht 0 1) j) (j + 1) 0)))] rfl rfl (by omega) (by omega) (congrArg _ vpz0) rfl dX5_heats_48 rfl ?_
        refine x_iinc (q := 52) C 0 (nI ((j + 1) + 1)) [(1, .int (nI ((j + 1) + 1))), (0, .ref qo)] dX5_heats_49 rfl (nI_1 _) (by decide) rfl rfl ?_
        refine x_goto C 9 dX5_heats_52 (by decide) ?_
        refine x_less [0, 1] [(1, .int (nI ((j + 1) + 1))), (0, .ref qo)] rfl ?_
        have e9 : itr (mhStep sr sh) (upd ht 0 1) (j + 1) = upd (itr (mhStep sr sh) (upd ht 0 1) j) (j + 1) 0 := by
          show mhStep sr sh j (itr (mhStep sr sh) (upd ht 0 1) (j)) = _
          simp [mhStep, c_26, c_40]
        refine x_less [0, 1] [(1, .int (nI ((j + 1) + 1))), (0, .ref qo)] (by first | rfl | (rw [e9]; rfl)) ?_
        refine x_world (X' := [(qo, .inr (5, [.int th, .int hh, .int tt, .ref qF, .ref qL, .ref qA, .ref qE, .ref qH, .ref qB, .int (nI n), .ref qS, .ref qP, .ref qC, .int mc, .ref qT, .ref qD, .ref qR, .ref qX, .ref qG, .ref qM, .ref qU, .int ml])), (qF, .inl (cy.1, 12, .inl (fun i => nI (sr i)))), (qH, .inl (cy.1, 12, .inl sh)), (qT, .inl (cy.2.1, 12, .inl (itr (mhStep sr sh) (upd ht 0 1) (j + 1))))]) (pl' := []) (by first | rfl | rw [e9]) ?_
        exact ih_j
      · refine x_iconst (q := 44) C 1 rfl dX5_heats_43 rfl ?_
        refine x_goto C 48 dX5_heats_44 (by decide) ?_
        refine x_zastN (q := 49) C (j + 1) 3 (upd (itr (mhStep sr sh) (upd ht 0 1) j) (j + 1) 1) [(qo, .inr (5, [.int th, .int hh, .int tt, .ref qF, .ref qL, .ref qA, .ref qE, .ref qH, .ref qB, .int (nI n), .ref qS, .ref qP, .ref qC, .int mc, .ref qT, .ref qD, .ref qR, .ref qX, .ref qG, .ref qM, .ref qU, .int ml])), (qF, .inl (cy.1, 12, .inl (fun i => nI (sr i)))), (qH, .inl (cy.1, 12, .inl sh)), (qT, .inl (cy.2.1, 12, .inl (upd (itr (mhStep sr sh) (upd ht 0 1) j) (j + 1) 1)))] rfl rfl (by omega) (by omega) (congrArg _ vpz1) rfl dX5_heats_48 rfl ?_
        refine x_iinc (q := 52) C 0 (nI ((j + 1) + 1)) [(1, .int (nI ((j + 1) + 1))), (0, .ref qo)] dX5_heats_49 rfl (nI_1 _) (by decide) rfl rfl ?_
        refine x_goto C 9 dX5_heats_52 (by decide) ?_
        refine x_less [0, 1] [(1, .int (nI ((j + 1) + 1))), (0, .ref qo)] rfl ?_
        have e9 : itr (mhStep sr sh) (upd ht 0 1) (j + 1) = upd (itr (mhStep sr sh) (upd ht 0 1) j) (j + 1) 1 := by
          show mhStep sr sh j (itr (mhStep sr sh) (upd ht 0 1) (j)) = _
          simp [mhStep, c_26, c_40]
        refine x_less [0, 1] [(1, .int (nI ((j + 1) + 1))), (0, .ref qo)] (by first | rfl | (rw [e9]; rfl)) ?_
        refine x_world (X' := [(qo, .inr (5, [.int th, .int hh, .int tt, .ref qF, .ref qL, .ref qA, .ref qE, .ref qH, .ref qB, .int (nI n), .ref qS, .ref qP, .ref qC, .int mc, .ref qT, .ref qD, .ref qR, .ref qX, .ref qG, .ref qM, .ref qU, .int ml])), (qF, .inl (cy.1, 12, .inl (fun i => nI (sr i)))), (qH, .inl (cy.1, 12, .inl sh)), (qT, .inl (cy.2.1, 12, .inl (itr (mhStep sr sh) (upd ht 0 1) (j + 1))))]) (pl' := []) (by first | rfl | rw [e9]) ?_
        exact ih_j
  · refine x_iload_n (q := 10) C 0 rfl dX5_heats_9 rfl ?_
    refine x_bipush (q := 12) C 12 rfl dX5_heats_10 rfl ?_
    refine x_icmp_ge_t C 55 dX5_heats_12 (by decide) (nI_le (a := 12) (b := (11 + 1)) (by omega) (by omega)) ?_
    exact x_vret C rfl (rfl) dX5_heats_55 (Nat.le_of_ble_eq_true rfl) (Nat.le_of_ble_eq_true rfl)

theorem iw_X5_lays_X5 : ∀ w ∈ wsX50, w ∈ wsX5_lays := by decide +kernel
set_option maxHeartbeats 4000000 in
set_option maxRecDepth 100000 in
theorem c_X5_lays {l : Launch} {D : va_G} {cy : ClassId × ClassId × ClassId} (qo qF qL qA qE qH qB qS qP qC qT qD qR qX qG qM qU n : Nat) (th hh tt mc ml : Int32) (sr : Nat → Nat) (lo ar sh ht dm ca : Nat → Int32) (t : Int32) (hsr : ∀ j, 1 ≤ j → j < 12 → sr j < j) : xM false l yX5_lays wsX5_lays ({ frames := 1, cells := 0, slots := 0, locals := 21 }) D cy [.ref qo, .int t] ([(qo, .inr (5, [.int th, .int hh, .int tt, .ref qF, .ref qL, .ref qA, .ref qE, .ref qH, .ref qB, .int (nI n), .ref qS, .ref qP, .ref qC, .int mc, .ref qT, .ref qD, .ref qR, .ref qX, .ref qG, .ref qM, .ref qU, .int ml])), (qF, .inl (cy.1, 12, .inl (fun i => nI (sr i)))), (qL, .inl (cy.1, 12, .inl lo)), (qA, .inl (cy.1, 12, .inl ar)), (qH, .inl (cy.1, 12, .inl sh)), (qT, .inl (cy.2.1, 12, .inl ht)), (qD, .inl (cy.1, 12, .inl dm)), (qR, .inl (cy.2.1, 12, .inl ca))]) (xQi D (fun r w => r = (yC sr lo ar sh ht dm ca t).2 ∧ w = [(qo, .inr (5, [.int th, .int hh, .int tt, .ref qF, .ref qL, .ref qA, .ref qE, .ref qH, .ref qB, .int (nI n), .ref qS, .ref qP, .ref qC, .int mc, .ref qT, .ref qD, .ref qR, .ref qX, .ref qG, .ref qM, .ref qU, .int ml])), (qF, .inl (cy.1, 12, .inl (fun i => nI (sr i)))), (qL, .inl (cy.1, 12, .inl lo)), (qA, .inl (cy.1, 12, .inl ar)), (qH, .inl (cy.1, 12, .inl sh)), (qT, .inl (cy.2.1, 12, .inl (yH sr sh ht))), (qD, .inl (cy.1, 12, .inl ((yM sr ar sh ht dm ca t).1))), (qR, .inl (cy.2.1, 12, .inl ((yC sr lo ar sh ht dm ca t).1)))])) 0 0 := by
  refine xM_of (X := [(qo, .inr (5, [.int th, .int hh, .int tt, .ref qF, .ref qL, .ref qA, .ref qE, .ref qH, .ref qB, .int (nI n), .ref qS, .ref qP, .ref qC, .int mc, .ref qT, .ref qD, .ref qR, .ref qX, .ref qG, .ref qM, .ref qU, .int ml])), (qF, .inl (cy.1, 12, .inl (fun i => nI (sr i)))), (qL, .inl (cy.1, 12, .inl lo)), (qA, .inl (cy.1, 12, .inl ar)), (qH, .inl (cy.1, 12, .inl sh)), (qT, .inl (cy.2.1, 12, .inl ht)), (qD, .inl (cy.1, 12, .inl dm)), (qR, .inl (cy.2.1, 12, .inl ca))]) (pl := []) (nL := 4) (ret := (some .int)) RX5 [(0, .ref qo), (1, .int t)] (by decide +kernel) rfl rfl rfl (Nat.le_of_ble_eq_true rfl) (List.append_nil _).symm (fun p e s m args below meth c A C hname hT hZ => ?_)
  refine x_iconst (q := 1) C 0 rfl dX5_lays_0 rfl ?_
  refine x_istore_n (q := 2) C [(2, .int 0), (0, .ref qo), (1, .int t)] dX5_lays_1 (by decide) rfl rfl ?_
  refine x_aload_n (q := 3) C 1 rfl dX5_lays_2 rfl ?_
  refine x_CvP (q := 6) C [0, 1, 4, 5] [2, 3, 6, 7] (cx := [(qo, .inr (5, [.int th, .int hh, .int tt, .ref qF, .ref qL, .ref qA, .ref qE, .ref qH, .ref qB, .int (nI n), .ref qS, .ref qP, .ref qC, .int mc, .ref qT, .ref qD, .ref qR, .ref qX, .ref qG, .ref qM, .ref qU, .int ml])), (qF, .inl (cy.1, 12, .inl (fun i => nI (sr i)))), (qH, .inl (cy.1, 12, .inl sh)), (qT, .inl (cy.2.1, 12, .inl ht))]) (wr := [(qL, .inl (cy.1, 12, .inl lo)), (qA, .inl (cy.1, 12, .inl ar)), (qD, .inl (cy.1, 12, .inl dm)), (qR, .inl (cy.2.1, 12, .inl ca))]) (st := []) rfl rfl rfl rfl (by decide) (fun H locs ls hP hPc hDc hS hFc hl => x_runV C (As := []) (c_X5_heats qo qF qL qA qE qH qB qS qP qC qT qD qR qX qG qM qU n th hh tt mc ml sr sh ht hsr) (cwV 0 C.2.2.2.2.2.1 gX5_lays_X5_heats rfl rfl rfl (by decide +kernel) ⟨Nat.le_of_ble_eq_true rfl, Nat.le_of_ble_eq_true rfl⟩) rfl 0 rfl rfl rfl (Nat.le_of_ble_eq_true rfl) dX5_lays_3 ⟨Nat.le_of_ble_eq_true rfl, Nat.le_of_ble_eq_true rfl⟩ (fun h => absurd h (by decide)) hP hPc hDc hS hFc hl) (k := 0) (n := 0) rfl rfl rfl (fun w1 hw => ?_)
  obtain rfl := hw
  refine x_ord [4, 5, 0, 1, 6, 7, 2, 3] [(qo, .inr (5, [.int th, .int hh, .int tt, .ref qF, .ref qL, .ref qA, .ref qE, .ref qH, .ref qB, .int (nI n), .ref qS, .ref qP, .ref qC, .int mc, .ref qT, .ref qD, .ref qR, .ref qX, .ref qG, .ref qM, .ref qU, .int ml])), (qF, .inl (cy.1, 12, .inl (fun i => nI (sr i)))), (qL, .inl (cy.1, 12, .inl lo)), (qA, .inl (cy.1, 12, .inl ar)), (qH, .inl (cy.1, 12, .inl sh)), (qT, .inl (cy.2.1, 12, .inl (mhFun sr sh ht))), (qD, .inl (cy.1, 12, .inl dm)), (qR, .inl (cy.2.1, 12, .inl ca))] rfl rfl ?_
  refine x_iconst (q := 7) C 1 rfl dX5_lays_6 rfl ?_
  refine x_istore_n (q := 8) C [(3, .int 1), (2, .int 0), (0, .ref qo), (1, .int t)] dX5_lays_7 (by decide) rfl rfl ?_
  refine x_less [0, 1, 2, 3] [(3, .int 1), (2, .int 0), (0, .ref qo), (1, .int t)] rfl ?_
  refine x_up (fun j => [(qo, .inr (5, [.int th, .int hh, .int tt, .ref qF, .ref qL, .ref qA, .ref qE, .ref qH, .ref qB, .int (nI n), .ref qS, .ref qP, .ref qC, .int mc, .ref qT, .ref qD, .ref qR, .ref qX, .ref qG, .ref qM, .ref qU, .int ml])), (qF, .inl (cy.1, 12, .inl (fun i => nI (sr i)))), (qL, .inl (cy.1, 12, .inl lo)), (qA, .inl (cy.1, 12, .inl ar)), (qH, .inl (cy.1, 12, .inl sh)), (qT, .inl (cy.2.1, 12, .inl (mhFun sr sh ht))), (qD, .inl (cy.1, 12, .inl ((itr (m1Step (mhFun sr sh ht) ar t) (dm, ca, 0) j).1))), (qR, .inl (cy.2.1, 12, .inl ((itr (m1Step (mhFun sr sh ht) ar t) (dm, ca, 0) j).2.1)))]) (fun j => [(3, .int (nI (j + 1))), (2, .int ((itr (m1Step (mhFun sr sh ht) ar t) (dm, ca, 0) j).2.2)), (0, .ref qo), (1, .int t)]) 11 rfl rfl (fun j h_j ih_j => ?_) ?_
  · refine x_iload_n (q := 9) C 0 rfl dX5_lays_8 rfl ?_
    refine x_bipush (q := 11) C 12 rfl dX5_lays_9 rfl ?_
    refine x_icmp_ge_f (q := 14) C 78 dX5_lays_11 (by decide) rfl (nI_ge (a := (j + 1)) (b := 12) (by omega) (by omega)) ?_
    refine x_aload_n (q := 15) C 2 rfl dX5_lays_14 rfl ?_
    refine x_get (q := 18) C (T := TX5) iw_X5_lays_X5 rfl 0 15 rfl (by decide) rfl (by decide +kernel : Cond.fieldLink RX5 41 RX5 "demands" "[I" ∈ wsX5_lays) rfl dX5_lays_15 rfl ?_
    refine x_iload_n (q := 19) C 0 rfl dX5_lays_18 rfl ?_
    refine x_aload_n (q := 20) C 2 rfl dX5_lays_19 rfl ?_
    refine x_get (q := 23) C (T := TX5) iw_X5_lays_X5 rfl 0 14 rfl (by decide) rfl (by decide +kernel : Cond.fieldLink RX5 37 RX5 "hasHeat" "[Z" ∈ wsX5_lays) rfl dX5_lays_20 rfl ?_
    refine x_iload_n (q := 24) C 0 rfl dX5_lays_23 rfl ?_
    refine x_zaldN (q := 25) C (j + 1) 5 ((mhFun sr sh ht) (j + 1)) rfl rfl (by omega) (by omega) rfl dX5_lays_24 rfl ?_
    refine x_if_eq (q := 28) C 41 dX5_lays_25 (by decide) rfl (fun c_25 => ?_) (fun c_25 => ?_)
    · refine x_iconst (q := 42) C 0 rfl dX5_lays_41 rfl ?_
      refine x_iastN (q := 43) C (j + 1) 6 (upd ((itr (m1Step (mhFun sr sh ht) ar t) (dm, ca, 0) j).1) (j + 1) 0) [(qo, .inr (5, [.int th, .int hh, .int tt, .ref qF, .ref qL, .ref qA, .ref qE, .ref qH, .ref qB, .int (nI n), .ref qS, .ref qP, .ref qC, .int mc, .ref qT, .ref qD, .ref qR, .ref qX, .ref qG, .ref qM, .ref qU, .int ml])), (qF, .inl (cy.1, 12, .inl (fun i => nI (sr i)))), (qL, .inl (cy.1, 12, .inl lo)), (qA, .inl (cy.1, 12, .inl ar)), (qH, .inl (cy.1, 12, .inl sh)), (qT, .inl (cy.2.1, 12, .inl (mhFun sr sh ht))), (qD, .inl (cy.1, 12, .inl (upd ((itr (m1Step (mhFun sr sh ht) ar t) (dm, ca, 0) j).1) (j + 1) 0))), (qR, .inl (cy.2.1, 12, .inl ((itr (m1Step (mhFun sr sh ht) ar t) (dm, ca, 0) j).2.1)))] rfl rfl (by omega) (by omega) rfl rfl dX5_lays_42 rfl ?_
      refine x_aload_n (q := 44) C 2 rfl dX5_lays_43 rfl ?_
      refine x_get (q := 47) C (T := TX5) iw_X5_lays_X5 rfl 0 16 rfl (by decide) rfl (by decide +kernel : Cond.fieldLink RX5 44 RX5 "carries" "[Z" ∈ wsX5_lays) rfl dX5_lays_44 rfl ?_
      refine x_iload_n (q := 48) C 0 rfl dX5_lays_47 rfl ?_
      refine x_aload_n (q := 49) C 2 rfl dX5_lays_48 rfl ?_
      refine x_get (q := 52) C (T := TX5) iw_X5_lays_X5 rfl 0 15 rfl (by decide) rfl (by decide +kernel : Cond.fieldLink RX5 41 RX5 "demands" "[I" ∈ wsX5_lays) rfl dX5_lays_49 rfl ?_
      refine x_iload_n (q := 53) C 0 rfl dX5_lays_52 rfl ?_
      refine x_ialdN (q := 54) C (j + 1) 6 0 rfl rfl (by omega) (by omega) pk_us dX5_lays_53 rfl ?_
      refine x_if_le_t C 61 dX5_lays_54 (by decide) (by decide) ?_
      refine x_iconst (q := 62) C 0 rfl dX5_lays_61 rfl ?_
      refine x_zastN (q := 63) C (j + 1) 7 (upd ((itr (m1Step (mhFun sr sh ht) ar t) (dm, ca, 0) j).2.1) (j + 1) 0) [(qo, .inr (5, [.int th, .int hh, .int tt, .ref qF, .ref qL, .ref qA, .ref qE, .ref qH, .ref qB, .int (nI n), .ref qS, .ref qP, .ref qC, .int mc, .ref qT, .ref qD, .ref qR, .ref qX, .ref qG, .ref qM, .ref qU, .int ml])), (qF, .inl (cy.1, 12, .inl (fun i => nI (sr i)))), (qL, .inl (cy.1, 12, .inl lo)), (qA, .inl (cy.1, 12, .inl ar)), (qH, .inl (cy.1, 12, .inl sh)), (qT, .inl (cy.2.1, 12, .inl (mhFun sr sh ht))), (qD, .inl (cy.1, 12, .inl (upd ((itr (m1Step (mhFun sr sh ht) ar t) (dm, ca, 0) j).1) (j + 1) 0))), (qR, .inl (cy.2.1, 12, .inl (upd ((itr (m1Step (mhFun sr sh ht) ar t) (dm, ca, 0) j).2.1) (j + 1) 0)))] rfl rfl (by omega) (by omega) (congrArg _ vpz0) rfl dX5_lays_62 rfl ?_
      refine x_iload_n (q := 64) C 1 rfl dX5_lays_63 rfl ?_
      refine x_aload_n (q := 65) C 2 rfl dX5_lays_64 rfl ?_
      refine x_get (q := 68) C (T := TX5) iw_X5_lays_X5 rfl 0 15 rfl (by decide) rfl (by decide +kernel : Cond.fieldLink RX5 41 RX5 "demands" "[I" ∈ wsX5_lays) rfl dX5_lays_65 rfl ?_
      refine x_iload_n (q := 69) C 0 rfl dX5_lays_68 rfl ?_
      refine x_ialdN (q := 70) C (j + 1) 6 0 rfl rfl (by omega) (by omega) pk_us dX5_lays_69 rfl ?_
      refine x_iadd (q := 71) C (((itr (m1Step (mhFun sr sh ht) ar t) (dm, ca, 0) j).2.2) + 0) (rfl) dX5_lays_70 rfl ?_
      refine x_istore_n (q := 72) C [(2, .int (((itr (m1Step (mhFun sr sh ht) ar t) (dm, ca, 0) j).2.2) + 0)), (3, .int (nI (j + 1))), (0, .ref qo), (1, .int t)] dX5_lays_71 (by decide) rfl rfl ?_
      refine x_iinc (q := 75) C 1 (nI ((j + 1) + 1)) [(3, .int (nI ((j + 1) + 1))), (2, .int (((itr (m1Step (mhFun sr sh ht) ar t) (dm, ca, 0) j).2.2) + 0)), (0, .ref qo), (1, .int t)] dX5_lays_72 rfl (nI_1 _) (by decide) rfl rfl ?_
      refine x_goto C 8 dX5_lays_75 (by decide) ?_
      refine x_less [0, 1, 2, 3] [(3, .int (nI ((j + 1) + 1))), (2, .int (((itr (m1Step (mhFun sr sh ht) ar t) (dm, ca, 0) j).2.2) + 0)), (0, .ref qo), (1, .int t)] rfl ?_
      have e9 : (itr (m1Step (mhFun sr sh ht) ar t) (dm, ca, 0) (j + 1)) = (upd ((itr (m1Step (mhFun sr sh ht) ar t) (dm, ca, 0) j).1) (j + 1) 0, upd ((itr (m1Step (mhFun sr sh ht) ar t) (dm, ca, 0) j).2.1) (j + 1) 0, ((itr (m1Step (mhFun sr sh ht) ar t) (dm, ca, 0) j).2.2) + 0) := by
        show m1Step (mhFun sr sh ht) ar t j (itr (m1Step (mhFun sr sh ht) ar t) (dm, ca, 0) j) = _
        simp only [m1Step, mV, if_pos c_25]
      refine x_less [0, 1, 2, 3] [(3, .int (nI ((j + 1) + 1))), (2, .int ((itr (m1Step (mhFun sr sh ht) ar t) (dm, ca, 0) (j + 1)).2.2)), (0, .ref qo), (1, .int t)] (by first | rfl | (rw [e9]; rfl)) ?_
      refine x_world (X' := [(qo, .inr (5, [.int th, .int hh, .int tt, .ref qF, .ref qL, .ref qA, .ref qE, .ref qH, .ref qB, .int (nI n), .ref qS, .ref qP, .ref qC, .int mc, .ref qT, .ref qD, .ref qR, .ref qX, .ref qG, .ref qM, .ref qU, .int ml])), (qF, .inl (cy.1, 12, .inl (fun i => nI (sr i)))), (qL, .inl (cy.1, 12, .inl lo)), (qA, .inl (cy.1, 12, .inl ar)), (qH, .inl (cy.1, 12, .inl sh)), (qT, .inl (cy.2.1, 12, .inl (mhFun sr sh ht))), (qD, .inl (cy.1, 12, .inl ((itr (m1Step (mhFun sr sh ht) ar t) (dm, ca, 0) (j + 1)).1))), (qR, .inl (cy.2.1, 12, .inl ((itr (m1Step (mhFun sr sh ht) ar t) (dm, ca, 0) (j + 1)).2.1)))]) (pl' := []) (by first | rfl | rw [e9]) ?_
      exact ih_j
    · refine x_aload_n (q := 29) C 2 rfl dX5_lays_28 rfl ?_
      refine x_get (q := 32) C (T := TX5) iw_X5_lays_X5 rfl 0 5 rfl (by decide) rfl (by decide +kernel : Cond.fieldLink RX5 16 RX5 "areas" "[I" ∈ wsX5_lays) rfl dX5_lays_29 rfl ?_
      refine x_iload_n (q := 33) C 0 rfl dX5_lays_32 rfl ?_
      refine x_ialdN (q := 34) C (j + 1) 3 (ar (j + 1)) rfl rfl (by omega) (by omega) rfl dX5_lays_33 rfl ?_
      refine x_iload_n (q := 35) C 3 rfl dX5_lays_34 rfl ?_
      refine x_CiP (q := 38) C [] [0, 1, 2, 3, 4, 5, 6, 7] (cx := []) (wr := [(qo, .inr (5, [.int th, .int hh, .int tt, .ref qF, .ref qL, .ref qA, .ref qE, .ref qH, .ref qB, .int (nI n), .ref qS, .ref qP, .ref qC, .int mc, .ref qT, .ref qD, .ref qR, .ref qX, .ref qG, .ref qM, .ref qU, .int ml])), (qF, .inl (cy.1, 12, .inl (fun i => nI (sr i)))), (qL, .inl (cy.1, 12, .inl lo)), (qA, .inl (cy.1, 12, .inl ar)), (qH, .inl (cy.1, 12, .inl sh)), (qT, .inl (cy.2.1, 12, .inl (mhFun sr sh ht))), (qD, .inl (cy.1, 12, .inl ((itr (m1Step (mhFun sr sh ht) ar t) (dm, ca, 0) j).1))), (qR, .inl (cy.2.1, 12, .inl ((itr (m1Step (mhFun sr sh ht) ar t) (dm, ca, 0) j).2.1)))]) (st := [.int (nI (j + 1)), .ref qD]) rfl rfl rfl rfl (by decide) (fun H locs ls hP hPc hDc hS hFc hl => x_runS C (As := [.int (ar (j + 1)), .int t]) (c_X5_need (ar (j + 1)) t) (va_cwS 2 C.2.2.2.2.2.1 gX5_lays_X5_need rfl rfl rfl (by decide +kernel) ⟨Nat.le_of_ble_eq_true rfl, Nat.le_of_ble_eq_true rfl⟩) rfl rfl (Nat.le_of_ble_eq_true rfl) dX5_lays_35 ⟨Nat.le_of_ble_eq_true rfl, Nat.le_of_ble_eq_true rfl⟩ (fun h => absurd h (by decide)) hP hPc hDc hS hFc hl) (k := 0) (n := 0) rfl rfl rfl (fun r_35 w1 hw => ?_)
      obtain ⟨rfl, rfl⟩ := hw
      refine x_ord [0, 1, 2, 3, 4, 5, 6, 7] [(qo, .inr (5, [.int th, .int hh, .int tt, .ref qF, .ref qL, .ref qA, .ref qE, .ref qH, .ref qB, .int (nI n), .ref qS, .ref qP, .ref qC, .int mc, .ref qT, .ref qD, .ref qR, .ref qX, .ref qG, .ref qM, .ref qU, .int ml])), (qF, .inl (cy.1, 12, .inl (fun i => nI (sr i)))), (qL, .inl (cy.1, 12, .inl lo)), (qA, .inl (cy.1, 12, .inl ar)), (qH, .inl (cy.1, 12, .inl sh)), (qT, .inl (cy.2.1, 12, .inl (mhFun sr sh ht))), (qD, .inl (cy.1, 12, .inl ((itr (m1Step (mhFun sr sh ht) ar t) (dm, ca, 0) j).1))), (qR, .inl (cy.2.1, 12, .inl ((itr (m1Step (mhFun sr sh ht) ar t) (dm, ca, 0) j).2.1)))] rfl rfl ?_
      refine x_goto C 42 dX5_lays_38 (by decide) ?_
      refine x_iastN (q := 43) C (j + 1) 6 (upd ((itr (m1Step (mhFun sr sh ht) ar t) (dm, ca, 0) j).1) (j + 1) (pWant (ar (j + 1)) t)) [(qo, .inr (5, [.int th, .int hh, .int tt, .ref qF, .ref qL, .ref qA, .ref qE, .ref qH, .ref qB, .int (nI n), .ref qS, .ref qP, .ref qC, .int mc, .ref qT, .ref qD, .ref qR, .ref qX, .ref qG, .ref qM, .ref qU, .int ml])), (qF, .inl (cy.1, 12, .inl (fun i => nI (sr i)))), (qL, .inl (cy.1, 12, .inl lo)), (qA, .inl (cy.1, 12, .inl ar)), (qH, .inl (cy.1, 12, .inl sh)), (qT, .inl (cy.2.1, 12, .inl (mhFun sr sh ht))), (qD, .inl (cy.1, 12, .inl (upd ((itr (m1Step (mhFun sr sh ht) ar t) (dm, ca, 0) j).1) (j + 1) (pWant (ar (j + 1)) t)))), (qR, .inl (cy.2.1, 12, .inl ((itr (m1Step (mhFun sr sh ht) ar t) (dm, ca, 0) j).2.1)))] rfl rfl (by omega) (by omega) rfl rfl dX5_lays_42 rfl ?_
      refine x_aload_n (q := 44) C 2 rfl dX5_lays_43 rfl ?_
      refine x_get (q := 47) C (T := TX5) iw_X5_lays_X5 rfl 0 16 rfl (by decide) rfl (by decide +kernel : Cond.fieldLink RX5 44 RX5 "carries" "[Z" ∈ wsX5_lays) rfl dX5_lays_44 rfl ?_
      refine x_iload_n (q := 48) C 0 rfl dX5_lays_47 rfl ?_
      refine x_aload_n (q := 49) C 2 rfl dX5_lays_48 rfl ?_
      refine x_get (q := 52) C (T := TX5) iw_X5_lays_X5 rfl 0 15 rfl (by decide) rfl (by decide +kernel : Cond.fieldLink RX5 41 RX5 "demands" "[I" ∈ wsX5_lays) rfl dX5_lays_49 rfl ?_
      refine x_iload_n (q := 53) C 0 rfl dX5_lays_52 rfl ?_
      refine x_ialdN (q := 54) C (j + 1) 6 (pWant (ar (j + 1)) t) rfl rfl (by omega) (by omega) pk_us dX5_lays_53 rfl ?_
      refine x_if_le (q := 57) C 61 dX5_lays_54 (by decide) rfl (fun c_54 => ?_) (fun c_54 => ?_)
      · refine x_iconst (q := 62) C 0 rfl dX5_lays_61 rfl ?_
        refine x_zastN (q := 63) C (j + 1) 7 (upd ((itr (m1Step (mhFun sr sh ht) ar t) (dm, ca, 0) j).2.1) (j + 1) 0) [(qo, .inr (5, [.int th, .int hh, .int tt, .ref qF, .ref qL, .ref qA, .ref qE, .ref qH, .ref qB, .int (nI n), .ref qS, .ref qP, .ref qC, .int mc, .ref qT, .ref qD, .ref qR, .ref qX, .ref qG, .ref qM, .ref qU, .int ml])), (qF, .inl (cy.1, 12, .inl (fun i => nI (sr i)))), (qL, .inl (cy.1, 12, .inl lo)), (qA, .inl (cy.1, 12, .inl ar)), (qH, .inl (cy.1, 12, .inl sh)), (qT, .inl (cy.2.1, 12, .inl (mhFun sr sh ht))), (qD, .inl (cy.1, 12, .inl (upd ((itr (m1Step (mhFun sr sh ht) ar t) (dm, ca, 0) j).1) (j + 1) (pWant (ar (j + 1)) t)))), (qR, .inl (cy.2.1, 12, .inl (upd ((itr (m1Step (mhFun sr sh ht) ar t) (dm, ca, 0) j).2.1) (j + 1) 0)))] rfl rfl (by omega) (by omega) (congrArg _ vpz0) rfl dX5_lays_62 rfl ?_
        refine x_iload_n (q := 64) C 1 rfl dX5_lays_63 rfl ?_
        refine x_aload_n (q := 65) C 2 rfl dX5_lays_64 rfl ?_
        refine x_get (q := 68) C (T := TX5) iw_X5_lays_X5 rfl 0 15 rfl (by decide) rfl (by decide +kernel : Cond.fieldLink RX5 41 RX5 "demands" "[I" ∈ wsX5_lays) rfl dX5_lays_65 rfl ?_
        refine x_iload_n (q := 69) C 0 rfl dX5_lays_68 rfl ?_
        refine x_ialdN (q := 70) C (j + 1) 6 (pWant (ar (j + 1)) t) rfl rfl (by omega) (by omega) pk_us dX5_lays_69 rfl ?_
        refine x_iadd (q := 71) C (((itr (m1Step (mhFun sr sh ht) ar t) (dm, ca, 0) j).2.2) + (pWant (ar (j + 1)) t)) (rfl) dX5_lays_70 rfl ?_
        refine x_istore_n (q := 72) C [(2, .int (((itr (m1Step (mhFun sr sh ht) ar t) (dm, ca, 0) j).2.2) + (pWant (ar (j + 1)) t))), (3, .int (nI (j + 1))), (0, .ref qo), (1, .int t)] dX5_lays_71 (by decide) rfl rfl ?_
        refine x_iinc (q := 75) C 1 (nI ((j + 1) + 1)) [(3, .int (nI ((j + 1) + 1))), (2, .int (((itr (m1Step (mhFun sr sh ht) ar t) (dm, ca, 0) j).2.2) + (pWant (ar (j + 1)) t))), (0, .ref qo), (1, .int t)] dX5_lays_72 rfl (nI_1 _) (by decide) rfl rfl ?_
        refine x_goto C 8 dX5_lays_75 (by decide) ?_
        refine x_less [0, 1, 2, 3] [(3, .int (nI ((j + 1) + 1))), (2, .int (((itr (m1Step (mhFun sr sh ht) ar t) (dm, ca, 0) j).2.2) + (pWant (ar (j + 1)) t))), (0, .ref qo), (1, .int t)] rfl ?_
        have e9 : (itr (m1Step (mhFun sr sh ht) ar t) (dm, ca, 0) (j + 1)) = (upd ((itr (m1Step (mhFun sr sh ht) ar t) (dm, ca, 0) j).1) (j + 1) (pWant (ar (j + 1)) t), upd ((itr (m1Step (mhFun sr sh ht) ar t) (dm, ca, 0) j).2.1) (j + 1) 0, ((itr (m1Step (mhFun sr sh ht) ar t) (dm, ca, 0) j).2.2) + (pWant (ar (j + 1)) t)) := by
          show m1Step (mhFun sr sh ht) ar t j (itr (m1Step (mhFun sr sh ht) ar t) (dm, ca, 0) j) = _
          simp only [m1Step, mV, if_neg c_25, if_pos c_54]
        refine x_less [0, 1, 2, 3] [(3, .int (nI ((j + 1) + 1))), (2, .int ((itr (m1Step (mhFun sr sh ht) ar t) (dm, ca, 0) (j + 1)).2.2)), (0, .ref qo), (1, .int t)] (by first | rfl | (rw [e9]; rfl)) ?_
        refine x_world (X' := [(qo, .inr (5, [.int th, .int hh, .int tt, .ref qF, .ref qL, .ref qA, .ref qE, .ref qH, .ref qB, .int (nI n), .ref qS, .ref qP, .ref qC, .int mc, .ref qT, .ref qD, .ref qR, .ref qX, .ref qG, .ref qM, .ref qU, .int ml])), (qF, .inl (cy.1, 12, .inl (fun i => nI (sr i)))), (qL, .inl (cy.1, 12, .inl lo)), (qA, .inl (cy.1, 12, .inl ar)), (qH, .inl (cy.1, 12, .inl sh)), (qT, .inl (cy.2.1, 12, .inl (mhFun sr sh ht))), (qD, .inl (cy.1, 12, .inl ((itr (m1Step (mhFun sr sh ht) ar t) (dm, ca, 0) (j + 1)).1))), (qR, .inl (cy.2.1, 12, .inl ((itr (m1Step (mhFun sr sh ht) ar t) (dm, ca, 0) (j + 1)).2.1)))]) (pl' := []) (by first | rfl | rw [e9]) ?_
        exact ih_j
      · refine x_iconst (q := 58) C 1 rfl dX5_lays_57 rfl ?_
        refine x_goto C 62 dX5_lays_58 (by decide) ?_
        refine x_zastN (q := 63) C (j + 1) 7 (upd ((itr (m1Step (mhFun sr sh ht) ar t) (dm, ca, 0) j).2.1) (j + 1) 1) [(qo, .inr (5, [.int th, .int hh, .int tt, .ref qF, .ref qL, .ref qA, .ref qE, .ref qH, .ref qB, .int (nI n), .ref qS, .ref qP, .ref qC, .int mc, .ref qT, .ref qD, .ref qR, .ref qX, .ref qG, .ref qM, .ref qU, .int ml])), (qF, .inl (cy.1, 12, .inl (fun i => nI (sr i)))), (qL, .inl (cy.1, 12, .inl lo)), (qA, .inl (cy.1, 12, .inl ar)), (qH, .inl (cy.1, 12, .inl sh)), (qT, .inl (cy.2.1, 12, .inl (mhFun sr sh ht))), (qD, .inl (cy.1, 12, .inl (upd ((itr (m1Step (mhFun sr sh ht) ar t) (dm, ca, 0) j).1) (j + 1) (pWant (ar (j + 1)) t)))), (qR, .inl (cy.2.1, 12, .inl (upd ((itr (m1Step (mhFun sr sh ht) ar t) (dm, ca, 0) j).2.1) (j + 1) 1)))] rfl rfl (by omega) (by omega) (congrArg _ vpz1) rfl dX5_lays_62 rfl ?_
        refine x_iload_n (q := 64) C 1 rfl dX5_lays_63 rfl ?_
        refine x_aload_n (q := 65) C 2 rfl dX5_lays_64 rfl ?_
        refine x_get (q := 68) C (T := TX5) iw_X5_lays_X5 rfl 0 15 rfl (by decide) rfl (by decide +kernel : Cond.fieldLink RX5 41 RX5 "demands" "[I" ∈ wsX5_lays) rfl dX5_lays_65 rfl ?_
        refine x_iload_n (q := 69) C 0 rfl dX5_lays_68 rfl ?_
        refine x_ialdN (q := 70) C (j + 1) 6 (pWant (ar (j + 1)) t) rfl rfl (by omega) (by omega) pk_us dX5_lays_69 rfl ?_
        refine x_iadd (q := 71) C (((itr (m1Step (mhFun sr sh ht) ar t) (dm, ca, 0) j).2.2) + (pWant (ar (j + 1)) t)) (rfl) dX5_lays_70 rfl ?_
        refine x_istore_n (q := 72) C [(2, .int (((itr (m1Step (mhFun sr sh ht) ar t) (dm, ca, 0) j).2.2) + (pWant (ar (j + 1)) t))), (3, .int (nI (j + 1))), (0, .ref qo), (1, .int t)] dX5_lays_71 (by decide) rfl rfl ?_
        refine x_iinc (q := 75) C 1 (nI ((j + 1) + 1)) [(3, .int (nI ((j + 1) + 1))), (2, .int (((itr (m1Step (mhFun sr sh ht) ar t) (dm, ca, 0) j).2.2) + (pWant (ar (j + 1)) t))), (0, .ref qo), (1, .int t)] dX5_lays_72 rfl (nI_1 _) (by decide) rfl rfl ?_
        refine x_goto C 8 dX5_lays_75 (by decide) ?_
        refine x_less [0, 1, 2, 3] [(3, .int (nI ((j + 1) + 1))), (2, .int (((itr (m1Step (mhFun sr sh ht) ar t) (dm, ca, 0) j).2.2) + (pWant (ar (j + 1)) t))), (0, .ref qo), (1, .int t)] rfl ?_
        have e9 : (itr (m1Step (mhFun sr sh ht) ar t) (dm, ca, 0) (j + 1)) = (upd ((itr (m1Step (mhFun sr sh ht) ar t) (dm, ca, 0) j).1) (j + 1) (pWant (ar (j + 1)) t), upd ((itr (m1Step (mhFun sr sh ht) ar t) (dm, ca, 0) j).2.1) (j + 1) 1, ((itr (m1Step (mhFun sr sh ht) ar t) (dm, ca, 0) j).2.2) + (pWant (ar (j + 1)) t)) := by
          show m1Step (mhFun sr sh ht) ar t j (itr (m1Step (mhFun sr sh ht) ar t) (dm, ca, 0) j) = _
          simp only [m1Step, mV, if_neg c_25, if_neg c_54]
        refine x_less [0, 1, 2, 3] [(3, .int (nI ((j + 1) + 1))), (2, .int ((itr (m1Step (mhFun sr sh ht) ar t) (dm, ca, 0) (j + 1)).2.2)), (0, .ref qo), (1, .int t)] (by first | rfl | (rw [e9]; rfl)) ?_
        refine x_world (X' := [(qo, .inr (5, [.int th, .int hh, .int tt, .ref qF, .ref qL, .ref qA, .ref qE, .ref qH, .ref qB, .int (nI n), .ref qS, .ref qP, .ref qC, .int mc, .ref qT, .ref qD, .ref qR, .ref qX, .ref qG, .ref qM, .ref qU, .int ml])), (qF, .inl (cy.1, 12, .inl (fun i => nI (sr i)))), (qL, .inl (cy.1, 12, .inl lo)), (qA, .inl (cy.1, 12, .inl ar)), (qH, .inl (cy.1, 12, .inl sh)), (qT, .inl (cy.2.1, 12, .inl (mhFun sr sh ht))), (qD, .inl (cy.1, 12, .inl ((itr (m1Step (mhFun sr sh ht) ar t) (dm, ca, 0) (j + 1)).1))), (qR, .inl (cy.2.1, 12, .inl ((itr (m1Step (mhFun sr sh ht) ar t) (dm, ca, 0) (j + 1)).2.1)))]) (pl' := []) (by first | rfl | rw [e9]) ?_
        exact ih_j
  · refine x_iload_n (q := 9) C 0 rfl dX5_lays_8 rfl ?_
    refine x_bipush (q := 11) C 12 rfl dX5_lays_9 rfl ?_
    refine x_icmp_ge_t C 78 dX5_lays_11 (by decide) (nI_le (a := 12) (b := (11 + 1)) (by omega) (by omega)) ?_
    refine x_bipush (q := 80) C 11 rfl dX5_lays_78 rfl ?_
    refine x_istore_n (q := 81) C [(3, .int 11), (2, .int ((itr (m1Step (mhFun sr sh ht) ar t) (dm, ca, 0) 11).2.2)), (0, .ref qo), (1, .int t)] dX5_lays_80 (by decide) rfl rfl ?_
    refine x_less [0, 1, 2, 3] [(3, .int 11), (2, .int ((itr (m1Step (mhFun sr sh ht) ar t) (dm, ca, 0) 11).2.2)), (0, .ref qo), (1, .int t)] rfl ?_
    refine x_up (fun j => [(qo, .inr (5, [.int th, .int hh, .int tt, .ref qF, .ref qL, .ref qA, .ref qE, .ref qH, .ref qB, .int (nI n), .ref qS, .ref qP, .ref qC, .int mc, .ref qT, .ref qD, .ref qR, .ref qX, .ref qG, .ref qM, .ref qU, .int ml])), (qF, .inl (cy.1, 12, .inl (fun i => nI (sr i)))), (qL, .inl (cy.1, 12, .inl lo)), (qA, .inl (cy.1, 12, .inl ar)), (qH, .inl (cy.1, 12, .inl sh)), (qT, .inl (cy.2.1, 12, .inl (mhFun sr sh ht))), (qD, .inl (cy.1, 12, .inl ((m1Fun (mhFun sr sh ht) ar t dm ca).1))), (qR, .inl (cy.2.1, 12, .inl ((itr (m2Step sr lo) ((m1Fun (mhFun sr sh ht) ar t dm ca).2.1, (m1Fun (mhFun sr sh ht) ar t dm ca).2.2) j).1)))]) (fun j => [(3, .int (nI (11 - j))), (2, .int ((itr (m2Step sr lo) ((m1Fun (mhFun sr sh ht) ar t dm ca).2.1, (m1Fun (mhFun sr sh ht) ar t dm ca).2.2) j).2)), (0, .ref qo), (1, .int t)]) 11 rfl rfl (fun j h_j ih_j => ?_) ?_
    · refine x_iload_n (q := 82) C 0 rfl dX5_lays_81 rfl ?_
      refine x_if_le_f (q := 85) C 152 dX5_lays_82 (by decide) rfl (nI_ge (a := 0) (b := (11 - j)) (by omega) (by omega)) ?_
      refine x_aload_n (q := 86) C 2 rfl dX5_lays_85 rfl ?_
      refine x_get (q := 89) C (T := TX5) iw_X5_lays_X5 rfl 0 16 rfl (by decide) rfl (by decide +kernel : Cond.fieldLink RX5 44 RX5 "carries" "[Z" ∈ wsX5_lays) rfl dX5_lays_86 rfl ?_
      refine x_aload_n (q := 90) C 2 rfl dX5_lays_89 rfl ?_
      refine x_get (q := 93) C (T := TX5) iw_X5_lays_X5 rfl 0 3 rfl (by decide) rfl (by decide +kernel : Cond.fieldLink RX5 7 RX5 "from" "[I" ∈ wsX5_lays) rfl dX5_lays_90 rfl ?_
      refine x_iload_n (q := 94) C 0 rfl dX5_lays_93 rfl ?_
      refine x_ialdN (q := 95) C (11 - j) 1 (nI (sr (11 - j))) rfl rfl (by omega) (by omega) rfl dX5_lays_94 rfl ?_
      refine x_aload_n (q := 96) C 2 rfl dX5_lays_95 rfl ?_
      refine x_get (q := 99) C (T := TX5) iw_X5_lays_X5 rfl 0 16 rfl (by decide) rfl (by decide +kernel : Cond.fieldLink RX5 44 RX5 "carries" "[Z" ∈ wsX5_lays) rfl dX5_lays_96 rfl ?_
      refine x_aload_n (q := 100) C 2 rfl dX5_lays_99 rfl ?_
      refine x_get (q := 103) C (T := TX5) iw_X5_lays_X5 rfl 0 3 rfl (by decide) rfl (by decide +kernel : Cond.fieldLink RX5 7 RX5 "from" "[I" ∈ wsX5_lays) rfl dX5_lays_100 rfl ?_
      refine x_iload_n (q := 104) C 0 rfl dX5_lays_103 rfl ?_
      refine x_ialdN (q := 105) C (11 - j) 1 (nI (sr (11 - j))) rfl rfl (by omega) (by omega) rfl dX5_lays_104 rfl ?_
      refine x_zaldN (q := 106) C (sr (11 - j)) 7 (((itr (m2Step sr lo) ((m1Fun (mhFun sr sh ht) ar t dm ca).2.1, (m1Fun (mhFun sr sh ht) ar t dm ca).2.2) j).1) (sr (11 - j))) rfl rfl (by have := hsr (11 - j) (by omega) (by omega); omega) (by omega) rfl dX5_lays_105 rfl ?_
      refine x_if_ne (q := 109) C 118 dX5_lays_106 (by decide) rfl (fun c_106 => ?_) (fun c_106 => ?_)
      · refine x_iconst (q := 119) C 1 rfl dX5_lays_118 rfl ?_
        refine x_goto C 123 dX5_lays_119 (by decide) ?_
        refine x_zastN (q := 124) C (sr (11 - j)) 7 (upd ((itr (m2Step sr lo) ((m1Fun (mhFun sr sh ht) ar t dm ca).2.1, (m1Fun (mhFun sr sh ht) ar t dm ca).2.2) j).1) (sr (11 - j)) 1) [(qo, .inr (5, [.int th, .int hh, .int tt, .ref qF, .ref qL, .ref qA, .ref qE, .ref qH, .ref qB, .int (nI n), .ref qS, .ref qP, .ref qC, .int mc, .ref qT, .ref qD, .ref qR, .ref qX, .ref qG, .ref qM, .ref qU, .int ml])), (qF, .inl (cy.1, 12, .inl (fun i => nI (sr i)))), (qL, .inl (cy.1, 12, .inl lo)), (qA, .inl (cy.1, 12, .inl ar)), (qH, .inl (cy.1, 12, .inl sh)), (qT, .inl (cy.2.1, 12, .inl (mhFun sr sh ht))), (qD, .inl (cy.1, 12, .inl ((m1Fun (mhFun sr sh ht) ar t dm ca).1))), (qR, .inl (cy.2.1, 12, .inl (upd ((itr (m2Step sr lo) ((m1Fun (mhFun sr sh ht) ar t dm ca).2.1, (m1Fun (mhFun sr sh ht) ar t dm ca).2.2) j).1) (sr (11 - j)) 1)))] rfl rfl (by have := hsr (11 - j) (by omega) (by omega); omega) (by omega) (congrArg _ vpz1) rfl dX5_lays_123 rfl ?_
        refine x_iload_n (q := 125) C 1 rfl dX5_lays_124 rfl ?_
        refine x_aload_n (q := 126) C 2 rfl dX5_lays_125 rfl ?_
        refine x_get (q := 129) C (T := TX5) iw_X5_lays_X5 rfl 0 16 rfl (by decide) rfl (by decide +kernel : Cond.fieldLink RX5 44 RX5 "carries" "[Z" ∈ wsX5_lays) rfl dX5_lays_126 rfl ?_
        refine x_iload_n (q := 130) C 0 rfl dX5_lays_129 rfl ?_
        refine x_zaldN (q := 131) C (11 - j) 7 ((upd ((itr (m2Step sr lo) ((m1Fun (mhFun sr sh ht) ar t dm ca).2.1, (m1Fun (mhFun sr sh ht) ar t dm ca).2.2) j).1) (sr (11 - j)) 1) (11 - j)) rfl rfl (by omega) (by omega) rfl dX5_lays_130 rfl ?_
        refine x_if_eq (q := 134) C 143 dX5_lays_131 (by decide) rfl (fun c_131 => ?_) (fun c_131 => ?_)
        · refine x_iconst (q := 144) C 0 rfl dX5_lays_143 rfl ?_
          refine x_iadd (q := 145) C (((itr (m2Step sr lo) ((m1Fun (mhFun sr sh ht) ar t dm ca).2.1, (m1Fun (mhFun sr sh ht) ar t dm ca).2.2) j).2) + 0) (rfl) dX5_lays_144 rfl ?_
          refine x_istore_n (q := 146) C [(2, .int (((itr (m2Step sr lo) ((m1Fun (mhFun sr sh ht) ar t dm ca).2.1, (m1Fun (mhFun sr sh ht) ar t dm ca).2.2) j).2) + 0)), (3, .int (nI (11 - j))), (0, .ref qo), (1, .int t)] dX5_lays_145 (by decide) rfl rfl ?_
          refine x_iinc (q := 149) C 1 (nI (11 - (j + 1))) [(3, .int (nI (11 - (j + 1)))), (2, .int (((itr (m2Step sr lo) ((m1Fun (mhFun sr sh ht) ar t dm ca).2.1, (m1Fun (mhFun sr sh ht) ar t dm ca).2.2) j).2) + 0)), (0, .ref qo), (1, .int t)] dX5_lays_146 rfl (nI_dn h_j) (by decide) rfl rfl ?_
          refine x_goto C 81 dX5_lays_149 (by decide) ?_
          refine x_less [0, 1, 2, 3] [(3, .int (nI (11 - (j + 1)))), (2, .int (((itr (m2Step sr lo) ((m1Fun (mhFun sr sh ht) ar t dm ca).2.1, (m1Fun (mhFun sr sh ht) ar t dm ca).2.2) j).2) + 0)), (0, .ref qo), (1, .int t)] rfl ?_
          have e9 : (itr (m2Step sr lo) ((m1Fun (mhFun sr sh ht) ar t dm ca).2.1, (m1Fun (mhFun sr sh ht) ar t dm ca).2.2) (j + 1)) = (upd ((itr (m2Step sr lo) ((m1Fun (mhFun sr sh ht) ar t dm ca).2.1, (m1Fun (mhFun sr sh ht) ar t dm ca).2.2) j).1) (sr (11 - j)) 1, ((itr (m2Step sr lo) ((m1Fun (mhFun sr sh ht) ar t dm ca).2.1, (m1Fun (mhFun sr sh ht) ar t dm ca).2.2) j).2) + 0) := by
            show m2Step sr lo j (itr (m2Step sr lo) ((m1Fun (mhFun sr sh ht) ar t dm ca).2.1, (m1Fun (mhFun sr sh ht) ar t dm ca).2.2) j) = _
            simp only [m2Step, m2C, if_neg c_106, if_pos c_131]
          refine x_less [0, 1, 2, 3] [(3, .int (nI (11 - (j + 1)))), (2, .int ((itr (m2Step sr lo) ((m1Fun (mhFun sr sh ht) ar t dm ca).2.1, (m1Fun (mhFun sr sh ht) ar t dm ca).2.2) (j + 1)).2)), (0, .ref qo), (1, .int t)] (by first | rfl | (rw [e9]; rfl)) ?_
          refine x_world (X' := [(qo, .inr (5, [.int th, .int hh, .int tt, .ref qF, .ref qL, .ref qA, .ref qE, .ref qH, .ref qB, .int (nI n), .ref qS, .ref qP, .ref qC, .int mc, .ref qT, .ref qD, .ref qR, .ref qX, .ref qG, .ref qM, .ref qU, .int ml])), (qF, .inl (cy.1, 12, .inl (fun i => nI (sr i)))), (qL, .inl (cy.1, 12, .inl lo)), (qA, .inl (cy.1, 12, .inl ar)), (qH, .inl (cy.1, 12, .inl sh)), (qT, .inl (cy.2.1, 12, .inl (mhFun sr sh ht))), (qD, .inl (cy.1, 12, .inl ((m1Fun (mhFun sr sh ht) ar t dm ca).1))), (qR, .inl (cy.2.1, 12, .inl ((itr (m2Step sr lo) ((m1Fun (mhFun sr sh ht) ar t dm ca).2.1, (m1Fun (mhFun sr sh ht) ar t dm ca).2.2) (j + 1)).1)))]) (pl' := []) (by first | rfl | rw [e9]) ?_
          exact ih_j
        · refine x_aload_n (q := 135) C 2 rfl dX5_lays_134 rfl ?_
          refine x_get (q := 138) C (T := TX5) iw_X5_lays_X5 rfl 0 4 rfl (by decide) rfl (by decide +kernel : Cond.fieldLink RX5 13 RX5 "loss" "[I" ∈ wsX5_lays) rfl dX5_lays_135 rfl ?_
          refine x_iload_n (q := 139) C 0 rfl dX5_lays_138 rfl ?_
          refine x_ialdN (q := 140) C (11 - j) 2 (lo (11 - j)) rfl rfl (by omega) (by omega) rfl dX5_lays_139 rfl ?_
          refine x_goto C 144 dX5_lays_140 (by decide) ?_
          refine x_iadd (q := 145) C (((itr (m2Step sr lo) ((m1Fun (mhFun sr sh ht) ar t dm ca).2.1, (m1Fun (mhFun sr sh ht) ar t dm ca).2.2) j).2) + (lo (11 - j))) (rfl) dX5_lays_144 rfl ?_
          refine x_istore_n (q := 146) C [(2, .int (((itr (m2Step sr lo) ((m1Fun (mhFun sr sh ht) ar t dm ca).2.1, (m1Fun (mhFun sr sh ht) ar t dm ca).2.2) j).2) + (lo (11 - j)))), (3, .int (nI (11 - j))), (0, .ref qo), (1, .int t)] dX5_lays_145 (by decide) rfl rfl ?_
          refine x_iinc (q := 149) C 1 (nI (11 - (j + 1))) [(3, .int (nI (11 - (j + 1)))), (2, .int (((itr (m2Step sr lo) ((m1Fun (mhFun sr sh ht) ar t dm ca).2.1, (m1Fun (mhFun sr sh ht) ar t dm ca).2.2) j).2) + (lo (11 - j)))), (0, .ref qo), (1, .int t)] dX5_lays_146 rfl (nI_dn h_j) (by decide) rfl rfl ?_
          refine x_goto C 81 dX5_lays_149 (by decide) ?_
          refine x_less [0, 1, 2, 3] [(3, .int (nI (11 - (j + 1)))), (2, .int (((itr (m2Step sr lo) ((m1Fun (mhFun sr sh ht) ar t dm ca).2.1, (m1Fun (mhFun sr sh ht) ar t dm ca).2.2) j).2) + (lo (11 - j)))), (0, .ref qo), (1, .int t)] rfl ?_
          have e9 : (itr (m2Step sr lo) ((m1Fun (mhFun sr sh ht) ar t dm ca).2.1, (m1Fun (mhFun sr sh ht) ar t dm ca).2.2) (j + 1)) = (upd ((itr (m2Step sr lo) ((m1Fun (mhFun sr sh ht) ar t dm ca).2.1, (m1Fun (mhFun sr sh ht) ar t dm ca).2.2) j).1) (sr (11 - j)) 1, ((itr (m2Step sr lo) ((m1Fun (mhFun sr sh ht) ar t dm ca).2.1, (m1Fun (mhFun sr sh ht) ar t dm ca).2.2) j).2) + (lo (11 - j))) := by
            show m2Step sr lo j (itr (m2Step sr lo) ((m1Fun (mhFun sr sh ht) ar t dm ca).2.1, (m1Fun (mhFun sr sh ht) ar t dm ca).2.2) j) = _
            simp only [m2Step, m2C, if_neg c_106, if_neg c_131]
          refine x_less [0, 1, 2, 3] [(3, .int (nI (11 - (j + 1)))), (2, .int ((itr (m2Step sr lo) ((m1Fun (mhFun sr sh ht) ar t dm ca).2.1, (m1Fun (mhFun sr sh ht) ar t dm ca).2.2) (j + 1)).2)), (0, .ref qo), (1, .int t)] (by first | rfl | (rw [e9]; rfl)) ?_
          refine x_world (X' := [(qo, .inr (5, [.int th, .int hh, .int tt, .ref qF, .ref qL, .ref qA, .ref qE, .ref qH, .ref qB, .int (nI n), .ref qS, .ref qP, .ref qC, .int mc, .ref qT, .ref qD, .ref qR, .ref qX, .ref qG, .ref qM, .ref qU, .int ml])), (qF, .inl (cy.1, 12, .inl (fun i => nI (sr i)))), (qL, .inl (cy.1, 12, .inl lo)), (qA, .inl (cy.1, 12, .inl ar)), (qH, .inl (cy.1, 12, .inl sh)), (qT, .inl (cy.2.1, 12, .inl (mhFun sr sh ht))), (qD, .inl (cy.1, 12, .inl ((m1Fun (mhFun sr sh ht) ar t dm ca).1))), (qR, .inl (cy.2.1, 12, .inl ((itr (m2Step sr lo) ((m1Fun (mhFun sr sh ht) ar t dm ca).2.1, (m1Fun (mhFun sr sh ht) ar t dm ca).2.2) (j + 1)).1)))]) (pl' := []) (by first | rfl | rw [e9]) ?_
          exact ih_j
      · refine x_aload_n (q := 110) C 2 rfl dX5_lays_109 rfl ?_
        refine x_get (q := 113) C (T := TX5) iw_X5_lays_X5 rfl 0 16 rfl (by decide) rfl (by decide +kernel : Cond.fieldLink RX5 44 RX5 "carries" "[Z" ∈ wsX5_lays) rfl dX5_lays_110 rfl ?_
        refine x_iload_n (q := 114) C 0 rfl dX5_lays_113 rfl ?_
        refine x_zaldN (q := 115) C (11 - j) 7 (((itr (m2Step sr lo) ((m1Fun (mhFun sr sh ht) ar t dm ca).2.1, (m1Fun (mhFun sr sh ht) ar t dm ca).2.2) j).1) (11 - j)) rfl rfl (by omega) (by omega) rfl dX5_lays_114 rfl ?_
        refine x_if_eq (q := 118) C 122 dX5_lays_115 (by decide) rfl (fun c_115 => ?_) (fun c_115 => ?_)
        · refine x_iconst (q := 123) C 0 rfl dX5_lays_122 rfl ?_
          refine x_zastN (q := 124) C (sr (11 - j)) 7 (upd ((itr (m2Step sr lo) ((m1Fun (mhFun sr sh ht) ar t dm ca).2.1, (m1Fun (mhFun sr sh ht) ar t dm ca).2.2) j).1) (sr (11 - j)) 0) [(qo, .inr (5, [.int th, .int hh, .int tt, .ref qF, .ref qL, .ref qA, .ref qE, .ref qH, .ref qB, .int (nI n), .ref qS, .ref qP, .ref qC, .int mc, .ref qT, .ref qD, .ref qR, .ref qX, .ref qG, .ref qM, .ref qU, .int ml])), (qF, .inl (cy.1, 12, .inl (fun i => nI (sr i)))), (qL, .inl (cy.1, 12, .inl lo)), (qA, .inl (cy.1, 12, .inl ar)), (qH, .inl (cy.1, 12, .inl sh)), (qT, .inl (cy.2.1, 12, .inl (mhFun sr sh ht))), (qD, .inl (cy.1, 12, .inl ((m1Fun (mhFun sr sh ht) ar t dm ca).1))), (qR, .inl (cy.2.1, 12, .inl (upd ((itr (m2Step sr lo) ((m1Fun (mhFun sr sh ht) ar t dm ca).2.1, (m1Fun (mhFun sr sh ht) ar t dm ca).2.2) j).1) (sr (11 - j)) 0)))] rfl rfl (by have := hsr (11 - j) (by omega) (by omega); omega) (by omega) (congrArg _ vpz0) rfl dX5_lays_123 rfl ?_
          refine x_iload_n (q := 125) C 1 rfl dX5_lays_124 rfl ?_
          refine x_aload_n (q := 126) C 2 rfl dX5_lays_125 rfl ?_
          refine x_get (q := 129) C (T := TX5) iw_X5_lays_X5 rfl 0 16 rfl (by decide) rfl (by decide +kernel : Cond.fieldLink RX5 44 RX5 "carries" "[Z" ∈ wsX5_lays) rfl dX5_lays_126 rfl ?_
          refine x_iload_n (q := 130) C 0 rfl dX5_lays_129 rfl ?_
          refine x_zaldN (q := 131) C (11 - j) 7 ((upd ((itr (m2Step sr lo) ((m1Fun (mhFun sr sh ht) ar t dm ca).2.1, (m1Fun (mhFun sr sh ht) ar t dm ca).2.2) j).1) (sr (11 - j)) 0) (11 - j)) rfl rfl (by omega) (by omega) rfl dX5_lays_130 rfl ?_
          refine x_if_eq (q := 134) C 143 dX5_lays_131 (by decide) rfl (fun c_131 => ?_) (fun c_131 => ?_)
          · refine x_iconst (q := 144) C 0 rfl dX5_lays_143 rfl ?_
            refine x_iadd (q := 145) C (((itr (m2Step sr lo) ((m1Fun (mhFun sr sh ht) ar t dm ca).2.1, (m1Fun (mhFun sr sh ht) ar t dm ca).2.2) j).2) + 0) (rfl) dX5_lays_144 rfl ?_
            refine x_istore_n (q := 146) C [(2, .int (((itr (m2Step sr lo) ((m1Fun (mhFun sr sh ht) ar t dm ca).2.1, (m1Fun (mhFun sr sh ht) ar t dm ca).2.2) j).2) + 0)), (3, .int (nI (11 - j))), (0, .ref qo), (1, .int t)] dX5_lays_145 (by decide) rfl rfl ?_
            refine x_iinc (q := 149) C 1 (nI (11 - (j + 1))) [(3, .int (nI (11 - (j + 1)))), (2, .int (((itr (m2Step sr lo) ((m1Fun (mhFun sr sh ht) ar t dm ca).2.1, (m1Fun (mhFun sr sh ht) ar t dm ca).2.2) j).2) + 0)), (0, .ref qo), (1, .int t)] dX5_lays_146 rfl (nI_dn h_j) (by decide) rfl rfl ?_
            refine x_goto C 81 dX5_lays_149 (by decide) ?_
            refine x_less [0, 1, 2, 3] [(3, .int (nI (11 - (j + 1)))), (2, .int (((itr (m2Step sr lo) ((m1Fun (mhFun sr sh ht) ar t dm ca).2.1, (m1Fun (mhFun sr sh ht) ar t dm ca).2.2) j).2) + 0)), (0, .ref qo), (1, .int t)] rfl ?_
            have e9 : (itr (m2Step sr lo) ((m1Fun (mhFun sr sh ht) ar t dm ca).2.1, (m1Fun (mhFun sr sh ht) ar t dm ca).2.2) (j + 1)) = (upd ((itr (m2Step sr lo) ((m1Fun (mhFun sr sh ht) ar t dm ca).2.1, (m1Fun (mhFun sr sh ht) ar t dm ca).2.2) j).1) (sr (11 - j)) 0, ((itr (m2Step sr lo) ((m1Fun (mhFun sr sh ht) ar t dm ca).2.1, (m1Fun (mhFun sr sh ht) ar t dm ca).2.2) j).2) + 0) := by
              show m2Step sr lo j (itr (m2Step sr lo) ((m1Fun (mhFun sr sh ht) ar t dm ca).2.1, (m1Fun (mhFun sr sh ht) ar t dm ca).2.2) j) = _
              simp only [m2Step, m2C, if_pos c_106, if_pos c_115, if_pos c_131]
            refine x_less [0, 1, 2, 3] [(3, .int (nI (11 - (j + 1)))), (2, .int ((itr (m2Step sr lo) ((m1Fun (mhFun sr sh ht) ar t dm ca).2.1, (m1Fun (mhFun sr sh ht) ar t dm ca).2.2) (j + 1)).2)), (0, .ref qo), (1, .int t)] (by first | rfl | (rw [e9]; rfl)) ?_
            refine x_world (X' := [(qo, .inr (5, [.int th, .int hh, .int tt, .ref qF, .ref qL, .ref qA, .ref qE, .ref qH, .ref qB, .int (nI n), .ref qS, .ref qP, .ref qC, .int mc, .ref qT, .ref qD, .ref qR, .ref qX, .ref qG, .ref qM, .ref qU, .int ml])), (qF, .inl (cy.1, 12, .inl (fun i => nI (sr i)))), (qL, .inl (cy.1, 12, .inl lo)), (qA, .inl (cy.1, 12, .inl ar)), (qH, .inl (cy.1, 12, .inl sh)), (qT, .inl (cy.2.1, 12, .inl (mhFun sr sh ht))), (qD, .inl (cy.1, 12, .inl ((m1Fun (mhFun sr sh ht) ar t dm ca).1))), (qR, .inl (cy.2.1, 12, .inl ((itr (m2Step sr lo) ((m1Fun (mhFun sr sh ht) ar t dm ca).2.1, (m1Fun (mhFun sr sh ht) ar t dm ca).2.2) (j + 1)).1)))]) (pl' := []) (by first | rfl | rw [e9]) ?_
            exact ih_j
          · refine x_aload_n (q := 135) C 2 rfl dX5_lays_134 rfl ?_
            refine x_get (q := 138) C (T := TX5) iw_X5_lays_X5 rfl 0 4 rfl (by decide) rfl (by decide +kernel : Cond.fieldLink RX5 13 RX5 "loss" "[I" ∈ wsX5_lays) rfl dX5_lays_135 rfl ?_
            refine x_iload_n (q := 139) C 0 rfl dX5_lays_138 rfl ?_
            refine x_ialdN (q := 140) C (11 - j) 2 (lo (11 - j)) rfl rfl (by omega) (by omega) rfl dX5_lays_139 rfl ?_
            refine x_goto C 144 dX5_lays_140 (by decide) ?_
            refine x_iadd (q := 145) C (((itr (m2Step sr lo) ((m1Fun (mhFun sr sh ht) ar t dm ca).2.1, (m1Fun (mhFun sr sh ht) ar t dm ca).2.2) j).2) + (lo (11 - j))) (rfl) dX5_lays_144 rfl ?_
            refine x_istore_n (q := 146) C [(2, .int (((itr (m2Step sr lo) ((m1Fun (mhFun sr sh ht) ar t dm ca).2.1, (m1Fun (mhFun sr sh ht) ar t dm ca).2.2) j).2) + (lo (11 - j)))), (3, .int (nI (11 - j))), (0, .ref qo), (1, .int t)] dX5_lays_145 (by decide) rfl rfl ?_
            refine x_iinc (q := 149) C 1 (nI (11 - (j + 1))) [(3, .int (nI (11 - (j + 1)))), (2, .int (((itr (m2Step sr lo) ((m1Fun (mhFun sr sh ht) ar t dm ca).2.1, (m1Fun (mhFun sr sh ht) ar t dm ca).2.2) j).2) + (lo (11 - j)))), (0, .ref qo), (1, .int t)] dX5_lays_146 rfl (nI_dn h_j) (by decide) rfl rfl ?_
            refine x_goto C 81 dX5_lays_149 (by decide) ?_
            refine x_less [0, 1, 2, 3] [(3, .int (nI (11 - (j + 1)))), (2, .int (((itr (m2Step sr lo) ((m1Fun (mhFun sr sh ht) ar t dm ca).2.1, (m1Fun (mhFun sr sh ht) ar t dm ca).2.2) j).2) + (lo (11 - j)))), (0, .ref qo), (1, .int t)] rfl ?_
            have e9 : (itr (m2Step sr lo) ((m1Fun (mhFun sr sh ht) ar t dm ca).2.1, (m1Fun (mhFun sr sh ht) ar t dm ca).2.2) (j + 1)) = (upd ((itr (m2Step sr lo) ((m1Fun (mhFun sr sh ht) ar t dm ca).2.1, (m1Fun (mhFun sr sh ht) ar t dm ca).2.2) j).1) (sr (11 - j)) 0, ((itr (m2Step sr lo) ((m1Fun (mhFun sr sh ht) ar t dm ca).2.1, (m1Fun (mhFun sr sh ht) ar t dm ca).2.2) j).2) + (lo (11 - j))) := by
              show m2Step sr lo j (itr (m2Step sr lo) ((m1Fun (mhFun sr sh ht) ar t dm ca).2.1, (m1Fun (mhFun sr sh ht) ar t dm ca).2.2) j) = _
              simp only [m2Step, m2C, if_pos c_106, if_pos c_115, if_neg c_131]
            refine x_less [0, 1, 2, 3] [(3, .int (nI (11 - (j + 1)))), (2, .int ((itr (m2Step sr lo) ((m1Fun (mhFun sr sh ht) ar t dm ca).2.1, (m1Fun (mhFun sr sh ht) ar t dm ca).2.2) (j + 1)).2)), (0, .ref qo), (1, .int t)] (by first | rfl | (rw [e9]; rfl)) ?_
            refine x_world (X' := [(qo, .inr (5, [.int th, .int hh, .int tt, .ref qF, .ref qL, .ref qA, .ref qE, .ref qH, .ref qB, .int (nI n), .ref qS, .ref qP, .ref qC, .int mc, .ref qT, .ref qD, .ref qR, .ref qX, .ref qG, .ref qM, .ref qU, .int ml])), (qF, .inl (cy.1, 12, .inl (fun i => nI (sr i)))), (qL, .inl (cy.1, 12, .inl lo)), (qA, .inl (cy.1, 12, .inl ar)), (qH, .inl (cy.1, 12, .inl sh)), (qT, .inl (cy.2.1, 12, .inl (mhFun sr sh ht))), (qD, .inl (cy.1, 12, .inl ((m1Fun (mhFun sr sh ht) ar t dm ca).1))), (qR, .inl (cy.2.1, 12, .inl ((itr (m2Step sr lo) ((m1Fun (mhFun sr sh ht) ar t dm ca).2.1, (m1Fun (mhFun sr sh ht) ar t dm ca).2.2) (j + 1)).1)))]) (pl' := []) (by first | rfl | rw [e9]) ?_
            exact ih_j
        · refine x_iconst (q := 119) C 1 rfl dX5_lays_118 rfl ?_
          refine x_goto C 123 dX5_lays_119 (by decide) ?_
          refine x_zastN (q := 124) C (sr (11 - j)) 7 (upd ((itr (m2Step sr lo) ((m1Fun (mhFun sr sh ht) ar t dm ca).2.1, (m1Fun (mhFun sr sh ht) ar t dm ca).2.2) j).1) (sr (11 - j)) 1) [(qo, .inr (5, [.int th, .int hh, .int tt, .ref qF, .ref qL, .ref qA, .ref qE, .ref qH, .ref qB, .int (nI n), .ref qS, .ref qP, .ref qC, .int mc, .ref qT, .ref qD, .ref qR, .ref qX, .ref qG, .ref qM, .ref qU, .int ml])), (qF, .inl (cy.1, 12, .inl (fun i => nI (sr i)))), (qL, .inl (cy.1, 12, .inl lo)), (qA, .inl (cy.1, 12, .inl ar)), (qH, .inl (cy.1, 12, .inl sh)), (qT, .inl (cy.2.1, 12, .inl (mhFun sr sh ht))), (qD, .inl (cy.1, 12, .inl ((m1Fun (mhFun sr sh ht) ar t dm ca).1))), (qR, .inl (cy.2.1, 12, .inl (upd ((itr (m2Step sr lo) ((m1Fun (mhFun sr sh ht) ar t dm ca).2.1, (m1Fun (mhFun sr sh ht) ar t dm ca).2.2) j).1) (sr (11 - j)) 1)))] rfl rfl (by have := hsr (11 - j) (by omega) (by omega); omega) (by omega) (congrArg _ vpz1) rfl dX5_lays_123 rfl ?_
          refine x_iload_n (q := 125) C 1 rfl dX5_lays_124 rfl ?_
          refine x_aload_n (q := 126) C 2 rfl dX5_lays_125 rfl ?_
          refine x_get (q := 129) C (T := TX5) iw_X5_lays_X5 rfl 0 16 rfl (by decide) rfl (by decide +kernel : Cond.fieldLink RX5 44 RX5 "carries" "[Z" ∈ wsX5_lays) rfl dX5_lays_126 rfl ?_
          refine x_iload_n (q := 130) C 0 rfl dX5_lays_129 rfl ?_
          refine x_zaldN (q := 131) C (11 - j) 7 ((upd ((itr (m2Step sr lo) ((m1Fun (mhFun sr sh ht) ar t dm ca).2.1, (m1Fun (mhFun sr sh ht) ar t dm ca).2.2) j).1) (sr (11 - j)) 1) (11 - j)) rfl rfl (by omega) (by omega) rfl dX5_lays_130 rfl ?_
          refine x_if_eq (q := 134) C 143 dX5_lays_131 (by decide) rfl (fun c_131 => ?_) (fun c_131 => ?_)
          · refine x_iconst (q := 144) C 0 rfl dX5_lays_143 rfl ?_
            refine x_iadd (q := 145) C (((itr (m2Step sr lo) ((m1Fun (mhFun sr sh ht) ar t dm ca).2.1, (m1Fun (mhFun sr sh ht) ar t dm ca).2.2) j).2) + 0) (rfl) dX5_lays_144 rfl ?_
            refine x_istore_n (q := 146) C [(2, .int (((itr (m2Step sr lo) ((m1Fun (mhFun sr sh ht) ar t dm ca).2.1, (m1Fun (mhFun sr sh ht) ar t dm ca).2.2) j).2) + 0)), (3, .int (nI (11 - j))), (0, .ref qo), (1, .int t)] dX5_lays_145 (by decide) rfl rfl ?_
            refine x_iinc (q := 149) C 1 (nI (11 - (j + 1))) [(3, .int (nI (11 - (j + 1)))), (2, .int (((itr (m2Step sr lo) ((m1Fun (mhFun sr sh ht) ar t dm ca).2.1, (m1Fun (mhFun sr sh ht) ar t dm ca).2.2) j).2) + 0)), (0, .ref qo), (1, .int t)] dX5_lays_146 rfl (nI_dn h_j) (by decide) rfl rfl ?_
            refine x_goto C 81 dX5_lays_149 (by decide) ?_
            refine x_less [0, 1, 2, 3] [(3, .int (nI (11 - (j + 1)))), (2, .int (((itr (m2Step sr lo) ((m1Fun (mhFun sr sh ht) ar t dm ca).2.1, (m1Fun (mhFun sr sh ht) ar t dm ca).2.2) j).2) + 0)), (0, .ref qo), (1, .int t)] rfl ?_
            have e9 : (itr (m2Step sr lo) ((m1Fun (mhFun sr sh ht) ar t dm ca).2.1, (m1Fun (mhFun sr sh ht) ar t dm ca).2.2) (j + 1)) = (upd ((itr (m2Step sr lo) ((m1Fun (mhFun sr sh ht) ar t dm ca).2.1, (m1Fun (mhFun sr sh ht) ar t dm ca).2.2) j).1) (sr (11 - j)) 1, ((itr (m2Step sr lo) ((m1Fun (mhFun sr sh ht) ar t dm ca).2.1, (m1Fun (mhFun sr sh ht) ar t dm ca).2.2) j).2) + 0) := by
              show m2Step sr lo j (itr (m2Step sr lo) ((m1Fun (mhFun sr sh ht) ar t dm ca).2.1, (m1Fun (mhFun sr sh ht) ar t dm ca).2.2) j) = _
              simp only [m2Step, m2C, if_pos c_106, if_neg c_115, if_pos c_131]
            refine x_less [0, 1, 2, 3] [(3, .int (nI (11 - (j + 1)))), (2, .int ((itr (m2Step sr lo) ((m1Fun (mhFun sr sh ht) ar t dm ca).2.1, (m1Fun (mhFun sr sh ht) ar t dm ca).2.2) (j + 1)).2)), (0, .ref qo), (1, .int t)] (by first | rfl | (rw [e9]; rfl)) ?_
            refine x_world (X' := [(qo, .inr (5, [.int th, .int hh, .int tt, .ref qF, .ref qL, .ref qA, .ref qE, .ref qH, .ref qB, .int (nI n), .ref qS, .ref qP, .ref qC, .int mc, .ref qT, .ref qD, .ref qR, .ref qX, .ref qG, .ref qM, .ref qU, .int ml])), (qF, .inl (cy.1, 12, .inl (fun i => nI (sr i)))), (qL, .inl (cy.1, 12, .inl lo)), (qA, .inl (cy.1, 12, .inl ar)), (qH, .inl (cy.1, 12, .inl sh)), (qT, .inl (cy.2.1, 12, .inl (mhFun sr sh ht))), (qD, .inl (cy.1, 12, .inl ((m1Fun (mhFun sr sh ht) ar t dm ca).1))), (qR, .inl (cy.2.1, 12, .inl ((itr (m2Step sr lo) ((m1Fun (mhFun sr sh ht) ar t dm ca).2.1, (m1Fun (mhFun sr sh ht) ar t dm ca).2.2) (j + 1)).1)))]) (pl' := []) (by first | rfl | rw [e9]) ?_
            exact ih_j
          · refine x_aload_n (q := 135) C 2 rfl dX5_lays_134 rfl ?_
            refine x_get (q := 138) C (T := TX5) iw_X5_lays_X5 rfl 0 4 rfl (by decide) rfl (by decide +kernel : Cond.fieldLink RX5 13 RX5 "loss" "[I" ∈ wsX5_lays) rfl dX5_lays_135 rfl ?_
            refine x_iload_n (q := 139) C 0 rfl dX5_lays_138 rfl ?_
            refine x_ialdN (q := 140) C (11 - j) 2 (lo (11 - j)) rfl rfl (by omega) (by omega) rfl dX5_lays_139 rfl ?_
            refine x_goto C 144 dX5_lays_140 (by decide) ?_
            refine x_iadd (q := 145) C (((itr (m2Step sr lo) ((m1Fun (mhFun sr sh ht) ar t dm ca).2.1, (m1Fun (mhFun sr sh ht) ar t dm ca).2.2) j).2) + (lo (11 - j))) (rfl) dX5_lays_144 rfl ?_
            refine x_istore_n (q := 146) C [(2, .int (((itr (m2Step sr lo) ((m1Fun (mhFun sr sh ht) ar t dm ca).2.1, (m1Fun (mhFun sr sh ht) ar t dm ca).2.2) j).2) + (lo (11 - j)))), (3, .int (nI (11 - j))), (0, .ref qo), (1, .int t)] dX5_lays_145 (by decide) rfl rfl ?_
            refine x_iinc (q := 149) C 1 (nI (11 - (j + 1))) [(3, .int (nI (11 - (j + 1)))), (2, .int (((itr (m2Step sr lo) ((m1Fun (mhFun sr sh ht) ar t dm ca).2.1, (m1Fun (mhFun sr sh ht) ar t dm ca).2.2) j).2) + (lo (11 - j)))), (0, .ref qo), (1, .int t)] dX5_lays_146 rfl (nI_dn h_j) (by decide) rfl rfl ?_
            refine x_goto C 81 dX5_lays_149 (by decide) ?_
            refine x_less [0, 1, 2, 3] [(3, .int (nI (11 - (j + 1)))), (2, .int (((itr (m2Step sr lo) ((m1Fun (mhFun sr sh ht) ar t dm ca).2.1, (m1Fun (mhFun sr sh ht) ar t dm ca).2.2) j).2) + (lo (11 - j)))), (0, .ref qo), (1, .int t)] rfl ?_
            have e9 : (itr (m2Step sr lo) ((m1Fun (mhFun sr sh ht) ar t dm ca).2.1, (m1Fun (mhFun sr sh ht) ar t dm ca).2.2) (j + 1)) = (upd ((itr (m2Step sr lo) ((m1Fun (mhFun sr sh ht) ar t dm ca).2.1, (m1Fun (mhFun sr sh ht) ar t dm ca).2.2) j).1) (sr (11 - j)) 1, ((itr (m2Step sr lo) ((m1Fun (mhFun sr sh ht) ar t dm ca).2.1, (m1Fun (mhFun sr sh ht) ar t dm ca).2.2) j).2) + (lo (11 - j))) := by
              show m2Step sr lo j (itr (m2Step sr lo) ((m1Fun (mhFun sr sh ht) ar t dm ca).2.1, (m1Fun (mhFun sr sh ht) ar t dm ca).2.2) j) = _
              simp only [m2Step, m2C, if_pos c_106, if_neg c_115, if_neg c_131]
            refine x_less [0, 1, 2, 3] [(3, .int (nI (11 - (j + 1)))), (2, .int ((itr (m2Step sr lo) ((m1Fun (mhFun sr sh ht) ar t dm ca).2.1, (m1Fun (mhFun sr sh ht) ar t dm ca).2.2) (j + 1)).2)), (0, .ref qo), (1, .int t)] (by first | rfl | (rw [e9]; rfl)) ?_
            refine x_world (X' := [(qo, .inr (5, [.int th, .int hh, .int tt, .ref qF, .ref qL, .ref qA, .ref qE, .ref qH, .ref qB, .int (nI n), .ref qS, .ref qP, .ref qC, .int mc, .ref qT, .ref qD, .ref qR, .ref qX, .ref qG, .ref qM, .ref qU, .int ml])), (qF, .inl (cy.1, 12, .inl (fun i => nI (sr i)))), (qL, .inl (cy.1, 12, .inl lo)), (qA, .inl (cy.1, 12, .inl ar)), (qH, .inl (cy.1, 12, .inl sh)), (qT, .inl (cy.2.1, 12, .inl (mhFun sr sh ht))), (qD, .inl (cy.1, 12, .inl ((m1Fun (mhFun sr sh ht) ar t dm ca).1))), (qR, .inl (cy.2.1, 12, .inl ((itr (m2Step sr lo) ((m1Fun (mhFun sr sh ht) ar t dm ca).2.1, (m1Fun (mhFun sr sh ht) ar t dm ca).2.2) (j + 1)).1)))]) (pl' := []) (by first | rfl | rw [e9]) ?_
            exact ih_j
    · refine x_iload_n (q := 82) C 0 rfl dX5_lays_81 rfl ?_
      refine x_if_le_t C 152 dX5_lays_82 (by decide) (nI_le (a := (11 - 11)) (b := 0) (by omega) (by omega)) ?_
      refine x_iload_n (q := 153) C 1 rfl dX5_lays_152 rfl ?_
      exact x_iret C .int rfl rfl (⟨rfl, rfl⟩) dX5_lays_153 (Nat.le_of_ble_eq_true rfl) (Nat.le_of_ble_eq_true rfl)

theorem iw_X5_next_X5 : ∀ w ∈ wsX50, w ∈ wsX5_next := by decide +kernel
set_option maxHeartbeats 4000000 in
set_option maxRecDepth 100000 in
theorem c_X5_next_none {l : Launch} {D : va_G} {cy : ClassId × ClassId × ClassId} (qo qF qL qA qE qH qB qS qP qC qT qD qR qX qG qM qU n : Nat) (th hh tt mc ml : Int32) (cst : Nat → Int32) (hn4 : n ≤ 4) : xM false l yX5_next wsX5_next ({ frames := 0, cells := 0, slots := 0, locals := 0 }) D cy [.ref qo, .int (-1)] ([(qo, .inr (5, [.int th, .int hh, .int tt, .ref qF, .ref qL, .ref qA, .ref qE, .ref qH, .ref qB, .int (nI n), .ref qS, .ref qP, .ref qC, .int mc, .ref qT, .ref qD, .ref qR, .ref qX, .ref qG, .ref qM, .ref qU, .int ml])), (qC, .inl (cy.1, 4, .inl cst))]) (xQi D (fun r w => r = eO (nxF n cst none) ∧ w = [(qo, .inr (5, [.int th, .int hh, .int tt, .ref qF, .ref qL, .ref qA, .ref qE, .ref qH, .ref qB, .int (nI n), .ref qS, .ref qP, .ref qC, .int mc, .ref qT, .ref qD, .ref qR, .ref qX, .ref qG, .ref qM, .ref qU, .int ml])), (qC, .inl (cy.1, 4, .inl cst))])) 0 0 := by
  refine xM_of (X := [(qo, .inr (5, [.int th, .int hh, .int tt, .ref qF, .ref qL, .ref qA, .ref qE, .ref qH, .ref qB, .int (nI n), .ref qS, .ref qP, .ref qC, .int mc, .ref qT, .ref qD, .ref qR, .ref qX, .ref qG, .ref qM, .ref qU, .int ml])), (qC, .inl (cy.1, 4, .inl cst))]) (pl := []) (nL := 5) (ret := (some .int)) RX5 [(0, .ref qo), (1, .int (-1))] (by decide +kernel) rfl rfl rfl (Nat.le_of_ble_eq_true rfl) (List.append_nil _).symm (fun p e s m args below meth c A C hname hT hZ => ?_)
  refine x_iconst (q := 1) C (-1) rfl dX5_next_0 rfl ?_
  refine x_istore_n (q := 2) C [(2, .int (-1)), (0, .ref qo), (1, .int (-1))] dX5_next_1 (by decide) rfl rfl ?_
  refine x_aload_n (q := 3) C 1 rfl dX5_next_2 rfl ?_
  refine x_get (q := 6) C (T := TX5) iw_X5_next_X5 rfl 0 9 rfl (by decide) rfl (by decide +kernel : Cond.fieldLink RX5 77 RX5 "boilers" "I" ∈ wsX5_next) rfl dX5_next_3 rfl ?_
  refine x_iconst (q := 7) C 1 rfl dX5_next_6 rfl ?_
  refine x_isub (q := 8) C (nI (n - 0) + (-1)) (Int32.sub_eq_add_neg) dX5_next_7 rfl ?_
  refine x_istore_n (q := 9) C [(3, .int (nI (n - 0) + (-1))), (2, .int (-1)), (0, .ref qo), (1, .int (-1))] dX5_next_8 (by decide) rfl rfl ?_
  refine x_less [0, 1, 2, 3] [(3, .int (nI (n - 0) + (-1))), (2, .int (-1)), (0, .ref qo), (1, .int (-1))] rfl ?_
  refine x_up (fun _ => [(qo, .inr (5, [.int th, .int hh, .int tt, .ref qF, .ref qL, .ref qA, .ref qE, .ref qH, .ref qB, .int (nI n), .ref qS, .ref qP, .ref qC, .int mc, .ref qT, .ref qD, .ref qR, .ref qX, .ref qG, .ref qM, .ref qU, .int ml])), (qC, .inl (cy.1, 4, .inl cst))]) (fun j => [(3, .int (nI (n - j) + (-1))), (2, .int (eO (itr (nxStep n cst none) none j))), (0, .ref qo), (1, .int (-1))]) n rfl rfl (fun j h_j ih_j => ?_) ?_
  · have e7 : nI (n - j) + (-1) = nI (n - 1 - j) := by
      rw [show n - j = (n - 1 - j) + 1 by omega]; exact pk_m1 _
    rcases hf : itr (nxStep n cst none) none j with _ | f
    · refine x_less [0, 1, 2, 3] [(3, .int (nI (n - 1 - j))), (2, .int (-1)), (0, .ref qo), (1, .int (-1))] (by rw [← e7]; rfl) ?_
      refine x_iload_n (q := 10) C 0 rfl dX5_next_9 rfl ?_
      refine x_if_lt_f (q := 13) C 95 dX5_next_10 (by decide) rfl (nI_nlt (a := (n - 1 - j)) (b := 0) (by omega) (by omega)) ?_
      refine x_iload_n (q := 14) C 3 rfl dX5_next_13 rfl ?_
      refine x_if_lt_t C 52 dX5_next_14 (by decide) (by decide) ?_
      refine x_iconst (q := 53) C 1 rfl dX5_next_52 rfl ?_
      refine x_goto C 57 dX5_next_53 (by decide) ?_
      refine x_istore (q := 59) C [(4, .int 1), (3, .int (nI (n - 1 - j))), (2, .int (-1)), (0, .ref qo), (1, .int (-1))] dX5_next_57 (by decide) rfl rfl ?_
      refine x_iload (q := 61) C 0 rfl dX5_next_59 rfl ?_
      refine x_if_eq_f (q := 64) C 87 dX5_next_61 (by decide) rfl (by decide) ?_
      refine x_iload_n (q := 65) C 2 rfl dX5_next_64 rfl ?_
      refine x_if_lt_t C 83 dX5_next_65 (by decide) (by decide) ?_
      refine x_iload_n (q := 84) C 1 rfl dX5_next_83 rfl ?_
      refine x_goto C 88 dX5_next_84 (by decide) ?_
      refine x_istore_n (q := 89) C [(2, .int (nI (n - 1 - j))), (4, .int 1), (3, .int (nI (n - 1 - j))), (0, .ref qo), (1, .int (-1))] dX5_next_88 (by decide) rfl rfl ?_
      refine x_iinc (q := 92) C 2 ((nI (n - 1 - j)) + -1) [(3, .int ((nI (n - 1 - j)) + -1)), (2, .int (nI (n - 1 - j))), (4, .int 1), (0, .ref qo), (1, .int (-1))] dX5_next_89 rfl (rfl) (by decide) rfl rfl ?_
      refine x_goto C 9 dX5_next_92 (by decide) ?_
      refine x_less [0, 1, 3, 4] [(3, .int ((nI (n - 1 - j)) + -1)), (2, .int (nI (n - 1 - j))), (0, .ref qo), (1, .int (-1))] rfl ?_
      have e9 : itr (nxStep n cst none) none (j + 1) = some (n - 1 - j) := by
        show nxStep n cst none j (itr (nxStep n cst none) none j) = _
        rw [hf]
        simp [nxStep, nxB]
      refine x_less [0, 1, 2, 3] [(3, .int (nI (n - (j + 1)) + (-1))), (2, .int (eO (itr (nxStep n cst none) none (j + 1)))), (0, .ref qo), (1, .int (-1))] (by rw [e9]; rfl) ?_
      exact ih_j
    · have hfn : f < n := nxI_lt (Nat.le_of_lt h_j) hf
      refine x_less [0, 1, 2, 3] [(3, .int (nI (n - 1 - j))), (2, .int (nI f)), (0, .ref qo), (1, .int (-1))] (by rw [← e7]; rfl) ?_
      refine x_iload_n (q := 10) C 0 rfl dX5_next_9 rfl ?_
      refine x_if_lt_f (q := 13) C 95 dX5_next_10 (by decide) rfl (nI_nlt (a := (n - 1 - j)) (b := 0) (by omega) (by omega)) ?_
      refine x_iload_n (q := 14) C 3 rfl dX5_next_13 rfl ?_
      refine x_if_lt_t C 52 dX5_next_14 (by decide) (by decide) ?_
      refine x_iconst (q := 53) C 1 rfl dX5_next_52 rfl ?_
      refine x_goto C 57 dX5_next_53 (by decide) ?_
      refine x_istore (q := 59) C [(4, .int 1), (3, .int (nI (n - 1 - j))), (2, .int (nI f)), (0, .ref qo), (1, .int (-1))] dX5_next_57 (by decide) rfl rfl ?_
      refine x_iload (q := 61) C 0 rfl dX5_next_59 rfl ?_
      refine x_if_eq_f (q := 64) C 87 dX5_next_61 (by decide) rfl (by decide) ?_
      refine x_iload_n (q := 65) C 2 rfl dX5_next_64 rfl ?_
      refine x_if_lt_f (q := 68) C 83 dX5_next_65 (by decide) rfl (nI_nlt (a := f) (b := 0) (by omega) (by omega)) ?_
      refine x_aload_n (q := 69) C 3 rfl dX5_next_68 rfl ?_
      refine x_get (q := 72) C (T := TX5) iw_X5_next_X5 rfl 0 12 rfl (by decide) rfl (by decide +kernel : Cond.fieldLink RX5 34 RX5 "costs" "[I" ∈ wsX5_next) rfl dX5_next_69 rfl ?_
      refine x_iload_n (q := 73) C 1 rfl dX5_next_72 rfl ?_
      refine x_ialdN (q := 74) C (n - 1 - j) 1 (cst (n - 1 - j)) rfl rfl (by omega) (by omega) rfl dX5_next_73 rfl ?_
      refine x_aload_n (q := 75) C 3 rfl dX5_next_74 rfl ?_
      refine x_get (q := 78) C (T := TX5) iw_X5_next_X5 rfl 0 12 rfl (by decide) rfl (by decide +kernel : Cond.fieldLink RX5 34 RX5 "costs" "[I" ∈ wsX5_next) rfl dX5_next_75 rfl ?_
      refine x_iload_n (q := 79) C 2 rfl dX5_next_78 rfl ?_
      refine x_ialdN (q := 80) C f 1 (cst f) rfl rfl (by omega) (by omega) rfl dX5_next_79 rfl ?_
      refine x_icmp_gt (q := 83) C 87 dX5_next_80 (by decide) rfl (fun c_80 => ?_) (fun c_80 => ?_)
      · refine x_iload_n (q := 88) C 2 rfl dX5_next_87 rfl ?_
        refine x_istore_n (q := 89) C [(2, .int (nI f)), (4, .int 1), (3, .int (nI (n - 1 - j))), (0, .ref qo), (1, .int (-1))] dX5_next_88 (by decide) rfl rfl ?_
        refine x_iinc (q := 92) C 2 ((nI (n - 1 - j)) + -1) [(3, .int ((nI (n - 1 - j)) + -1)), (2, .int (nI f)), (4, .int 1), (0, .ref qo), (1, .int (-1))] dX5_next_89 rfl (rfl) (by decide) rfl rfl ?_
        refine x_goto C 9 dX5_next_92 (by decide) ?_
        refine x_less [0, 1, 3, 4] [(3, .int ((nI (n - 1 - j)) + -1)), (2, .int (nI f)), (0, .ref qo), (1, .int (-1))] rfl ?_
        have e9 : itr (nxStep n cst none) none (j + 1) = some f := by
          show nxStep n cst none j (itr (nxStep n cst none) none j) = _
          rw [hf]
          simp [nxStep, nxB, c_80]
        refine x_less [0, 1, 2, 3] [(3, .int (nI (n - (j + 1)) + (-1))), (2, .int (eO (itr (nxStep n cst none) none (j + 1)))), (0, .ref qo), (1, .int (-1))] (by rw [e9]; rfl) ?_
        exact ih_j
      · refine x_iload_n (q := 84) C 1 rfl dX5_next_83 rfl ?_
        refine x_goto C 88 dX5_next_84 (by decide) ?_
        refine x_istore_n (q := 89) C [(2, .int (nI (n - 1 - j))), (4, .int 1), (3, .int (nI (n - 1 - j))), (0, .ref qo), (1, .int (-1))] dX5_next_88 (by decide) rfl rfl ?_
        refine x_iinc (q := 92) C 2 ((nI (n - 1 - j)) + -1) [(3, .int ((nI (n - 1 - j)) + -1)), (2, .int (nI (n - 1 - j))), (4, .int 1), (0, .ref qo), (1, .int (-1))] dX5_next_89 rfl (rfl) (by decide) rfl rfl ?_
        refine x_goto C 9 dX5_next_92 (by decide) ?_
        refine x_less [0, 1, 3, 4] [(3, .int ((nI (n - 1 - j)) + -1)), (2, .int (nI (n - 1 - j))), (0, .ref qo), (1, .int (-1))] rfl ?_
        have e9 : itr (nxStep n cst none) none (j + 1) = some (n - 1 - j) := by
          show nxStep n cst none j (itr (nxStep n cst none) none j) = _
          rw [hf]
          simp [nxStep, nxB, c_80]
        refine x_less [0, 1, 2, 3] [(3, .int (nI (n - (j + 1)) + (-1))), (2, .int (eO (itr (nxStep n cst none) none (j + 1)))), (0, .ref qo), (1, .int (-1))] (by rw [e9]; rfl) ?_
        exact ih_j
  · refine x_iload_n (q := 10) C 0 rfl dX5_next_9 rfl ?_
    refine x_if_lt_t C 95 dX5_next_10 (by decide) (by rw [Nat.sub_self]; decide) ?_
    refine x_iload_n (q := 96) C 1 rfl dX5_next_95 rfl ?_
    exact x_iret C .int rfl rfl (⟨rfl, rfl⟩) dX5_next_96 (Nat.le_of_ble_eq_true rfl) (Nat.le_of_ble_eq_true rfl)

theorem iw_X5_next_X5 : ∀ w ∈ wsX50, w ∈ wsX5_next := by decide +kernel
set_option maxHeartbeats 4000000 in
set_option maxRecDepth 100000 in
theorem c_X5_next_some {l : Launch} {D : va_G} {cy : ClassId × ClassId × ClassId} (qo qF qL qA qE qH qB qS qP qC qT qD qR qX qG qM qU n : Nat) (th hh tt mc ml : Int32) (cst : Nat → Int32) (z : Nat) (hn4 : n ≤ 4) (hz : z < n) : xM false l yX5_next wsX5_next ({ frames := 0, cells := 0, slots := 0, locals := 0 }) D cy [.ref qo, .int (nI z)] ([(qo, .inr (5, [.int th, .int hh, .int tt, .ref qF, .ref qL, .ref qA, .ref qE, .ref qH, .ref qB, .int (nI n), .ref qS, .ref qP, .ref qC, .int mc, .ref qT, .ref qD, .ref qR, .ref qX, .ref qG, .ref qM, .ref qU, .int ml])), (qC, .inl (cy.1, 4, .inl cst))]) (xQi D (fun r w => r = eO (nxF n cst (some z)) ∧ w = [(qo, .inr (5, [.int th, .int hh, .int tt, .ref qF, .ref qL, .ref qA, .ref qE, .ref qH, .ref qB, .int (nI n), .ref qS, .ref qP, .ref qC, .int mc, .ref qT, .ref qD, .ref qR, .ref qX, .ref qG, .ref qM, .ref qU, .int ml])), (qC, .inl (cy.1, 4, .inl cst))])) 0 0 := by
  refine xM_of (X := [(qo, .inr (5, [.int th, .int hh, .int tt, .ref qF, .ref qL, .ref qA, .ref qE, .ref qH, .ref qB, .int (nI n), .ref qS, .ref qP, .ref qC, .int mc, .ref qT, .ref qD, .ref qR, .ref qX, .ref qG, .ref qM, .ref qU, .int ml])), (qC, .inl (cy.1, 4, .inl cst))]) (pl := []) (nL := 5) (ret := (some .int)) RX5 [(0, .ref qo), (1, .int (nI z))] (by decide +kernel) rfl rfl rfl (Nat.le_of_ble_eq_true rfl) (List.append_nil _).symm (fun p e s m args below meth c A C hname hT hZ => ?_)
  refine x_iconst (q := 1) C (-1) rfl dX5_next_0 rfl ?_
  refine x_istore_n (q := 2) C [(2, .int (-1)), (0, .ref qo), (1, .int (nI z))] dX5_next_1 (by decide) rfl rfl ?_
  refine x_aload_n (q := 3) C 1 rfl dX5_next_2 rfl ?_
  refine x_get (q := 6) C (T := TX5) iw_X5_next_X5 rfl 0 9 rfl (by decide) rfl (by decide +kernel : Cond.fieldLink RX5 77 RX5 "boilers" "I" ∈ wsX5_next) rfl dX5_next_3 rfl ?_
  refine x_iconst (q := 7) C 1 rfl dX5_next_6 rfl ?_
  refine x_isub (q := 8) C (nI (n - 0) + (-1)) (Int32.sub_eq_add_neg) dX5_next_7 rfl ?_
  refine x_istore_n (q := 9) C [(3, .int (nI (n - 0) + (-1))), (2, .int (-1)), (0, .ref qo), (1, .int (nI z))] dX5_next_8 (by decide) rfl rfl ?_
  refine x_less [0, 1, 2, 3] [(3, .int (nI (n - 0) + (-1))), (2, .int (-1)), (0, .ref qo), (1, .int (nI z))] rfl ?_
  refine x_up (fun _ => [(qo, .inr (5, [.int th, .int hh, .int tt, .ref qF, .ref qL, .ref qA, .ref qE, .ref qH, .ref qB, .int (nI n), .ref qS, .ref qP, .ref qC, .int mc, .ref qT, .ref qD, .ref qR, .ref qX, .ref qG, .ref qM, .ref qU, .int ml])), (qC, .inl (cy.1, 4, .inl cst))]) (fun j => [(3, .int (nI (n - j) + (-1))), (2, .int (eO (itr (nxStep n cst (some z)) none j))), (0, .ref qo), (1, .int (nI z))]) n rfl rfl (fun j h_j ih_j => ?_) ?_
  · have e7 : nI (n - j) + (-1) = nI (n - 1 - j) := by
      rw [show n - j = (n - 1 - j) + 1 by omega]; exact pk_m1 _
    rcases hf : itr (nxStep n cst (some z)) none j with _ | f
    · refine x_less [0, 1, 2, 3] [(3, .int (nI (n - 1 - j))), (2, .int (-1)), (0, .ref qo), (1, .int (nI z))] (by rw [← e7]; rfl) ?_
      refine x_iload_n (q := 10) C 0 rfl dX5_next_9 rfl ?_
      refine x_if_lt_f (q := 13) C 95 dX5_next_10 (by decide) rfl (nI_nlt (a := (n - 1 - j)) (b := 0) (by omega) (by omega)) ?_
      refine x_iload_n (q := 14) C 3 rfl dX5_next_13 rfl ?_
      refine x_if_lt_f (q := 17) C 52 dX5_next_14 (by decide) rfl (nI_nlt (a := z) (b := 0) (by omega) (by omega)) ?_
      refine x_aload_n (q := 18) C 2 rfl dX5_next_17 rfl ?_
      refine x_get (q := 21) C (T := TX5) iw_X5_next_X5 rfl 0 12 rfl (by decide) rfl (by decide +kernel : Cond.fieldLink RX5 34 RX5 "costs" "[I" ∈ wsX5_next) rfl dX5_next_18 rfl ?_
      refine x_iload_n (q := 22) C 0 rfl dX5_next_21 rfl ?_
      refine x_ialdN (q := 23) C (n - 1 - j) 1 (cst (n - 1 - j)) rfl rfl (by omega) (by omega) rfl dX5_next_22 rfl ?_
      refine x_aload_n (q := 24) C 2 rfl dX5_next_23 rfl ?_
      refine x_get (q := 27) C (T := TX5) iw_X5_next_X5 rfl 0 12 rfl (by decide) rfl (by decide +kernel : Cond.fieldLink RX5 34 RX5 "costs" "[I" ∈ wsX5_next) rfl dX5_next_24 rfl ?_
      refine x_iload_n (q := 28) C 3 rfl dX5_next_27 rfl ?_
      refine x_ialdN (q := 29) C z 1 (cst z) rfl rfl (by omega) (by omega) rfl dX5_next_28 rfl ?_
      refine x_icmp_gt (q := 32) C 52 dX5_next_29 (by decide) rfl (fun c_29 => ?_) (fun c_29 => ?_)
      · refine x_iconst (q := 53) C 1 rfl dX5_next_52 rfl ?_
        refine x_goto C 57 dX5_next_53 (by decide) ?_
        refine x_istore (q := 59) C [(4, .int 1), (3, .int (nI (n - 1 - j))), (2, .int (-1)), (0, .ref qo), (1, .int (nI z))] dX5_next_57 (by decide) rfl rfl ?_
        refine x_iload (q := 61) C 0 rfl dX5_next_59 rfl ?_
        refine x_if_eq_f (q := 64) C 87 dX5_next_61 (by decide) rfl (by decide) ?_
        refine x_iload_n (q := 65) C 2 rfl dX5_next_64 rfl ?_
        refine x_if_lt_t C 83 dX5_next_65 (by decide) (by decide) ?_
        refine x_iload_n (q := 84) C 1 rfl dX5_next_83 rfl ?_
        refine x_goto C 88 dX5_next_84 (by decide) ?_
        refine x_istore_n (q := 89) C [(2, .int (nI (n - 1 - j))), (4, .int 1), (3, .int (nI (n - 1 - j))), (0, .ref qo), (1, .int (nI z))] dX5_next_88 (by decide) rfl rfl ?_
        refine x_iinc (q := 92) C 2 ((nI (n - 1 - j)) + -1) [(3, .int ((nI (n - 1 - j)) + -1)), (2, .int (nI (n - 1 - j))), (4, .int 1), (0, .ref qo), (1, .int (nI z))] dX5_next_89 rfl (rfl) (by decide) rfl rfl ?_
        refine x_goto C 9 dX5_next_92 (by decide) ?_
        refine x_less [0, 1, 3, 4] [(3, .int ((nI (n - 1 - j)) + -1)), (2, .int (nI (n - 1 - j))), (0, .ref qo), (1, .int (nI z))] rfl ?_
        have e9 : itr (nxStep n cst (some z)) none (j + 1) = some (n - 1 - j) := by
          show nxStep n cst (some z) j (itr (nxStep n cst (some z)) none j) = _
          rw [hf]
          simp [nxStep, nxB, c_29]
        refine x_less [0, 1, 2, 3] [(3, .int (nI (n - (j + 1)) + (-1))), (2, .int (eO (itr (nxStep n cst (some z)) none (j + 1)))), (0, .ref qo), (1, .int (nI z))] (by rw [e9]; rfl) ?_
        exact ih_j
      · refine x_aload_n (q := 33) C 2 rfl dX5_next_32 rfl ?_
        refine x_get (q := 36) C (T := TX5) iw_X5_next_X5 rfl 0 12 rfl (by decide) rfl (by decide +kernel : Cond.fieldLink RX5 34 RX5 "costs" "[I" ∈ wsX5_next) rfl dX5_next_33 rfl ?_
        refine x_iload_n (q := 37) C 0 rfl dX5_next_36 rfl ?_
        refine x_ialdN (q := 38) C (n - 1 - j) 1 (cst (n - 1 - j)) rfl rfl (by omega) (by omega) rfl dX5_next_37 rfl ?_
        refine x_aload_n (q := 39) C 2 rfl dX5_next_38 rfl ?_
        refine x_get (q := 42) C (T := TX5) iw_X5_next_X5 rfl 0 12 rfl (by decide) rfl (by decide +kernel : Cond.fieldLink RX5 34 RX5 "costs" "[I" ∈ wsX5_next) rfl dX5_next_39 rfl ?_
        refine x_iload_n (q := 43) C 3 rfl dX5_next_42 rfl ?_
        refine x_ialdN (q := 44) C z 1 (cst z) rfl rfl (by omega) (by omega) rfl dX5_next_43 rfl ?_
        refine x_icmp_ne (q := 47) C 56 dX5_next_44 (by decide) rfl (fun c_44 => ?_) (fun c_44 => ?_)
        · refine x_iconst (q := 57) C 0 rfl dX5_next_56 rfl ?_
          refine x_istore (q := 59) C [(4, .int 0), (3, .int (nI (n - 1 - j))), (2, .int (-1)), (0, .ref qo), (1, .int (nI z))] dX5_next_57 (by decide) rfl rfl ?_
          refine x_iload (q := 61) C 0 rfl dX5_next_59 rfl ?_
          refine x_if_eq_t C 87 dX5_next_61 (by decide) (by decide) ?_
          refine x_iload_n (q := 88) C 2 rfl dX5_next_87 rfl ?_
          refine x_istore_n (q := 89) C [(2, .int (-1)), (4, .int 0), (3, .int (nI (n - 1 - j))), (0, .ref qo), (1, .int (nI z))] dX5_next_88 (by decide) rfl rfl ?_
          refine x_iinc (q := 92) C 2 ((nI (n - 1 - j)) + -1) [(3, .int ((nI (n - 1 - j)) + -1)), (2, .int (-1)), (4, .int 0), (0, .ref qo), (1, .int (nI z))] dX5_next_89 rfl (rfl) (by decide) rfl rfl ?_
          refine x_goto C 9 dX5_next_92 (by decide) ?_
          refine x_less [0, 1, 3, 4] [(3, .int ((nI (n - 1 - j)) + -1)), (2, .int (-1)), (0, .ref qo), (1, .int (nI z))] rfl ?_
          have e9 : itr (nxStep n cst (some z)) none (j + 1) = none := by
            show nxStep n cst (some z) j (itr (nxStep n cst (some z)) none j) = _
            rw [hf]
            simp [nxStep, nxB, c_29, c_44]
          refine x_less [0, 1, 2, 3] [(3, .int (nI (n - (j + 1)) + (-1))), (2, .int (eO (itr (nxStep n cst (some z)) none (j + 1)))), (0, .ref qo), (1, .int (nI z))] (by rw [e9]; rfl) ?_
          exact ih_j
        · refine x_iload_n (q := 48) C 0 rfl dX5_next_47 rfl ?_
          refine x_iload_n (q := 49) C 3 rfl dX5_next_48 rfl ?_
          refine x_icmp_le (q := 52) C 56 dX5_next_49 (by decide) rfl (fun c_49 => ?_) (fun c_49 => ?_)
          · have c_49 : n - 1 - j ≤ z := (nI_leI (by omega) (by omega)).mp c_49
            refine x_iconst (q := 57) C 0 rfl dX5_next_56 rfl ?_
            refine x_istore (q := 59) C [(4, .int 0), (3, .int (nI (n - 1 - j))), (2, .int (-1)), (0, .ref qo), (1, .int (nI z))] dX5_next_57 (by decide) rfl rfl ?_
            refine x_iload (q := 61) C 0 rfl dX5_next_59 rfl ?_
            refine x_if_eq_t C 87 dX5_next_61 (by decide) (by decide) ?_
            refine x_iload_n (q := 88) C 2 rfl dX5_next_87 rfl ?_
            refine x_istore_n (q := 89) C [(2, .int (-1)), (4, .int 0), (3, .int (nI (n - 1 - j))), (0, .ref qo), (1, .int (nI z))] dX5_next_88 (by decide) rfl rfl ?_
            refine x_iinc (q := 92) C 2 ((nI (n - 1 - j)) + -1) [(3, .int ((nI (n - 1 - j)) + -1)), (2, .int (-1)), (4, .int 0), (0, .ref qo), (1, .int (nI z))] dX5_next_89 rfl (rfl) (by decide) rfl rfl ?_
            refine x_goto C 9 dX5_next_92 (by decide) ?_
            refine x_less [0, 1, 3, 4] [(3, .int ((nI (n - 1 - j)) + -1)), (2, .int (-1)), (0, .ref qo), (1, .int (nI z))] rfl ?_
            have e9 : itr (nxStep n cst (some z)) none (j + 1) = none := by
              show nxStep n cst (some z) j (itr (nxStep n cst (some z)) none j) = _
              rw [hf]
              simp [nxStep, nxB, c_29, c_44, c_49]
            refine x_less [0, 1, 2, 3] [(3, .int (nI (n - (j + 1)) + (-1))), (2, .int (eO (itr (nxStep n cst (some z)) none (j + 1)))), (0, .ref qo), (1, .int (nI z))] (by rw [e9]; rfl) ?_
            exact ih_j
          · have c_49 : ¬ n - 1 - j ≤ z := fun h8 => c_49 ((nI_leI (by omega) (by omega)).mpr h8)
            refine x_iconst (q := 53) C 1 rfl dX5_next_52 rfl ?_
            refine x_goto C 57 dX5_next_53 (by decide) ?_
            refine x_istore (q := 59) C [(4, .int 1), (3, .int (nI (n - 1 - j))), (2, .int (-1)), (0, .ref qo), (1, .int (nI z))] dX5_next_57 (by decide) rfl rfl ?_
            refine x_iload (q := 61) C 0 rfl dX5_next_59 rfl ?_
            refine x_if_eq_f (q := 64) C 87 dX5_next_61 (by decide) rfl (by decide) ?_
            refine x_iload_n (q := 65) C 2 rfl dX5_next_64 rfl ?_
            refine x_if_lt_t C 83 dX5_next_65 (by decide) (by decide) ?_
            refine x_iload_n (q := 84) C 1 rfl dX5_next_83 rfl ?_
            refine x_goto C 88 dX5_next_84 (by decide) ?_
            refine x_istore_n (q := 89) C [(2, .int (nI (n - 1 - j))), (4, .int 1), (3, .int (nI (n - 1 - j))), (0, .ref qo), (1, .int (nI z))] dX5_next_88 (by decide) rfl rfl ?_
            refine x_iinc (q := 92) C 2 ((nI (n - 1 - j)) + -1) [(3, .int ((nI (n - 1 - j)) + -1)), (2, .int (nI (n - 1 - j))), (4, .int 1), (0, .ref qo), (1, .int (nI z))] dX5_next_89 rfl (rfl) (by decide) rfl rfl ?_
            refine x_goto C 9 dX5_next_92 (by decide) ?_
            refine x_less [0, 1, 3, 4] [(3, .int ((nI (n - 1 - j)) + -1)), (2, .int (nI (n - 1 - j))), (0, .ref qo), (1, .int (nI z))] rfl ?_
            have e9 : itr (nxStep n cst (some z)) none (j + 1) = some (n - 1 - j) := by
              show nxStep n cst (some z) j (itr (nxStep n cst (some z)) none j) = _
              rw [hf]
              simp [nxStep, nxB, c_29, c_44, c_49]
            refine x_less [0, 1, 2, 3] [(3, .int (nI (n - (j + 1)) + (-1))), (2, .int (eO (itr (nxStep n cst (some z)) none (j + 1)))), (0, .ref qo), (1, .int (nI z))] (by rw [e9]; rfl) ?_
            exact ih_j
    · have hfn : f < n := nxI_lt (Nat.le_of_lt h_j) hf
      refine x_less [0, 1, 2, 3] [(3, .int (nI (n - 1 - j))), (2, .int (nI f)), (0, .ref qo), (1, .int (nI z))] (by rw [← e7]; rfl) ?_
      refine x_iload_n (q := 10) C 0 rfl dX5_next_9 rfl ?_
      refine x_if_lt_f (q := 13) C 95 dX5_next_10 (by decide) rfl (nI_nlt (a := (n - 1 - j)) (b := 0) (by omega) (by omega)) ?_
      refine x_iload_n (q := 14) C 3 rfl dX5_next_13 rfl ?_
      refine x_if_lt_f (q := 17) C 52 dX5_next_14 (by decide) rfl (nI_nlt (a := z) (b := 0) (by omega) (by omega)) ?_
      refine x_aload_n (q := 18) C 2 rfl dX5_next_17 rfl ?_
      refine x_get (q := 21) C (T := TX5) iw_X5_next_X5 rfl 0 12 rfl (by decide) rfl (by decide +kernel : Cond.fieldLink RX5 34 RX5 "costs" "[I" ∈ wsX5_next) rfl dX5_next_18 rfl ?_
      refine x_iload_n (q := 22) C 0 rfl dX5_next_21 rfl ?_
      refine x_ialdN (q := 23) C (n - 1 - j) 1 (cst (n - 1 - j)) rfl rfl (by omega) (by omega) rfl dX5_next_22 rfl ?_
      refine x_aload_n (q := 24) C 2 rfl dX5_next_23 rfl ?_
      refine x_get (q := 27) C (T := TX5) iw_X5_next_X5 rfl 0 12 rfl (by decide) rfl (by decide +kernel : Cond.fieldLink RX5 34 RX5 "costs" "[I" ∈ wsX5_next) rfl dX5_next_24 rfl ?_
      refine x_iload_n (q := 28) C 3 rfl dX5_next_27 rfl ?_
      refine x_ialdN (q := 29) C z 1 (cst z) rfl rfl (by omega) (by omega) rfl dX5_next_28 rfl ?_
      refine x_icmp_gt (q := 32) C 52 dX5_next_29 (by decide) rfl (fun c_29 => ?_) (fun c_29 => ?_)
      · refine x_iconst (q := 53) C 1 rfl dX5_next_52 rfl ?_
        refine x_goto C 57 dX5_next_53 (by decide) ?_
        refine x_istore (q := 59) C [(4, .int 1), (3, .int (nI (n - 1 - j))), (2, .int (nI f)), (0, .ref qo), (1, .int (nI z))] dX5_next_57 (by decide) rfl rfl ?_
        refine x_iload (q := 61) C 0 rfl dX5_next_59 rfl ?_
        refine x_if_eq_f (q := 64) C 87 dX5_next_61 (by decide) rfl (by decide) ?_
        refine x_iload_n (q := 65) C 2 rfl dX5_next_64 rfl ?_
        refine x_if_lt_f (q := 68) C 83 dX5_next_65 (by decide) rfl (nI_nlt (a := f) (b := 0) (by omega) (by omega)) ?_
        refine x_aload_n (q := 69) C 3 rfl dX5_next_68 rfl ?_
        refine x_get (q := 72) C (T := TX5) iw_X5_next_X5 rfl 0 12 rfl (by decide) rfl (by decide +kernel : Cond.fieldLink RX5 34 RX5 "costs" "[I" ∈ wsX5_next) rfl dX5_next_69 rfl ?_
        refine x_iload_n (q := 73) C 1 rfl dX5_next_72 rfl ?_
        refine x_ialdN (q := 74) C (n - 1 - j) 1 (cst (n - 1 - j)) rfl rfl (by omega) (by omega) rfl dX5_next_73 rfl ?_
        refine x_aload_n (q := 75) C 3 rfl dX5_next_74 rfl ?_
        refine x_get (q := 78) C (T := TX5) iw_X5_next_X5 rfl 0 12 rfl (by decide) rfl (by decide +kernel : Cond.fieldLink RX5 34 RX5 "costs" "[I" ∈ wsX5_next) rfl dX5_next_75 rfl ?_
        refine x_iload_n (q := 79) C 2 rfl dX5_next_78 rfl ?_
        refine x_ialdN (q := 80) C f 1 (cst f) rfl rfl (by omega) (by omega) rfl dX5_next_79 rfl ?_
        refine x_icmp_gt (q := 83) C 87 dX5_next_80 (by decide) rfl (fun c_80 => ?_) (fun c_80 => ?_)
        · refine x_iload_n (q := 88) C 2 rfl dX5_next_87 rfl ?_
          refine x_istore_n (q := 89) C [(2, .int (nI f)), (4, .int 1), (3, .int (nI (n - 1 - j))), (0, .ref qo), (1, .int (nI z))] dX5_next_88 (by decide) rfl rfl ?_
          refine x_iinc (q := 92) C 2 ((nI (n - 1 - j)) + -1) [(3, .int ((nI (n - 1 - j)) + -1)), (2, .int (nI f)), (4, .int 1), (0, .ref qo), (1, .int (nI z))] dX5_next_89 rfl (rfl) (by decide) rfl rfl ?_
          refine x_goto C 9 dX5_next_92 (by decide) ?_
          refine x_less [0, 1, 3, 4] [(3, .int ((nI (n - 1 - j)) + -1)), (2, .int (nI f)), (0, .ref qo), (1, .int (nI z))] rfl ?_
          have e9 : itr (nxStep n cst (some z)) none (j + 1) = some f := by
            show nxStep n cst (some z) j (itr (nxStep n cst (some z)) none j) = _
            rw [hf]
            simp [nxStep, nxB, c_29, c_80]
          refine x_less [0, 1, 2, 3] [(3, .int (nI (n - (j + 1)) + (-1))), (2, .int (eO (itr (nxStep n cst (some z)) none (j + 1)))), (0, .ref qo), (1, .int (nI z))] (by rw [e9]; rfl) ?_
          exact ih_j
        · refine x_iload_n (q := 84) C 1 rfl dX5_next_83 rfl ?_
          refine x_goto C 88 dX5_next_84 (by decide) ?_
          refine x_istore_n (q := 89) C [(2, .int (nI (n - 1 - j))), (4, .int 1), (3, .int (nI (n - 1 - j))), (0, .ref qo), (1, .int (nI z))] dX5_next_88 (by decide) rfl rfl ?_
          refine x_iinc (q := 92) C 2 ((nI (n - 1 - j)) + -1) [(3, .int ((nI (n - 1 - j)) + -1)), (2, .int (nI (n - 1 - j))), (4, .int 1), (0, .ref qo), (1, .int (nI z))] dX5_next_89 rfl (rfl) (by decide) rfl rfl ?_
          refine x_goto C 9 dX5_next_92 (by decide) ?_
          refine x_less [0, 1, 3, 4] [(3, .int ((nI (n - 1 - j)) + -1)), (2, .int (nI (n - 1 - j))), (0, .ref qo), (1, .int (nI z))] rfl ?_
          have e9 : itr (nxStep n cst (some z)) none (j + 1) = some (n - 1 - j) := by
            show nxStep n cst (some z) j (itr (nxStep n cst (some z)) none j) = _
            rw [hf]
            simp [nxStep, nxB, c_29, c_80]
          refine x_less [0, 1, 2, 3] [(3, .int (nI (n - (j + 1)) + (-1))), (2, .int (eO (itr (nxStep n cst (some z)) none (j + 1)))), (0, .ref qo), (1, .int (nI z))] (by rw [e9]; rfl) ?_
          exact ih_j
      · refine x_aload_n (q := 33) C 2 rfl dX5_next_32 rfl ?_
        refine x_get (q := 36) C (T := TX5) iw_X5_next_X5 rfl 0 12 rfl (by decide) rfl (by decide +kernel : Cond.fieldLink RX5 34 RX5 "costs" "[I" ∈ wsX5_next) rfl dX5_next_33 rfl ?_
        refine x_iload_n (q := 37) C 0 rfl dX5_next_36 rfl ?_
        refine x_ialdN (q := 38) C (n - 1 - j) 1 (cst (n - 1 - j)) rfl rfl (by omega) (by omega) rfl dX5_next_37 rfl ?_
        refine x_aload_n (q := 39) C 2 rfl dX5_next_38 rfl ?_
        refine x_get (q := 42) C (T := TX5) iw_X5_next_X5 rfl 0 12 rfl (by decide) rfl (by decide +kernel : Cond.fieldLink RX5 34 RX5 "costs" "[I" ∈ wsX5_next) rfl dX5_next_39 rfl ?_
        refine x_iload_n (q := 43) C 3 rfl dX5_next_42 rfl ?_
        refine x_ialdN (q := 44) C z 1 (cst z) rfl rfl (by omega) (by omega) rfl dX5_next_43 rfl ?_
        refine x_icmp_ne (q := 47) C 56 dX5_next_44 (by decide) rfl (fun c_44 => ?_) (fun c_44 => ?_)
        · refine x_iconst (q := 57) C 0 rfl dX5_next_56 rfl ?_
          refine x_istore (q := 59) C [(4, .int 0), (3, .int (nI (n - 1 - j))), (2, .int (nI f)), (0, .ref qo), (1, .int (nI z))] dX5_next_57 (by decide) rfl rfl ?_
          refine x_iload (q := 61) C 0 rfl dX5_next_59 rfl ?_
          refine x_if_eq_t C 87 dX5_next_61 (by decide) (by decide) ?_
          refine x_iload_n (q := 88) C 2 rfl dX5_next_87 rfl ?_
          refine x_istore_n (q := 89) C [(2, .int (nI f)), (4, .int 0), (3, .int (nI (n - 1 - j))), (0, .ref qo), (1, .int (nI z))] dX5_next_88 (by decide) rfl rfl ?_
          refine x_iinc (q := 92) C 2 ((nI (n - 1 - j)) + -1) [(3, .int ((nI (n - 1 - j)) + -1)), (2, .int (nI f)), (4, .int 0), (0, .ref qo), (1, .int (nI z))] dX5_next_89 rfl (rfl) (by decide) rfl rfl ?_
          refine x_goto C 9 dX5_next_92 (by decide) ?_
          refine x_less [0, 1, 3, 4] [(3, .int ((nI (n - 1 - j)) + -1)), (2, .int (nI f)), (0, .ref qo), (1, .int (nI z))] rfl ?_
          have e9 : itr (nxStep n cst (some z)) none (j + 1) = some f := by
            show nxStep n cst (some z) j (itr (nxStep n cst (some z)) none j) = _
            rw [hf]
            simp [nxStep, nxB, c_29, c_44]
          refine x_less [0, 1, 2, 3] [(3, .int (nI (n - (j + 1)) + (-1))), (2, .int (eO (itr (nxStep n cst (some z)) none (j + 1)))), (0, .ref qo), (1, .int (nI z))] (by rw [e9]; rfl) ?_
          exact ih_j
        · refine x_iload_n (q := 48) C 0 rfl dX5_next_47 rfl ?_
          refine x_iload_n (q := 49) C 3 rfl dX5_next_48 rfl ?_
          refine x_icmp_le (q := 52) C 56 dX5_next_49 (by decide) rfl (fun c_49 => ?_) (fun c_49 => ?_)
          · have c_49 : n - 1 - j ≤ z := (nI_leI (by omega) (by omega)).mp c_49
            refine x_iconst (q := 57) C 0 rfl dX5_next_56 rfl ?_
            refine x_istore (q := 59) C [(4, .int 0), (3, .int (nI (n - 1 - j))), (2, .int (nI f)), (0, .ref qo), (1, .int (nI z))] dX5_next_57 (by decide) rfl rfl ?_
            refine x_iload (q := 61) C 0 rfl dX5_next_59 rfl ?_
            refine x_if_eq_t C 87 dX5_next_61 (by decide) (by decide) ?_
            refine x_iload_n (q := 88) C 2 rfl dX5_next_87 rfl ?_
            refine x_istore_n (q := 89) C [(2, .int (nI f)), (4, .int 0), (3, .int (nI (n - 1 - j))), (0, .ref qo), (1, .int (nI z))] dX5_next_88 (by decide) rfl rfl ?_
            refine x_iinc (q := 92) C 2 ((nI (n - 1 - j)) + -1) [(3, .int ((nI (n - 1 - j)) + -1)), (2, .int (nI f)), (4, .int 0), (0, .ref qo), (1, .int (nI z))] dX5_next_89 rfl (rfl) (by decide) rfl rfl ?_
            refine x_goto C 9 dX5_next_92 (by decide) ?_
            refine x_less [0, 1, 3, 4] [(3, .int ((nI (n - 1 - j)) + -1)), (2, .int (nI f)), (0, .ref qo), (1, .int (nI z))] rfl ?_
            have e9 : itr (nxStep n cst (some z)) none (j + 1) = some f := by
              show nxStep n cst (some z) j (itr (nxStep n cst (some z)) none j) = _
              rw [hf]
              simp [nxStep, nxB, c_29, c_44, c_49]
            refine x_less [0, 1, 2, 3] [(3, .int (nI (n - (j + 1)) + (-1))), (2, .int (eO (itr (nxStep n cst (some z)) none (j + 1)))), (0, .ref qo), (1, .int (nI z))] (by rw [e9]; rfl) ?_
            exact ih_j
          · have c_49 : ¬ n - 1 - j ≤ z := fun h8 => c_49 ((nI_leI (by omega) (by omega)).mpr h8)
            refine x_iconst (q := 53) C 1 rfl dX5_next_52 rfl ?_
            refine x_goto C 57 dX5_next_53 (by decide) ?_
            refine x_istore (q := 59) C [(4, .int 1), (3, .int (nI (n - 1 - j))), (2, .int (nI f)), (0, .ref qo), (1, .int (nI z))] dX5_next_57 (by decide) rfl rfl ?_
            refine x_iload (q := 61) C 0 rfl dX5_next_59 rfl ?_
            refine x_if_eq_f (q := 64) C 87 dX5_next_61 (by decide) rfl (by decide) ?_
            refine x_iload_n (q := 65) C 2 rfl dX5_next_64 rfl ?_
            refine x_if_lt_f (q := 68) C 83 dX5_next_65 (by decide) rfl (nI_nlt (a := f) (b := 0) (by omega) (by omega)) ?_
            refine x_aload_n (q := 69) C 3 rfl dX5_next_68 rfl ?_
            refine x_get (q := 72) C (T := TX5) iw_X5_next_X5 rfl 0 12 rfl (by decide) rfl (by decide +kernel : Cond.fieldLink RX5 34 RX5 "costs" "[I" ∈ wsX5_next) rfl dX5_next_69 rfl ?_
            refine x_iload_n (q := 73) C 1 rfl dX5_next_72 rfl ?_
            refine x_ialdN (q := 74) C (n - 1 - j) 1 (cst (n - 1 - j)) rfl rfl (by omega) (by omega) rfl dX5_next_73 rfl ?_
            refine x_aload_n (q := 75) C 3 rfl dX5_next_74 rfl ?_
            refine x_get (q := 78) C (T := TX5) iw_X5_next_X5 rfl 0 12 rfl (by decide) rfl (by decide +kernel : Cond.fieldLink RX5 34 RX5 "costs" "[I" ∈ wsX5_next) rfl dX5_next_75 rfl ?_
            refine x_iload_n (q := 79) C 2 rfl dX5_next_78 rfl ?_
            refine x_ialdN (q := 80) C f 1 (cst f) rfl rfl (by omega) (by omega) rfl dX5_next_79 rfl ?_
            refine x_icmp_gt (q := 83) C 87 dX5_next_80 (by decide) rfl (fun c_80 => ?_) (fun c_80 => ?_)
            · refine x_iload_n (q := 88) C 2 rfl dX5_next_87 rfl ?_
              refine x_istore_n (q := 89) C [(2, .int (nI f)), (4, .int 1), (3, .int (nI (n - 1 - j))), (0, .ref qo), (1, .int (nI z))] dX5_next_88 (by decide) rfl rfl ?_
              refine x_iinc (q := 92) C 2 ((nI (n - 1 - j)) + -1) [(3, .int ((nI (n - 1 - j)) + -1)), (2, .int (nI f)), (4, .int 1), (0, .ref qo), (1, .int (nI z))] dX5_next_89 rfl (rfl) (by decide) rfl rfl ?_
              refine x_goto C 9 dX5_next_92 (by decide) ?_
              refine x_less [0, 1, 3, 4] [(3, .int ((nI (n - 1 - j)) + -1)), (2, .int (nI f)), (0, .ref qo), (1, .int (nI z))] rfl ?_
              have e9 : itr (nxStep n cst (some z)) none (j + 1) = some f := by
                show nxStep n cst (some z) j (itr (nxStep n cst (some z)) none j) = _
                rw [hf]
                simp [nxStep, nxB, c_29, c_44, c_49, c_80]
              refine x_less [0, 1, 2, 3] [(3, .int (nI (n - (j + 1)) + (-1))), (2, .int (eO (itr (nxStep n cst (some z)) none (j + 1)))), (0, .ref qo), (1, .int (nI z))] (by rw [e9]; rfl) ?_
              exact ih_j
            · refine x_iload_n (q := 84) C 1 rfl dX5_next_83 rfl ?_
              refine x_goto C 88 dX5_next_84 (by decide) ?_
              refine x_istore_n (q := 89) C [(2, .int (nI (n - 1 - j))), (4, .int 1), (3, .int (nI (n - 1 - j))), (0, .ref qo), (1, .int (nI z))] dX5_next_88 (by decide) rfl rfl ?_
              refine x_iinc (q := 92) C 2 ((nI (n - 1 - j)) + -1) [(3, .int ((nI (n - 1 - j)) + -1)), (2, .int (nI (n - 1 - j))), (4, .int 1), (0, .ref qo), (1, .int (nI z))] dX5_next_89 rfl (rfl) (by decide) rfl rfl ?_
              refine x_goto C 9 dX5_next_92 (by decide) ?_
              refine x_less [0, 1, 3, 4] [(3, .int ((nI (n - 1 - j)) + -1)), (2, .int (nI (n - 1 - j))), (0, .ref qo), (1, .int (nI z))] rfl ?_
              have e9 : itr (nxStep n cst (some z)) none (j + 1) = some (n - 1 - j) := by
                show nxStep n cst (some z) j (itr (nxStep n cst (some z)) none j) = _
                rw [hf]
                simp [nxStep, nxB, c_29, c_44, c_49, c_80]
              refine x_less [0, 1, 2, 3] [(3, .int (nI (n - (j + 1)) + (-1))), (2, .int (eO (itr (nxStep n cst (some z)) none (j + 1)))), (0, .ref qo), (1, .int (nI z))] (by rw [e9]; rfl) ?_
              exact ih_j
  · refine x_iload_n (q := 10) C 0 rfl dX5_next_9 rfl ?_
    refine x_if_lt_t C 95 dX5_next_10 (by decide) (by rw [Nat.sub_self]; decide) ?_
    refine x_iload_n (q := 96) C 1 rfl dX5_next_95 rfl ?_
    exact x_iret C .int rfl rfl (⟨rfl, rfl⟩) dX5_next_96 (Nat.le_of_ble_eq_true rfl) (Nat.le_of_ble_eq_true rfl)

theorem iw_X5_fires_X5 : ∀ w ∈ wsX50, w ∈ wsX5_fires := by decide +kernel
set_option maxHeartbeats 4000000 in
set_option maxRecDepth 100000 in
theorem c_X5_fires {l : Launch} {D : va_G} {cy : ClassId × ClassId × ClassId} (qo qF qL qA qE qH qB qS qP qC qT qD qR qX qG qM qU n : Nat) (th hh tt mc ml : Int32) (stp pow cst fr : Nat → Int32) (ord : List Nat) (w9 : Int32) (hn4 : n ≤ 4) (hfst : nxF n cst none = ord.head?) (hch : chn (fun k => nxF n cst (some k)) ord) (hlt : ∀ k ∈ ord, k < n) (hpw : ∀ k, k < n → ¬ pow k = 0) : xM false l yX5_fires wsX5_fires ({ frames := 1, cells := 0, slots := 0, locals := 24 }) D cy [.ref qo, .int w9] ([(qo, .inr (5, [.int th, .int hh, .int tt, .ref qF, .ref qL, .ref qA, .ref qE, .ref qH, .ref qB, .int (nI n), .ref qS, .ref qP, .ref qC, .int mc, .ref qT, .ref qD, .ref qR, .ref qX, .ref qG, .ref qM, .ref qU, .int ml])), (qS, .inl (cy.1, 4, .inl stp)), (qP, .inl (cy.1, 4, .inl pow)), (qC, .inl (cy.1, 4, .inl cst)), (qX, .inl (cy.1, 4, .inl fr))]) (xQv D (fun w => w = [(qo, .inr (5, [.int th, .int hh, .int tt, .ref qF, .ref qL, .ref qA, .ref qE, .ref qH, .ref qB, .int (nI n), .ref qS, .ref qP, .ref qC, .int ((mfireL stp pow cst ord w9 mc fr).1), .ref qT, .ref qD, .ref qR, .ref qX, .ref qG, .ref qM, .ref qU, .int ml])), (qS, .inl (cy.1, 4, .inl stp)), (qP, .inl (cy.1, 4, .inl pow)), (qC, .inl (cy.1, 4, .inl cst)), (qX, .inl (cy.1, 4, .inl ((mfireL stp pow cst ord w9 mc fr).2)))])) 0 0 := by
  refine xM_of (X := [(qo, .inr (5, [.int th, .int hh, .int tt, .ref qF, .ref qL, .ref qA, .ref qE, .ref qH, .ref qB, .int (nI n), .ref qS, .ref qP, .ref qC, .int mc, .ref qT, .ref qD, .ref qR, .ref qX, .ref qG, .ref qM, .ref qU, .int ml])), (qS, .inl (cy.1, 4, .inl stp)), (qP, .inl (cy.1, 4, .inl pow)), (qC, .inl (cy.1, 4, .inl cst)), (qX, .inl (cy.1, 4, .inl fr))]) (pl := []) (nL := 6) (ret := none) RX5 [(0, .ref qo), (1, .int w9)] (by decide +kernel) rfl rfl rfl (Nat.le_of_ble_eq_true rfl) (List.append_nil _).symm (fun p e s m args below meth c A C hname hT hZ => ?_)
  refine x_iload_n (q := 1) C 1 rfl dX5_fires_0 rfl ?_
  refine x_istore_n (q := 2) C [(2, .int w9), (0, .ref qo), (1, .int w9)] dX5_fires_1 (by decide) rfl rfl ?_
  refine x_aload_n (q := 3) C 1 rfl dX5_fires_2 rfl ?_
  refine x_iconst (q := 4) C (-1) rfl dX5_fires_3 rfl ?_
  refine x_CiP (q := 7) C [0, 3] [1, 2, 4] (cx := [(qo, .inr (5, [.int th, .int hh, .int tt, .ref qF, .ref qL, .ref qA, .ref qE, .ref qH, .ref qB, .int (nI n), .ref qS, .ref qP, .ref qC, .int mc, .ref qT, .ref qD, .ref qR, .ref qX, .ref qG, .ref qM, .ref qU, .int ml])), (qC, .inl (cy.1, 4, .inl cst))]) (wr := [(qS, .inl (cy.1, 4, .inl stp)), (qP, .inl (cy.1, 4, .inl pow)), (qX, .inl (cy.1, 4, .inl fr))]) (st := []) rfl rfl rfl rfl (by decide) (fun H locs ls hP hPc hDc hS hFc hl => x_runV C (As := [.int (-1)]) (c_X5_next_none qo qF qL qA qE qH qB qS qP qC qT qD qR qX qG qM qU n th hh tt mc ml cst hn4) (cwV 1 C.2.2.2.2.2.1 gX5_fires_X5_next rfl rfl rfl (by decide +kernel) ⟨Nat.le_of_ble_eq_true rfl, Nat.le_of_ble_eq_true rfl⟩) rfl 0 rfl rfl rfl (Nat.le_of_ble_eq_true rfl) dX5_fires_4 ⟨Nat.le_of_ble_eq_true rfl, Nat.le_of_ble_eq_true rfl⟩ (fun h => absurd h (by decide)) hP hPc hDc hS hFc hl) (k := 0) (n := 0) rfl rfl rfl (fun r_4 w1 hw => ?_)
  obtain ⟨rfl, rfl⟩ := hw
  refine x_ord [3, 0, 1, 4, 2] [(qo, .inr (5, [.int th, .int hh, .int tt, .ref qF, .ref qL, .ref qA, .ref qE, .ref qH, .ref qB, .int (nI n), .ref qS, .ref qP, .ref qC, .int mc, .ref qT, .ref qD, .ref qR, .ref qX, .ref qG, .ref qM, .ref qU, .int ml])), (qS, .inl (cy.1, 4, .inl stp)), (qP, .inl (cy.1, 4, .inl pow)), (qC, .inl (cy.1, 4, .inl cst)), (qX, .inl (cy.1, 4, .inl fr))] rfl rfl ?_
  refine x_istore_n (q := 8) C [(3, .int (eO (nxF n cst none))), (2, .int w9), (0, .ref qo), (1, .int w9)] dX5_fires_7 (by decide) rfl rfl ?_
  refine x_less [0, 1, 2] [(3, .int (eO (nxF n cst none))), (2, .int w9), (0, .ref qo)] rfl ?_
  refine x_less [0, 1, 2] [(3, .int (eO ord.head?)), (2, .int w9), (0, .ref qo)] (by rw [hfst]; rfl) ?_
  refine x_rec (σ := List Nat × Int32 × Int32 × (Nat → Int32)) (fun x => x.1.length) (fun x => chn (fun k => nxF n cst (some k)) x.1 ∧ (∀ k ∈ x.1, k < n) ∧ mfireL stp pow cst x.1 x.2.1 x.2.2.1 x.2.2.2 = mfireL stp pow cst ord w9 mc fr) (fun x => [(qo, .inr (5, [.int th, .int hh, .int tt, .ref qF, .ref qL, .ref qA, .ref qE, .ref qH, .ref qB, .int (nI n), .ref qS, .ref qP, .ref qC, .int x.2.2.1, .ref qT, .ref qD, .ref qR, .ref qX, .ref qG, .ref qM, .ref qU, .int ml])), (qS, .inl (cy.1, 4, .inl stp)), (qP, .inl (cy.1, 4, .inl pow)), (qC, .inl (cy.1, 4, .inl cst)), (qX, .inl (cy.1, 4, .inl x.2.2.2))]) (fun _ => []) (fun x => [(3, .int (eO x.1.head?)), (2, .int x.2.1), (0, .ref qo)]) (ord, w9, mc, fr) rfl rfl rfl ⟨hch, hlt, rfl⟩ (fun x hI ih => ?_)
  obtain ⟨ord1, l1, s1, f1⟩ := x
  rcases ord1 with _ | ⟨k, ks⟩
  · refine x_iload_n (q := 9) C 0 rfl dX5_fires_8 rfl ?_
    refine x_if_lt_t C 123 dX5_fires_9 (by decide) (by decide) ?_
    exact x_vret C rfl (by rw [show mfireL stp pow cst ord w9 mc fr = (s1, f1) from hI.2.2.symm]) dX5_fires_123 (Nat.le_of_ble_eq_true rfl) (Nat.le_of_ble_eq_true rfl)
  · have hkn : k < n := hI.2.1 k List.mem_cons_self
    refine x_iload_n (q := 9) C 0 rfl dX5_fires_8 rfl ?_
    refine x_if_lt_f (q := 12) C 123 dX5_fires_9 (by decide) rfl (nI_nlt (a := k) (b := 0) (by omega) (by omega)) ?_
    refine x_iload_n (q := 13) C 1 rfl dX5_fires_12 rfl ?_
    refine x_aload_n (q := 14) C 2 rfl dX5_fires_13 rfl ?_
    refine x_get (q := 17) C (T := TX5) iw_X5_fires_X5 rfl 0 11 rfl (by decide) rfl (by decide +kernel : Cond.fieldLink RX5 31 RX5 "powers" "[I" ∈ wsX5_fires) rfl dX5_fires_14 rfl ?_
    refine x_iload_n (q := 18) C 0 rfl dX5_fires_17 rfl ?_
    refine x_ialdN (q := 19) C k 2 (pow k) rfl rfl (by omega) (by omega) rfl dX5_fires_18 rfl ?_
    refine x_iadd (q := 20) C (l1 + (pow k)) (rfl) dX5_fires_19 rfl ?_
    refine x_iconst (q := 21) C 1 rfl dX5_fires_20 rfl ?_
    refine x_isub (q := 22) C ((l1 + (pow k)) - 1) (rfl) dX5_fires_21 rfl ?_
    refine x_aload_n (q := 23) C 2 rfl dX5_fires_22 rfl ?_
    refine x_get (q := 26) C (T := TX5) iw_X5_fires_X5 rfl 0 11 rfl (by decide) rfl (by decide +kernel : Cond.fieldLink RX5 31 RX5 "powers" "[I" ∈ wsX5_fires) rfl dX5_fires_23 rfl ?_
    refine x_iload_n (q := 27) C 0 rfl dX5_fires_26 rfl ?_
    refine x_ialdN (q := 28) C k 2 (pow k) rfl rfl (by omega) (by omega) rfl dX5_fires_27 rfl ?_
    refine x_idiv (q := 29) C (((l1 + (pow k)) - 1) / (pow k)) (rfl) (hpw k hkn) dX5_fires_28 rfl ?_
    refine x_istore (q := 31) C [(4, .int (((l1 + (pow k)) - 1) / (pow k))), (3, .int (nI k)), (2, .int l1), (0, .ref qo)] dX5_fires_29 (by decide) rfl rfl ?_
    refine x_iload (q := 33) C 0 rfl dX5_fires_31 rfl ?_
    refine x_aload_n (q := 34) C 3 rfl dX5_fires_33 rfl ?_
    refine x_get (q := 37) C (T := TX5) iw_X5_fires_X5 rfl 0 10 rfl (by decide) rfl (by decide +kernel : Cond.fieldLink RX5 28 RX5 "steps" "[I" ∈ wsX5_fires) rfl dX5_fires_34 rfl ?_
    refine x_iload_n (q := 38) C 1 rfl dX5_fires_37 rfl ?_
    refine x_ialdN (q := 39) C k 1 (stp k) rfl rfl (by omega) (by omega) rfl dX5_fires_38 rfl ?_
    refine x_icmp_le (q := 42) C 51 dX5_fires_39 (by decide) rfl (fun c_39 => ?_) (fun c_39 => ?_)
    · refine x_iload (q := 53) C 0 rfl dX5_fires_51 rfl ?_
      refine x_istore (q := 55) C [(4, .int (((l1 + (pow k)) - 1) / (pow k))), (3, .int (nI k)), (2, .int l1), (0, .ref qo)] dX5_fires_53 (by decide) rfl rfl ?_
      refine x_iload (q := 57) C 0 rfl dX5_fires_55 rfl ?_
      refine x_aload_n (q := 58) C 3 rfl dX5_fires_57 rfl ?_
      refine x_get (q := 61) C (T := TX5) iw_X5_fires_X5 rfl 0 11 rfl (by decide) rfl (by decide +kernel : Cond.fieldLink RX5 31 RX5 "powers" "[I" ∈ wsX5_fires) rfl dX5_fires_58 rfl ?_
      refine x_iload_n (q := 62) C 1 rfl dX5_fires_61 rfl ?_
      refine x_ialdN (q := 63) C k 2 (pow k) rfl rfl (by omega) (by omega) rfl dX5_fires_62 rfl ?_
      refine x_imul (q := 64) C ((((l1 + (pow k)) - 1) / (pow k)) * (pow k)) (rfl) dX5_fires_63 rfl ?_
      refine x_iload_n (q := 65) C 2 rfl dX5_fires_64 rfl ?_
      refine x_icmp_ge (q := 68) C 80 dX5_fires_65 (by decide) rfl (fun c_65 => ?_) (fun c_65 => ?_)
      · refine x_iload_n (q := 81) C 2 rfl dX5_fires_80 rfl ?_
        refine x_istore (q := 83) C [(5, .int l1), (4, .int (((l1 + (pow k)) - 1) / (pow k))), (3, .int (nI k)), (2, .int l1), (0, .ref qo)] dX5_fires_81 (by decide) rfl rfl ?_
        refine x_aload_n (q := 84) C 4 rfl dX5_fires_83 rfl ?_
        refine x_get (q := 87) C (T := TX5) iw_X5_fires_X5 rfl 0 17 rfl (by decide) rfl (by decide +kernel : Cond.fieldLink RX5 47 RX5 "fired" "[I" ∈ wsX5_fires) rfl dX5_fires_84 rfl ?_
        refine x_iload_n (q := 88) C 2 rfl dX5_fires_87 rfl ?_
        refine x_iload (q := 90) C 1 rfl dX5_fires_88 rfl ?_
        refine x_iastN (q := 91) C k 4 (upd f1 k (((l1 + (pow k)) - 1) / (pow k))) [(qo, .inr (5, [.int th, .int hh, .int tt, .ref qF, .ref qL, .ref qA, .ref qE, .ref qH, .ref qB, .int (nI n), .ref qS, .ref qP, .ref qC, .int s1, .ref qT, .ref qD, .ref qR, .ref qX, .ref qG, .ref qM, .ref qU, .int ml])), (qS, .inl (cy.1, 4, .inl stp)), (qP, .inl (cy.1, 4, .inl pow)), (qC, .inl (cy.1, 4, .inl cst)), (qX, .inl (cy.1, 4, .inl (upd f1 k (((l1 + (pow k)) - 1) / (pow k)))))] rfl rfl (by omega) (by omega) rfl rfl dX5_fires_90 rfl ?_
        refine x_aload_n (q := 92) C 4 rfl dX5_fires_91 rfl ?_
        refine x_dup (q := 93) C rfl dX5_fires_92 rfl ?_
        refine x_get (q := 96) C (T := TX5) iw_X5_fires_X5 rfl 0 13 rfl (by decide) rfl (by decide +kernel : Cond.fieldLink RX5 94 RX5 "cost" "I" ∈ wsX5_fires) rfl dX5_fires_93 rfl ?_
        refine x_iload (q := 98) C 0 rfl dX5_fires_96 rfl ?_
        refine x_aload_n (q := 99) C 4 rfl dX5_fires_98 rfl ?_
        refine x_get (q := 102) C (T := TX5) iw_X5_fires_X5 rfl 0 12 rfl (by decide) rfl (by decide +kernel : Cond.fieldLink RX5 34 RX5 "costs" "[I" ∈ wsX5_fires) rfl dX5_fires_99 rfl ?_
        refine x_iload_n (q := 103) C 2 rfl dX5_fires_102 rfl ?_
        refine x_ialdN (q := 104) C k 3 (cst k) rfl rfl (by omega) (by omega) rfl dX5_fires_103 rfl ?_
        refine x_imul (q := 105) C (l1 * (cst k)) (rfl) dX5_fires_104 rfl ?_
        refine x_iadd (q := 106) C (s1 + (l1 * (cst k))) (rfl) dX5_fires_105 rfl ?_
        refine x_put (q := 109) C (T := TX5) iw_X5_fires_X5 tyX5 tyX5_ok nmX5 rfl 0 13 [(qo, .inr (5, [.int th, .int hh, .int tt, .ref qF, .ref qL, .ref qA, .ref qE, .ref qH, .ref qB, .int (nI n), .ref qS, .ref qP, .ref qC, .int (s1 + (l1 * (cst k))), .ref qT, .ref qD, .ref qR, .ref qX, .ref qG, .ref qM, .ref qU, .int ml])), (qS, .inl (cy.1, 4, .inl stp)), (qP, .inl (cy.1, 4, .inl pow)), (qC, .inl (cy.1, 4, .inl cst)), (qX, .inl (cy.1, 4, .inl (upd f1 k (((l1 + (pow k)) - 1) / (pow k)))))] rfl rfl (by decide) rfl (by decide +kernel : Cond.fieldLink RX5 94 RX5 "cost" "I" ∈ wsX5_fires) rfl .int (by decide +kernel) rfl rfl (Nat.le_of_ble_eq_true rfl) dX5_fires_106 rfl ?_
        refine x_iload_n (q := 110) C 3 rfl dX5_fires_109 rfl ?_
        refine x_iload (q := 112) C 0 rfl dX5_fires_110 rfl ?_
        refine x_isub (q := 113) C (l1 - l1) (rfl) dX5_fires_112 rfl ?_
        refine x_istore_n (q := 114) C [(2, .int (l1 - l1)), (5, .int l1), (4, .int (((l1 + (pow k)) - 1) / (pow k))), (3, .int (nI k)), (0, .ref qo)] dX5_fires_113 (by decide) rfl rfl ?_
        refine x_aload_n (q := 115) C 4 rfl dX5_fires_114 rfl ?_
        refine x_iload_n (q := 116) C 3 rfl dX5_fires_115 rfl ?_
        refine x_CiP (q := 119) C [0, 3] [1, 2, 4] (cx := [(qo, .inr (5, [.int th, .int hh, .int tt, .ref qF, .ref qL, .ref qA, .ref qE, .ref qH, .ref qB, .int (nI n), .ref qS, .ref qP, .ref qC, .int (s1 + (l1 * (cst k))), .ref qT, .ref qD, .ref qR, .ref qX, .ref qG, .ref qM, .ref qU, .int ml])), (qC, .inl (cy.1, 4, .inl cst))]) (wr := [(qS, .inl (cy.1, 4, .inl stp)), (qP, .inl (cy.1, 4, .inl pow)), (qX, .inl (cy.1, 4, .inl (upd f1 k (((l1 + (pow k)) - 1) / (pow k)))))]) (st := []) rfl rfl rfl rfl (by decide) (fun H locs ls hP hPc hDc hS hFc hl => x_runV C (As := [.int (nI k)]) (c_X5_next_some qo qF qL qA qE qH qB qS qP qC qT qD qR qX qG qM qU n th hh tt (s1 + (l1 * (cst k))) ml cst k hn4 (hI.2.1 k List.mem_cons_self)) (cwV 1 C.2.2.2.2.2.1 gX5_fires_X5_next rfl rfl rfl (by decide +kernel) ⟨Nat.le_of_ble_eq_true rfl, Nat.le_of_ble_eq_true rfl⟩) rfl 0 rfl rfl rfl (Nat.le_of_ble_eq_true rfl) dX5_fires_116 ⟨Nat.le_of_ble_eq_true rfl, Nat.le_of_ble_eq_true rfl⟩ (fun h => absurd h (by decide)) hP hPc hDc hS hFc hl) (k := 0) (n := 0) rfl rfl rfl (fun r_116 w1 hw => ?_)
        obtain ⟨rfl, rfl⟩ := hw
        refine x_ord [3, 0, 1, 4, 2] [(qo, .inr (5, [.int th, .int hh, .int tt, .ref qF, .ref qL, .ref qA, .ref qE, .ref qH, .ref qB, .int (nI n), .ref qS, .ref qP, .ref qC, .int (s1 + (l1 * (cst k))), .ref qT, .ref qD, .ref qR, .ref qX, .ref qG, .ref qM, .ref qU, .int ml])), (qS, .inl (cy.1, 4, .inl stp)), (qP, .inl (cy.1, 4, .inl pow)), (qC, .inl (cy.1, 4, .inl cst)), (qX, .inl (cy.1, 4, .inl (upd f1 k (((l1 + (pow k)) - 1) / (pow k)))))] rfl rfl ?_
        refine x_istore_n (q := 120) C [(3, .int (eO (nxF n cst (some k)))), (2, .int (l1 - l1)), (5, .int l1), (4, .int (((l1 + (pow k)) - 1) / (pow k))), (0, .ref qo)] dX5_fires_119 (by decide) rfl rfl ?_
        refine x_goto C 8 dX5_fires_120 (by decide) ?_
        refine x_less [0, 1, 4] [(3, .int (eO (nxF n cst (some k)))), (2, .int (l1 - l1)), (0, .ref qo)] rfl ?_
        refine x_less [0, 1, 2] [(3, .int (eO ks.head?)), (2, .int (l1 - l1)), (0, .ref qo)] (by rw [hI.1.1]; rfl) ?_
        have e7 : mfireL stp pow cst (k :: ks) l1 s1 f1 = mfireL stp pow cst ks (l1 - l1) (s1 + (l1 * (cst k))) (upd f1 k (((l1 + (pow k)) - 1) / (pow k))) := by
          simp only [mfireL, mUsed, mIts, if_pos c_39, if_pos c_65]
        exact ih (ks, l1 - l1, s1 + (l1 * (cst k)), upd f1 k (((l1 + (pow k)) - 1) / (pow k))) ⟨hI.1.2, fun j hj => hI.2.1 j (List.mem_cons_of_mem _ hj), by rw [← hI.2.2]; exact e7.symm⟩ (by simp)
      · refine x_iload (q := 70) C 0 rfl dX5_fires_68 rfl ?_
        refine x_aload_n (q := 71) C 3 rfl dX5_fires_70 rfl ?_
        refine x_get (q := 74) C (T := TX5) iw_X5_fires_X5 rfl 0 11 rfl (by decide) rfl (by decide +kernel : Cond.fieldLink RX5 31 RX5 "powers" "[I" ∈ wsX5_fires) rfl dX5_fires_71 rfl ?_
        refine x_iload_n (q := 75) C 1 rfl dX5_fires_74 rfl ?_
        refine x_ialdN (q := 76) C k 2 (pow k) rfl rfl (by omega) (by omega) rfl dX5_fires_75 rfl ?_
        refine x_imul (q := 77) C ((((l1 + (pow k)) - 1) / (pow k)) * (pow k)) (rfl) dX5_fires_76 rfl ?_
        refine x_goto C 81 dX5_fires_77 (by decide) ?_
        refine x_istore (q := 83) C [(5, .int ((((l1 + (pow k)) - 1) / (pow k)) * (pow k))), (4, .int (((l1 + (pow k)) - 1) / (pow k))), (3, .int (nI k)), (2, .int l1), (0, .ref qo)] dX5_fires_81 (by decide) rfl rfl ?_
        refine x_aload_n (q := 84) C 4 rfl dX5_fires_83 rfl ?_
        refine x_get (q := 87) C (T := TX5) iw_X5_fires_X5 rfl 0 17 rfl (by decide) rfl (by decide +kernel : Cond.fieldLink RX5 47 RX5 "fired" "[I" ∈ wsX5_fires) rfl dX5_fires_84 rfl ?_
        refine x_iload_n (q := 88) C 2 rfl dX5_fires_87 rfl ?_
        refine x_iload (q := 90) C 1 rfl dX5_fires_88 rfl ?_
        refine x_iastN (q := 91) C k 4 (upd f1 k (((l1 + (pow k)) - 1) / (pow k))) [(qo, .inr (5, [.int th, .int hh, .int tt, .ref qF, .ref qL, .ref qA, .ref qE, .ref qH, .ref qB, .int (nI n), .ref qS, .ref qP, .ref qC, .int s1, .ref qT, .ref qD, .ref qR, .ref qX, .ref qG, .ref qM, .ref qU, .int ml])), (qS, .inl (cy.1, 4, .inl stp)), (qP, .inl (cy.1, 4, .inl pow)), (qC, .inl (cy.1, 4, .inl cst)), (qX, .inl (cy.1, 4, .inl (upd f1 k (((l1 + (pow k)) - 1) / (pow k)))))] rfl rfl (by omega) (by omega) rfl rfl dX5_fires_90 rfl ?_
        refine x_aload_n (q := 92) C 4 rfl dX5_fires_91 rfl ?_
        refine x_dup (q := 93) C rfl dX5_fires_92 rfl ?_
        refine x_get (q := 96) C (T := TX5) iw_X5_fires_X5 rfl 0 13 rfl (by decide) rfl (by decide +kernel : Cond.fieldLink RX5 94 RX5 "cost" "I" ∈ wsX5_fires) rfl dX5_fires_93 rfl ?_
        refine x_iload (q := 98) C 0 rfl dX5_fires_96 rfl ?_
        refine x_aload_n (q := 99) C 4 rfl dX5_fires_98 rfl ?_
        refine x_get (q := 102) C (T := TX5) iw_X5_fires_X5 rfl 0 12 rfl (by decide) rfl (by decide +kernel : Cond.fieldLink RX5 34 RX5 "costs" "[I" ∈ wsX5_fires) rfl dX5_fires_99 rfl ?_
        refine x_iload_n (q := 103) C 2 rfl dX5_fires_102 rfl ?_
        refine x_ialdN (q := 104) C k 3 (cst k) rfl rfl (by omega) (by omega) rfl dX5_fires_103 rfl ?_
        refine x_imul (q := 105) C (((((l1 + (pow k)) - 1) / (pow k)) * (pow k)) * (cst k)) (rfl) dX5_fires_104 rfl ?_
        refine x_iadd (q := 106) C (s1 + (((((l1 + (pow k)) - 1) / (pow k)) * (pow k)) * (cst k))) (rfl) dX5_fires_105 rfl ?_
        refine x_put (q := 109) C (T := TX5) iw_X5_fires_X5 tyX5 tyX5_ok nmX5 rfl 0 13 [(qo, .inr (5, [.int th, .int hh, .int tt, .ref qF, .ref qL, .ref qA, .ref qE, .ref qH, .ref qB, .int (nI n), .ref qS, .ref qP, .ref qC, .int (s1 + (((((l1 + (pow k)) - 1) / (pow k)) * (pow k)) * (cst k))), .ref qT, .ref qD, .ref qR, .ref qX, .ref qG, .ref qM, .ref qU, .int ml])), (qS, .inl (cy.1, 4, .inl stp)), (qP, .inl (cy.1, 4, .inl pow)), (qC, .inl (cy.1, 4, .inl cst)), (qX, .inl (cy.1, 4, .inl (upd f1 k (((l1 + (pow k)) - 1) / (pow k)))))] rfl rfl (by decide) rfl (by decide +kernel : Cond.fieldLink RX5 94 RX5 "cost" "I" ∈ wsX5_fires) rfl .int (by decide +kernel) rfl rfl (Nat.le_of_ble_eq_true rfl) dX5_fires_106 rfl ?_
        refine x_iload_n (q := 110) C 3 rfl dX5_fires_109 rfl ?_
        refine x_iload (q := 112) C 0 rfl dX5_fires_110 rfl ?_
        refine x_isub (q := 113) C (l1 - ((((l1 + (pow k)) - 1) / (pow k)) * (pow k))) (rfl) dX5_fires_112 rfl ?_
        refine x_istore_n (q := 114) C [(2, .int (l1 - ((((l1 + (pow k)) - 1) / (pow k)) * (pow k)))), (5, .int ((((l1 + (pow k)) - 1) / (pow k)) * (pow k))), (4, .int (((l1 + (pow k)) - 1) / (pow k))), (3, .int (nI k)), (0, .ref qo)] dX5_fires_113 (by decide) rfl rfl ?_
        refine x_aload_n (q := 115) C 4 rfl dX5_fires_114 rfl ?_
        refine x_iload_n (q := 116) C 3 rfl dX5_fires_115 rfl ?_
        refine x_CiP (q := 119) C [0, 3] [1, 2, 4] (cx := [(qo, .inr (5, [.int th, .int hh, .int tt, .ref qF, .ref qL, .ref qA, .ref qE, .ref qH, .ref qB, .int (nI n), .ref qS, .ref qP, .ref qC, .int (s1 + (((((l1 + (pow k)) - 1) / (pow k)) * (pow k)) * (cst k))), .ref qT, .ref qD, .ref qR, .ref qX, .ref qG, .ref qM, .ref qU, .int ml])), (qC, .inl (cy.1, 4, .inl cst))]) (wr := [(qS, .inl (cy.1, 4, .inl stp)), (qP, .inl (cy.1, 4, .inl pow)), (qX, .inl (cy.1, 4, .inl (upd f1 k (((l1 + (pow k)) - 1) / (pow k)))))]) (st := []) rfl rfl rfl rfl (by decide) (fun H locs ls hP hPc hDc hS hFc hl => x_runV C (As := [.int (nI k)]) (c_X5_next_some qo qF qL qA qE qH qB qS qP qC qT qD qR qX qG qM qU n th hh tt (s1 + (((((l1 + (pow k)) - 1) / (pow k)) * (pow k)) * (cst k))) ml cst k hn4 (hI.2.1 k List.mem_cons_self)) (cwV 1 C.2.2.2.2.2.1 gX5_fires_X5_next rfl rfl rfl (by decide +kernel) ⟨Nat.le_of_ble_eq_true rfl, Nat.le_of_ble_eq_true rfl⟩) rfl 0 rfl rfl rfl (Nat.le_of_ble_eq_true rfl) dX5_fires_116 ⟨Nat.le_of_ble_eq_true rfl, Nat.le_of_ble_eq_true rfl⟩ (fun h => absurd h (by decide)) hP hPc hDc hS hFc hl) (k := 0) (n := 0) rfl rfl rfl (fun r_116 w1 hw => ?_)
        obtain ⟨rfl, rfl⟩ := hw
        refine x_ord [3, 0, 1, 4, 2] [(qo, .inr (5, [.int th, .int hh, .int tt, .ref qF, .ref qL, .ref qA, .ref qE, .ref qH, .ref qB, .int (nI n), .ref qS, .ref qP, .ref qC, .int (s1 + (((((l1 + (pow k)) - 1) / (pow k)) * (pow k)) * (cst k))), .ref qT, .ref qD, .ref qR, .ref qX, .ref qG, .ref qM, .ref qU, .int ml])), (qS, .inl (cy.1, 4, .inl stp)), (qP, .inl (cy.1, 4, .inl pow)), (qC, .inl (cy.1, 4, .inl cst)), (qX, .inl (cy.1, 4, .inl (upd f1 k (((l1 + (pow k)) - 1) / (pow k)))))] rfl rfl ?_
        refine x_istore_n (q := 120) C [(3, .int (eO (nxF n cst (some k)))), (2, .int (l1 - ((((l1 + (pow k)) - 1) / (pow k)) * (pow k)))), (5, .int ((((l1 + (pow k)) - 1) / (pow k)) * (pow k))), (4, .int (((l1 + (pow k)) - 1) / (pow k))), (0, .ref qo)] dX5_fires_119 (by decide) rfl rfl ?_
        refine x_goto C 8 dX5_fires_120 (by decide) ?_
        refine x_less [0, 1, 4] [(3, .int (eO (nxF n cst (some k)))), (2, .int (l1 - ((((l1 + (pow k)) - 1) / (pow k)) * (pow k)))), (0, .ref qo)] rfl ?_
        refine x_less [0, 1, 2] [(3, .int (eO ks.head?)), (2, .int (l1 - ((((l1 + (pow k)) - 1) / (pow k)) * (pow k)))), (0, .ref qo)] (by rw [hI.1.1]; rfl) ?_
        have e7 : mfireL stp pow cst (k :: ks) l1 s1 f1 = mfireL stp pow cst ks (l1 - ((((l1 + (pow k)) - 1) / (pow k)) * (pow k))) (s1 + (((((l1 + (pow k)) - 1) / (pow k)) * (pow k)) * (cst k))) (upd f1 k (((l1 + (pow k)) - 1) / (pow k))) := by
          simp only [mfireL, mUsed, mIts, if_pos c_39, if_neg c_65]
        exact ih (ks, l1 - ((((l1 + (pow k)) - 1) / (pow k)) * (pow k)), s1 + (((((l1 + (pow k)) - 1) / (pow k)) * (pow k)) * (cst k)), upd f1 k (((l1 + (pow k)) - 1) / (pow k))) ⟨hI.1.2, fun j hj => hI.2.1 j (List.mem_cons_of_mem _ hj), by rw [← hI.2.2]; exact e7.symm⟩ (by simp)
    · refine x_aload_n (q := 43) C 3 rfl dX5_fires_42 rfl ?_
      refine x_get (q := 46) C (T := TX5) iw_X5_fires_X5 rfl 0 10 rfl (by decide) rfl (by decide +kernel : Cond.fieldLink RX5 28 RX5 "steps" "[I" ∈ wsX5_fires) rfl dX5_fires_43 rfl ?_
      refine x_iload_n (q := 47) C 1 rfl dX5_fires_46 rfl ?_
      refine x_ialdN (q := 48) C k 1 (stp k) rfl rfl (by omega) (by omega) rfl dX5_fires_47 rfl ?_
      refine x_goto C 53 dX5_fires_48 (by decide) ?_
      refine x_istore (q := 55) C [(4, .int (stp k)), (3, .int (nI k)), (2, .int l1), (0, .ref qo)] dX5_fires_53 (by decide) rfl rfl ?_
      refine x_iload (q := 57) C 0 rfl dX5_fires_55 rfl ?_
      refine x_aload_n (q := 58) C 3 rfl dX5_fires_57 rfl ?_
      refine x_get (q := 61) C (T := TX5) iw_X5_fires_X5 rfl 0 11 rfl (by decide) rfl (by decide +kernel : Cond.fieldLink RX5 31 RX5 "powers" "[I" ∈ wsX5_fires) rfl dX5_fires_58 rfl ?_
      refine x_iload_n (q := 62) C 1 rfl dX5_fires_61 rfl ?_
      refine x_ialdN (q := 63) C k 2 (pow k) rfl rfl (by omega) (by omega) rfl dX5_fires_62 rfl ?_
      refine x_imul (q := 64) C ((stp k) * (pow k)) (rfl) dX5_fires_63 rfl ?_
      refine x_iload_n (q := 65) C 2 rfl dX5_fires_64 rfl ?_
      refine x_icmp_ge (q := 68) C 80 dX5_fires_65 (by decide) rfl (fun c_65 => ?_) (fun c_65 => ?_)
      · refine x_iload_n (q := 81) C 2 rfl dX5_fires_80 rfl ?_
        refine x_istore (q := 83) C [(5, .int l1), (4, .int (stp k)), (3, .int (nI k)), (2, .int l1), (0, .ref qo)] dX5_fires_81 (by decide) rfl rfl ?_
        refine x_aload_n (q := 84) C 4 rfl dX5_fires_83 rfl ?_
        refine x_get (q := 87) C (T := TX5) iw_X5_fires_X5 rfl 0 17 rfl (by decide) rfl (by decide +kernel : Cond.fieldLink RX5 47 RX5 "fired" "[I" ∈ wsX5_fires) rfl dX5_fires_84 rfl ?_
        refine x_iload_n (q := 88) C 2 rfl dX5_fires_87 rfl ?_
        refine x_iload (q := 90) C 1 rfl dX5_fires_88 rfl ?_
        refine x_iastN (q := 91) C k 4 (upd f1 k (stp k)) [(qo, .inr (5, [.int th, .int hh, .int tt, .ref qF, .ref qL, .ref qA, .ref qE, .ref qH, .ref qB, .int (nI n), .ref qS, .ref qP, .ref qC, .int s1, .ref qT, .ref qD, .ref qR, .ref qX, .ref qG, .ref qM, .ref qU, .int ml])), (qS, .inl (cy.1, 4, .inl stp)), (qP, .inl (cy.1, 4, .inl pow)), (qC, .inl (cy.1, 4, .inl cst)), (qX, .inl (cy.1, 4, .inl (upd f1 k (stp k))))] rfl rfl (by omega) (by omega) rfl rfl dX5_fires_90 rfl ?_
        refine x_aload_n (q := 92) C 4 rfl dX5_fires_91 rfl ?_
        refine x_dup (q := 93) C rfl dX5_fires_92 rfl ?_
        refine x_get (q := 96) C (T := TX5) iw_X5_fires_X5 rfl 0 13 rfl (by decide) rfl (by decide +kernel : Cond.fieldLink RX5 94 RX5 "cost" "I" ∈ wsX5_fires) rfl dX5_fires_93 rfl ?_
        refine x_iload (q := 98) C 0 rfl dX5_fires_96 rfl ?_
        refine x_aload_n (q := 99) C 4 rfl dX5_fires_98 rfl ?_
        refine x_get (q := 102) C (T := TX5) iw_X5_fires_X5 rfl 0 12 rfl (by decide) rfl (by decide +kernel : Cond.fieldLink RX5 34 RX5 "costs" "[I" ∈ wsX5_fires) rfl dX5_fires_99 rfl ?_
        refine x_iload_n (q := 103) C 2 rfl dX5_fires_102 rfl ?_
        refine x_ialdN (q := 104) C k 3 (cst k) rfl rfl (by omega) (by omega) rfl dX5_fires_103 rfl ?_
        refine x_imul (q := 105) C (l1 * (cst k)) (rfl) dX5_fires_104 rfl ?_
        refine x_iadd (q := 106) C (s1 + (l1 * (cst k))) (rfl) dX5_fires_105 rfl ?_
        refine x_put (q := 109) C (T := TX5) iw_X5_fires_X5 tyX5 tyX5_ok nmX5 rfl 0 13 [(qo, .inr (5, [.int th, .int hh, .int tt, .ref qF, .ref qL, .ref qA, .ref qE, .ref qH, .ref qB, .int (nI n), .ref qS, .ref qP, .ref qC, .int (s1 + (l1 * (cst k))), .ref qT, .ref qD, .ref qR, .ref qX, .ref qG, .ref qM, .ref qU, .int ml])), (qS, .inl (cy.1, 4, .inl stp)), (qP, .inl (cy.1, 4, .inl pow)), (qC, .inl (cy.1, 4, .inl cst)), (qX, .inl (cy.1, 4, .inl (upd f1 k (stp k))))] rfl rfl (by decide) rfl (by decide +kernel : Cond.fieldLink RX5 94 RX5 "cost" "I" ∈ wsX5_fires) rfl .int (by decide +kernel) rfl rfl (Nat.le_of_ble_eq_true rfl) dX5_fires_106 rfl ?_
        refine x_iload_n (q := 110) C 3 rfl dX5_fires_109 rfl ?_
        refine x_iload (q := 112) C 0 rfl dX5_fires_110 rfl ?_
        refine x_isub (q := 113) C (l1 - l1) (rfl) dX5_fires_112 rfl ?_
        refine x_istore_n (q := 114) C [(2, .int (l1 - l1)), (5, .int l1), (4, .int (stp k)), (3, .int (nI k)), (0, .ref qo)] dX5_fires_113 (by decide) rfl rfl ?_
        refine x_aload_n (q := 115) C 4 rfl dX5_fires_114 rfl ?_
        refine x_iload_n (q := 116) C 3 rfl dX5_fires_115 rfl ?_
        refine x_CiP (q := 119) C [0, 3] [1, 2, 4] (cx := [(qo, .inr (5, [.int th, .int hh, .int tt, .ref qF, .ref qL, .ref qA, .ref qE, .ref qH, .ref qB, .int (nI n), .ref qS, .ref qP, .ref qC, .int (s1 + (l1 * (cst k))), .ref qT, .ref qD, .ref qR, .ref qX, .ref qG, .ref qM, .ref qU, .int ml])), (qC, .inl (cy.1, 4, .inl cst))]) (wr := [(qS, .inl (cy.1, 4, .inl stp)), (qP, .inl (cy.1, 4, .inl pow)), (qX, .inl (cy.1, 4, .inl (upd f1 k (stp k))))]) (st := []) rfl rfl rfl rfl (by decide) (fun H locs ls hP hPc hDc hS hFc hl => x_runV C (As := [.int (nI k)]) (c_X5_next_some qo qF qL qA qE qH qB qS qP qC qT qD qR qX qG qM qU n th hh tt (s1 + (l1 * (cst k))) ml cst k hn4 (hI.2.1 k List.mem_cons_self)) (cwV 1 C.2.2.2.2.2.1 gX5_fires_X5_next rfl rfl rfl (by decide +kernel) ⟨Nat.le_of_ble_eq_true rfl, Nat.le_of_ble_eq_true rfl⟩) rfl 0 rfl rfl rfl (Nat.le_of_ble_eq_true rfl) dX5_fires_116 ⟨Nat.le_of_ble_eq_true rfl, Nat.le_of_ble_eq_true rfl⟩ (fun h => absurd h (by decide)) hP hPc hDc hS hFc hl) (k := 0) (n := 0) rfl rfl rfl (fun r_116 w1 hw => ?_)
        obtain ⟨rfl, rfl⟩ := hw
        refine x_ord [3, 0, 1, 4, 2] [(qo, .inr (5, [.int th, .int hh, .int tt, .ref qF, .ref qL, .ref qA, .ref qE, .ref qH, .ref qB, .int (nI n), .ref qS, .ref qP, .ref qC, .int (s1 + (l1 * (cst k))), .ref qT, .ref qD, .ref qR, .ref qX, .ref qG, .ref qM, .ref qU, .int ml])), (qS, .inl (cy.1, 4, .inl stp)), (qP, .inl (cy.1, 4, .inl pow)), (qC, .inl (cy.1, 4, .inl cst)), (qX, .inl (cy.1, 4, .inl (upd f1 k (stp k))))] rfl rfl ?_
        refine x_istore_n (q := 120) C [(3, .int (eO (nxF n cst (some k)))), (2, .int (l1 - l1)), (5, .int l1), (4, .int (stp k)), (0, .ref qo)] dX5_fires_119 (by decide) rfl rfl ?_
        refine x_goto C 8 dX5_fires_120 (by decide) ?_
        refine x_less [0, 1, 4] [(3, .int (eO (nxF n cst (some k)))), (2, .int (l1 - l1)), (0, .ref qo)] rfl ?_
        refine x_less [0, 1, 2] [(3, .int (eO ks.head?)), (2, .int (l1 - l1)), (0, .ref qo)] (by rw [hI.1.1]; rfl) ?_
        have e7 : mfireL stp pow cst (k :: ks) l1 s1 f1 = mfireL stp pow cst ks (l1 - l1) (s1 + (l1 * (cst k))) (upd f1 k (stp k)) := by
          simp only [mfireL, mUsed, mIts, if_neg c_39, if_pos c_65]
        exact ih (ks, l1 - l1, s1 + (l1 * (cst k)), upd f1 k (stp k)) ⟨hI.1.2, fun j hj => hI.2.1 j (List.mem_cons_of_mem _ hj), by rw [← hI.2.2]; exact e7.symm⟩ (by simp)
      · refine x_iload (q := 70) C 0 rfl dX5_fires_68 rfl ?_
        refine x_aload_n (q := 71) C 3 rfl dX5_fires_70 rfl ?_
        refine x_get (q := 74) C (T := TX5) iw_X5_fires_X5 rfl 0 11 rfl (by decide) rfl (by decide +kernel : Cond.fieldLink RX5 31 RX5 "powers" "[I" ∈ wsX5_fires) rfl dX5_fires_71 rfl ?_
        refine x_iload_n (q := 75) C 1 rfl dX5_fires_74 rfl ?_
        refine x_ialdN (q := 76) C k 2 (pow k) rfl rfl (by omega) (by omega) rfl dX5_fires_75 rfl ?_
        refine x_imul (q := 77) C ((stp k) * (pow k)) (rfl) dX5_fires_76 rfl ?_
        refine x_goto C 81 dX5_fires_77 (by decide) ?_
        refine x_istore (q := 83) C [(5, .int ((stp k) * (pow k))), (4, .int (stp k)), (3, .int (nI k)), (2, .int l1), (0, .ref qo)] dX5_fires_81 (by decide) rfl rfl ?_
        refine x_aload_n (q := 84) C 4 rfl dX5_fires_83 rfl ?_
        refine x_get (q := 87) C (T := TX5) iw_X5_fires_X5 rfl 0 17 rfl (by decide) rfl (by decide +kernel : Cond.fieldLink RX5 47 RX5 "fired" "[I" ∈ wsX5_fires) rfl dX5_fires_84 rfl ?_
        refine x_iload_n (q := 88) C 2 rfl dX5_fires_87 rfl ?_
        refine x_iload (q := 90) C 1 rfl dX5_fires_88 rfl ?_
        refine x_iastN (q := 91) C k 4 (upd f1 k (stp k)) [(qo, .inr (5, [.int th, .int hh, .int tt, .ref qF, .ref qL, .ref qA, .ref qE, .ref qH, .ref qB, .int (nI n), .ref qS, .ref qP, .ref qC, .int s1, .ref qT, .ref qD, .ref qR, .ref qX, .ref qG, .ref qM, .ref qU, .int ml])), (qS, .inl (cy.1, 4, .inl stp)), (qP, .inl (cy.1, 4, .inl pow)), (qC, .inl (cy.1, 4, .inl cst)), (qX, .inl (cy.1, 4, .inl (upd f1 k (stp k))))] rfl rfl (by omega) (by omega) rfl rfl dX5_fires_90 rfl ?_
        refine x_aload_n (q := 92) C 4 rfl dX5_fires_91 rfl ?_
        refine x_dup (q := 93) C rfl dX5_fires_92 rfl ?_
        refine x_get (q := 96) C (T := TX5) iw_X5_fires_X5 rfl 0 13 rfl (by decide) rfl (by decide +kernel : Cond.fieldLink RX5 94 RX5 "cost" "I" ∈ wsX5_fires) rfl dX5_fires_93 rfl ?_
        refine x_iload (q := 98) C 0 rfl dX5_fires_96 rfl ?_
        refine x_aload_n (q := 99) C 4 rfl dX5_fires_98 rfl ?_
        refine x_get (q := 102) C (T := TX5) iw_X5_fires_X5 rfl 0 12 rfl (by decide) rfl (by decide +kernel : Cond.fieldLink RX5 34 RX5 "costs" "[I" ∈ wsX5_fires) rfl dX5_fires_99 rfl ?_
        refine x_iload_n (q := 103) C 2 rfl dX5_fires_102 rfl ?_
        refine x_ialdN (q := 104) C k 3 (cst k) rfl rfl (by omega) (by omega) rfl dX5_fires_103 rfl ?_
        refine x_imul (q := 105) C (((stp k) * (pow k)) * (cst k)) (rfl) dX5_fires_104 rfl ?_
        refine x_iadd (q := 106) C (s1 + (((stp k) * (pow k)) * (cst k))) (rfl) dX5_fires_105 rfl ?_
        refine x_put (q := 109) C (T := TX5) iw_X5_fires_X5 tyX5 tyX5_ok nmX5 rfl 0 13 [(qo, .inr (5, [.int th, .int hh, .int tt, .ref qF, .ref qL, .ref qA, .ref qE, .ref qH, .ref qB, .int (nI n), .ref qS, .ref qP, .ref qC, .int (s1 + (((stp k) * (pow k)) * (cst k))), .ref qT, .ref qD, .ref qR, .ref qX, .ref qG, .ref qM, .ref qU, .int ml])), (qS, .inl (cy.1, 4, .inl stp)), (qP, .inl (cy.1, 4, .inl pow)), (qC, .inl (cy.1, 4, .inl cst)), (qX, .inl (cy.1, 4, .inl (upd f1 k (stp k))))] rfl rfl (by decide) rfl (by decide +kernel : Cond.fieldLink RX5 94 RX5 "cost" "I" ∈ wsX5_fires) rfl .int (by decide +kernel) rfl rfl (Nat.le_of_ble_eq_true rfl) dX5_fires_106 rfl ?_
        refine x_iload_n (q := 110) C 3 rfl dX5_fires_109 rfl ?_
        refine x_iload (q := 112) C 0 rfl dX5_fires_110 rfl ?_
        refine x_isub (q := 113) C (l1 - ((stp k) * (pow k))) (rfl) dX5_fires_112 rfl ?_
        refine x_istore_n (q := 114) C [(2, .int (l1 - ((stp k) * (pow k)))), (5, .int ((stp k) * (pow k))), (4, .int (stp k)), (3, .int (nI k)), (0, .ref qo)] dX5_fires_113 (by decide) rfl rfl ?_
        refine x_aload_n (q := 115) C 4 rfl dX5_fires_114 rfl ?_
        refine x_iload_n (q := 116) C 3 rfl dX5_fires_115 rfl ?_
        refine x_CiP (q := 119) C [0, 3] [1, 2, 4] (cx := [(qo, .inr (5, [.int th, .int hh, .int tt, .ref qF, .ref qL, .ref qA, .ref qE, .ref qH, .ref qB, .int (nI n), .ref qS, .ref qP, .ref qC, .int (s1 + (((stp k) * (pow k)) * (cst k))), .ref qT, .ref qD, .ref qR, .ref qX, .ref qG, .ref qM, .ref qU, .int ml])), (qC, .inl (cy.1, 4, .inl cst))]) (wr := [(qS, .inl (cy.1, 4, .inl stp)), (qP, .inl (cy.1, 4, .inl pow)), (qX, .inl (cy.1, 4, .inl (upd f1 k (stp k))))]) (st := []) rfl rfl rfl rfl (by decide) (fun H locs ls hP hPc hDc hS hFc hl => x_runV C (As := [.int (nI k)]) (c_X5_next_some qo qF qL qA qE qH qB qS qP qC qT qD qR qX qG qM qU n th hh tt (s1 + (((stp k) * (pow k)) * (cst k))) ml cst k hn4 (hI.2.1 k List.mem_cons_self)) (cwV 1 C.2.2.2.2.2.1 gX5_fires_X5_next rfl rfl rfl (by decide +kernel) ⟨Nat.le_of_ble_eq_true rfl, Nat.le_of_ble_eq_true rfl⟩) rfl 0 rfl rfl rfl (Nat.le_of_ble_eq_true rfl) dX5_fires_116 ⟨Nat.le_of_ble_eq_true rfl, Nat.le_of_ble_eq_true rfl⟩ (fun h => absurd h (by decide)) hP hPc hDc hS hFc hl) (k := 0) (n := 0) rfl rfl rfl (fun r_116 w1 hw => ?_)
        obtain ⟨rfl, rfl⟩ := hw
        refine x_ord [3, 0, 1, 4, 2] [(qo, .inr (5, [.int th, .int hh, .int tt, .ref qF, .ref qL, .ref qA, .ref qE, .ref qH, .ref qB, .int (nI n), .ref qS, .ref qP, .ref qC, .int (s1 + (((stp k) * (pow k)) * (cst k))), .ref qT, .ref qD, .ref qR, .ref qX, .ref qG, .ref qM, .ref qU, .int ml])), (qS, .inl (cy.1, 4, .inl stp)), (qP, .inl (cy.1, 4, .inl pow)), (qC, .inl (cy.1, 4, .inl cst)), (qX, .inl (cy.1, 4, .inl (upd f1 k (stp k))))] rfl rfl ?_
        refine x_istore_n (q := 120) C [(3, .int (eO (nxF n cst (some k)))), (2, .int (l1 - ((stp k) * (pow k)))), (5, .int ((stp k) * (pow k))), (4, .int (stp k)), (0, .ref qo)] dX5_fires_119 (by decide) rfl rfl ?_
        refine x_goto C 8 dX5_fires_120 (by decide) ?_
        refine x_less [0, 1, 4] [(3, .int (eO (nxF n cst (some k)))), (2, .int (l1 - ((stp k) * (pow k)))), (0, .ref qo)] rfl ?_
        refine x_less [0, 1, 2] [(3, .int (eO ks.head?)), (2, .int (l1 - ((stp k) * (pow k)))), (0, .ref qo)] (by rw [hI.1.1]; rfl) ?_
        have e7 : mfireL stp pow cst (k :: ks) l1 s1 f1 = mfireL stp pow cst ks (l1 - ((stp k) * (pow k))) (s1 + (((stp k) * (pow k)) * (cst k))) (upd f1 k (stp k)) := by
          simp only [mfireL, mUsed, mIts, if_neg c_39, if_neg c_65]
        exact ih (ks, l1 - ((stp k) * (pow k)), s1 + (((stp k) * (pow k)) * (cst k)), upd f1 k (stp k)) ⟨hI.1.2, fun j hj => hI.2.1 j (List.mem_cons_of_mem _ hj), by rw [← hI.2.2]; exact e7.symm⟩ (by simp)

theorem iw_X5_power_X5 : ∀ w ∈ wsX50, w ∈ wsX5_power := by decide +kernel
set_option maxHeartbeats 4000000 in
set_option maxRecDepth 100000 in
theorem c_X5_power {l : Launch} {D : va_G} {cy : ClassId × ClassId × ClassId} (qo qF qL qA qE qH qB qS qP qC qT qD qR qX qG qM qU n : Nat) (th hh tt mc ml : Int32) (stp pow : Nat → Int32) (hn4 : n ≤ 4) : xM false l yX5_power wsX5_power ({ frames := 0, cells := 0, slots := 0, locals := 0 }) D cy [.ref qo] ([(qo, .inr (5, [.int th, .int hh, .int tt, .ref qF, .ref qL, .ref qA, .ref qE, .ref qH, .ref qB, .int (nI n), .ref qS, .ref qP, .ref qC, .int mc, .ref qT, .ref qD, .ref qR, .ref qX, .ref qG, .ref qM, .ref qU, .int ml])), (qS, .inl (cy.1, 4, .inl stp)), (qP, .inl (cy.1, 4, .inl pow))]) (xQi D (fun r w => r = mpFun stp pow n ∧ w = [(qo, .inr (5, [.int th, .int hh, .int tt, .ref qF, .ref qL, .ref qA, .ref qE, .ref qH, .ref qB, .int (nI n), .ref qS, .ref qP, .ref qC, .int mc, .ref qT, .ref qD, .ref qR, .ref qX, .ref qG, .ref qM, .ref qU, .int ml])), (qS, .inl (cy.1, 4, .inl stp)), (qP, .inl (cy.1, 4, .inl pow))])) 0 0 := by
  refine xM_of (X := [(qo, .inr (5, [.int th, .int hh, .int tt, .ref qF, .ref qL, .ref qA, .ref qE, .ref qH, .ref qB, .int (nI n), .ref qS, .ref qP, .ref qC, .int mc, .ref qT, .ref qD, .ref qR, .ref qX, .ref qG, .ref qM, .ref qU, .int ml])), (qS, .inl (cy.1, 4, .inl stp)), (qP, .inl (cy.1, 4, .inl pow))]) (pl := []) (nL := 3) (ret := (some .int)) RX5 [(0, .ref qo)] (by decide +kernel) rfl rfl rfl (Nat.le_of_ble_eq_true rfl) (List.append_nil _).symm (fun p e s m args below meth c A C hname hT hZ => ?_)
  refine x_iconst (q := 1) C 0 rfl dX5_power_0 rfl ?_
  refine x_istore_n (q := 2) C [(1, .int 0), (0, .ref qo)] dX5_power_1 (by decide) rfl rfl ?_
  refine x_iconst (q := 3) C 0 rfl dX5_power_2 rfl ?_
  refine x_istore_n (q := 4) C [(2, .int 0), (1, .int 0), (0, .ref qo)] dX5_power_3 (by decide) rfl rfl ?_
  refine x_less [0, 1, 2] [(2, .int 0), (1, .int 0), (0, .ref qo)] rfl ?_
  refine x_up (fun j => [(qo, .inr (5, [.int th, .int hh, .int tt, .ref qF, .ref qL, .ref qA, .ref qE, .ref qH, .ref qB, .int (nI n), .ref qS, .ref qP, .ref qC, .int mc, .ref qT, .ref qD, .ref qR, .ref qX, .ref qG, .ref qM, .ref qU, .int ml])), (qS, .inl (cy.1, 4, .inl stp)), (qP, .inl (cy.1, 4, .inl pow))]) (fun j => [(2, .int (nI j)), (1, .int (itr (mpStep stp pow) 0 j)), (0, .ref qo)]) n rfl rfl (fun j h_j ih_j => ?_) ?_
  · refine x_iload_n (q := 5) C 0 rfl dX5_power_4 rfl ?_
    refine x_aload_n (q := 6) C 2 rfl dX5_power_5 rfl ?_
    refine x_get (q := 9) C (T := TX5) iw_X5_power_X5 rfl 0 9 rfl (by decide) rfl (by decide +kernel : Cond.fieldLink RX5 77 RX5 "boilers" "I" ∈ wsX5_power) rfl dX5_power_6 rfl ?_
    refine x_icmp_ge_f (q := 12) C 34 dX5_power_9 (by decide) rfl (nI_ge (a := j) (b := n) (by omega) (by omega)) ?_
    refine x_iload_n (q := 13) C 1 rfl dX5_power_12 rfl ?_
    refine x_aload_n (q := 14) C 2 rfl dX5_power_13 rfl ?_
    refine x_get (q := 17) C (T := TX5) iw_X5_power_X5 rfl 0 10 rfl (by decide) rfl (by decide +kernel : Cond.fieldLink RX5 28 RX5 "steps" "[I" ∈ wsX5_power) rfl dX5_power_14 rfl ?_
    refine x_iload_n (q := 18) C 0 rfl dX5_power_17 rfl ?_
    refine x_ialdN (q := 19) C j 1 (stp j) rfl rfl (by omega) (by omega) rfl dX5_power_18 rfl ?_
    refine x_aload_n (q := 20) C 2 rfl dX5_power_19 rfl ?_
    refine x_get (q := 23) C (T := TX5) iw_X5_power_X5 rfl 0 11 rfl (by decide) rfl (by decide +kernel : Cond.fieldLink RX5 31 RX5 "powers" "[I" ∈ wsX5_power) rfl dX5_power_20 rfl ?_
    refine x_iload_n (q := 24) C 0 rfl dX5_power_23 rfl ?_
    refine x_ialdN (q := 25) C j 2 (pow j) rfl rfl (by omega) (by omega) rfl dX5_power_24 rfl ?_
    refine x_imul (q := 26) C ((stp j) * (pow j)) (rfl) dX5_power_25 rfl ?_
    refine x_iadd (q := 27) C ((itr (mpStep stp pow) 0 j) + ((stp j) * (pow j))) (rfl) dX5_power_26 rfl ?_
    refine x_istore_n (q := 28) C [(1, .int ((itr (mpStep stp pow) 0 j) + ((stp j) * (pow j)))), (2, .int (nI j)), (0, .ref qo)] dX5_power_27 (by decide) rfl rfl ?_
    refine x_iinc (q := 31) C 1 (nI (j + 1)) [(2, .int (nI (j + 1))), (1, .int ((itr (mpStep stp pow) 0 j) + ((stp j) * (pow j)))), (0, .ref qo)] dX5_power_28 rfl (nI_1 _) (by decide) rfl rfl ?_
    refine x_goto C 4 dX5_power_31 (by decide) ?_
    refine x_less [0, 1, 2] [(2, .int (nI (j + 1))), (1, .int ((itr (mpStep stp pow) 0 j) + ((stp j) * (pow j)))), (0, .ref qo)] rfl ?_
    refine x_less [0, 1, 2] [(2, .int (nI (j + 1))), (1, .int (itr (mpStep stp pow) 0 (j + 1))), (0, .ref qo)] (by first | rfl | (rw [e9]; rfl)) ?_
    refine x_world (X' := [(qo, .inr (5, [.int th, .int hh, .int tt, .ref qF, .ref qL, .ref qA, .ref qE, .ref qH, .ref qB, .int (nI n), .ref qS, .ref qP, .ref qC, .int mc, .ref qT, .ref qD, .ref qR, .ref qX, .ref qG, .ref qM, .ref qU, .int ml])), (qS, .inl (cy.1, 4, .inl stp)), (qP, .inl (cy.1, 4, .inl pow))]) (pl' := []) (by first | rfl | rw [e9]) ?_
    exact ih_j
  · refine x_iload_n (q := 5) C 0 rfl dX5_power_4 rfl ?_
    refine x_aload_n (q := 6) C 2 rfl dX5_power_5 rfl ?_
    refine x_get (q := 9) C (T := TX5) iw_X5_power_X5 rfl 0 9 rfl (by decide) rfl (by decide +kernel : Cond.fieldLink RX5 77 RX5 "boilers" "I" ∈ wsX5_power) rfl dX5_power_6 rfl ?_
    refine x_icmp_ge_t C 34 dX5_power_9 (by decide) (nI_le (a := n) (b := n) (by omega) (by omega)) ?_
    refine x_iload_n (q := 35) C 1 rfl dX5_power_34 rfl ?_
    exact x_iret C .int rfl rfl (⟨rfl, rfl⟩) dX5_power_35 (Nat.le_of_ble_eq_true rfl) (Nat.le_of_ble_eq_true rfl)

theorem iw_X5_serves_X5 : ∀ w ∈ wsX50, w ∈ wsX5_serves := by decide +kernel
set_option maxHeartbeats 4000000 in
set_option maxRecDepth 100000 in
theorem c_X5_serves {l : Launch} {D : va_G} {cy : ClassId × ClassId × ClassId} (qo qF qL qA qE qH qB qS qP qC qT qD qR qX qG qM qU n : Nat) (th hh tt mc ml : Int32) (lo stp pow dm ca g : Nat → Int32) (w : Int32) (hn4 : n ≤ 4) : xM false l yX5_serves wsX5_serves ({ frames := 1, cells := 0, slots := 0, locals := 22 }) D cy [.ref qo, .int w] ([(qo, .inr (5, [.int th, .int hh, .int tt, .ref qF, .ref qL, .ref qA, .ref qE, .ref qH, .ref qB, .int (nI n), .ref qS, .ref qP, .ref qC, .int mc, .ref qT, .ref qD, .ref qR, .ref qX, .ref qG, .ref qM, .ref qU, .int ml])), (qL, .inl (cy.1, 12, .inl lo)), (qS, .inl (cy.1, 4, .inl stp)), (qP, .inl (cy.1, 4, .inl pow)), (qD, .inl (cy.1, 12, .inl dm)), (qR, .inl (cy.2.1, 12, .inl ca)), (qG, .inl (cy.1, 12, .inl g))]) (xQv D (fun w1 => w1 = [(qo, .inr (5, [.int th, .int hh, .int tt, .ref qF, .ref qL, .ref qA, .ref qE, .ref qH, .ref qB, .int (nI n), .ref qS, .ref qP, .ref qC, .int mc, .ref qT, .ref qD, .ref qR, .ref qX, .ref qG, .ref qM, .ref qU, .int (mlsFun ca lo)])), (qL, .inl (cy.1, 12, .inl lo)), (qS, .inl (cy.1, 4, .inl stp)), (qP, .inl (cy.1, 4, .inl pow)), (qD, .inl (cy.1, 12, .inl dm)), (qR, .inl (cy.2.1, 12, .inl ca)), (qG, .inl (cy.1, 12, .inl (mgFun dm g (mLeft (mpFun stp pow n) w (mlsFun ca lo)))))])) 0 0 := by
  refine xM_of (X := [(qo, .inr (5, [.int th, .int hh, .int tt, .ref qF, .ref qL, .ref qA, .ref qE, .ref qH, .ref qB, .int (nI n), .ref qS, .ref qP, .ref qC, .int mc, .ref qT, .ref qD, .ref qR, .ref qX, .ref qG, .ref qM, .ref qU, .int ml])), (qL, .inl (cy.1, 12, .inl lo)), (qS, .inl (cy.1, 4, .inl stp)), (qP, .inl (cy.1, 4, .inl pow)), (qD, .inl (cy.1, 12, .inl dm)), (qR, .inl (cy.2.1, 12, .inl ca)), (qG, .inl (cy.1, 12, .inl g))]) (pl := []) (nL := 5) (ret := none) RX5 [(0, .ref qo), (1, .int w)] (by decide +kernel) rfl rfl rfl (Nat.le_of_ble_eq_true rfl) (List.append_nil _).symm (fun p e s m args below meth c A C hname hT hZ => ?_)
  refine x_aload_n (q := 1) C 0 rfl dX5_serves_0 rfl ?_
  refine x_iconst (q := 2) C 0 rfl dX5_serves_1 rfl ?_
  refine x_put (q := 5) C (T := TX5) iw_X5_serves_X5 tyX5 tyX5_ok nmX5 rfl 0 21 [(qo, .inr (5, [.int th, .int hh, .int tt, .ref qF, .ref qL, .ref qA, .ref qE, .ref qH, .ref qB, .int (nI n), .ref qS, .ref qP, .ref qC, .int mc, .ref qT, .ref qD, .ref qR, .ref qX, .ref qG, .ref qM, .ref qU, .int 0])), (qL, .inl (cy.1, 12, .inl lo)), (qS, .inl (cy.1, 4, .inl stp)), (qP, .inl (cy.1, 4, .inl pow)), (qD, .inl (cy.1, 12, .inl dm)), (qR, .inl (cy.2.1, 12, .inl ca)), (qG, .inl (cy.1, 12, .inl g))] rfl rfl (by decide) rfl (by decide +kernel : Cond.fieldLink RX5 97 RX5 "losses" "I" ∈ wsX5_serves) rfl .int (by decide +kernel) rfl rfl (Nat.le_of_ble_eq_true rfl) dX5_serves_2 rfl ?_
  refine x_iconst (q := 6) C 1 rfl dX5_serves_5 rfl ?_
  refine x_istore_n (q := 7) C [(2, .int 1), (0, .ref qo), (1, .int w)] dX5_serves_6 (by decide) rfl rfl ?_
  refine x_less [0, 1, 2] [(2, .int 1), (0, .ref qo), (1, .int w)] rfl ?_
  refine x_up (fun j => [(qo, .inr (5, [.int th, .int hh, .int tt, .ref qF, .ref qL, .ref qA, .ref qE, .ref qH, .ref qB, .int (nI n), .ref qS, .ref qP, .ref qC, .int mc, .ref qT, .ref qD, .ref qR, .ref qX, .ref qG, .ref qM, .ref qU, .int (itr (mlsStep ca lo) 0 j)])), (qL, .inl (cy.1, 12, .inl lo)), (qS, .inl (cy.1, 4, .inl stp)), (qP, .inl (cy.1, 4, .inl pow)), (qD, .inl (cy.1, 12, .inl dm)), (qR, .inl (cy.2.1, 12, .inl ca)), (qG, .inl (cy.1, 12, .inl g))]) (fun j => [(2, .int (nI (j + 1))), (0, .ref qo), (1, .int w)]) 11 rfl rfl (fun j h_j ih_j => ?_) ?_
  · refine x_iload_n (q := 8) C 0 rfl dX5_serves_7 rfl ?_
    refine x_bipush (q := 10) C 12 rfl dX5_serves_8 rfl ?_
    refine x_icmp_ge_f (q := 13) C 47 dX5_serves_10 (by decide) rfl (nI_ge (a := (j + 1)) (b := 12) (by omega) (by omega)) ?_
    refine x_aload_n (q := 14) C 1 rfl dX5_serves_13 rfl ?_
    refine x_dup (q := 15) C rfl dX5_serves_14 rfl ?_
    refine x_get (q := 18) C (T := TX5) iw_X5_serves_X5 rfl 0 21 rfl (by decide) rfl (by decide +kernel : Cond.fieldLink RX5 97 RX5 "losses" "I" ∈ wsX5_serves) rfl dX5_serves_15 rfl ?_
    refine x_aload_n (q := 19) C 1 rfl dX5_serves_18 rfl ?_
    refine x_get (q := 22) C (T := TX5) iw_X5_serves_X5 rfl 0 16 rfl (by decide) rfl (by decide +kernel : Cond.fieldLink RX5 44 RX5 "carries" "[Z" ∈ wsX5_serves) rfl dX5_serves_19 rfl ?_
    refine x_iload_n (q := 23) C 0 rfl dX5_serves_22 rfl ?_
    refine x_zaldN (q := 24) C (j + 1) 5 (ca (j + 1)) rfl rfl (by omega) (by omega) rfl dX5_serves_23 rfl ?_
    refine x_if_eq (q := 27) C 36 dX5_serves_24 (by decide) rfl (fun c_24 => ?_) (fun c_24 => ?_)
    · refine x_iconst (q := 37) C 0 rfl dX5_serves_36 rfl ?_
      refine x_iadd (q := 38) C ((itr (mlsStep ca lo) 0 j) + 0) (rfl) dX5_serves_37 rfl ?_
      refine x_put (q := 41) C (T := TX5) iw_X5_serves_X5 tyX5 tyX5_ok nmX5 rfl 0 21 [(qo, .inr (5, [.int th, .int hh, .int tt, .ref qF, .ref qL, .ref qA, .ref qE, .ref qH, .ref qB, .int (nI n), .ref qS, .ref qP, .ref qC, .int mc, .ref qT, .ref qD, .ref qR, .ref qX, .ref qG, .ref qM, .ref qU, .int ((itr (mlsStep ca lo) 0 j) + 0)])), (qL, .inl (cy.1, 12, .inl lo)), (qS, .inl (cy.1, 4, .inl stp)), (qP, .inl (cy.1, 4, .inl pow)), (qD, .inl (cy.1, 12, .inl dm)), (qR, .inl (cy.2.1, 12, .inl ca)), (qG, .inl (cy.1, 12, .inl g))] rfl rfl (by decide) rfl (by decide +kernel : Cond.fieldLink RX5 97 RX5 "losses" "I" ∈ wsX5_serves) rfl .int (by decide +kernel) rfl rfl (Nat.le_of_ble_eq_true rfl) dX5_serves_38 rfl ?_
      refine x_iinc (q := 44) C 0 (nI ((j + 1) + 1)) [(2, .int (nI ((j + 1) + 1))), (0, .ref qo), (1, .int w)] dX5_serves_41 rfl (nI_1 _) (by decide) rfl rfl ?_
      refine x_goto C 7 dX5_serves_44 (by decide) ?_
      refine x_less [0, 1, 2] [(2, .int (nI ((j + 1) + 1))), (0, .ref qo), (1, .int w)] rfl ?_
      have e9 : itr (mlsStep ca lo) 0 (j + 1) = (itr (mlsStep ca lo) 0 j) + 0 := by
        show mlsStep ca lo j (itr (mlsStep ca lo) 0 j) = _
        simp only [mlsStep, if_pos c_24]
      refine x_less [0, 1, 2] [(2, .int (nI ((j + 1) + 1))), (0, .ref qo), (1, .int w)] (by first | rfl | (rw [e9]; rfl)) ?_
      refine x_world (X' := [(qo, .inr (5, [.int th, .int hh, .int tt, .ref qF, .ref qL, .ref qA, .ref qE, .ref qH, .ref qB, .int (nI n), .ref qS, .ref qP, .ref qC, .int mc, .ref qT, .ref qD, .ref qR, .ref qX, .ref qG, .ref qM, .ref qU, .int (itr (mlsStep ca lo) 0 (j + 1))])), (qL, .inl (cy.1, 12, .inl lo)), (qS, .inl (cy.1, 4, .inl stp)), (qP, .inl (cy.1, 4, .inl pow)), (qD, .inl (cy.1, 12, .inl dm)), (qR, .inl (cy.2.1, 12, .inl ca)), (qG, .inl (cy.1, 12, .inl g))]) (pl' := []) (by first | rfl | rw [e9]) ?_
      exact ih_j
    · refine x_aload_n (q := 28) C 1 rfl dX5_serves_27 rfl ?_
      refine x_get (q := 31) C (T := TX5) iw_X5_serves_X5 rfl 0 4 rfl (by decide) rfl (by decide +kernel : Cond.fieldLink RX5 13 RX5 "loss" "[I" ∈ wsX5_serves) rfl dX5_serves_28 rfl ?_
      refine x_iload_n (q := 32) C 0 rfl dX5_serves_31 rfl ?_
      refine x_ialdN (q := 33) C (j + 1) 1 (lo (j + 1)) rfl rfl (by omega) (by omega) rfl dX5_serves_32 rfl ?_
      refine x_goto C 37 dX5_serves_33 (by decide) ?_
      refine x_iadd (q := 38) C ((itr (mlsStep ca lo) 0 j) + (lo (j + 1))) (rfl) dX5_serves_37 rfl ?_
      refine x_put (q := 41) C (T := TX5) iw_X5_serves_X5 tyX5 tyX5_ok nmX5 rfl 0 21 [(qo, .inr (5, [.int th, .int hh, .int tt, .ref qF, .ref qL, .ref qA, .ref qE, .ref qH, .ref qB, .int (nI n), .ref qS, .ref qP, .ref qC, .int mc, .ref qT, .ref qD, .ref qR, .ref qX, .ref qG, .ref qM, .ref qU, .int ((itr (mlsStep ca lo) 0 j) + (lo (j + 1)))])), (qL, .inl (cy.1, 12, .inl lo)), (qS, .inl (cy.1, 4, .inl stp)), (qP, .inl (cy.1, 4, .inl pow)), (qD, .inl (cy.1, 12, .inl dm)), (qR, .inl (cy.2.1, 12, .inl ca)), (qG, .inl (cy.1, 12, .inl g))] rfl rfl (by decide) rfl (by decide +kernel : Cond.fieldLink RX5 97 RX5 "losses" "I" ∈ wsX5_serves) rfl .int (by decide +kernel) rfl rfl (Nat.le_of_ble_eq_true rfl) dX5_serves_38 rfl ?_
      refine x_iinc (q := 44) C 0 (nI ((j + 1) + 1)) [(2, .int (nI ((j + 1) + 1))), (0, .ref qo), (1, .int w)] dX5_serves_41 rfl (nI_1 _) (by decide) rfl rfl ?_
      refine x_goto C 7 dX5_serves_44 (by decide) ?_
      refine x_less [0, 1, 2] [(2, .int (nI ((j + 1) + 1))), (0, .ref qo), (1, .int w)] rfl ?_
      have e9 : itr (mlsStep ca lo) 0 (j + 1) = (itr (mlsStep ca lo) 0 j) + (lo (j + 1)) := by
        show mlsStep ca lo j (itr (mlsStep ca lo) 0 j) = _
        simp only [mlsStep, if_neg c_24]
      refine x_less [0, 1, 2] [(2, .int (nI ((j + 1) + 1))), (0, .ref qo), (1, .int w)] (by first | rfl | (rw [e9]; rfl)) ?_
      refine x_world (X' := [(qo, .inr (5, [.int th, .int hh, .int tt, .ref qF, .ref qL, .ref qA, .ref qE, .ref qH, .ref qB, .int (nI n), .ref qS, .ref qP, .ref qC, .int mc, .ref qT, .ref qD, .ref qR, .ref qX, .ref qG, .ref qM, .ref qU, .int (itr (mlsStep ca lo) 0 (j + 1))])), (qL, .inl (cy.1, 12, .inl lo)), (qS, .inl (cy.1, 4, .inl stp)), (qP, .inl (cy.1, 4, .inl pow)), (qD, .inl (cy.1, 12, .inl dm)), (qR, .inl (cy.2.1, 12, .inl ca)), (qG, .inl (cy.1, 12, .inl g))]) (pl' := []) (by first | rfl | rw [e9]) ?_
      exact ih_j
  · refine x_iload_n (q := 8) C 0 rfl dX5_serves_7 rfl ?_
    refine x_bipush (q := 10) C 12 rfl dX5_serves_8 rfl ?_
    refine x_icmp_ge_t C 47 dX5_serves_10 (by decide) (nI_le (a := 12) (b := (11 + 1)) (by omega) (by omega)) ?_
    refine x_join 68 (fun v => v = mLeft (mpFun stp pow n) w (mlsFun ca lo)) [] (fun v hv => ?_) (fun J_47 => ?_)
    · subst hv
      refine x_istore_n (q := 69) C [(2, .int (mLeft (mpFun stp pow n) w (mlsFun ca lo))), (0, .ref qo), (1, .int w)] dX5_serves_68 (by decide) rfl rfl ?_
      refine x_iconst (q := 70) C 1 rfl dX5_serves_69 rfl ?_
      refine x_istore_n (q := 71) C [(3, .int 1), (2, .int (mLeft (mpFun stp pow n) w (mlsFun ca lo))), (0, .ref qo), (1, .int w)] dX5_serves_70 (by decide) rfl rfl ?_
      refine x_less [0, 1, 2] [(3, .int 1), (2, .int (mLeft (mpFun stp pow n) w (mlsFun ca lo))), (0, .ref qo)] rfl ?_
      refine x_up (fun j => [(qo, .inr (5, [.int th, .int hh, .int tt, .ref qF, .ref qL, .ref qA, .ref qE, .ref qH, .ref qB, .int (nI n), .ref qS, .ref qP, .ref qC, .int mc, .ref qT, .ref qD, .ref qR, .ref qX, .ref qG, .ref qM, .ref qU, .int (mlsFun ca lo)])), (qL, .inl (cy.1, 12, .inl lo)), (qS, .inl (cy.1, 4, .inl stp)), (qP, .inl (cy.1, 4, .inl pow)), (qD, .inl (cy.1, 12, .inl dm)), (qR, .inl (cy.2.1, 12, .inl ca)), (qG, .inl (cy.1, 12, .inl ((itr (mgStep dm) (g, mLeft (mpFun stp pow n) w (mlsFun ca lo)) j).1)))]) (fun j => [(3, .int (nI (j + 1))), (2, .int ((itr (mgStep dm) (g, mLeft (mpFun stp pow n) w (mlsFun ca lo)) j).2)), (0, .ref qo)]) 11 rfl rfl (fun j h_j ih_j => ?_) ?_
      · refine x_iload_n (q := 72) C 0 rfl dX5_serves_71 rfl ?_
        refine x_bipush (q := 74) C 12 rfl dX5_serves_72 rfl ?_
        refine x_icmp_ge_f (q := 77) C 131 dX5_serves_74 (by decide) rfl (nI_ge (a := (j + 1)) (b := 12) (by omega) (by omega)) ?_
        refine x_iload_n (q := 78) C 1 rfl dX5_serves_77 rfl ?_
        refine x_if_ge (q := 81) C 85 dX5_serves_78 (by decide) rfl (fun c_78 => ?_) (fun c_78 => ?_)
        · refine x_iload_n (q := 86) C 1 rfl dX5_serves_85 rfl ?_
          refine x_istore (q := 88) C [(4, .int ((itr (mgStep dm) (g, mLeft (mpFun stp pow n) w (mlsFun ca lo)) j).2)), (3, .int (nI (j + 1))), (2, .int ((itr (mgStep dm) (g, mLeft (mpFun stp pow n) w (mlsFun ca lo)) j).2)), (0, .ref qo)] dX5_serves_86 (by decide) rfl rfl ?_
          refine x_aload_n (q := 89) C 3 rfl dX5_serves_88 rfl ?_
          refine x_get (q := 92) C (T := TX5) iw_X5_serves_X5 rfl 0 18 rfl (by decide) rfl (by decide +kernel : Cond.fieldLink RX5 50 RX5 "got" "[I" ∈ wsX5_serves) rfl dX5_serves_89 rfl ?_
          refine x_iload_n (q := 93) C 1 rfl dX5_serves_92 rfl ?_
          refine x_aload_n (q := 94) C 3 rfl dX5_serves_93 rfl ?_
          refine x_get (q := 97) C (T := TX5) iw_X5_serves_X5 rfl 0 15 rfl (by decide) rfl (by decide +kernel : Cond.fieldLink RX5 41 RX5 "demands" "[I" ∈ wsX5_serves) rfl dX5_serves_94 rfl ?_
          refine x_iload_n (q := 98) C 1 rfl dX5_serves_97 rfl ?_
          refine x_ialdN (q := 99) C (j + 1) 4 (dm (j + 1)) rfl rfl (by omega) (by omega) rfl dX5_serves_98 rfl ?_
          refine x_iload (q := 101) C 0 rfl dX5_serves_99 rfl ?_
          refine x_icmp_ge (q := 104) C 113 dX5_serves_101 (by decide) rfl (fun c_101 => ?_) (fun c_101 => ?_)
          · refine x_iload (q := 115) C 0 rfl dX5_serves_113 rfl ?_
            refine x_iastN (q := 116) C (j + 1) 6 (upd ((itr (mgStep dm) (g, mLeft (mpFun stp pow n) w (mlsFun ca lo)) j).1) (j + 1) ((itr (mgStep dm) (g, mLeft (mpFun stp pow n) w (mlsFun ca lo)) j).2)) [(qo, .inr (5, [.int th, .int hh, .int tt, .ref qF, .ref qL, .ref qA, .ref qE, .ref qH, .ref qB, .int (nI n), .ref qS, .ref qP, .ref qC, .int mc, .ref qT, .ref qD, .ref qR, .ref qX, .ref qG, .ref qM, .ref qU, .int (mlsFun ca lo)])), (qL, .inl (cy.1, 12, .inl lo)), (qS, .inl (cy.1, 4, .inl stp)), (qP, .inl (cy.1, 4, .inl pow)), (qD, .inl (cy.1, 12, .inl dm)), (qR, .inl (cy.2.1, 12, .inl ca)), (qG, .inl (cy.1, 12, .inl (upd ((itr (mgStep dm) (g, mLeft (mpFun stp pow n) w (mlsFun ca lo)) j).1) (j + 1) ((itr (mgStep dm) (g, mLeft (mpFun stp pow n) w (mlsFun ca lo)) j).2))))] rfl rfl (by omega) (by omega) rfl rfl dX5_serves_115 rfl ?_
            refine x_iload_n (q := 117) C 2 rfl dX5_serves_116 rfl ?_
            refine x_aload_n (q := 118) C 3 rfl dX5_serves_117 rfl ?_
            refine x_get (q := 121) C (T := TX5) iw_X5_serves_X5 rfl 0 18 rfl (by decide) rfl (by decide +kernel : Cond.fieldLink RX5 50 RX5 "got" "[I" ∈ wsX5_serves) rfl dX5_serves_118 rfl ?_
            refine x_iload_n (q := 122) C 1 rfl dX5_serves_121 rfl ?_
            refine x_ialdN (q := 123) C (j + 1) 6 ((itr (mgStep dm) (g, mLeft (mpFun stp pow n) w (mlsFun ca lo)) j).2) rfl rfl (by omega) (by omega) pk_us dX5_serves_122 rfl ?_
            refine x_isub (q := 124) C (((itr (mgStep dm) (g, mLeft (mpFun stp pow n) w (mlsFun ca lo)) j).2) - ((itr (mgStep dm) (g, mLeft (mpFun stp pow n) w (mlsFun ca lo)) j).2)) (rfl) dX5_serves_123 rfl ?_
            refine x_istore_n (q := 125) C [(2, .int (((itr (mgStep dm) (g, mLeft (mpFun stp pow n) w (mlsFun ca lo)) j).2) - ((itr (mgStep dm) (g, mLeft (mpFun stp pow n) w (mlsFun ca lo)) j).2))), (4, .int ((itr (mgStep dm) (g, mLeft (mpFun stp pow n) w (mlsFun ca lo)) j).2)), (3, .int (nI (j + 1))), (0, .ref qo)] dX5_serves_124 (by decide) rfl rfl ?_
            refine x_iinc (q := 128) C 2 (nI ((j + 1) + 1)) [(3, .int (nI ((j + 1) + 1))), (2, .int (((itr (mgStep dm) (g, mLeft (mpFun stp pow n) w (mlsFun ca lo)) j).2) - ((itr (mgStep dm) (g, mLeft (mpFun stp pow n) w (mlsFun ca lo)) j).2))), (4, .int ((itr (mgStep dm) (g, mLeft (mpFun stp pow n) w (mlsFun ca lo)) j).2)), (0, .ref qo)] dX5_serves_125 rfl (nI_1 _) (by decide) rfl rfl ?_
            refine x_goto C 71 dX5_serves_128 (by decide) ?_
            refine x_less [0, 1, 3] [(3, .int (nI ((j + 1) + 1))), (2, .int (((itr (mgStep dm) (g, mLeft (mpFun stp pow n) w (mlsFun ca lo)) j).2) - ((itr (mgStep dm) (g, mLeft (mpFun stp pow n) w (mlsFun ca lo)) j).2))), (0, .ref qo)] rfl ?_
            have e9 : (itr (mgStep dm) (g, mLeft (mpFun stp pow n) w (mlsFun ca lo)) (j + 1)) = (upd ((itr (mgStep dm) (g, mLeft (mpFun stp pow n) w (mlsFun ca lo)) j).1) (j + 1) ((itr (mgStep dm) (g, mLeft (mpFun stp pow n) w (mlsFun ca lo)) j).2), ((itr (mgStep dm) (g, mLeft (mpFun stp pow n) w (mlsFun ca lo)) j).2) - ((itr (mgStep dm) (g, mLeft (mpFun stp pow n) w (mlsFun ca lo)) j).2)) := by
              show mgStep dm j (itr (mgStep dm) (g, mLeft (mpFun stp pow n) w (mlsFun ca lo)) j) = _
              simp only [mgStep, mgV, if_pos c_78, if_pos c_101]
            refine x_less [0, 1, 2] [(3, .int (nI ((j + 1) + 1))), (2, .int ((itr (mgStep dm) (g, mLeft (mpFun stp pow n) w (mlsFun ca lo)) (j + 1)).2)), (0, .ref qo)] (by first | rfl | (rw [e9]; rfl)) ?_
            refine x_world (X' := [(qo, .inr (5, [.int th, .int hh, .int tt, .ref qF, .ref qL, .ref qA, .ref qE, .ref qH, .ref qB, .int (nI n), .ref qS, .ref qP, .ref qC, .int mc, .ref qT, .ref qD, .ref qR, .ref qX, .ref qG, .ref qM, .ref qU, .int (mlsFun ca lo)])), (qL, .inl (cy.1, 12, .inl lo)), (qS, .inl (cy.1, 4, .inl stp)), (qP, .inl (cy.1, 4, .inl pow)), (qD, .inl (cy.1, 12, .inl dm)), (qR, .inl (cy.2.1, 12, .inl ca)), (qG, .inl (cy.1, 12, .inl ((itr (mgStep dm) (g, mLeft (mpFun stp pow n) w (mlsFun ca lo)) (j + 1)).1)))]) (pl' := []) (by first | rfl | rw [e9]) ?_
            exact ih_j
          · refine x_aload_n (q := 105) C 3 rfl dX5_serves_104 rfl ?_
            refine x_get (q := 108) C (T := TX5) iw_X5_serves_X5 rfl 0 15 rfl (by decide) rfl (by decide +kernel : Cond.fieldLink RX5 41 RX5 "demands" "[I" ∈ wsX5_serves) rfl dX5_serves_105 rfl ?_
            refine x_iload_n (q := 109) C 1 rfl dX5_serves_108 rfl ?_
            refine x_ialdN (q := 110) C (j + 1) 4 (dm (j + 1)) rfl rfl (by omega) (by omega) rfl dX5_serves_109 rfl ?_
            refine x_goto C 115 dX5_serves_110 (by decide) ?_
            refine x_iastN (q := 116) C (j + 1) 6 (upd ((itr (mgStep dm) (g, mLeft (mpFun stp pow n) w (mlsFun ca lo)) j).1) (j + 1) (dm (j + 1))) [(qo, .inr (5, [.int th, .int hh, .int tt, .ref qF, .ref qL, .ref qA, .ref qE, .ref qH, .ref qB, .int (nI n), .ref qS, .ref qP, .ref qC, .int mc, .ref qT, .ref qD, .ref qR, .ref qX, .ref qG, .ref qM, .ref qU, .int (mlsFun ca lo)])), (qL, .inl (cy.1, 12, .inl lo)), (qS, .inl (cy.1, 4, .inl stp)), (qP, .inl (cy.1, 4, .inl pow)), (qD, .inl (cy.1, 12, .inl dm)), (qR, .inl (cy.2.1, 12, .inl ca)), (qG, .inl (cy.1, 12, .inl (upd ((itr (mgStep dm) (g, mLeft (mpFun stp pow n) w (mlsFun ca lo)) j).1) (j + 1) (dm (j + 1)))))] rfl rfl (by omega) (by omega) rfl rfl dX5_serves_115 rfl ?_
            refine x_iload_n (q := 117) C 2 rfl dX5_serves_116 rfl ?_
            refine x_aload_n (q := 118) C 3 rfl dX5_serves_117 rfl ?_
            refine x_get (q := 121) C (T := TX5) iw_X5_serves_X5 rfl 0 18 rfl (by decide) rfl (by decide +kernel : Cond.fieldLink RX5 50 RX5 "got" "[I" ∈ wsX5_serves) rfl dX5_serves_118 rfl ?_
            refine x_iload_n (q := 122) C 1 rfl dX5_serves_121 rfl ?_
            refine x_ialdN (q := 123) C (j + 1) 6 (dm (j + 1)) rfl rfl (by omega) (by omega) pk_us dX5_serves_122 rfl ?_
            refine x_isub (q := 124) C (((itr (mgStep dm) (g, mLeft (mpFun stp pow n) w (mlsFun ca lo)) j).2) - (dm (j + 1))) (rfl) dX5_serves_123 rfl ?_
            refine x_istore_n (q := 125) C [(2, .int (((itr (mgStep dm) (g, mLeft (mpFun stp pow n) w (mlsFun ca lo)) j).2) - (dm (j + 1)))), (4, .int ((itr (mgStep dm) (g, mLeft (mpFun stp pow n) w (mlsFun ca lo)) j).2)), (3, .int (nI (j + 1))), (0, .ref qo)] dX5_serves_124 (by decide) rfl rfl ?_
            refine x_iinc (q := 128) C 2 (nI ((j + 1) + 1)) [(3, .int (nI ((j + 1) + 1))), (2, .int (((itr (mgStep dm) (g, mLeft (mpFun stp pow n) w (mlsFun ca lo)) j).2) - (dm (j + 1)))), (4, .int ((itr (mgStep dm) (g, mLeft (mpFun stp pow n) w (mlsFun ca lo)) j).2)), (0, .ref qo)] dX5_serves_125 rfl (nI_1 _) (by decide) rfl rfl ?_
            refine x_goto C 71 dX5_serves_128 (by decide) ?_
            refine x_less [0, 1, 3] [(3, .int (nI ((j + 1) + 1))), (2, .int (((itr (mgStep dm) (g, mLeft (mpFun stp pow n) w (mlsFun ca lo)) j).2) - (dm (j + 1)))), (0, .ref qo)] rfl ?_
            have e9 : (itr (mgStep dm) (g, mLeft (mpFun stp pow n) w (mlsFun ca lo)) (j + 1)) = (upd ((itr (mgStep dm) (g, mLeft (mpFun stp pow n) w (mlsFun ca lo)) j).1) (j + 1) (dm (j + 1)), ((itr (mgStep dm) (g, mLeft (mpFun stp pow n) w (mlsFun ca lo)) j).2) - (dm (j + 1))) := by
              show mgStep dm j (itr (mgStep dm) (g, mLeft (mpFun stp pow n) w (mlsFun ca lo)) j) = _
              simp only [mgStep, mgV, if_pos c_78, if_neg c_101]
            refine x_less [0, 1, 2] [(3, .int (nI ((j + 1) + 1))), (2, .int ((itr (mgStep dm) (g, mLeft (mpFun stp pow n) w (mlsFun ca lo)) (j + 1)).2)), (0, .ref qo)] (by first | rfl | (rw [e9]; rfl)) ?_
            refine x_world (X' := [(qo, .inr (5, [.int th, .int hh, .int tt, .ref qF, .ref qL, .ref qA, .ref qE, .ref qH, .ref qB, .int (nI n), .ref qS, .ref qP, .ref qC, .int mc, .ref qT, .ref qD, .ref qR, .ref qX, .ref qG, .ref qM, .ref qU, .int (mlsFun ca lo)])), (qL, .inl (cy.1, 12, .inl lo)), (qS, .inl (cy.1, 4, .inl stp)), (qP, .inl (cy.1, 4, .inl pow)), (qD, .inl (cy.1, 12, .inl dm)), (qR, .inl (cy.2.1, 12, .inl ca)), (qG, .inl (cy.1, 12, .inl ((itr (mgStep dm) (g, mLeft (mpFun stp pow n) w (mlsFun ca lo)) (j + 1)).1)))]) (pl' := []) (by first | rfl | rw [e9]) ?_
            exact ih_j
        · refine x_iconst (q := 82) C 0 rfl dX5_serves_81 rfl ?_
          refine x_goto C 86 dX5_serves_82 (by decide) ?_
          refine x_istore (q := 88) C [(4, .int 0), (3, .int (nI (j + 1))), (2, .int ((itr (mgStep dm) (g, mLeft (mpFun stp pow n) w (mlsFun ca lo)) j).2)), (0, .ref qo)] dX5_serves_86 (by decide) rfl rfl ?_
          refine x_aload_n (q := 89) C 3 rfl dX5_serves_88 rfl ?_
          refine x_get (q := 92) C (T := TX5) iw_X5_serves_X5 rfl 0 18 rfl (by decide) rfl (by decide +kernel : Cond.fieldLink RX5 50 RX5 "got" "[I" ∈ wsX5_serves) rfl dX5_serves_89 rfl ?_
          refine x_iload_n (q := 93) C 1 rfl dX5_serves_92 rfl ?_
          refine x_aload_n (q := 94) C 3 rfl dX5_serves_93 rfl ?_
          refine x_get (q := 97) C (T := TX5) iw_X5_serves_X5 rfl 0 15 rfl (by decide) rfl (by decide +kernel : Cond.fieldLink RX5 41 RX5 "demands" "[I" ∈ wsX5_serves) rfl dX5_serves_94 rfl ?_
          refine x_iload_n (q := 98) C 1 rfl dX5_serves_97 rfl ?_
          refine x_ialdN (q := 99) C (j + 1) 4 (dm (j + 1)) rfl rfl (by omega) (by omega) rfl dX5_serves_98 rfl ?_
          refine x_iload (q := 101) C 0 rfl dX5_serves_99 rfl ?_
          refine x_icmp_ge (q := 104) C 113 dX5_serves_101 (by decide) rfl (fun c_101 => ?_) (fun c_101 => ?_)
          · refine x_iload (q := 115) C 0 rfl dX5_serves_113 rfl ?_
            refine x_iastN (q := 116) C (j + 1) 6 (upd ((itr (mgStep dm) (g, mLeft (mpFun stp pow n) w (mlsFun ca lo)) j).1) (j + 1) 0) [(qo, .inr (5, [.int th, .int hh, .int tt, .ref qF, .ref qL, .ref qA, .ref qE, .ref qH, .ref qB, .int (nI n), .ref qS, .ref qP, .ref qC, .int mc, .ref qT, .ref qD, .ref qR, .ref qX, .ref qG, .ref qM, .ref qU, .int (mlsFun ca lo)])), (qL, .inl (cy.1, 12, .inl lo)), (qS, .inl (cy.1, 4, .inl stp)), (qP, .inl (cy.1, 4, .inl pow)), (qD, .inl (cy.1, 12, .inl dm)), (qR, .inl (cy.2.1, 12, .inl ca)), (qG, .inl (cy.1, 12, .inl (upd ((itr (mgStep dm) (g, mLeft (mpFun stp pow n) w (mlsFun ca lo)) j).1) (j + 1) 0)))] rfl rfl (by omega) (by omega) rfl rfl dX5_serves_115 rfl ?_
            refine x_iload_n (q := 117) C 2 rfl dX5_serves_116 rfl ?_
            refine x_aload_n (q := 118) C 3 rfl dX5_serves_117 rfl ?_
            refine x_get (q := 121) C (T := TX5) iw_X5_serves_X5 rfl 0 18 rfl (by decide) rfl (by decide +kernel : Cond.fieldLink RX5 50 RX5 "got" "[I" ∈ wsX5_serves) rfl dX5_serves_118 rfl ?_
            refine x_iload_n (q := 122) C 1 rfl dX5_serves_121 rfl ?_
            refine x_ialdN (q := 123) C (j + 1) 6 0 rfl rfl (by omega) (by omega) pk_us dX5_serves_122 rfl ?_
            refine x_isub (q := 124) C (((itr (mgStep dm) (g, mLeft (mpFun stp pow n) w (mlsFun ca lo)) j).2) - 0) (rfl) dX5_serves_123 rfl ?_
            refine x_istore_n (q := 125) C [(2, .int (((itr (mgStep dm) (g, mLeft (mpFun stp pow n) w (mlsFun ca lo)) j).2) - 0)), (4, .int 0), (3, .int (nI (j + 1))), (0, .ref qo)] dX5_serves_124 (by decide) rfl rfl ?_
            refine x_iinc (q := 128) C 2 (nI ((j + 1) + 1)) [(3, .int (nI ((j + 1) + 1))), (2, .int (((itr (mgStep dm) (g, mLeft (mpFun stp pow n) w (mlsFun ca lo)) j).2) - 0)), (4, .int 0), (0, .ref qo)] dX5_serves_125 rfl (nI_1 _) (by decide) rfl rfl ?_
            refine x_goto C 71 dX5_serves_128 (by decide) ?_
            refine x_less [0, 1, 3] [(3, .int (nI ((j + 1) + 1))), (2, .int (((itr (mgStep dm) (g, mLeft (mpFun stp pow n) w (mlsFun ca lo)) j).2) - 0)), (0, .ref qo)] rfl ?_
            have e9 : (itr (mgStep dm) (g, mLeft (mpFun stp pow n) w (mlsFun ca lo)) (j + 1)) = (upd ((itr (mgStep dm) (g, mLeft (mpFun stp pow n) w (mlsFun ca lo)) j).1) (j + 1) 0, ((itr (mgStep dm) (g, mLeft (mpFun stp pow n) w (mlsFun ca lo)) j).2) - 0) := by
              show mgStep dm j (itr (mgStep dm) (g, mLeft (mpFun stp pow n) w (mlsFun ca lo)) j) = _
              simp only [mgStep, mgV, if_neg c_78, if_pos c_101]
            refine x_less [0, 1, 2] [(3, .int (nI ((j + 1) + 1))), (2, .int ((itr (mgStep dm) (g, mLeft (mpFun stp pow n) w (mlsFun ca lo)) (j + 1)).2)), (0, .ref qo)] (by first | rfl | (rw [e9]; rfl)) ?_
            refine x_world (X' := [(qo, .inr (5, [.int th, .int hh, .int tt, .ref qF, .ref qL, .ref qA, .ref qE, .ref qH, .ref qB, .int (nI n), .ref qS, .ref qP, .ref qC, .int mc, .ref qT, .ref qD, .ref qR, .ref qX, .ref qG, .ref qM, .ref qU, .int (mlsFun ca lo)])), (qL, .inl (cy.1, 12, .inl lo)), (qS, .inl (cy.1, 4, .inl stp)), (qP, .inl (cy.1, 4, .inl pow)), (qD, .inl (cy.1, 12, .inl dm)), (qR, .inl (cy.2.1, 12, .inl ca)), (qG, .inl (cy.1, 12, .inl ((itr (mgStep dm) (g, mLeft (mpFun stp pow n) w (mlsFun ca lo)) (j + 1)).1)))]) (pl' := []) (by first | rfl | rw [e9]) ?_
            exact ih_j
          · refine x_aload_n (q := 105) C 3 rfl dX5_serves_104 rfl ?_
            refine x_get (q := 108) C (T := TX5) iw_X5_serves_X5 rfl 0 15 rfl (by decide) rfl (by decide +kernel : Cond.fieldLink RX5 41 RX5 "demands" "[I" ∈ wsX5_serves) rfl dX5_serves_105 rfl ?_
            refine x_iload_n (q := 109) C 1 rfl dX5_serves_108 rfl ?_
            refine x_ialdN (q := 110) C (j + 1) 4 (dm (j + 1)) rfl rfl (by omega) (by omega) rfl dX5_serves_109 rfl ?_
            refine x_goto C 115 dX5_serves_110 (by decide) ?_
            refine x_iastN (q := 116) C (j + 1) 6 (upd ((itr (mgStep dm) (g, mLeft (mpFun stp pow n) w (mlsFun ca lo)) j).1) (j + 1) (dm (j + 1))) [(qo, .inr (5, [.int th, .int hh, .int tt, .ref qF, .ref qL, .ref qA, .ref qE, .ref qH, .ref qB, .int (nI n), .ref qS, .ref qP, .ref qC, .int mc, .ref qT, .ref qD, .ref qR, .ref qX, .ref qG, .ref qM, .ref qU, .int (mlsFun ca lo)])), (qL, .inl (cy.1, 12, .inl lo)), (qS, .inl (cy.1, 4, .inl stp)), (qP, .inl (cy.1, 4, .inl pow)), (qD, .inl (cy.1, 12, .inl dm)), (qR, .inl (cy.2.1, 12, .inl ca)), (qG, .inl (cy.1, 12, .inl (upd ((itr (mgStep dm) (g, mLeft (mpFun stp pow n) w (mlsFun ca lo)) j).1) (j + 1) (dm (j + 1)))))] rfl rfl (by omega) (by omega) rfl rfl dX5_serves_115 rfl ?_
            refine x_iload_n (q := 117) C 2 rfl dX5_serves_116 rfl ?_
            refine x_aload_n (q := 118) C 3 rfl dX5_serves_117 rfl ?_
            refine x_get (q := 121) C (T := TX5) iw_X5_serves_X5 rfl 0 18 rfl (by decide) rfl (by decide +kernel : Cond.fieldLink RX5 50 RX5 "got" "[I" ∈ wsX5_serves) rfl dX5_serves_118 rfl ?_
            refine x_iload_n (q := 122) C 1 rfl dX5_serves_121 rfl ?_
            refine x_ialdN (q := 123) C (j + 1) 6 (dm (j + 1)) rfl rfl (by omega) (by omega) pk_us dX5_serves_122 rfl ?_
            refine x_isub (q := 124) C (((itr (mgStep dm) (g, mLeft (mpFun stp pow n) w (mlsFun ca lo)) j).2) - (dm (j + 1))) (rfl) dX5_serves_123 rfl ?_
            refine x_istore_n (q := 125) C [(2, .int (((itr (mgStep dm) (g, mLeft (mpFun stp pow n) w (mlsFun ca lo)) j).2) - (dm (j + 1)))), (4, .int 0), (3, .int (nI (j + 1))), (0, .ref qo)] dX5_serves_124 (by decide) rfl rfl ?_
            refine x_iinc (q := 128) C 2 (nI ((j + 1) + 1)) [(3, .int (nI ((j + 1) + 1))), (2, .int (((itr (mgStep dm) (g, mLeft (mpFun stp pow n) w (mlsFun ca lo)) j).2) - (dm (j + 1)))), (4, .int 0), (0, .ref qo)] dX5_serves_125 rfl (nI_1 _) (by decide) rfl rfl ?_
            refine x_goto C 71 dX5_serves_128 (by decide) ?_
            refine x_less [0, 1, 3] [(3, .int (nI ((j + 1) + 1))), (2, .int (((itr (mgStep dm) (g, mLeft (mpFun stp pow n) w (mlsFun ca lo)) j).2) - (dm (j + 1)))), (0, .ref qo)] rfl ?_
            have e9 : (itr (mgStep dm) (g, mLeft (mpFun stp pow n) w (mlsFun ca lo)) (j + 1)) = (upd ((itr (mgStep dm) (g, mLeft (mpFun stp pow n) w (mlsFun ca lo)) j).1) (j + 1) (dm (j + 1)), ((itr (mgStep dm) (g, mLeft (mpFun stp pow n) w (mlsFun ca lo)) j).2) - (dm (j + 1))) := by
              show mgStep dm j (itr (mgStep dm) (g, mLeft (mpFun stp pow n) w (mlsFun ca lo)) j) = _
              simp only [mgStep, mgV, if_neg c_78, if_neg c_101]
            refine x_less [0, 1, 2] [(3, .int (nI ((j + 1) + 1))), (2, .int ((itr (mgStep dm) (g, mLeft (mpFun stp pow n) w (mlsFun ca lo)) (j + 1)).2)), (0, .ref qo)] (by first | rfl | (rw [e9]; rfl)) ?_
            refine x_world (X' := [(qo, .inr (5, [.int th, .int hh, .int tt, .ref qF, .ref qL, .ref qA, .ref qE, .ref qH, .ref qB, .int (nI n), .ref qS, .ref qP, .ref qC, .int mc, .ref qT, .ref qD, .ref qR, .ref qX, .ref qG, .ref qM, .ref qU, .int (mlsFun ca lo)])), (qL, .inl (cy.1, 12, .inl lo)), (qS, .inl (cy.1, 4, .inl stp)), (qP, .inl (cy.1, 4, .inl pow)), (qD, .inl (cy.1, 12, .inl dm)), (qR, .inl (cy.2.1, 12, .inl ca)), (qG, .inl (cy.1, 12, .inl ((itr (mgStep dm) (g, mLeft (mpFun stp pow n) w (mlsFun ca lo)) (j + 1)).1)))]) (pl' := []) (by first | rfl | rw [e9]) ?_
            exact ih_j
      · refine x_iload_n (q := 72) C 0 rfl dX5_serves_71 rfl ?_
        refine x_bipush (q := 74) C 12 rfl dX5_serves_72 rfl ?_
        refine x_icmp_ge_t C 131 dX5_serves_74 (by decide) (nI_le (a := 12) (b := (11 + 1)) (by omega) (by omega)) ?_
        exact x_vret C rfl (rfl) dX5_serves_131 (Nat.le_of_ble_eq_true rfl) (Nat.le_of_ble_eq_true rfl)
    · refine x_aload_n (q := 48) C 1 rfl dX5_serves_47 rfl ?_
      refine x_CiP (q := 51) C [0, 2, 3] [1, 4, 5, 6] (cx := [(qo, .inr (5, [.int th, .int hh, .int tt, .ref qF, .ref qL, .ref qA, .ref qE, .ref qH, .ref qB, .int (nI n), .ref qS, .ref qP, .ref qC, .int mc, .ref qT, .ref qD, .ref qR, .ref qX, .ref qG, .ref qM, .ref qU, .int (itr (mlsStep ca lo) 0 11)])), (qS, .inl (cy.1, 4, .inl stp)), (qP, .inl (cy.1, 4, .inl pow))]) (wr := [(qL, .inl (cy.1, 12, .inl lo)), (qD, .inl (cy.1, 12, .inl dm)), (qR, .inl (cy.2.1, 12, .inl ca)), (qG, .inl (cy.1, 12, .inl g))]) (st := []) rfl rfl rfl rfl (by decide) (fun H locs ls hP hPc hDc hS hFc hl => x_runV C (As := []) (c_X5_power qo qF qL qA qE qH qB qS qP qC qT qD qR qX qG qM qU n th hh tt mc (itr (mlsStep ca lo) 0 11) stp pow hn4) (cwV 0 C.2.2.2.2.2.1 gX5_serves_X5_power rfl rfl rfl (by decide +kernel) ⟨Nat.le_of_ble_eq_true rfl, Nat.le_of_ble_eq_true rfl⟩) rfl 0 rfl rfl rfl (Nat.le_of_ble_eq_true rfl) dX5_serves_48 ⟨Nat.le_of_ble_eq_true rfl, Nat.le_of_ble_eq_true rfl⟩ (fun h => absurd h (by decide)) hP hPc hDc hS hFc hl) (k := 0) (n := 0) rfl rfl rfl (fun r_48 w1 hw => ?_)
      obtain ⟨rfl, rfl⟩ := hw
      refine x_ord [4, 0, 5, 6, 1, 2, 3] [(qo, .inr (5, [.int th, .int hh, .int tt, .ref qF, .ref qL, .ref qA, .ref qE, .ref qH, .ref qB, .int (nI n), .ref qS, .ref qP, .ref qC, .int mc, .ref qT, .ref qD, .ref qR, .ref qX, .ref qG, .ref qM, .ref qU, .int (itr (mlsStep ca lo) 0 11)])), (qL, .inl (cy.1, 12, .inl lo)), (qS, .inl (cy.1, 4, .inl stp)), (qP, .inl (cy.1, 4, .inl pow)), (qD, .inl (cy.1, 12, .inl dm)), (qR, .inl (cy.2.1, 12, .inl ca)), (qG, .inl (cy.1, 12, .inl g))] rfl rfl ?_
      refine x_iload_n (q := 52) C 2 rfl dX5_serves_51 rfl ?_
      refine x_icmp_ge (q := 55) C 67 dX5_serves_52 (by decide) rfl (fun c_52 => ?_) (fun c_52 => ?_)
      · refine x_iload_n (q := 68) C 2 rfl dX5_serves_67 rfl ?_
        exact J_47 _ (by simp only [mLeft, mlsFun, if_pos c_52])
      · refine x_aload_n (q := 56) C 1 rfl dX5_serves_55 rfl ?_
        refine x_CiP (q := 59) C [0, 2, 3] [1, 4, 5, 6] (cx := [(qo, .inr (5, [.int th, .int hh, .int tt, .ref qF, .ref qL, .ref qA, .ref qE, .ref qH, .ref qB, .int (nI n), .ref qS, .ref qP, .ref qC, .int mc, .ref qT, .ref qD, .ref qR, .ref qX, .ref qG, .ref qM, .ref qU, .int (itr (mlsStep ca lo) 0 11)])), (qS, .inl (cy.1, 4, .inl stp)), (qP, .inl (cy.1, 4, .inl pow))]) (wr := [(qL, .inl (cy.1, 12, .inl lo)), (qD, .inl (cy.1, 12, .inl dm)), (qR, .inl (cy.2.1, 12, .inl ca)), (qG, .inl (cy.1, 12, .inl g))]) (st := []) rfl rfl rfl rfl (by decide) (fun H locs ls hP hPc hDc hS hFc hl => x_runV C (As := []) (c_X5_power qo qF qL qA qE qH qB qS qP qC qT qD qR qX qG qM qU n th hh tt mc (itr (mlsStep ca lo) 0 11) stp pow hn4) (cwV 0 C.2.2.2.2.2.1 gX5_serves_X5_power rfl rfl rfl (by decide +kernel) ⟨Nat.le_of_ble_eq_true rfl, Nat.le_of_ble_eq_true rfl⟩) rfl 0 rfl rfl rfl (Nat.le_of_ble_eq_true rfl) dX5_serves_56 ⟨Nat.le_of_ble_eq_true rfl, Nat.le_of_ble_eq_true rfl⟩ (fun h => absurd h (by decide)) hP hPc hDc hS hFc hl) (k := 0) (n := 0) rfl rfl rfl (fun r_56 w1 hw => ?_)
        obtain ⟨rfl, rfl⟩ := hw
        refine x_ord [4, 0, 5, 6, 1, 2, 3] [(qo, .inr (5, [.int th, .int hh, .int tt, .ref qF, .ref qL, .ref qA, .ref qE, .ref qH, .ref qB, .int (nI n), .ref qS, .ref qP, .ref qC, .int mc, .ref qT, .ref qD, .ref qR, .ref qX, .ref qG, .ref qM, .ref qU, .int (itr (mlsStep ca lo) 0 11)])), (qL, .inl (cy.1, 12, .inl lo)), (qS, .inl (cy.1, 4, .inl stp)), (qP, .inl (cy.1, 4, .inl pow)), (qD, .inl (cy.1, 12, .inl dm)), (qR, .inl (cy.2.1, 12, .inl ca)), (qG, .inl (cy.1, 12, .inl g))] rfl rfl ?_
        refine x_aload_n (q := 60) C 1 rfl dX5_serves_59 rfl ?_
        refine x_get (q := 63) C (T := TX5) iw_X5_serves_X5 rfl 0 21 rfl (by decide) rfl (by decide +kernel : Cond.fieldLink RX5 97 RX5 "losses" "I" ∈ wsX5_serves) rfl dX5_serves_60 rfl ?_
        refine x_isub (q := 64) C ((mpFun stp pow n) - (itr (mlsStep ca lo) 0 11)) (rfl) dX5_serves_63 rfl ?_
        refine x_goto C 68 dX5_serves_64 (by decide) ?_
        exact J_47 _ (by simp only [mLeft, mlsFun, if_neg c_52])

theorem iw_X5_measures_X5 : ∀ w ∈ wsX50, w ∈ wsX5_measures := by decide +kernel
set_option maxHeartbeats 4000000 in
set_option maxRecDepth 100000 in
theorem c_X5_measures {l : Launch} {D : va_G} {cy : ClassId × ClassId × ClassId} (qo qF qL qA qE qH qB qS qP qC qT qD qR qX qG qM qU n : Nat) (th hh tt mc ml : Int32) (sr : Nat → Nat) (lo er ca go me su : Nat → Int32) (hsr : ∀ j, 1 ≤ j → j < 12 → sr j < j) : xM false l yX5_measures wsX5_measures ({ frames := 0, cells := 0, slots := 0, locals := 0 }) D cy [.ref qo] ([(qo, .inr (5, [.int th, .int hh, .int tt, .ref qF, .ref qL, .ref qA, .ref qE, .ref qH, .ref qB, .int (nI n), .ref qS, .ref qP, .ref qC, .int mc, .ref qT, .ref qD, .ref qR, .ref qX, .ref qG, .ref qM, .ref qU, .int ml])), (qF, .inl (cy.1, 12, .inl (fun i => nI (sr i)))), (qL, .inl (cy.1, 12, .inl lo)), (qE, .inl (cy.1, 12, .inl er)), (qR, .inl (cy.2.1, 12, .inl ca)), (qG, .inl (cy.1, 12, .inl go)), (qM, .inl (cy.1, 12, .inl me)), (qU, .inl (cy.2.1, 12, .inl su))]) (xQv D (fun w => w = [(qo, .inr (5, [.int th, .int hh, .int tt, .ref qF, .ref qL, .ref qA, .ref qE, .ref qH, .ref qB, .int (nI n), .ref qS, .ref qP, .ref qC, .int mc, .ref qT, .ref qD, .ref qR, .ref qX, .ref qG, .ref qM, .ref qU, .int ml])), (qF, .inl (cy.1, 12, .inl (fun i => nI (sr i)))), (qL, .inl (cy.1, 12, .inl lo)), (qE, .inl (cy.1, 12, .inl er)), (qR, .inl (cy.2.1, 12, .inl ca)), (qG, .inl (cy.1, 12, .inl go)), (qM, .inl (cy.1, 12, .inl ((meFun sr lo ca er go me su).1))), (qU, .inl (cy.2.1, 12, .inl ((meFun sr lo ca er go me su).2)))])) 0 0 := by
  refine xM_of (X := [(qo, .inr (5, [.int th, .int hh, .int tt, .ref qF, .ref qL, .ref qA, .ref qE, .ref qH, .ref qB, .int (nI n), .ref qS, .ref qP, .ref qC, .int mc, .ref qT, .ref qD, .ref qR, .ref qX, .ref qG, .ref qM, .ref qU, .int ml])), (qF, .inl (cy.1, 12, .inl (fun i => nI (sr i)))), (qL, .inl (cy.1, 12, .inl lo)), (qE, .inl (cy.1, 12, .inl er)), (qR, .inl (cy.2.1, 12, .inl ca)), (qG, .inl (cy.1, 12, .inl go)), (qM, .inl (cy.1, 12, .inl me)), (qU, .inl (cy.2.1, 12, .inl su))]) (pl := []) (nL := 5) (ret := none) RX5 [(0, .ref qo)] (by decide +kernel) rfl rfl rfl (Nat.le_of_ble_eq_true rfl) (List.append_nil _).symm (fun p e s m args below meth c A C hname hT hZ => ?_)
  refine x_iconst (q := 1) C 1 rfl dX5_measures_0 rfl ?_
  refine x_istore_n (q := 2) C [(1, .int 1), (0, .ref qo)] dX5_measures_1 (by decide) rfl rfl ?_
  refine x_less [0, 1] [(1, .int 1), (0, .ref qo)] rfl ?_
  refine x_up (fun j => [(qo, .inr (5, [.int th, .int hh, .int tt, .ref qF, .ref qL, .ref qA, .ref qE, .ref qH, .ref qB, .int (nI n), .ref qS, .ref qP, .ref qC, .int mc, .ref qT, .ref qD, .ref qR, .ref qX, .ref qG, .ref qM, .ref qU, .int ml])), (qF, .inl (cy.1, 12, .inl (fun i => nI (sr i)))), (qL, .inl (cy.1, 12, .inl lo)), (qE, .inl (cy.1, 12, .inl er)), (qR, .inl (cy.2.1, 12, .inl ca)), (qG, .inl (cy.1, 12, .inl go)), (qM, .inl (cy.1, 12, .inl (itr (me1 go) me j))), (qU, .inl (cy.2.1, 12, .inl su))]) (fun j => [(1, .int (nI (j + 1))), (0, .ref qo)]) 11 rfl rfl (fun j h_j ih_j => ?_) ?_
  · refine x_iload_n (q := 3) C 0 rfl dX5_measures_2 rfl ?_
    refine x_bipush (q := 5) C 12 rfl dX5_measures_3 rfl ?_
    refine x_icmp_ge_f (q := 8) C 26 dX5_measures_5 (by decide) rfl (nI_ge (a := (j + 1)) (b := 12) (by omega) (by omega)) ?_
    refine x_aload_n (q := 9) C 1 rfl dX5_measures_8 rfl ?_
    refine x_get (q := 12) C (T := TX5) iw_X5_measures_X5 rfl 0 19 rfl (by decide) rfl (by decide +kernel : Cond.fieldLink RX5 53 RX5 "meters" "[I" ∈ wsX5_measures) rfl dX5_measures_9 rfl ?_
    refine x_iload_n (q := 13) C 0 rfl dX5_measures_12 rfl ?_
    refine x_aload_n (q := 14) C 1 rfl dX5_measures_13 rfl ?_
    refine x_get (q := 17) C (T := TX5) iw_X5_measures_X5 rfl 0 18 rfl (by decide) rfl (by decide +kernel : Cond.fieldLink RX5 50 RX5 "got" "[I" ∈ wsX5_measures) rfl dX5_measures_14 rfl ?_
    refine x_iload_n (q := 18) C 0 rfl dX5_measures_17 rfl ?_
    refine x_ialdN (q := 19) C (j + 1) 5 (go (j + 1)) rfl rfl (by omega) (by omega) rfl dX5_measures_18 rfl ?_
    refine x_iastN (q := 20) C (j + 1) 6 (upd (itr (me1 go) me j) (j + 1) (go (j + 1))) [(qo, .inr (5, [.int th, .int hh, .int tt, .ref qF, .ref qL, .ref qA, .ref qE, .ref qH, .ref qB, .int (nI n), .ref qS, .ref qP, .ref qC, .int mc, .ref qT, .ref qD, .ref qR, .ref qX, .ref qG, .ref qM, .ref qU, .int ml])), (qF, .inl (cy.1, 12, .inl (fun i => nI (sr i)))), (qL, .inl (cy.1, 12, .inl lo)), (qE, .inl (cy.1, 12, .inl er)), (qR, .inl (cy.2.1, 12, .inl ca)), (qG, .inl (cy.1, 12, .inl go)), (qM, .inl (cy.1, 12, .inl (upd (itr (me1 go) me j) (j + 1) (go (j + 1))))), (qU, .inl (cy.2.1, 12, .inl su))] rfl rfl (by omega) (by omega) rfl rfl dX5_measures_19 rfl ?_
    refine x_iinc (q := 23) C 0 (nI ((j + 1) + 1)) [(1, .int (nI ((j + 1) + 1))), (0, .ref qo)] dX5_measures_20 rfl (nI_1 _) (by decide) rfl rfl ?_
    refine x_goto C 2 dX5_measures_23 (by decide) ?_
    refine x_less [0, 1] [(1, .int (nI ((j + 1) + 1))), (0, .ref qo)] rfl ?_
    refine x_less [0, 1] [(1, .int (nI ((j + 1) + 1))), (0, .ref qo)] (by first | rfl | (rw [e9]; rfl)) ?_
    refine x_world (X' := [(qo, .inr (5, [.int th, .int hh, .int tt, .ref qF, .ref qL, .ref qA, .ref qE, .ref qH, .ref qB, .int (nI n), .ref qS, .ref qP, .ref qC, .int mc, .ref qT, .ref qD, .ref qR, .ref qX, .ref qG, .ref qM, .ref qU, .int ml])), (qF, .inl (cy.1, 12, .inl (fun i => nI (sr i)))), (qL, .inl (cy.1, 12, .inl lo)), (qE, .inl (cy.1, 12, .inl er)), (qR, .inl (cy.2.1, 12, .inl ca)), (qG, .inl (cy.1, 12, .inl go)), (qM, .inl (cy.1, 12, .inl (itr (me1 go) me (j + 1)))), (qU, .inl (cy.2.1, 12, .inl su))]) (pl' := []) (by first | rfl | rw [e9]) ?_
    exact ih_j
  · refine x_iload_n (q := 3) C 0 rfl dX5_measures_2 rfl ?_
    refine x_bipush (q := 5) C 12 rfl dX5_measures_3 rfl ?_
    refine x_icmp_ge_t C 26 dX5_measures_5 (by decide) (nI_le (a := 12) (b := (11 + 1)) (by omega) (by omega)) ?_
    refine x_bipush (q := 28) C 11 rfl dX5_measures_26 rfl ?_
    refine x_istore_n (q := 29) C [(1, .int 11), (0, .ref qo)] dX5_measures_28 (by decide) rfl rfl ?_
    refine x_less [0, 1] [(1, .int 11), (0, .ref qo)] rfl ?_
    refine x_up (fun j => [(qo, .inr (5, [.int th, .int hh, .int tt, .ref qF, .ref qL, .ref qA, .ref qE, .ref qH, .ref qB, .int (nI n), .ref qS, .ref qP, .ref qC, .int mc, .ref qT, .ref qD, .ref qR, .ref qX, .ref qG, .ref qM, .ref qU, .int ml])), (qF, .inl (cy.1, 12, .inl (fun i => nI (sr i)))), (qL, .inl (cy.1, 12, .inl lo)), (qE, .inl (cy.1, 12, .inl er)), (qR, .inl (cy.2.1, 12, .inl ca)), (qG, .inl (cy.1, 12, .inl go)), (qM, .inl (cy.1, 12, .inl (itr (me2 sr ca lo) (itr (me1 go) me 11) j))), (qU, .inl (cy.2.1, 12, .inl su))]) (fun j => [(1, .int (nI (11 - j))), (0, .ref qo)]) 11 rfl rfl (fun j h_j ih_j => ?_) ?_
    · refine x_iload_n (q := 30) C 0 rfl dX5_measures_29 rfl ?_
      refine x_if_le_f (q := 33) C 81 dX5_measures_30 (by decide) rfl (nI_ge (a := 0) (b := (11 - j)) (by omega) (by omega)) ?_
      refine x_aload_n (q := 34) C 1 rfl dX5_measures_33 rfl ?_
      refine x_get (q := 37) C (T := TX5) iw_X5_measures_X5 rfl 0 3 rfl (by decide) rfl (by decide +kernel : Cond.fieldLink RX5 7 RX5 "from" "[I" ∈ wsX5_measures) rfl dX5_measures_34 rfl ?_
      refine x_iload_n (q := 38) C 0 rfl dX5_measures_37 rfl ?_
      refine x_ialdN (q := 39) C (11 - j) 1 (nI (sr (11 - j))) rfl rfl (by omega) (by omega) rfl dX5_measures_38 rfl ?_
      refine x_istore_n (q := 40) C [(2, .int (nI (sr (11 - j)))), (1, .int (nI (11 - j))), (0, .ref qo)] dX5_measures_39 (by decide) rfl rfl ?_
      refine x_iload_n (q := 41) C 0 rfl dX5_measures_40 rfl ?_
      refine x_if_le (q := 44) C 75 dX5_measures_41 (by decide) rfl (fun c_41 => ?_) (fun c_41 => ?_)
      · refine x_iinc (q := 78) C 1 (nI (11 - (j + 1))) [(1, .int (nI (11 - (j + 1)))), (2, .int (nI (sr (11 - j)))), (0, .ref qo)] dX5_measures_75 rfl (nI_dn h_j) (by decide) rfl rfl ?_
        refine x_goto C 29 dX5_measures_78 (by decide) ?_
        refine x_less [0, 2] [(1, .int (nI (11 - (j + 1)))), (0, .ref qo)] rfl ?_
        have e9 : itr (me2 sr ca lo) (itr (me1 go) me 11) (j + 1) = itr (me2 sr ca lo) (itr (me1 go) me 11) j := by
          show me2 sr ca lo j (itr (me2 sr ca lo) (itr (me1 go) me 11) j) = _
          simp only [me2, if_pos c_41]
        refine x_less [0, 1] [(1, .int (nI (11 - (j + 1)))), (0, .ref qo)] (by first | rfl | (rw [e9]; rfl)) ?_
        refine x_world (X' := [(qo, .inr (5, [.int th, .int hh, .int tt, .ref qF, .ref qL, .ref qA, .ref qE, .ref qH, .ref qB, .int (nI n), .ref qS, .ref qP, .ref qC, .int mc, .ref qT, .ref qD, .ref qR, .ref qX, .ref qG, .ref qM, .ref qU, .int ml])), (qF, .inl (cy.1, 12, .inl (fun i => nI (sr i)))), (qL, .inl (cy.1, 12, .inl lo)), (qE, .inl (cy.1, 12, .inl er)), (qR, .inl (cy.2.1, 12, .inl ca)), (qG, .inl (cy.1, 12, .inl go)), (qM, .inl (cy.1, 12, .inl (itr (me2 sr ca lo) (itr (me1 go) me 11) (j + 1)))), (qU, .inl (cy.2.1, 12, .inl su))]) (pl' := []) (by first | rfl | rw [e9]) ?_
        exact ih_j
      · refine x_aload_n (q := 45) C 2 rfl dX5_measures_44 rfl ?_
        refine x_get (q := 48) C (T := TX5) iw_X5_measures_X5 rfl 0 16 rfl (by decide) rfl (by decide +kernel : Cond.fieldLink RX5 44 RX5 "carries" "[Z" ∈ wsX5_measures) rfl dX5_measures_45 rfl ?_
        refine x_iload_n (q := 49) C 1 rfl dX5_measures_48 rfl ?_
        refine x_zaldN (q := 50) C (11 - j) 4 (ca (11 - j)) rfl rfl (by omega) (by omega) rfl dX5_measures_49 rfl ?_
        refine x_if_eq (q := 53) C 75 dX5_measures_50 (by decide) rfl (fun c_50 => ?_) (fun c_50 => ?_)
        · refine x_iinc (q := 78) C 1 (nI (11 - (j + 1))) [(1, .int (nI (11 - (j + 1)))), (2, .int (nI (sr (11 - j)))), (0, .ref qo)] dX5_measures_75 rfl (nI_dn h_j) (by decide) rfl rfl ?_
          refine x_goto C 29 dX5_measures_78 (by decide) ?_
          refine x_less [0, 2] [(1, .int (nI (11 - (j + 1)))), (0, .ref qo)] rfl ?_
          have e9 : itr (me2 sr ca lo) (itr (me1 go) me 11) (j + 1) = itr (me2 sr ca lo) (itr (me1 go) me 11) j := by
            show me2 sr ca lo j (itr (me2 sr ca lo) (itr (me1 go) me 11) j) = _
            simp only [me2, if_neg c_41, if_pos c_50]
          refine x_less [0, 1] [(1, .int (nI (11 - (j + 1)))), (0, .ref qo)] (by first | rfl | (rw [e9]; rfl)) ?_
          refine x_world (X' := [(qo, .inr (5, [.int th, .int hh, .int tt, .ref qF, .ref qL, .ref qA, .ref qE, .ref qH, .ref qB, .int (nI n), .ref qS, .ref qP, .ref qC, .int mc, .ref qT, .ref qD, .ref qR, .ref qX, .ref qG, .ref qM, .ref qU, .int ml])), (qF, .inl (cy.1, 12, .inl (fun i => nI (sr i)))), (qL, .inl (cy.1, 12, .inl lo)), (qE, .inl (cy.1, 12, .inl er)), (qR, .inl (cy.2.1, 12, .inl ca)), (qG, .inl (cy.1, 12, .inl go)), (qM, .inl (cy.1, 12, .inl (itr (me2 sr ca lo) (itr (me1 go) me 11) (j + 1)))), (qU, .inl (cy.2.1, 12, .inl su))]) (pl' := []) (by first | rfl | rw [e9]) ?_
          exact ih_j
        · refine x_aload_n (q := 54) C 2 rfl dX5_measures_53 rfl ?_
          refine x_get (q := 57) C (T := TX5) iw_X5_measures_X5 rfl 0 19 rfl (by decide) rfl (by decide +kernel : Cond.fieldLink RX5 53 RX5 "meters" "[I" ∈ wsX5_measures) rfl dX5_measures_54 rfl ?_
          refine x_iload_n (q := 58) C 0 rfl dX5_measures_57 rfl ?_
          refine x_dup2 (q := 59) C rfl rfl dX5_measures_58 rfl ?_
          refine x_ialdN (q := 60) C (sr (11 - j)) 6 ((itr (me2 sr ca lo) (itr (me1 go) me 11) j) (sr (11 - j))) rfl rfl (by have := hsr (11 - j) (by omega) (by omega); omega) (by omega) rfl dX5_measures_59 rfl ?_
          refine x_aload_n (q := 61) C 2 rfl dX5_measures_60 rfl ?_
          refine x_get (q := 64) C (T := TX5) iw_X5_measures_X5 rfl 0 19 rfl (by decide) rfl (by decide +kernel : Cond.fieldLink RX5 53 RX5 "meters" "[I" ∈ wsX5_measures) rfl dX5_measures_61 rfl ?_
          refine x_iload_n (q := 65) C 1 rfl dX5_measures_64 rfl ?_
          refine x_ialdN (q := 66) C (11 - j) 6 ((itr (me2 sr ca lo) (itr (me1 go) me 11) j) (11 - j)) rfl rfl (by omega) (by omega) rfl dX5_measures_65 rfl ?_
          refine x_aload_n (q := 67) C 2 rfl dX5_measures_66 rfl ?_
          refine x_get (q := 70) C (T := TX5) iw_X5_measures_X5 rfl 0 4 rfl (by decide) rfl (by decide +kernel : Cond.fieldLink RX5 13 RX5 "loss" "[I" ∈ wsX5_measures) rfl dX5_measures_67 rfl ?_
          refine x_iload_n (q := 71) C 1 rfl dX5_measures_70 rfl ?_
          refine x_ialdN (q := 72) C (11 - j) 2 (lo (11 - j)) rfl rfl (by omega) (by omega) rfl dX5_measures_71 rfl ?_
          refine x_iadd (q := 73) C (((itr (me2 sr ca lo) (itr (me1 go) me 11) j) (11 - j)) + (lo (11 - j))) (rfl) dX5_measures_72 rfl ?_
          refine x_iadd (q := 74) C (((itr (me2 sr ca lo) (itr (me1 go) me 11) j) (sr (11 - j))) + (((itr (me2 sr ca lo) (itr (me1 go) me 11) j) (11 - j)) + (lo (11 - j)))) (rfl) dX5_measures_73 rfl ?_
          refine x_iastN (q := 75) C (sr (11 - j)) 6 (upd (itr (me2 sr ca lo) (itr (me1 go) me 11) j) (sr (11 - j)) (((itr (me2 sr ca lo) (itr (me1 go) me 11) j) (sr (11 - j))) + (((itr (me2 sr ca lo) (itr (me1 go) me 11) j) (11 - j)) + (lo (11 - j))))) [(qo, .inr (5, [.int th, .int hh, .int tt, .ref qF, .ref qL, .ref qA, .ref qE, .ref qH, .ref qB, .int (nI n), .ref qS, .ref qP, .ref qC, .int mc, .ref qT, .ref qD, .ref qR, .ref qX, .ref qG, .ref qM, .ref qU, .int ml])), (qF, .inl (cy.1, 12, .inl (fun i => nI (sr i)))), (qL, .inl (cy.1, 12, .inl lo)), (qE, .inl (cy.1, 12, .inl er)), (qR, .inl (cy.2.1, 12, .inl ca)), (qG, .inl (cy.1, 12, .inl go)), (qM, .inl (cy.1, 12, .inl (upd (itr (me2 sr ca lo) (itr (me1 go) me 11) j) (sr (11 - j)) (((itr (me2 sr ca lo) (itr (me1 go) me 11) j) (sr (11 - j))) + (((itr (me2 sr ca lo) (itr (me1 go) me 11) j) (11 - j)) + (lo (11 - j))))))), (qU, .inl (cy.2.1, 12, .inl su))] rfl rfl (by have := hsr (11 - j) (by omega) (by omega); omega) (by omega) rfl rfl dX5_measures_74 rfl ?_
          refine x_iinc (q := 78) C 1 (nI (11 - (j + 1))) [(1, .int (nI (11 - (j + 1)))), (2, .int (nI (sr (11 - j)))), (0, .ref qo)] dX5_measures_75 rfl (nI_dn h_j) (by decide) rfl rfl ?_
          refine x_goto C 29 dX5_measures_78 (by decide) ?_
          refine x_less [0, 2] [(1, .int (nI (11 - (j + 1)))), (0, .ref qo)] rfl ?_
          have e9 : itr (me2 sr ca lo) (itr (me1 go) me 11) (j + 1) = upd (itr (me2 sr ca lo) (itr (me1 go) me 11) j) (sr (11 - j)) (((itr (me2 sr ca lo) (itr (me1 go) me 11) j) (sr (11 - j))) + (((itr (me2 sr ca lo) (itr (me1 go) me 11) j) (11 - j)) + (lo (11 - j)))) := by
            show me2 sr ca lo j (itr (me2 sr ca lo) (itr (me1 go) me 11) j) = _
            simp only [me2, if_neg c_41, if_neg c_50]
          refine x_less [0, 1] [(1, .int (nI (11 - (j + 1)))), (0, .ref qo)] (by first | rfl | (rw [e9]; rfl)) ?_
          refine x_world (X' := [(qo, .inr (5, [.int th, .int hh, .int tt, .ref qF, .ref qL, .ref qA, .ref qE, .ref qH, .ref qB, .int (nI n), .ref qS, .ref qP, .ref qC, .int mc, .ref qT, .ref qD, .ref qR, .ref qX, .ref qG, .ref qM, .ref qU, .int ml])), (qF, .inl (cy.1, 12, .inl (fun i => nI (sr i)))), (qL, .inl (cy.1, 12, .inl lo)), (qE, .inl (cy.1, 12, .inl er)), (qR, .inl (cy.2.1, 12, .inl ca)), (qG, .inl (cy.1, 12, .inl go)), (qM, .inl (cy.1, 12, .inl (itr (me2 sr ca lo) (itr (me1 go) me 11) (j + 1)))), (qU, .inl (cy.2.1, 12, .inl su))]) (pl' := []) (by first | rfl | rw [e9]) ?_
          exact ih_j
    · refine x_iload_n (q := 30) C 0 rfl dX5_measures_29 rfl ?_
      refine x_if_le_t C 81 dX5_measures_30 (by decide) (nI_le (a := (11 - 11)) (b := 0) (by omega) (by omega)) ?_
      refine x_iconst (q := 82) C 1 rfl dX5_measures_81 rfl ?_
      refine x_istore_n (q := 83) C [(1, .int 1), (0, .ref qo)] dX5_measures_82 (by decide) rfl rfl ?_
      refine x_less [0, 1] [(1, .int 1), (0, .ref qo)] rfl ?_
      refine x_up (fun j => [(qo, .inr (5, [.int th, .int hh, .int tt, .ref qF, .ref qL, .ref qA, .ref qE, .ref qH, .ref qB, .int (nI n), .ref qS, .ref qP, .ref qC, .int mc, .ref qT, .ref qD, .ref qR, .ref qX, .ref qG, .ref qM, .ref qU, .int ml])), (qF, .inl (cy.1, 12, .inl (fun i => nI (sr i)))), (qL, .inl (cy.1, 12, .inl lo)), (qE, .inl (cy.1, 12, .inl er)), (qR, .inl (cy.2.1, 12, .inl ca)), (qG, .inl (cy.1, 12, .inl go)), (qM, .inl (cy.1, 12, .inl ((itr (me3 sr ca er) (itr (me2 sr ca lo) (itr (me1 go) me 11) 11, su) j).1))), (qU, .inl (cy.2.1, 12, .inl ((itr (me3 sr ca er) (itr (me2 sr ca lo) (itr (me1 go) me 11) 11, su) j).2)))]) (fun j => [(1, .int (nI (j + 1))), (0, .ref qo)]) 11 rfl rfl (fun j h_j ih_j => ?_) ?_
      · refine x_iload_n (q := 84) C 0 rfl dX5_measures_83 rfl ?_
        refine x_bipush (q := 86) C 12 rfl dX5_measures_84 rfl ?_
        refine x_icmp_ge_f (q := 89) C 196 dX5_measures_86 (by decide) rfl (nI_ge (a := (j + 1)) (b := 12) (by omega) (by omega)) ?_
        refine x_join 108 (fun v => v = wrong ca er j) [] (fun v hv => ?_) (fun J_89 => ?_)
        · subst hv
          refine x_istore_n (q := 109) C [(2, .int (wrong ca er j)), (1, .int (nI (j + 1))), (0, .ref qo)] dX5_measures_108 (by decide) rfl rfl ?_
          refine x_iconst (q := 110) C 0 rfl dX5_measures_109 rfl ?_
          refine x_istore_n (q := 111) C [(3, .int 0), (2, .int (wrong ca er j)), (1, .int (nI (j + 1))), (0, .ref qo)] dX5_measures_110 (by decide) rfl rfl ?_
          refine x_iload_n (q := 112) C 2 rfl dX5_measures_111 rfl ?_
          refine x_iconst (q := 113) C 1 rfl dX5_measures_112 rfl ?_
          refine x_iadd (q := 114) C (nI (j + 2 + 0)) (nI_1 (j + 1)) dX5_measures_113 rfl ?_
          refine x_istore (q := 116) C [(4, .int (nI (j + 2 + 0))), (3, .int 0), (2, .int (wrong ca er j)), (1, .int (nI (j + 1))), (0, .ref qo)] dX5_measures_114 (by decide) rfl rfl ?_
          refine x_less [0, 1, 2, 3, 4] [(4, .int (nI (j + 2 + 0))), (3, .int 0), (2, .int (wrong ca er j)), (1, .int (nI (j + 1))), (0, .ref qo)] rfl ?_
          refine x_up (fun i => [(qo, .inr (5, [.int th, .int hh, .int tt, .ref qF, .ref qL, .ref qA, .ref qE, .ref qH, .ref qB, .int (nI n), .ref qS, .ref qP, .ref qC, .int mc, .ref qT, .ref qD, .ref qR, .ref qX, .ref qG, .ref qM, .ref qU, .int ml])), (qF, .inl (cy.1, 12, .inl (fun i => nI (sr i)))), (qL, .inl (cy.1, 12, .inl lo)), (qE, .inl (cy.1, 12, .inl er)), (qR, .inl (cy.2.1, 12, .inl ca)), (qG, .inl (cy.1, 12, .inl go)), (qM, .inl (cy.1, 12, .inl ((itr (me3 sr ca er) (itr (me2 sr ca lo) (itr (me1 go) me 11) 11, su) j).1))), (qU, .inl (cy.2.1, 12, .inl ((itr (me3 sr ca er) (itr (me2 sr ca lo) (itr (me1 go) me 11) 11, su) j).2)))]) (fun i => [(4, .int (nI (j + 2 + i))), (3, .int (itr (biStep sr ca er j) 0 i)), (2, .int (wrong ca er j)), (1, .int (nI (j + 1))), (0, .ref qo)]) (10 - j) rfl rfl (fun i h_i ih_i => ?_) ?_
          · refine x_iload (q := 118) C 0 rfl dX5_measures_116 rfl ?_
            refine x_bipush (q := 120) C 12 rfl dX5_measures_118 rfl ?_
            refine x_icmp_ge_f (q := 123) C 164 dX5_measures_120 (by decide) rfl (nI_ge (a := (j + 2 + i)) (b := 12) (by omega) (by omega)) ?_
            refine x_iload_n (q := 124) C 1 rfl dX5_measures_123 rfl ?_
            refine x_aload_n (q := 125) C 4 rfl dX5_measures_124 rfl ?_
            refine x_get (q := 128) C (T := TX5) iw_X5_measures_X5 rfl 0 3 rfl (by decide) rfl (by decide +kernel : Cond.fieldLink RX5 7 RX5 "from" "[I" ∈ wsX5_measures) rfl dX5_measures_125 rfl ?_
            refine x_iload (q := 130) C 0 rfl dX5_measures_128 rfl ?_
            refine x_ialdN (q := 131) C (j + 2 + i) 1 (nI (sr (j + 2 + i))) rfl rfl (by omega) (by omega) rfl dX5_measures_130 rfl ?_
            refine x_iload_n (q := 132) C 3 rfl dX5_measures_131 rfl ?_
            refine x_icmp_ne (q := 135) C 155 dX5_measures_132 (by decide) rfl (fun c_132 => ?_) (fun c_132 => ?_)
            · refine x_iconst (q := 156) C 0 rfl dX5_measures_155 rfl ?_
              refine x_iadd (q := 157) C ((itr (biStep sr ca er j) 0 i) + 0) (rfl) dX5_measures_156 rfl ?_
              refine x_istore_n (q := 158) C [(3, .int ((itr (biStep sr ca er j) 0 i) + 0)), (4, .int (nI (j + 2 + i))), (2, .int (wrong ca er j)), (1, .int (nI (j + 1))), (0, .ref qo)] dX5_measures_157 (by decide) rfl rfl ?_
              refine x_iinc (q := 161) C 1 (nI (j + 2 + (i + 1))) [(4, .int (nI (j + 2 + (i + 1)))), (3, .int ((itr (biStep sr ca er j) 0 i) + 0)), (2, .int (wrong ca er j)), (1, .int (nI (j + 1))), (0, .ref qo)] dX5_measures_158 rfl (nI_1 (j + 2 + i)) (by decide) rfl rfl ?_
              refine x_goto C 116 dX5_measures_161 (by decide) ?_
              refine x_less [0, 1, 2, 3, 4] [(4, .int (nI (j + 2 + (i + 1)))), (3, .int ((itr (biStep sr ca er j) 0 i) + 0)), (2, .int (wrong ca er j)), (1, .int (nI (j + 1))), (0, .ref qo)] rfl ?_
              have e9 : itr (biStep sr ca er j) 0 (i + 1) = (itr (biStep sr ca er j) 0 i) + 0 := by
                show biStep sr ca er j i (itr (biStep sr ca er j) 0 i) = _
                simp only [biStep, if_neg c_132]
              refine x_less [0, 1, 2, 3, 4] [(4, .int (nI (j + 2 + (i + 1)))), (3, .int (itr (biStep sr ca er j) 0 (i + 1))), (2, .int (wrong ca er j)), (1, .int (nI (j + 1))), (0, .ref qo)] (by first | rfl | (rw [e9]; rfl)) ?_
              refine x_world (X' := [(qo, .inr (5, [.int th, .int hh, .int tt, .ref qF, .ref qL, .ref qA, .ref qE, .ref qH, .ref qB, .int (nI n), .ref qS, .ref qP, .ref qC, .int mc, .ref qT, .ref qD, .ref qR, .ref qX, .ref qG, .ref qM, .ref qU, .int ml])), (qF, .inl (cy.1, 12, .inl (fun i => nI (sr i)))), (qL, .inl (cy.1, 12, .inl lo)), (qE, .inl (cy.1, 12, .inl er)), (qR, .inl (cy.2.1, 12, .inl ca)), (qG, .inl (cy.1, 12, .inl go)), (qM, .inl (cy.1, 12, .inl ((itr (me3 sr ca er) (itr (me2 sr ca lo) (itr (me1 go) me 11) 11, su) j).1))), (qU, .inl (cy.2.1, 12, .inl ((itr (me3 sr ca er) (itr (me2 sr ca lo) (itr (me1 go) me 11) 11, su) j).2)))]) (pl' := []) (by first | rfl | rw [e9]) ?_
              exact ih_i
            · refine x_aload_n (q := 136) C 4 rfl dX5_measures_135 rfl ?_
              refine x_get (q := 139) C (T := TX5) iw_X5_measures_X5 rfl 0 16 rfl (by decide) rfl (by decide +kernel : Cond.fieldLink RX5 44 RX5 "carries" "[Z" ∈ wsX5_measures) rfl dX5_measures_136 rfl ?_
              refine x_iload (q := 141) C 0 rfl dX5_measures_139 rfl ?_
              refine x_zaldN (q := 142) C (j + 2 + i) 4 (ca (j + 2 + i)) rfl rfl (by omega) (by omega) rfl dX5_measures_141 rfl ?_
              refine x_if_eq (q := 145) C 155 dX5_measures_142 (by decide) rfl (fun c_142 => ?_) (fun c_142 => ?_)
              · refine x_iconst (q := 156) C 0 rfl dX5_measures_155 rfl ?_
                refine x_iadd (q := 157) C ((itr (biStep sr ca er j) 0 i) + 0) (rfl) dX5_measures_156 rfl ?_
                refine x_istore_n (q := 158) C [(3, .int ((itr (biStep sr ca er j) 0 i) + 0)), (4, .int (nI (j + 2 + i))), (2, .int (wrong ca er j)), (1, .int (nI (j + 1))), (0, .ref qo)] dX5_measures_157 (by decide) rfl rfl ?_
                refine x_iinc (q := 161) C 1 (nI (j + 2 + (i + 1))) [(4, .int (nI (j + 2 + (i + 1)))), (3, .int ((itr (biStep sr ca er j) 0 i) + 0)), (2, .int (wrong ca er j)), (1, .int (nI (j + 1))), (0, .ref qo)] dX5_measures_158 rfl (nI_1 (j + 2 + i)) (by decide) rfl rfl ?_
                refine x_goto C 116 dX5_measures_161 (by decide) ?_
                refine x_less [0, 1, 2, 3, 4] [(4, .int (nI (j + 2 + (i + 1)))), (3, .int ((itr (biStep sr ca er j) 0 i) + 0)), (2, .int (wrong ca er j)), (1, .int (nI (j + 1))), (0, .ref qo)] rfl ?_
                have e9 : itr (biStep sr ca er j) 0 (i + 1) = (itr (biStep sr ca er j) 0 i) + 0 := by
                  show biStep sr ca er j i (itr (biStep sr ca er j) 0 i) = _
                  simp only [biStep, if_pos c_132, if_pos c_142]
                refine x_less [0, 1, 2, 3, 4] [(4, .int (nI (j + 2 + (i + 1)))), (3, .int (itr (biStep sr ca er j) 0 (i + 1))), (2, .int (wrong ca er j)), (1, .int (nI (j + 1))), (0, .ref qo)] (by first | rfl | (rw [e9]; rfl)) ?_
                refine x_world (X' := [(qo, .inr (5, [.int th, .int hh, .int tt, .ref qF, .ref qL, .ref qA, .ref qE, .ref qH, .ref qB, .int (nI n), .ref qS, .ref qP, .ref qC, .int mc, .ref qT, .ref qD, .ref qR, .ref qX, .ref qG, .ref qM, .ref qU, .int ml])), (qF, .inl (cy.1, 12, .inl (fun i => nI (sr i)))), (qL, .inl (cy.1, 12, .inl lo)), (qE, .inl (cy.1, 12, .inl er)), (qR, .inl (cy.2.1, 12, .inl ca)), (qG, .inl (cy.1, 12, .inl go)), (qM, .inl (cy.1, 12, .inl ((itr (me3 sr ca er) (itr (me2 sr ca lo) (itr (me1 go) me 11) 11, su) j).1))), (qU, .inl (cy.2.1, 12, .inl ((itr (me3 sr ca er) (itr (me2 sr ca lo) (itr (me1 go) me 11) 11, su) j).2)))]) (pl' := []) (by first | rfl | rw [e9]) ?_
                exact ih_i
              · refine x_aload_n (q := 146) C 4 rfl dX5_measures_145 rfl ?_
                refine x_get (q := 149) C (T := TX5) iw_X5_measures_X5 rfl 0 6 rfl (by decide) rfl (by decide +kernel : Cond.fieldLink RX5 19 RX5 "errors" "[I" ∈ wsX5_measures) rfl dX5_measures_146 rfl ?_
                refine x_iload (q := 151) C 0 rfl dX5_measures_149 rfl ?_
                refine x_ialdN (q := 152) C (j + 2 + i) 3 (er (j + 2 + i)) rfl rfl (by omega) (by omega) rfl dX5_measures_151 rfl ?_
                refine x_goto C 156 dX5_measures_152 (by decide) ?_
                refine x_iadd (q := 157) C ((itr (biStep sr ca er j) 0 i) + (er (j + 2 + i))) (rfl) dX5_measures_156 rfl ?_
                refine x_istore_n (q := 158) C [(3, .int ((itr (biStep sr ca er j) 0 i) + (er (j + 2 + i)))), (4, .int (nI (j + 2 + i))), (2, .int (wrong ca er j)), (1, .int (nI (j + 1))), (0, .ref qo)] dX5_measures_157 (by decide) rfl rfl ?_
                refine x_iinc (q := 161) C 1 (nI (j + 2 + (i + 1))) [(4, .int (nI (j + 2 + (i + 1)))), (3, .int ((itr (biStep sr ca er j) 0 i) + (er (j + 2 + i)))), (2, .int (wrong ca er j)), (1, .int (nI (j + 1))), (0, .ref qo)] dX5_measures_158 rfl (nI_1 (j + 2 + i)) (by decide) rfl rfl ?_
                refine x_goto C 116 dX5_measures_161 (by decide) ?_
                refine x_less [0, 1, 2, 3, 4] [(4, .int (nI (j + 2 + (i + 1)))), (3, .int ((itr (biStep sr ca er j) 0 i) + (er (j + 2 + i)))), (2, .int (wrong ca er j)), (1, .int (nI (j + 1))), (0, .ref qo)] rfl ?_
                have e9 : itr (biStep sr ca er j) 0 (i + 1) = (itr (biStep sr ca er j) 0 i) + (er (j + 2 + i)) := by
                  show biStep sr ca er j i (itr (biStep sr ca er j) 0 i) = _
                  simp only [biStep, if_pos c_132, if_neg c_142]
                refine x_less [0, 1, 2, 3, 4] [(4, .int (nI (j + 2 + (i + 1)))), (3, .int (itr (biStep sr ca er j) 0 (i + 1))), (2, .int (wrong ca er j)), (1, .int (nI (j + 1))), (0, .ref qo)] (by first | rfl | (rw [e9]; rfl)) ?_
                refine x_world (X' := [(qo, .inr (5, [.int th, .int hh, .int tt, .ref qF, .ref qL, .ref qA, .ref qE, .ref qH, .ref qB, .int (nI n), .ref qS, .ref qP, .ref qC, .int mc, .ref qT, .ref qD, .ref qR, .ref qX, .ref qG, .ref qM, .ref qU, .int ml])), (qF, .inl (cy.1, 12, .inl (fun i => nI (sr i)))), (qL, .inl (cy.1, 12, .inl lo)), (qE, .inl (cy.1, 12, .inl er)), (qR, .inl (cy.2.1, 12, .inl ca)), (qG, .inl (cy.1, 12, .inl go)), (qM, .inl (cy.1, 12, .inl ((itr (me3 sr ca er) (itr (me2 sr ca lo) (itr (me1 go) me 11) 11, su) j).1))), (qU, .inl (cy.2.1, 12, .inl ((itr (me3 sr ca er) (itr (me2 sr ca lo) (itr (me1 go) me 11) 11, su) j).2)))]) (pl' := []) (by first | rfl | rw [e9]) ?_
                exact ih_i
          · refine x_iload (q := 118) C 0 rfl dX5_measures_116 rfl ?_
            refine x_bipush (q := 120) C 12 rfl dX5_measures_118 rfl ?_
            refine x_icmp_ge_t C 164 dX5_measures_120 (by decide) (nI_le (a := 12) (b := (j + 2 + (10 - j))) (by omega) (by omega)) ?_
            refine x_aload_n (q := 165) C 4 rfl dX5_measures_164 rfl ?_
            refine x_get (q := 168) C (T := TX5) iw_X5_measures_X5 rfl 0 20 rfl (by decide) rfl (by decide +kernel : Cond.fieldLink RX5 56 RX5 "isSuspected" "[Z" ∈ wsX5_measures) rfl dX5_measures_165 rfl ?_
            refine x_iload_n (q := 169) C 3 rfl dX5_measures_168 rfl ?_
            refine x_iload_n (q := 170) C 2 rfl dX5_measures_169 rfl ?_
            refine x_iload_n (q := 171) C 1 rfl dX5_measures_170 rfl ?_
            refine x_icmp_eq (q := 174) C 178 dX5_measures_171 (by decide) rfl (fun c_171 => ?_) (fun c_171 => ?_)
            · refine x_iconst (q := 179) C 0 rfl dX5_measures_178 rfl ?_
              refine x_zastN (q := 180) C (j + 1) 7 (upd ((itr (me3 sr ca er) (itr (me2 sr ca lo) (itr (me1 go) me 11) 11, su) j).2) (j + 1) 0) [(qo, .inr (5, [.int th, .int hh, .int tt, .ref qF, .ref qL, .ref qA, .ref qE, .ref qH, .ref qB, .int (nI n), .ref qS, .ref qP, .ref qC, .int mc, .ref qT, .ref qD, .ref qR, .ref qX, .ref qG, .ref qM, .ref qU, .int ml])), (qF, .inl (cy.1, 12, .inl (fun i => nI (sr i)))), (qL, .inl (cy.1, 12, .inl lo)), (qE, .inl (cy.1, 12, .inl er)), (qR, .inl (cy.2.1, 12, .inl ca)), (qG, .inl (cy.1, 12, .inl go)), (qM, .inl (cy.1, 12, .inl ((itr (me3 sr ca er) (itr (me2 sr ca lo) (itr (me1 go) me 11) 11, su) j).1))), (qU, .inl (cy.2.1, 12, .inl (upd ((itr (me3 sr ca er) (itr (me2 sr ca lo) (itr (me1 go) me 11) 11, su) j).2) (j + 1) 0)))] rfl rfl (by omega) (by omega) (congrArg _ vpz0) rfl dX5_measures_179 rfl ?_
              refine x_aload_n (q := 181) C 4 rfl dX5_measures_180 rfl ?_
              refine x_get (q := 184) C (T := TX5) iw_X5_measures_X5 rfl 0 19 rfl (by decide) rfl (by decide +kernel : Cond.fieldLink RX5 53 RX5 "meters" "[I" ∈ wsX5_measures) rfl dX5_measures_181 rfl ?_
              refine x_iload_n (q := 185) C 3 rfl dX5_measures_184 rfl ?_
              refine x_dup2 (q := 186) C rfl rfl dX5_measures_185 rfl ?_
              refine x_ialdN (q := 187) C (j + 1) 6 (((itr (me3 sr ca er) (itr (me2 sr ca lo) (itr (me1 go) me 11) 11, su) j).1) (j + 1)) rfl rfl (by omega) (by omega) rfl dX5_measures_186 rfl ?_
              refine x_iload_n (q := 188) C 2 rfl dX5_measures_187 rfl ?_
              refine x_iadd (q := 189) C ((((itr (me3 sr ca er) (itr (me2 sr ca lo) (itr (me1 go) me 11) 11, su) j).1) (j + 1)) + (wrong ca er j)) (rfl) dX5_measures_188 rfl ?_
              refine x_iastN (q := 190) C (j + 1) 6 (upd ((itr (me3 sr ca er) (itr (me2 sr ca lo) (itr (me1 go) me 11) 11, su) j).1) (j + 1) ((((itr (me3 sr ca er) (itr (me2 sr ca lo) (itr (me1 go) me 11) 11, su) j).1) (j + 1)) + (wrong ca er j))) [(qo, .inr (5, [.int th, .int hh, .int tt, .ref qF, .ref qL, .ref qA, .ref qE, .ref qH, .ref qB, .int (nI n), .ref qS, .ref qP, .ref qC, .int mc, .ref qT, .ref qD, .ref qR, .ref qX, .ref qG, .ref qM, .ref qU, .int ml])), (qF, .inl (cy.1, 12, .inl (fun i => nI (sr i)))), (qL, .inl (cy.1, 12, .inl lo)), (qE, .inl (cy.1, 12, .inl er)), (qR, .inl (cy.2.1, 12, .inl ca)), (qG, .inl (cy.1, 12, .inl go)), (qM, .inl (cy.1, 12, .inl (upd ((itr (me3 sr ca er) (itr (me2 sr ca lo) (itr (me1 go) me 11) 11, su) j).1) (j + 1) ((((itr (me3 sr ca er) (itr (me2 sr ca lo) (itr (me1 go) me 11) 11, su) j).1) (j + 1)) + (wrong ca er j))))), (qU, .inl (cy.2.1, 12, .inl (upd ((itr (me3 sr ca er) (itr (me2 sr ca lo) (itr (me1 go) me 11) 11, su) j).2) (j + 1) 0)))] rfl rfl (by omega) (by omega) rfl rfl dX5_measures_189 rfl ?_
              refine x_iinc (q := 193) C 3 (nI ((j + 1) + 1)) [(1, .int (nI ((j + 1) + 1))), (4, .int (nI (j + 2 + (10 - j)))), (3, .int (itr (biStep sr ca er j) 0 (10 - j))), (2, .int (wrong ca er j)), (0, .ref qo)] dX5_measures_190 rfl (nI_1 _) (by decide) rfl rfl ?_
              refine x_goto C 83 dX5_measures_193 (by decide) ?_
              refine x_less [0, 4] [(1, .int (nI ((j + 1) + 1))), (0, .ref qo)] rfl ?_
              have e9 : (itr (me3 sr ca er) (itr (me2 sr ca lo) (itr (me1 go) me 11) 11, su) (j + 1)) = (upd ((itr (me3 sr ca er) (itr (me2 sr ca lo) (itr (me1 go) me 11) 11, su) j).1) (j + 1) ((((itr (me3 sr ca er) (itr (me2 sr ca lo) (itr (me1 go) me 11) 11, su) j).1) (j + 1)) + (wrong ca er j)), upd ((itr (me3 sr ca er) (itr (me2 sr ca lo) (itr (me1 go) me 11) 11, su) j).2) (j + 1) 0) := by
                show me3 sr ca er j (itr (me3 sr ca er) (itr (me2 sr ca lo) (itr (me1 go) me 11) 11, su) j) = _
                simp only [me3, if_pos c_171]
              refine x_less [0, 1] [(1, .int (nI ((j + 1) + 1))), (0, .ref qo)] (by first | rfl | (rw [e9]; rfl)) ?_
              refine x_world (X' := [(qo, .inr (5, [.int th, .int hh, .int tt, .ref qF, .ref qL, .ref qA, .ref qE, .ref qH, .ref qB, .int (nI n), .ref qS, .ref qP, .ref qC, .int mc, .ref qT, .ref qD, .ref qR, .ref qX, .ref qG, .ref qM, .ref qU, .int ml])), (qF, .inl (cy.1, 12, .inl (fun i => nI (sr i)))), (qL, .inl (cy.1, 12, .inl lo)), (qE, .inl (cy.1, 12, .inl er)), (qR, .inl (cy.2.1, 12, .inl ca)), (qG, .inl (cy.1, 12, .inl go)), (qM, .inl (cy.1, 12, .inl ((itr (me3 sr ca er) (itr (me2 sr ca lo) (itr (me1 go) me 11) 11, su) (j + 1)).1))), (qU, .inl (cy.2.1, 12, .inl ((itr (me3 sr ca er) (itr (me2 sr ca lo) (itr (me1 go) me 11) 11, su) (j + 1)).2)))]) (pl' := []) (by first | rfl | rw [e9]) ?_
              exact ih_j
            · refine x_iconst (q := 175) C 1 rfl dX5_measures_174 rfl ?_
              refine x_goto C 179 dX5_measures_175 (by decide) ?_
              refine x_zastN (q := 180) C (j + 1) 7 (upd ((itr (me3 sr ca er) (itr (me2 sr ca lo) (itr (me1 go) me 11) 11, su) j).2) (j + 1) 1) [(qo, .inr (5, [.int th, .int hh, .int tt, .ref qF, .ref qL, .ref qA, .ref qE, .ref qH, .ref qB, .int (nI n), .ref qS, .ref qP, .ref qC, .int mc, .ref qT, .ref qD, .ref qR, .ref qX, .ref qG, .ref qM, .ref qU, .int ml])), (qF, .inl (cy.1, 12, .inl (fun i => nI (sr i)))), (qL, .inl (cy.1, 12, .inl lo)), (qE, .inl (cy.1, 12, .inl er)), (qR, .inl (cy.2.1, 12, .inl ca)), (qG, .inl (cy.1, 12, .inl go)), (qM, .inl (cy.1, 12, .inl ((itr (me3 sr ca er) (itr (me2 sr ca lo) (itr (me1 go) me 11) 11, su) j).1))), (qU, .inl (cy.2.1, 12, .inl (upd ((itr (me3 sr ca er) (itr (me2 sr ca lo) (itr (me1 go) me 11) 11, su) j).2) (j + 1) 1)))] rfl rfl (by omega) (by omega) (congrArg _ vpz1) rfl dX5_measures_179 rfl ?_
              refine x_aload_n (q := 181) C 4 rfl dX5_measures_180 rfl ?_
              refine x_get (q := 184) C (T := TX5) iw_X5_measures_X5 rfl 0 19 rfl (by decide) rfl (by decide +kernel : Cond.fieldLink RX5 53 RX5 "meters" "[I" ∈ wsX5_measures) rfl dX5_measures_181 rfl ?_
              refine x_iload_n (q := 185) C 3 rfl dX5_measures_184 rfl ?_
              refine x_dup2 (q := 186) C rfl rfl dX5_measures_185 rfl ?_
              refine x_ialdN (q := 187) C (j + 1) 6 (((itr (me3 sr ca er) (itr (me2 sr ca lo) (itr (me1 go) me 11) 11, su) j).1) (j + 1)) rfl rfl (by omega) (by omega) rfl dX5_measures_186 rfl ?_
              refine x_iload_n (q := 188) C 2 rfl dX5_measures_187 rfl ?_
              refine x_iadd (q := 189) C ((((itr (me3 sr ca er) (itr (me2 sr ca lo) (itr (me1 go) me 11) 11, su) j).1) (j + 1)) + (wrong ca er j)) (rfl) dX5_measures_188 rfl ?_
              refine x_iastN (q := 190) C (j + 1) 6 (upd ((itr (me3 sr ca er) (itr (me2 sr ca lo) (itr (me1 go) me 11) 11, su) j).1) (j + 1) ((((itr (me3 sr ca er) (itr (me2 sr ca lo) (itr (me1 go) me 11) 11, su) j).1) (j + 1)) + (wrong ca er j))) [(qo, .inr (5, [.int th, .int hh, .int tt, .ref qF, .ref qL, .ref qA, .ref qE, .ref qH, .ref qB, .int (nI n), .ref qS, .ref qP, .ref qC, .int mc, .ref qT, .ref qD, .ref qR, .ref qX, .ref qG, .ref qM, .ref qU, .int ml])), (qF, .inl (cy.1, 12, .inl (fun i => nI (sr i)))), (qL, .inl (cy.1, 12, .inl lo)), (qE, .inl (cy.1, 12, .inl er)), (qR, .inl (cy.2.1, 12, .inl ca)), (qG, .inl (cy.1, 12, .inl go)), (qM, .inl (cy.1, 12, .inl (upd ((itr (me3 sr ca er) (itr (me2 sr ca lo) (itr (me1 go) me 11) 11, su) j).1) (j + 1) ((((itr (me3 sr ca er) (itr (me2 sr ca lo) (itr (me1 go) me 11) 11, su) j).1) (j + 1)) + (wrong ca er j))))), (qU, .inl (cy.2.1, 12, .inl (upd ((itr (me3 sr ca er) (itr (me2 sr ca lo) (itr (me1 go) me 11) 11, su) j).2) (j + 1) 1)))] rfl rfl (by omega) (by omega) rfl rfl dX5_measures_189 rfl ?_
              refine x_iinc (q := 193) C 3 (nI ((j + 1) + 1)) [(1, .int (nI ((j + 1) + 1))), (4, .int (nI (j + 2 + (10 - j)))), (3, .int (itr (biStep sr ca er j) 0 (10 - j))), (2, .int (wrong ca er j)), (0, .ref qo)] dX5_measures_190 rfl (nI_1 _) (by decide) rfl rfl ?_
              refine x_goto C 83 dX5_measures_193 (by decide) ?_
              refine x_less [0, 4] [(1, .int (nI ((j + 1) + 1))), (0, .ref qo)] rfl ?_
              have e9 : (itr (me3 sr ca er) (itr (me2 sr ca lo) (itr (me1 go) me 11) 11, su) (j + 1)) = (upd ((itr (me3 sr ca er) (itr (me2 sr ca lo) (itr (me1 go) me 11) 11, su) j).1) (j + 1) ((((itr (me3 sr ca er) (itr (me2 sr ca lo) (itr (me1 go) me 11) 11, su) j).1) (j + 1)) + (wrong ca er j)), upd ((itr (me3 sr ca er) (itr (me2 sr ca lo) (itr (me1 go) me 11) 11, su) j).2) (j + 1) 1) := by
                show me3 sr ca er j (itr (me3 sr ca er) (itr (me2 sr ca lo) (itr (me1 go) me 11) 11, su) j) = _
                simp only [me3, if_neg c_171]
              refine x_less [0, 1] [(1, .int (nI ((j + 1) + 1))), (0, .ref qo)] (by first | rfl | (rw [e9]; rfl)) ?_
              refine x_world (X' := [(qo, .inr (5, [.int th, .int hh, .int tt, .ref qF, .ref qL, .ref qA, .ref qE, .ref qH, .ref qB, .int (nI n), .ref qS, .ref qP, .ref qC, .int mc, .ref qT, .ref qD, .ref qR, .ref qX, .ref qG, .ref qM, .ref qU, .int ml])), (qF, .inl (cy.1, 12, .inl (fun i => nI (sr i)))), (qL, .inl (cy.1, 12, .inl lo)), (qE, .inl (cy.1, 12, .inl er)), (qR, .inl (cy.2.1, 12, .inl ca)), (qG, .inl (cy.1, 12, .inl go)), (qM, .inl (cy.1, 12, .inl ((itr (me3 sr ca er) (itr (me2 sr ca lo) (itr (me1 go) me 11) 11, su) (j + 1)).1))), (qU, .inl (cy.2.1, 12, .inl ((itr (me3 sr ca er) (itr (me2 sr ca lo) (itr (me1 go) me 11) 11, su) (j + 1)).2)))]) (pl' := []) (by first | rfl | rw [e9]) ?_
              exact ih_j
        · refine x_aload_n (q := 90) C 1 rfl dX5_measures_89 rfl ?_
          refine x_get (q := 93) C (T := TX5) iw_X5_measures_X5 rfl 0 16 rfl (by decide) rfl (by decide +kernel : Cond.fieldLink RX5 44 RX5 "carries" "[Z" ∈ wsX5_measures) rfl dX5_measures_90 rfl ?_
          refine x_iload_n (q := 94) C 0 rfl dX5_measures_93 rfl ?_
          refine x_zaldN (q := 95) C (j + 1) 4 (ca (j + 1)) rfl rfl (by omega) (by omega) rfl dX5_measures_94 rfl ?_
          refine x_if_eq (q := 98) C 107 dX5_measures_95 (by decide) rfl (fun c_95 => ?_) (fun c_95 => ?_)
          · refine x_iconst (q := 108) C 0 rfl dX5_measures_107 rfl ?_
            exact J_89 _ (by simp only [wrong, if_pos c_95])
          · refine x_aload_n (q := 99) C 1 rfl dX5_measures_98 rfl ?_
            refine x_get (q := 102) C (T := TX5) iw_X5_measures_X5 rfl 0 6 rfl (by decide) rfl (by decide +kernel : Cond.fieldLink RX5 19 RX5 "errors" "[I" ∈ wsX5_measures) rfl dX5_measures_99 rfl ?_
            refine x_iload_n (q := 103) C 0 rfl dX5_measures_102 rfl ?_
            refine x_ialdN (q := 104) C (j + 1) 3 (er (j + 1)) rfl rfl (by omega) (by omega) rfl dX5_measures_103 rfl ?_
            refine x_goto C 108 dX5_measures_104 (by decide) ?_
            exact J_89 _ (by simp only [wrong, if_neg c_95])
      · refine x_iload_n (q := 84) C 0 rfl dX5_measures_83 rfl ?_
        refine x_bipush (q := 86) C 12 rfl dX5_measures_84 rfl ?_
        refine x_icmp_ge_t C 196 dX5_measures_86 (by decide) (nI_le (a := 12) (b := (11 + 1)) (by omega) (by omega)) ?_
        exact x_vret C rfl (rfl) dX5_measures_196 (Nat.le_of_ble_eq_true rfl) (Nat.le_of_ble_eq_true rfl)

theorem iw_X5_bills_X5 : ∀ w ∈ wsX50, w ∈ wsX5_bills := by decide +kernel
set_option maxHeartbeats 4000000 in
set_option maxRecDepth 100000 in
theorem c_X5_bills {l : Launch} {D : va_G} {cy : ClassId × ClassId × ClassId} (qo qF qL qA qE qH qB qS qP qC qT qD qR qX qG qM qU n : Nat) (th hh tt mc ml : Int32) (ar b stp pow ht go : Nat → Int32) (w t : Int32) (hn4 : n ≤ 4) : xM false l yX5_bills wsX5_bills ({ frames := 1, cells := 0, slots := 0, locals := 22 }) D cy [.ref qo, .int w, .int t] ([(qo, .inr (5, [.int th, .int hh, .int tt, .ref qF, .ref qL, .ref qA, .ref qE, .ref qH, .ref qB, .int (nI n), .ref qS, .ref qP, .ref qC, .int mc, .ref qT, .ref qD, .ref qR, .ref qX, .ref qG, .ref qM, .ref qU, .int ml])), (qA, .inl (cy.1, 12, .inl ar)), (qB, .inl (cy.1, 12, .inl b)), (qS, .inl (cy.1, 4, .inl stp)), (qP, .inl (cy.1, 4, .inl pow)), (qT, .inl (cy.2.1, 12, .inl ht)), (qG, .inl (cy.1, 12, .inl go))]) (xQv D (fun w1 => w1 = [(qo, .inr (5, [.int th, .int hh, .int tt, .ref qF, .ref qL, .ref qA, .ref qE, .ref qH, .ref qB, .int (nI n), .ref qS, .ref qP, .ref qC, .int mc, .ref qT, .ref qD, .ref qR, .ref qX, .ref qG, .ref qM, .ref qU, .int ml])), (qA, .inl (cy.1, 12, .inl ar)), (qB, .inl (cy.1, 12, .inl (mbFun ht go ar t (mPr w (mpFun stp pow n)) b))), (qS, .inl (cy.1, 4, .inl stp)), (qP, .inl (cy.1, 4, .inl pow)), (qT, .inl (cy.2.1, 12, .inl ht)), (qG, .inl (cy.1, 12, .inl go))])) 0 0 := by
  refine xM_of (X := [(qo, .inr (5, [.int th, .int hh, .int tt, .ref qF, .ref qL, .ref qA, .ref qE, .ref qH, .ref qB, .int (nI n), .ref qS, .ref qP, .ref qC, .int mc, .ref qT, .ref qD, .ref qR, .ref qX, .ref qG, .ref qM, .ref qU, .int ml])), (qA, .inl (cy.1, 12, .inl ar)), (qB, .inl (cy.1, 12, .inl b)), (qS, .inl (cy.1, 4, .inl stp)), (qP, .inl (cy.1, 4, .inl pow)), (qT, .inl (cy.2.1, 12, .inl ht)), (qG, .inl (cy.1, 12, .inl go))]) (pl := []) (nL := 6) (ret := none) RX5 [(0, .ref qo), (1, .int w), (2, .int t)] (by decide +kernel) rfl rfl rfl (Nat.le_of_ble_eq_true rfl) (List.append_nil _).symm (fun p e s m args below meth c A C hname hT hZ => ?_)
  refine x_join 15 (fun v => v = mPr w (mpFun stp pow n)) [] (fun v hv => ?_) (fun J_0 => ?_)
  · subst hv
    refine x_istore_n (q := 16) C [(3, .int (mPr w (mpFun stp pow n))), (0, .ref qo), (1, .int w), (2, .int t)] dX5_bills_15 (by decide) rfl rfl ?_
    refine x_iconst (q := 17) C 1 rfl dX5_bills_16 rfl ?_
    refine x_istore (q := 19) C [(4, .int 1), (3, .int (mPr w (mpFun stp pow n))), (0, .ref qo), (1, .int w), (2, .int t)] dX5_bills_17 (by decide) rfl rfl ?_
    refine x_less [0, 1, 2, 4] [(4, .int 1), (3, .int (mPr w (mpFun stp pow n))), (0, .ref qo), (2, .int t)] rfl ?_
    refine x_up (fun j => [(qo, .inr (5, [.int th, .int hh, .int tt, .ref qF, .ref qL, .ref qA, .ref qE, .ref qH, .ref qB, .int (nI n), .ref qS, .ref qP, .ref qC, .int mc, .ref qT, .ref qD, .ref qR, .ref qX, .ref qG, .ref qM, .ref qU, .int ml])), (qA, .inl (cy.1, 12, .inl ar)), (qB, .inl (cy.1, 12, .inl (itr (mbStep ht go ar t (mPr w (mpFun stp pow n))) b j))), (qS, .inl (cy.1, 4, .inl stp)), (qP, .inl (cy.1, 4, .inl pow)), (qT, .inl (cy.2.1, 12, .inl ht)), (qG, .inl (cy.1, 12, .inl go))]) (fun j => [(4, .int (nI (j + 1))), (3, .int (mPr w (mpFun stp pow n))), (0, .ref qo), (2, .int t)]) 11 rfl rfl (fun j h_j ih_j => ?_) ?_
    · refine x_iload (q := 21) C 0 rfl dX5_bills_19 rfl ?_
      refine x_bipush (q := 23) C 12 rfl dX5_bills_21 rfl ?_
      refine x_icmp_ge_f (q := 26) C 93 dX5_bills_23 (by decide) rfl (nI_ge (a := (j + 1)) (b := 12) (by omega) (by omega)) ?_
      refine x_aload_n (q := 27) C 2 rfl dX5_bills_26 rfl ?_
      refine x_get (q := 30) C (T := TX5) iw_X5_bills_X5 rfl 0 14 rfl (by decide) rfl (by decide +kernel : Cond.fieldLink RX5 37 RX5 "hasHeat" "[Z" ∈ wsX5_bills) rfl dX5_bills_27 rfl ?_
      refine x_iload (q := 32) C 0 rfl dX5_bills_30 rfl ?_
      refine x_zaldN (q := 33) C (j + 1) 5 (ht (j + 1)) rfl rfl (by omega) (by omega) rfl dX5_bills_32 rfl ?_
      refine x_if_ne (q := 36) C 54 dX5_bills_33 (by decide) rfl (fun c_33 => ?_) (fun c_33 => ?_)
      · refine x_iconst (q := 55) C 0 rfl dX5_bills_54 rfl ?_
        refine x_istore (q := 57) C [(5, .int 0), (4, .int (nI (j + 1))), (3, .int (mPr w (mpFun stp pow n))), (0, .ref qo), (2, .int t)] dX5_bills_55 (by decide) rfl rfl ?_
        refine x_aload_n (q := 58) C 3 rfl dX5_bills_57 rfl ?_
        refine x_get (q := 61) C (T := TX5) iw_X5_bills_X5 rfl 0 8 rfl (by decide) rfl (by decide +kernel : Cond.fieldLink RX5 25 RX5 "bills" "[I" ∈ wsX5_bills) rfl dX5_bills_58 rfl ?_
        refine x_iload (q := 63) C 1 rfl dX5_bills_61 rfl ?_
        refine x_dup2 (q := 64) C rfl rfl dX5_bills_63 rfl ?_
        refine x_ialdN (q := 65) C (j + 1) 2 ((itr (mbStep ht go ar t (mPr w (mpFun stp pow n))) b j) (j + 1)) rfl rfl (by omega) (by omega) rfl dX5_bills_64 rfl ?_
        refine x_iload_n (q := 66) C 2 rfl dX5_bills_65 rfl ?_
        refine x_aload_n (q := 67) C 3 rfl dX5_bills_66 rfl ?_
        refine x_get (q := 70) C (T := TX5) iw_X5_bills_X5 rfl 0 18 rfl (by decide) rfl (by decide +kernel : Cond.fieldLink RX5 50 RX5 "got" "[I" ∈ wsX5_bills) rfl dX5_bills_67 rfl ?_
        refine x_iload (q := 72) C 1 rfl dX5_bills_70 rfl ?_
        refine x_ialdN (q := 73) C (j + 1) 6 (go (j + 1)) rfl rfl (by omega) (by omega) rfl dX5_bills_72 rfl ?_
        refine x_imul (q := 74) C ((mPr w (mpFun stp pow n)) * (go (j + 1))) (rfl) dX5_bills_73 rfl ?_
        refine x_iload (q := 76) C 0 rfl dX5_bills_74 rfl ?_
        refine x_if_eq_t C 83 dX5_bills_76 (by decide) (by decide) ?_
        refine x_iconst (q := 84) C 0 rfl dX5_bills_83 rfl ?_
        refine x_isub (q := 85) C (((mPr w (mpFun stp pow n)) * (go (j + 1))) - 0) (rfl) dX5_bills_84 rfl ?_
        refine x_iadd (q := 86) C (((itr (mbStep ht go ar t (mPr w (mpFun stp pow n))) b j) (j + 1)) + (((mPr w (mpFun stp pow n)) * (go (j + 1))) - 0)) (rfl) dX5_bills_85 rfl ?_
        refine x_iastN (q := 87) C (j + 1) 2 (upd (itr (mbStep ht go ar t (mPr w (mpFun stp pow n))) b j) (j + 1) (((itr (mbStep ht go ar t (mPr w (mpFun stp pow n))) b j) (j + 1)) + (((mPr w (mpFun stp pow n)) * (go (j + 1))) - 0))) [(qo, .inr (5, [.int th, .int hh, .int tt, .ref qF, .ref qL, .ref qA, .ref qE, .ref qH, .ref qB, .int (nI n), .ref qS, .ref qP, .ref qC, .int mc, .ref qT, .ref qD, .ref qR, .ref qX, .ref qG, .ref qM, .ref qU, .int ml])), (qA, .inl (cy.1, 12, .inl ar)), (qB, .inl (cy.1, 12, .inl (upd (itr (mbStep ht go ar t (mPr w (mpFun stp pow n))) b j) (j + 1) (((itr (mbStep ht go ar t (mPr w (mpFun stp pow n))) b j) (j + 1)) + (((mPr w (mpFun stp pow n)) * (go (j + 1))) - 0))))), (qS, .inl (cy.1, 4, .inl stp)), (qP, .inl (cy.1, 4, .inl pow)), (qT, .inl (cy.2.1, 12, .inl ht)), (qG, .inl (cy.1, 12, .inl go))] rfl rfl (by omega) (by omega) rfl rfl dX5_bills_86 rfl ?_
        refine x_iinc (q := 90) C 1 (nI ((j + 1) + 1)) [(4, .int (nI ((j + 1) + 1))), (5, .int 0), (3, .int (mPr w (mpFun stp pow n))), (0, .ref qo), (2, .int t)] dX5_bills_87 rfl (nI_1 _) (by decide) rfl rfl ?_
        refine x_goto C 19 dX5_bills_90 (by decide) ?_
        refine x_less [0, 2, 3, 4] [(4, .int (nI ((j + 1) + 1))), (3, .int (mPr w (mpFun stp pow n))), (0, .ref qo), (2, .int t)] rfl ?_
        have e9 : itr (mbStep ht go ar t (mPr w (mpFun stp pow n))) b (j + 1) = upd (itr (mbStep ht go ar t (mPr w (mpFun stp pow n))) b j) (j + 1) (((itr (mbStep ht go ar t (mPr w (mpFun stp pow n))) b j) (j + 1)) + (((mPr w (mpFun stp pow n)) * (go (j + 1))) - 0)) := by
          show mbStep ht go ar t (mPr w (mpFun stp pow n)) j (itr (mbStep ht go ar t (mPr w (mpFun stp pow n))) b j) = _
          simp only [mbStep, if_neg c_33]
        refine x_less [0, 1, 2, 3] [(4, .int (nI ((j + 1) + 1))), (3, .int (mPr w (mpFun stp pow n))), (0, .ref qo), (2, .int t)] (by first | rfl | (rw [e9]; rfl)) ?_
        refine x_world (X' := [(qo, .inr (5, [.int th, .int hh, .int tt, .ref qF, .ref qL, .ref qA, .ref qE, .ref qH, .ref qB, .int (nI n), .ref qS, .ref qP, .ref qC, .int mc, .ref qT, .ref qD, .ref qR, .ref qX, .ref qG, .ref qM, .ref qU, .int ml])), (qA, .inl (cy.1, 12, .inl ar)), (qB, .inl (cy.1, 12, .inl (itr (mbStep ht go ar t (mPr w (mpFun stp pow n))) b (j + 1)))), (qS, .inl (cy.1, 4, .inl stp)), (qP, .inl (cy.1, 4, .inl pow)), (qT, .inl (cy.2.1, 12, .inl ht)), (qG, .inl (cy.1, 12, .inl go))]) (pl' := []) (by first | rfl | rw [e9]) ?_
        exact ih_j
      · refine x_aload_n (q := 37) C 2 rfl dX5_bills_36 rfl ?_
        refine x_get (q := 40) C (T := TX5) iw_X5_bills_X5 rfl 0 5 rfl (by decide) rfl (by decide +kernel : Cond.fieldLink RX5 16 RX5 "areas" "[I" ∈ wsX5_bills) rfl dX5_bills_37 rfl ?_
        refine x_iload (q := 42) C 0 rfl dX5_bills_40 rfl ?_
        refine x_ialdN (q := 43) C (j + 1) 1 (ar (j + 1)) rfl rfl (by omega) (by omega) rfl dX5_bills_42 rfl ?_
        refine x_iload_n (q := 44) C 3 rfl dX5_bills_43 rfl ?_
        refine x_CiP (q := 47) C [] [0, 1, 2, 3, 4, 5, 6] (cx := []) (wr := [(qo, .inr (5, [.int th, .int hh, .int tt, .ref qF, .ref qL, .ref qA, .ref qE, .ref qH, .ref qB, .int (nI n), .ref qS, .ref qP, .ref qC, .int mc, .ref qT, .ref qD, .ref qR, .ref qX, .ref qG, .ref qM, .ref qU, .int ml])), (qA, .inl (cy.1, 12, .inl ar)), (qB, .inl (cy.1, 12, .inl (itr (mbStep ht go ar t (mPr w (mpFun stp pow n))) b j))), (qS, .inl (cy.1, 4, .inl stp)), (qP, .inl (cy.1, 4, .inl pow)), (qT, .inl (cy.2.1, 12, .inl ht)), (qG, .inl (cy.1, 12, .inl go))]) (st := []) rfl rfl rfl rfl (by decide) (fun H locs ls hP hPc hDc hS hFc hl => x_runS C (As := [.int (ar (j + 1)), .int t]) (c_X5_need (ar (j + 1)) t) (va_cwS 2 C.2.2.2.2.2.1 gX5_bills_X5_need rfl rfl rfl (by decide +kernel) ⟨Nat.le_of_ble_eq_true rfl, Nat.le_of_ble_eq_true rfl⟩) rfl rfl (Nat.le_of_ble_eq_true rfl) dX5_bills_44 ⟨Nat.le_of_ble_eq_true rfl, Nat.le_of_ble_eq_true rfl⟩ (fun h => absurd h (by decide)) hP hPc hDc hS hFc hl) (k := 0) (n := 0) rfl rfl rfl (fun r_44 w1 hw => ?_)
        obtain ⟨rfl, rfl⟩ := hw
        refine x_ord [0, 1, 2, 3, 4, 5, 6] [(qo, .inr (5, [.int th, .int hh, .int tt, .ref qF, .ref qL, .ref qA, .ref qE, .ref qH, .ref qB, .int (nI n), .ref qS, .ref qP, .ref qC, .int mc, .ref qT, .ref qD, .ref qR, .ref qX, .ref qG, .ref qM, .ref qU, .int ml])), (qA, .inl (cy.1, 12, .inl ar)), (qB, .inl (cy.1, 12, .inl (itr (mbStep ht go ar t (mPr w (mpFun stp pow n))) b j))), (qS, .inl (cy.1, 4, .inl stp)), (qP, .inl (cy.1, 4, .inl pow)), (qT, .inl (cy.2.1, 12, .inl ht)), (qG, .inl (cy.1, 12, .inl go))] rfl rfl ?_
        refine x_if_le (q := 50) C 54 dX5_bills_47 (by decide) rfl (fun c_47 => ?_) (fun c_47 => ?_)
        · refine x_iconst (q := 55) C 0 rfl dX5_bills_54 rfl ?_
          refine x_istore (q := 57) C [(5, .int 0), (4, .int (nI (j + 1))), (3, .int (mPr w (mpFun stp pow n))), (0, .ref qo), (2, .int t)] dX5_bills_55 (by decide) rfl rfl ?_
          refine x_aload_n (q := 58) C 3 rfl dX5_bills_57 rfl ?_
          refine x_get (q := 61) C (T := TX5) iw_X5_bills_X5 rfl 0 8 rfl (by decide) rfl (by decide +kernel : Cond.fieldLink RX5 25 RX5 "bills" "[I" ∈ wsX5_bills) rfl dX5_bills_58 rfl ?_
          refine x_iload (q := 63) C 1 rfl dX5_bills_61 rfl ?_
          refine x_dup2 (q := 64) C rfl rfl dX5_bills_63 rfl ?_
          refine x_ialdN (q := 65) C (j + 1) 2 ((itr (mbStep ht go ar t (mPr w (mpFun stp pow n))) b j) (j + 1)) rfl rfl (by omega) (by omega) rfl dX5_bills_64 rfl ?_
          refine x_iload_n (q := 66) C 2 rfl dX5_bills_65 rfl ?_
          refine x_aload_n (q := 67) C 3 rfl dX5_bills_66 rfl ?_
          refine x_get (q := 70) C (T := TX5) iw_X5_bills_X5 rfl 0 18 rfl (by decide) rfl (by decide +kernel : Cond.fieldLink RX5 50 RX5 "got" "[I" ∈ wsX5_bills) rfl dX5_bills_67 rfl ?_
          refine x_iload (q := 72) C 1 rfl dX5_bills_70 rfl ?_
          refine x_ialdN (q := 73) C (j + 1) 6 (go (j + 1)) rfl rfl (by omega) (by omega) rfl dX5_bills_72 rfl ?_
          refine x_imul (q := 74) C ((mPr w (mpFun stp pow n)) * (go (j + 1))) (rfl) dX5_bills_73 rfl ?_
          refine x_iload (q := 76) C 0 rfl dX5_bills_74 rfl ?_
          refine x_if_eq_t C 83 dX5_bills_76 (by decide) (by decide) ?_
          refine x_iconst (q := 84) C 0 rfl dX5_bills_83 rfl ?_
          refine x_isub (q := 85) C (((mPr w (mpFun stp pow n)) * (go (j + 1))) - 0) (rfl) dX5_bills_84 rfl ?_
          refine x_iadd (q := 86) C (((itr (mbStep ht go ar t (mPr w (mpFun stp pow n))) b j) (j + 1)) + (((mPr w (mpFun stp pow n)) * (go (j + 1))) - 0)) (rfl) dX5_bills_85 rfl ?_
          refine x_iastN (q := 87) C (j + 1) 2 (upd (itr (mbStep ht go ar t (mPr w (mpFun stp pow n))) b j) (j + 1) (((itr (mbStep ht go ar t (mPr w (mpFun stp pow n))) b j) (j + 1)) + (((mPr w (mpFun stp pow n)) * (go (j + 1))) - 0))) [(qo, .inr (5, [.int th, .int hh, .int tt, .ref qF, .ref qL, .ref qA, .ref qE, .ref qH, .ref qB, .int (nI n), .ref qS, .ref qP, .ref qC, .int mc, .ref qT, .ref qD, .ref qR, .ref qX, .ref qG, .ref qM, .ref qU, .int ml])), (qA, .inl (cy.1, 12, .inl ar)), (qB, .inl (cy.1, 12, .inl (upd (itr (mbStep ht go ar t (mPr w (mpFun stp pow n))) b j) (j + 1) (((itr (mbStep ht go ar t (mPr w (mpFun stp pow n))) b j) (j + 1)) + (((mPr w (mpFun stp pow n)) * (go (j + 1))) - 0))))), (qS, .inl (cy.1, 4, .inl stp)), (qP, .inl (cy.1, 4, .inl pow)), (qT, .inl (cy.2.1, 12, .inl ht)), (qG, .inl (cy.1, 12, .inl go))] rfl rfl (by omega) (by omega) rfl rfl dX5_bills_86 rfl ?_
          refine x_iinc (q := 90) C 1 (nI ((j + 1) + 1)) [(4, .int (nI ((j + 1) + 1))), (5, .int 0), (3, .int (mPr w (mpFun stp pow n))), (0, .ref qo), (2, .int t)] dX5_bills_87 rfl (nI_1 _) (by decide) rfl rfl ?_
          refine x_goto C 19 dX5_bills_90 (by decide) ?_
          refine x_less [0, 2, 3, 4] [(4, .int (nI ((j + 1) + 1))), (3, .int (mPr w (mpFun stp pow n))), (0, .ref qo), (2, .int t)] rfl ?_
          have e9 : itr (mbStep ht go ar t (mPr w (mpFun stp pow n))) b (j + 1) = upd (itr (mbStep ht go ar t (mPr w (mpFun stp pow n))) b j) (j + 1) (((itr (mbStep ht go ar t (mPr w (mpFun stp pow n))) b j) (j + 1)) + (((mPr w (mpFun stp pow n)) * (go (j + 1))) - 0)) := by
            show mbStep ht go ar t (mPr w (mpFun stp pow n)) j (itr (mbStep ht go ar t (mPr w (mpFun stp pow n))) b j) = _
            simp only [mbStep, if_pos c_33, if_pos c_47]
          refine x_less [0, 1, 2, 3] [(4, .int (nI ((j + 1) + 1))), (3, .int (mPr w (mpFun stp pow n))), (0, .ref qo), (2, .int t)] (by first | rfl | (rw [e9]; rfl)) ?_
          refine x_world (X' := [(qo, .inr (5, [.int th, .int hh, .int tt, .ref qF, .ref qL, .ref qA, .ref qE, .ref qH, .ref qB, .int (nI n), .ref qS, .ref qP, .ref qC, .int mc, .ref qT, .ref qD, .ref qR, .ref qX, .ref qG, .ref qM, .ref qU, .int ml])), (qA, .inl (cy.1, 12, .inl ar)), (qB, .inl (cy.1, 12, .inl (itr (mbStep ht go ar t (mPr w (mpFun stp pow n))) b (j + 1)))), (qS, .inl (cy.1, 4, .inl stp)), (qP, .inl (cy.1, 4, .inl pow)), (qT, .inl (cy.2.1, 12, .inl ht)), (qG, .inl (cy.1, 12, .inl go))]) (pl' := []) (by first | rfl | rw [e9]) ?_
          exact ih_j
        · refine x_iconst (q := 51) C 1 rfl dX5_bills_50 rfl ?_
          refine x_goto C 55 dX5_bills_51 (by decide) ?_
          refine x_istore (q := 57) C [(5, .int 1), (4, .int (nI (j + 1))), (3, .int (mPr w (mpFun stp pow n))), (0, .ref qo), (2, .int t)] dX5_bills_55 (by decide) rfl rfl ?_
          refine x_aload_n (q := 58) C 3 rfl dX5_bills_57 rfl ?_
          refine x_get (q := 61) C (T := TX5) iw_X5_bills_X5 rfl 0 8 rfl (by decide) rfl (by decide +kernel : Cond.fieldLink RX5 25 RX5 "bills" "[I" ∈ wsX5_bills) rfl dX5_bills_58 rfl ?_
          refine x_iload (q := 63) C 1 rfl dX5_bills_61 rfl ?_
          refine x_dup2 (q := 64) C rfl rfl dX5_bills_63 rfl ?_
          refine x_ialdN (q := 65) C (j + 1) 2 ((itr (mbStep ht go ar t (mPr w (mpFun stp pow n))) b j) (j + 1)) rfl rfl (by omega) (by omega) rfl dX5_bills_64 rfl ?_
          refine x_iload_n (q := 66) C 2 rfl dX5_bills_65 rfl ?_
          refine x_aload_n (q := 67) C 3 rfl dX5_bills_66 rfl ?_
          refine x_get (q := 70) C (T := TX5) iw_X5_bills_X5 rfl 0 18 rfl (by decide) rfl (by decide +kernel : Cond.fieldLink RX5 50 RX5 "got" "[I" ∈ wsX5_bills) rfl dX5_bills_67 rfl ?_
          refine x_iload (q := 72) C 1 rfl dX5_bills_70 rfl ?_
          refine x_ialdN (q := 73) C (j + 1) 6 (go (j + 1)) rfl rfl (by omega) (by omega) rfl dX5_bills_72 rfl ?_
          refine x_imul (q := 74) C ((mPr w (mpFun stp pow n)) * (go (j + 1))) (rfl) dX5_bills_73 rfl ?_
          refine x_iload (q := 76) C 0 rfl dX5_bills_74 rfl ?_
          refine x_if_eq_f (q := 79) C 83 dX5_bills_76 (by decide) rfl (by decide) ?_
          refine x_iconst (q := 80) C 3 rfl dX5_bills_79 rfl ?_
          refine x_goto C 84 dX5_bills_80 (by decide) ?_
          refine x_isub (q := 85) C (((mPr w (mpFun stp pow n)) * (go (j + 1))) - 3) (rfl) dX5_bills_84 rfl ?_
          refine x_iadd (q := 86) C (((itr (mbStep ht go ar t (mPr w (mpFun stp pow n))) b j) (j + 1)) + (((mPr w (mpFun stp pow n)) * (go (j + 1))) - 3)) (rfl) dX5_bills_85 rfl ?_
          refine x_iastN (q := 87) C (j + 1) 2 (upd (itr (mbStep ht go ar t (mPr w (mpFun stp pow n))) b j) (j + 1) (((itr (mbStep ht go ar t (mPr w (mpFun stp pow n))) b j) (j + 1)) + (((mPr w (mpFun stp pow n)) * (go (j + 1))) - 3))) [(qo, .inr (5, [.int th, .int hh, .int tt, .ref qF, .ref qL, .ref qA, .ref qE, .ref qH, .ref qB, .int (nI n), .ref qS, .ref qP, .ref qC, .int mc, .ref qT, .ref qD, .ref qR, .ref qX, .ref qG, .ref qM, .ref qU, .int ml])), (qA, .inl (cy.1, 12, .inl ar)), (qB, .inl (cy.1, 12, .inl (upd (itr (mbStep ht go ar t (mPr w (mpFun stp pow n))) b j) (j + 1) (((itr (mbStep ht go ar t (mPr w (mpFun stp pow n))) b j) (j + 1)) + (((mPr w (mpFun stp pow n)) * (go (j + 1))) - 3))))), (qS, .inl (cy.1, 4, .inl stp)), (qP, .inl (cy.1, 4, .inl pow)), (qT, .inl (cy.2.1, 12, .inl ht)), (qG, .inl (cy.1, 12, .inl go))] rfl rfl (by omega) (by omega) rfl rfl dX5_bills_86 rfl ?_
          refine x_iinc (q := 90) C 1 (nI ((j + 1) + 1)) [(4, .int (nI ((j + 1) + 1))), (5, .int 1), (3, .int (mPr w (mpFun stp pow n))), (0, .ref qo), (2, .int t)] dX5_bills_87 rfl (nI_1 _) (by decide) rfl rfl ?_
          refine x_goto C 19 dX5_bills_90 (by decide) ?_
          refine x_less [0, 2, 3, 4] [(4, .int (nI ((j + 1) + 1))), (3, .int (mPr w (mpFun stp pow n))), (0, .ref qo), (2, .int t)] rfl ?_
          have e9 : itr (mbStep ht go ar t (mPr w (mpFun stp pow n))) b (j + 1) = upd (itr (mbStep ht go ar t (mPr w (mpFun stp pow n))) b j) (j + 1) (((itr (mbStep ht go ar t (mPr w (mpFun stp pow n))) b j) (j + 1)) + (((mPr w (mpFun stp pow n)) * (go (j + 1))) - 3)) := by
            show mbStep ht go ar t (mPr w (mpFun stp pow n)) j (itr (mbStep ht go ar t (mPr w (mpFun stp pow n))) b j) = _
            simp only [mbStep, if_pos c_33, if_neg c_47]
          refine x_less [0, 1, 2, 3] [(4, .int (nI ((j + 1) + 1))), (3, .int (mPr w (mpFun stp pow n))), (0, .ref qo), (2, .int t)] (by first | rfl | (rw [e9]; rfl)) ?_
          refine x_world (X' := [(qo, .inr (5, [.int th, .int hh, .int tt, .ref qF, .ref qL, .ref qA, .ref qE, .ref qH, .ref qB, .int (nI n), .ref qS, .ref qP, .ref qC, .int mc, .ref qT, .ref qD, .ref qR, .ref qX, .ref qG, .ref qM, .ref qU, .int ml])), (qA, .inl (cy.1, 12, .inl ar)), (qB, .inl (cy.1, 12, .inl (itr (mbStep ht go ar t (mPr w (mpFun stp pow n))) b (j + 1)))), (qS, .inl (cy.1, 4, .inl stp)), (qP, .inl (cy.1, 4, .inl pow)), (qT, .inl (cy.2.1, 12, .inl ht)), (qG, .inl (cy.1, 12, .inl go))]) (pl' := []) (by first | rfl | rw [e9]) ?_
          exact ih_j
    · refine x_iload (q := 21) C 0 rfl dX5_bills_19 rfl ?_
      refine x_bipush (q := 23) C 12 rfl dX5_bills_21 rfl ?_
      refine x_icmp_ge_t C 93 dX5_bills_23 (by decide) (nI_le (a := 12) (b := (11 + 1)) (by omega) (by omega)) ?_
      exact x_vret C rfl (rfl) dX5_bills_93 (Nat.le_of_ble_eq_true rfl) (Nat.le_of_ble_eq_true rfl)
  · refine x_iconst (q := 1) C 2 rfl dX5_bills_0 rfl ?_
    refine x_iload_n (q := 2) C 1 rfl dX5_bills_1 rfl ?_
    refine x_imul (q := 3) C (2 * w) (rfl) dX5_bills_2 rfl ?_
    refine x_aload_n (q := 4) C 0 rfl dX5_bills_3 rfl ?_
    refine x_CiP (q := 7) C [0, 3, 4] [1, 2, 5, 6] (cx := [(qo, .inr (5, [.int th, .int hh, .int tt, .ref qF, .ref qL, .ref qA, .ref qE, .ref qH, .ref qB, .int (nI n), .ref qS, .ref qP, .ref qC, .int mc, .ref qT, .ref qD, .ref qR, .ref qX, .ref qG, .ref qM, .ref qU, .int ml])), (qS, .inl (cy.1, 4, .inl stp)), (qP, .inl (cy.1, 4, .inl pow))]) (wr := [(qA, .inl (cy.1, 12, .inl ar)), (qB, .inl (cy.1, 12, .inl b)), (qT, .inl (cy.2.1, 12, .inl ht)), (qG, .inl (cy.1, 12, .inl go))]) (st := [.int (2 * w)]) rfl rfl rfl rfl (by decide) (fun H locs ls hP hPc hDc hS hFc hl => x_runV C (As := []) (c_X5_power qo qF qL qA qE qH qB qS qP qC qT qD qR qX qG qM qU n th hh tt mc ml stp pow hn4) (cwV 0 C.2.2.2.2.2.1 gX5_bills_X5_power rfl rfl rfl (by decide +kernel) ⟨Nat.le_of_ble_eq_true rfl, Nat.le_of_ble_eq_true rfl⟩) rfl 0 rfl rfl rfl (Nat.le_of_ble_eq_true rfl) dX5_bills_4 ⟨Nat.le_of_ble_eq_true rfl, Nat.le_of_ble_eq_true rfl⟩ (fun h => absurd h (by decide)) hP hPc hDc hS hFc hl) (k := 0) (n := 0) rfl rfl rfl (fun r_4 w1 hw => ?_)
    obtain ⟨rfl, rfl⟩ := hw
    refine x_ord [4, 0, 1, 5, 6, 2, 3] [(qo, .inr (5, [.int th, .int hh, .int tt, .ref qF, .ref qL, .ref qA, .ref qE, .ref qH, .ref qB, .int (nI n), .ref qS, .ref qP, .ref qC, .int mc, .ref qT, .ref qD, .ref qR, .ref qX, .ref qG, .ref qM, .ref qU, .int ml])), (qA, .inl (cy.1, 12, .inl ar)), (qB, .inl (cy.1, 12, .inl b)), (qS, .inl (cy.1, 4, .inl stp)), (qP, .inl (cy.1, 4, .inl pow)), (qT, .inl (cy.2.1, 12, .inl ht)), (qG, .inl (cy.1, 12, .inl go))] rfl rfl ?_
    refine x_icmp_le (q := 10) C 14 dX5_bills_7 (by decide) rfl (fun c_7 => ?_) (fun c_7 => ?_)
    · refine x_iconst (q := 15) C 2 rfl dX5_bills_14 rfl ?_
      exact J_0 _ (by simp only [mPr, if_pos c_7])
    · refine x_iconst (q := 11) C 3 rfl dX5_bills_10 rfl ?_
      refine x_goto C 15 dX5_bills_11 (by decide) ?_
      exact J_0 _ (by simp only [mPr, if_neg c_7])
