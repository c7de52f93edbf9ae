theorem iw_X5_thrown_X5 : ∀ w ∈ wsX50, w ∈ wsX5_thrown := by decide +kernel
set_option maxHeartbeats 4000000 in
set_option maxRecDepth 100000 in
theorem c_X5_thrown {l : Launch} {D : va_G} {cy : ClassId × ClassId × ClassId} (qo qF qL qA qE qH qB qS qP qC qT qD qR qX qG qM qU n : Nat) (th hh tt mc ml : Int32) : xM false l yX5_thrown wsX5_thrown ({ frames := 0, cells := 0, slots := 0, locals := 0 }) D cy [.ref qo] ([(qo, .inr (5, [.int th, .int hh, .int tt, .ref qF, .ref qL, .ref qA, .ref qE, .ref qH, .ref qB, .int (nI n), .ref qS, .ref qP, .ref qC, .int mc, .ref qT, .ref qD, .ref qR, .ref qX, .ref qG, .ref qM, .ref qU, .int ml]))]) (xQi D (fun r w => r = th ∧ w = [(qo, .inr (5, [.int th, .int hh, .int tt, .ref qF, .ref qL, .ref qA, .ref qE, .ref qH, .ref qB, .int (nI n), .ref qS, .ref qP, .ref qC, .int mc, .ref qT, .ref qD, .ref qR, .ref qX, .ref qG, .ref qM, .ref qU, .int ml]))])) 0 0 := by
  refine xM_of (X := [(qo, .inr (5, [.int th, .int hh, .int tt, .ref qF, .ref qL, .ref qA, .ref qE, .ref qH, .ref qB, .int (nI n), .ref qS, .ref qP, .ref qC, .int mc, .ref qT, .ref qD, .ref qR, .ref qX, .ref qG, .ref qM, .ref qU, .int ml]))]) (pl := []) (nL := 1) (ret := (some .int)) RX5 [(0, .ref qo)] (by decide +kernel) rfl rfl rfl (Nat.le_of_ble_eq_true rfl) (List.append_nil _).symm (fun p e s m args below meth c A C hname hT hZ => ?_)
  refine x_aload_n (q := 1) C 0 rfl dX5_thrown_0 rfl ?_
  refine x_get (q := 4) C (T := TX5) iw_X5_thrown_X5 rfl 0 0 rfl (by decide) rfl (by decide +kernel : Cond.fieldLink RX5 59 RX5 "thrown" "I" ∈ wsX5_thrown) rfl dX5_thrown_1 rfl ?_
  exact x_iret C .int rfl rfl (⟨rfl, rfl⟩) dX5_thrown_4 (Nat.le_of_ble_eq_true rfl) (Nat.le_of_ble_eq_true rfl)

set_option maxHeartbeats 4000000 in
set_option maxRecDepth 100000 in
/-- isIn -/
theorem c_X5_isIn {l : Launch} {D : va_G} {cy : ClassId × ClassId × ClassId} (x a b : Int32) : xM false l yX5_isIn wsX5_isIn ({ frames := 0, cells := 0, slots := 0, locals := 0 }) D cy [.int x, .int a, .int b] ([]) (xQi D (fun r w => r = pWithin x a b ∧ w = [])) 0 0 := by
  refine xM_of (X := []) (pl := []) (nL := 3) (ret := (some .boolean)) RX5 [(0, .int x), (1, .int a), (2, .int b)] (by decide +kernel) rfl rfl rfl (Nat.le_of_ble_eq_true rfl) (List.append_nil _).symm (fun p e s m args below meth c A C hname hT hZ => ?_)
  refine x_iload_n (q := 1) C 0 rfl dX5_isIn_0 rfl ?_
  refine x_iload_n (q := 2) C 1 rfl dX5_isIn_1 rfl ?_
  refine x_icmp_lt (q := 5) C 14 dX5_isIn_2 (by decide) rfl (fun c_2 => ?_) (fun c_2 => ?_)
  · refine x_iconst (q := 15) C 0 rfl dX5_isIn_14 rfl ?_
    exact x_iret C .boolean rfl rfl (⟨by simp [pWithin, c_2], rfl⟩) dX5_isIn_15 (Nat.le_of_ble_eq_true rfl) (Nat.le_of_ble_eq_true rfl)
  · refine x_iload_n (q := 6) C 0 rfl dX5_isIn_5 rfl ?_
    refine x_iload_n (q := 7) C 2 rfl dX5_isIn_6 rfl ?_
    refine x_icmp_gt (q := 10) C 14 dX5_isIn_7 (by decide) rfl (fun c_7 => ?_) (fun c_7 => ?_)
    · refine x_iconst (q := 15) C 0 rfl dX5_isIn_14 rfl ?_
      exact x_iret C .boolean rfl rfl (⟨by simp [pWithin, c_2, c_7], rfl⟩) dX5_isIn_15 (Nat.le_of_ble_eq_true rfl) (Nat.le_of_ble_eq_true rfl)
    · refine x_iconst (q := 11) C 1 rfl dX5_isIn_10 rfl ?_
      refine x_goto C 15 dX5_isIn_11 (by decide) ?_
      exact x_iret C .boolean rfl rfl (⟨by simp [pWithin, c_2, c_7], rfl⟩) dX5_isIn_15 (Nat.le_of_ble_eq_true rfl) (Nat.le_of_ble_eq_true rfl)

set_option maxHeartbeats 4000000 in
set_option maxRecDepth 100000 in
/-- isHouse -/
theorem c_X5_isHouse {l : Launch} {D : va_G} {cy : ClassId × ClassId × ClassId} (x : Int32) : xM false l yX5_isHouse wsX5_isHouse ({ frames := 1, cells := 0, slots := 0, locals := 22 }) D cy [.int x] ([]) (xQi D (fun r w => r = pHouse x ∧ w = [])) 0 0 := by
  refine xM_of (X := []) (pl := []) (nL := 1) (ret := (some .boolean)) RX5 [(0, .int x)] (by decide +kernel) rfl rfl rfl (Nat.le_of_ble_eq_true rfl) (List.append_nil _).symm (fun p e s m args below meth c A C hname hT hZ => ?_)
  refine x_iload_n (q := 1) C 0 rfl dX5_isHouse_0 rfl ?_
  refine x_iconst (q := 2) C 1 rfl dX5_isHouse_1 rfl ?_
  refine x_bipush (q := 4) C 11 rfl dX5_isHouse_2 rfl ?_
  refine x_CiP (q := 7) C [] [] (cx := []) (wr := []) (st := []) rfl rfl rfl rfl (by decide) (fun H locs ls hP hPc hDc hS hFc hl => x_runS C (As := [.int x, .int 1, .int 11]) (c_X5_isIn x 1 11) (va_cwS 3 C.2.2.2.2.2.1 gX5_isHouse_X5_isIn rfl rfl rfl (by decide +kernel) ⟨Nat.le_of_ble_eq_true rfl, Nat.le_of_ble_eq_true rfl⟩) rfl rfl (Nat.le_of_ble_eq_true rfl) dX5_isHouse_4 ⟨Nat.le_of_ble_eq_true rfl, Nat.le_of_ble_eq_true rfl⟩ (fun h => absurd h (by decide)) hP hPc hDc hS hFc hl) (k := 0) (n := 0) rfl rfl rfl (fun r_4 w1 hw => ?_)
  obtain ⟨rfl, rfl⟩ := hw
  refine x_ord [] [] rfl rfl ?_
  exact x_iret C .boolean rfl (by simp only [pWithin]; split; rfl; split <;> rfl) (⟨pHouse_eq x, rfl⟩) dX5_isHouse_7 (Nat.le_of_ble_eq_true rfl) (Nat.le_of_ble_eq_true rfl)

set_option maxHeartbeats 4000000 in
set_option maxRecDepth 100000 in
/-- isTemperature -/
theorem c_X5_isTemperature {l : Launch} {D : va_G} {cy : ClassId × ClassId × ClassId} (t : Int32) : xM false l yX5_isTemperature wsX5_isTemperature ({ frames := 1, cells := 0, slots := 0, locals := 22 }) D cy [.int t] ([]) (xQi D (fun r w => r = pWithin t (-20) 30 ∧ w = [])) 0 0 := by
  refine xM_of (X := []) (pl := []) (nL := 1) (ret := (some .boolean)) RX5 [(0, .int t)] (by decide +kernel) rfl rfl rfl (Nat.le_of_ble_eq_true rfl) (List.append_nil _).symm (fun p e s m args below meth c A C hname hT hZ => ?_)
  refine x_iload_n (q := 1) C 0 rfl dX5_isTemperature_0 rfl ?_
  refine x_bipush (q := 3) C (-20) rfl dX5_isTemperature_1 rfl ?_
  refine x_bipush (q := 5) C 30 rfl dX5_isTemperature_3 rfl ?_
  refine x_CiP (q := 8) C [] [] (cx := []) (wr := []) (st := []) rfl rfl rfl rfl (by decide) (fun H locs ls hP hPc hDc hS hFc hl => x_runS C (As := [.int t, .int (-20), .int 30]) (c_X5_isIn t (-20) 30) (va_cwS 3 C.2.2.2.2.2.1 gX5_isTemperature_X5_isIn rfl rfl rfl (by decide +kernel) ⟨Nat.le_of_ble_eq_true rfl, Nat.le_of_ble_eq_true rfl⟩) rfl rfl (Nat.le_of_ble_eq_true rfl) dX5_isTemperature_5 ⟨Nat.le_of_ble_eq_true rfl, Nat.le_of_ble_eq_true rfl⟩ (fun h => absurd h (by decide)) hP hPc hDc hS hFc hl) (k := 0) (n := 0) rfl rfl rfl (fun r_5 w1 hw => ?_)
  obtain ⟨rfl, rfl⟩ := hw
  refine x_ord [] [] rfl rfl ?_
  exact x_iret C .boolean rfl (by simp only [pWithin]; split; rfl; split <;> rfl) (⟨rfl, rfl⟩) dX5_isTemperature_8 (Nat.le_of_ble_eq_true rfl) (Nat.le_of_ble_eq_true rfl)

set_option maxHeartbeats 4000000 in
set_option maxRecDepth 100000 in
/-- need -/
theorem c_X5_need {l : Launch} {D : va_G} {cy : ClassId × ClassId × ClassId} (a t : Int32) : xM false l yX5_need wsX5_need ({ frames := 0, cells := 0, slots := 0, locals := 0 }) D cy [.int a, .int t] ([]) (xQi D (fun r w => r = pWant a t ∧ w = [])) 0 0 := by
  refine xM_of (X := []) (pl := []) (nL := 2) (ret := (some .int)) RX5 [(0, .int a), (1, .int t)] (by decide +kernel) rfl rfl rfl (Nat.le_of_ble_eq_true rfl) (List.append_nil _).symm (fun p e s m args below meth c A C hname hT hZ => ?_)
  refine x_iload_n (q := 1) C 1 rfl dX5_need_0 rfl ?_
  refine x_bipush (q := 3) C 18 rfl dX5_need_1 rfl ?_
  refine x_icmp_lt (q := 6) C 10 dX5_need_3 (by decide) rfl (fun c_3 => ?_) (fun c_3 => ?_)
  · refine x_iload_n (q := 11) C 0 rfl dX5_need_10 rfl ?_
    refine x_bipush (q := 13) C 18 rfl dX5_need_11 rfl ?_
    refine x_iload_n (q := 14) C 1 rfl dX5_need_13 rfl ?_
    refine x_isub (q := 15) C (18 - t) (rfl) dX5_need_14 rfl ?_
    refine x_imul (q := 16) C (a * (18 - t)) (rfl) dX5_need_15 rfl ?_
    refine x_bipush (q := 18) C 9 rfl dX5_need_16 rfl ?_
    refine x_iadd (q := 19) C ((a * (18 - t)) + 9) (rfl) dX5_need_18 rfl ?_
    refine x_bipush (q := 21) C 10 rfl dX5_need_19 rfl ?_
    refine x_idiv (q := 22) C (((a * (18 - t)) + 9) / 10) (rfl) (by decide) dX5_need_21 rfl ?_
    exact x_iret C .int rfl rfl (⟨by simp [pWant, c_3], rfl⟩) dX5_need_22 (Nat.le_of_ble_eq_true rfl) (Nat.le_of_ble_eq_true rfl)
  · refine x_iconst (q := 7) C 0 rfl dX5_need_6 rfl ?_
    refine x_goto C 22 dX5_need_7 (by decide) ?_
    exact x_iret C .int rfl rfl (⟨by simp [pWant, c_3], rfl⟩) dX5_need_22 (Nat.le_of_ble_eq_true rfl) (Nat.le_of_ble_eq_true rfl)

theorem iw_X5_holds_X5 : ∀ w ∈ wsX50, w ∈ wsX5_holds := by decide +kernel
set_option maxHeartbeats 4000000 in
set_option maxRecDepth 100000 in
theorem c_X5_holds {l : Launch} {D : va_G} {cy : ClassId × ClassId × ClassId} (qo qF qL qA qE qH qB qS qP qC qT qD qR qX qG qM qU n : Nat) (th hh tt mc ml : Int32) (x : Int32) : xM false l yX5_holds wsX5_holds ({ frames := 0, cells := 0, slots := 0, locals := 0 }) D cy [.ref qo, .int x] ([(qo, .inr (5, [.int th, .int hh, .int tt, .ref qF, .ref qL, .ref qA, .ref qE, .ref qH, .ref qB, .int (nI n), .ref qS, .ref qP, .ref qC, .int mc, .ref qT, .ref qD, .ref qR, .ref qX, .ref qG, .ref qM, .ref qU, .int ml]))]) (xQi D (fun r w => r = pHolds x ∧ w = [(qo, .inr (5, [.int x, .int hh, .int tt, .ref qF, .ref qL, .ref qA, .ref qE, .ref qH, .ref qB, .int (nI n), .ref qS, .ref qP, .ref qC, .int mc, .ref qT, .ref qD, .ref qR, .ref qX, .ref qG, .ref qM, .ref qU, .int ml]))])) 0 0 := by
  refine xM_of (X := [(qo, .inr (5, [.int th, .int hh, .int tt, .ref qF, .ref qL, .ref qA, .ref qE, .ref qH, .ref qB, .int (nI n), .ref qS, .ref qP, .ref qC, .int mc, .ref qT, .ref qD, .ref qR, .ref qX, .ref qG, .ref qM, .ref qU, .int ml]))]) (pl := []) (nL := 2) (ret := (some .boolean)) RX5 [(0, .ref qo), (1, .int x)] (by decide +kernel) rfl rfl rfl (Nat.le_of_ble_eq_true rfl) (List.append_nil _).symm (fun p e s m args below meth c A C hname hT hZ => ?_)
  refine x_aload_n (q := 1) C 0 rfl dX5_holds_0 rfl ?_
  refine x_iload_n (q := 2) C 1 rfl dX5_holds_1 rfl ?_
  refine x_put (q := 5) C (T := TX5) iw_X5_holds_X5 tyX5 tyX5_ok nmX5 rfl 0 0 [(qo, .inr (5, [.int x, .int hh, .int tt, .ref qF, .ref qL, .ref qA, .ref qE, .ref qH, .ref qB, .int (nI n), .ref qS, .ref qP, .ref qC, .int mc, .ref qT, .ref qD, .ref qR, .ref qX, .ref qG, .ref qM, .ref qU, .int ml]))] rfl rfl (by decide) rfl (by decide +kernel : Cond.fieldLink RX5 59 RX5 "thrown" "I" ∈ wsX5_holds) rfl .int (by decide +kernel) rfl rfl (Nat.le_of_ble_eq_true rfl) dX5_holds_2 rfl ?_
  refine x_iload_n (q := 6) C 1 rfl dX5_holds_5 rfl ?_
  refine x_if_ne (q := 9) C 13 dX5_holds_6 (by decide) rfl (fun c_6 => ?_) (fun c_6 => ?_)
  · refine x_iconst (q := 14) C 0 rfl dX5_holds_13 rfl ?_
    exact x_iret C .boolean rfl rfl (⟨by simp [pHolds, c_6], rfl⟩) dX5_holds_14 (Nat.le_of_ble_eq_true rfl) (Nat.le_of_ble_eq_true rfl)
  · refine x_iconst (q := 10) C 1 rfl dX5_holds_9 rfl ?_
    refine x_goto C 14 dX5_holds_10 (by decide) ?_
    exact x_iret C .boolean rfl rfl (⟨by simp [pHolds, c_6], rfl⟩) dX5_holds_14 (Nat.le_of_ble_eq_true rfl) (Nat.le_of_ble_eq_true rfl)

theorem iw_X5_hours_X5 : ∀ w ∈ wsX50, w ∈ wsX5_hours := by decide +kernel
set_option maxHeartbeats 4000000 in
set_option maxRecDepth 100000 in
theorem c_X5_hours {l : Launch} {D : va_G} {cy : ClassId × ClassId × ClassId} (qo qF qL qA qE qH qB qS qP qC qT qD qR qX qG qM qU n : Nat) (th hh tt mc ml : Int32) : xM false l yX5_hours wsX5_hours ({ frames := 0, cells := 0, slots := 0, locals := 0 }) D cy [.ref qo] ([(qo, .inr (5, [.int th, .int hh, .int tt, .ref qF, .ref qL, .ref qA, .ref qE, .ref qH, .ref qB, .int (nI n), .ref qS, .ref qP, .ref qC, .int mc, .ref qT, .ref qD, .ref qR, .ref qX, .ref qG, .ref qM, .ref qU, .int ml]))]) (xQi D (fun r w => r = hh ∧ w = [(qo, .inr (5, [.int 0, .int hh, .int tt, .ref qF, .ref qL, .ref qA, .ref qE, .ref qH, .ref qB, .int (nI n), .ref qS, .ref qP, .ref qC, .int mc, .ref qT, .ref qD, .ref qR, .ref qX, .ref qG, .ref qM, .ref qU, .int ml]))])) 0 0 := by
  refine xM_of (X := [(qo, .inr (5, [.int th, .int hh, .int tt, .ref qF, .ref qL, .ref qA, .ref qE, .ref qH, .ref qB, .int (nI n), .ref qS, .ref qP, .ref qC, .int mc, .ref qT, .ref qD, .ref qR, .ref qX, .ref qG, .ref qM, .ref qU, .int ml]))]) (pl := []) (nL := 1) (ret := (some .int)) RX5 [(0, .ref qo)] (by decide +kernel) rfl rfl rfl (Nat.le_of_ble_eq_true rfl) (List.append_nil _).symm (fun p e s m args below meth c A C hname hT hZ => ?_)
  refine x_aload_n (q := 1) C 0 rfl dX5_hours_0 rfl ?_
  refine x_iconst (q := 2) C 0 rfl dX5_hours_1 rfl ?_
  refine x_put (q := 5) C (T := TX5) iw_X5_hours_X5 tyX5 tyX5_ok nmX5 rfl 0 0 [(qo, .inr (5, [.int 0, .int hh, .int tt, .ref qF, .ref qL, .ref qA, .ref qE, .ref qH, .ref qB, .int (nI n), .ref qS, .ref qP, .ref qC, .int mc, .ref qT, .ref qD, .ref qR, .ref qX, .ref qG, .ref qM, .ref qU, .int ml]))] rfl rfl (by decide) rfl (by decide +kernel : Cond.fieldLink RX5 59 RX5 "thrown" "I" ∈ wsX5_hours) rfl .int (by decide +kernel) rfl rfl (Nat.le_of_ble_eq_true rfl) dX5_hours_2 rfl ?_
  refine x_aload_n (q := 6) C 0 rfl dX5_hours_5 rfl ?_
  refine x_get (q := 9) C (T := TX5) iw_X5_hours_X5 rfl 0 1 rfl (by decide) rfl (by decide +kernel : Cond.fieldLink RX5 71 RX5 "hours" "I" ∈ wsX5_hours) rfl dX5_hours_6 rfl ?_
  exact x_iret C .int rfl rfl (⟨rfl, rfl⟩) dX5_hours_9 (Nat.le_of_ble_eq_true rfl) (Nat.le_of_ble_eq_true rfl)

theorem iw_X5_losses_X5 : ∀ w ∈ wsX50, w ∈ wsX5_losses := by decide +kernel
set_option maxHeartbeats 4000000 in
set_option maxRecDepth 100000 in
theorem c_X5_losses {l : Launch} {D : va_G} {cy : ClassId × ClassId × ClassId} (qo qF qL qA qE qH qB qS qP qC qT qD qR qX qG qM qU n : Nat) (th hh tt mc ml : Int32) : xM false l yX5_losses wsX5_losses ({ frames := 0, cells := 0, slots := 0, locals := 0 }) D cy [.ref qo] ([(qo, .inr (5, [.int th, .int hh, .int tt, .ref qF, .ref qL, .ref qA, .ref qE, .ref qH, .ref qB, .int (nI n), .ref qS, .ref qP, .ref qC, .int mc, .ref qT, .ref qD, .ref qR, .ref qX, .ref qG, .ref qM, .ref qU, .int ml]))]) (xQi D (fun r w => r = ml ∧ w = [(qo, .inr (5, [.int 0, .int hh, .int tt, .ref qF, .ref qL, .ref qA, .ref qE, .ref qH, .ref qB, .int (nI n), .ref qS, .ref qP, .ref qC, .int mc, .ref qT, .ref qD, .ref qR, .ref qX, .ref qG, .ref qM, .ref qU, .int ml]))])) 0 0 := by
  refine xM_of (X := [(qo, .inr (5, [.int th, .int hh, .int tt, .ref qF, .ref qL, .ref qA, .ref qE, .ref qH, .ref qB, .int (nI n), .ref qS, .ref qP, .ref qC, .int mc, .ref qT, .ref qD, .ref qR, .ref qX, .ref qG, .ref qM, .ref qU, .int ml]))]) (pl := []) (nL := 1) (ret := (some .int)) RX5 [(0, .ref qo)] (by decide +kernel) rfl rfl rfl (Nat.le_of_ble_eq_true rfl) (List.append_nil _).symm (fun p e s m args below meth c A C hname hT hZ => ?_)
  refine x_aload_n (q := 1) C 0 rfl dX5_losses_0 rfl ?_
  refine x_iconst (q := 2) C 0 rfl dX5_losses_1 rfl ?_
  refine x_put (q := 5) C (T := TX5) iw_X5_losses_X5 tyX5 tyX5_ok nmX5 rfl 0 0 [(qo, .inr (5, [.int 0, .int hh, .int tt, .ref qF, .ref qL, .ref qA, .ref qE, .ref qH, .ref qB, .int (nI n), .ref qS, .ref qP, .ref qC, .int mc, .ref qT, .ref qD, .ref qR, .ref qX, .ref qG, .ref qM, .ref qU, .int ml]))] rfl rfl (by decide) rfl (by decide +kernel : Cond.fieldLink RX5 59 RX5 "thrown" "I" ∈ wsX5_losses) rfl .int (by decide +kernel) rfl rfl (Nat.le_of_ble_eq_true rfl) dX5_losses_2 rfl ?_
  refine x_aload_n (q := 6) C 0 rfl dX5_losses_5 rfl ?_
  refine x_get (q := 9) C (T := TX5) iw_X5_losses_X5 rfl 0 21 rfl (by decide) rfl (by decide +kernel : Cond.fieldLink RX5 97 RX5 "losses" "I" ∈ wsX5_losses) rfl dX5_losses_6 rfl ?_
  exact x_iret C .int rfl rfl (⟨rfl, rfl⟩) dX5_losses_9 (Nat.le_of_ble_eq_true rfl) (Nat.le_of_ble_eq_true rfl)

theorem iw_X5_cost_X5 : ∀ w ∈ wsX50, w ∈ wsX5_cost := by decide +kernel
set_option maxHeartbeats 4000000 in
set_option maxRecDepth 100000 in
theorem c_X5_cost {l : Launch} {D : va_G} {cy : ClassId × ClassId × ClassId} (qo qF qL qA qE qH qB qS qP qC qT qD qR qX qG qM qU n : Nat) (th hh tt mc ml : Int32) : xM false l yX5_cost wsX5_cost ({ frames := 0, cells := 0, slots := 0, locals := 0 }) D cy [.ref qo] ([(qo, .inr (5, [.int th, .int hh, .int tt, .ref qF, .ref qL, .ref qA, .ref qE, .ref qH, .ref qB, .int (nI n), .ref qS, .ref qP, .ref qC, .int mc, .ref qT, .ref qD, .ref qR, .ref qX, .ref qG, .ref qM, .ref qU, .int ml]))]) (xQi D (fun r w => r = mc ∧ w = [(qo, .inr (5, [.int 0, .int hh, .int tt, .ref qF, .ref qL, .ref qA, .ref qE, .ref qH, .ref qB, .int (nI n), .ref qS, .ref qP, .ref qC, .int mc, .ref qT, .ref qD, .ref qR, .ref qX, .ref qG, .ref qM, .ref qU, .int ml]))])) 0 0 := by
  refine xM_of (X := [(qo, .inr (5, [.int th, .int hh, .int tt, .ref qF, .ref qL, .ref qA, .ref qE, .ref qH, .ref qB, .int (nI n), .ref qS, .ref qP, .ref qC, .int mc, .ref qT, .ref qD, .ref qR, .ref qX, .ref qG, .ref qM, .ref qU, .int ml]))]) (pl := []) (nL := 1) (ret := (some .int)) RX5 [(0, .ref qo)] (by decide +kernel) rfl rfl rfl (Nat.le_of_ble_eq_true rfl) (List.append_nil _).symm (fun p e s m args below meth c A C hname hT hZ => ?_)
  refine x_aload_n (q := 1) C 0 rfl dX5_cost_0 rfl ?_
  refine x_iconst (q := 2) C 0 rfl dX5_cost_1 rfl ?_
  refine x_put (q := 5) C (T := TX5) iw_X5_cost_X5 tyX5 tyX5_ok nmX5 rfl 0 0 [(qo, .inr (5, [.int 0, .int hh, .int tt, .ref qF, .ref qL, .ref qA, .ref qE, .ref qH, .ref qB, .int (nI n), .ref qS, .ref qP, .ref qC, .int mc, .ref qT, .ref qD, .ref qR, .ref qX, .ref qG, .ref qM, .ref qU, .int ml]))] rfl rfl (by decide) rfl (by decide +kernel : Cond.fieldLink RX5 59 RX5 "thrown" "I" ∈ wsX5_cost) rfl .int (by decide +kernel) rfl rfl (Nat.le_of_ble_eq_true rfl) dX5_cost_2 rfl ?_
  refine x_aload_n (q := 6) C 0 rfl dX5_cost_5 rfl ?_
  refine x_get (q := 9) C (T := TX5) iw_X5_cost_X5 rfl 0 13 rfl (by decide) rfl (by decide +kernel : Cond.fieldLink RX5 94 RX5 "cost" "I" ∈ wsX5_cost) rfl dX5_cost_6 rfl ?_
  exact x_iret C .int rfl rfl (⟨rfl, rfl⟩) dX5_cost_9 (Nat.le_of_ble_eq_true rfl) (Nat.le_of_ble_eq_true rfl)

theorem iw_X5_heats_X5 : ∀ w ∈ wsX50, w ∈ wsX5_heats := by decide +kernel
set_option maxHeartbeats 4000000 in
set_option maxRecDepth 100000 in
theorem c_X5_heats {l : Launch} {D : va_G} {cy : ClassId × ClassId × ClassId} (qo qF qL qA qE qH qB qS qP qC qT qD qR qX qG qM qU n : Nat) (th hh tt mc ml : Int32) (sr : Nat → Nat) (sh ht : Nat → Int32) (hsr : ∀ j, 1 ≤ j → j < 12 → sr j < j) : xM false l yX5_heats wsX5_heats ({ frames := 0, cells := 0, slots := 0, locals := 0 }) D cy [.ref qo] ([(qo, .inr (5, [.int th, .int hh, .int tt, .ref qF, .ref qL, .ref qA, .ref qE, .ref qH, .ref qB, .int (nI n), .ref qS, .ref qP, .ref qC, .int mc, .ref qT, .ref qD, .ref qR, .ref qX, .ref qG, .ref qM, .ref qU, .int ml])), (qF, .inl (cy.1, 12, .inl (fun i => nI (sr i)))), (qH, .inl (cy.1, 12, .inl sh)), (qT, .inl (cy.2.1, 12, .inl ht))]) (xQv D (fun w => w = [(qo, .inr (5, [.int th, .int hh, .int tt, .ref qF, .ref qL, .ref qA, .ref qE, .ref qH, .ref qB, .int (nI n), .ref qS, .ref qP, .ref qC, .int mc, .ref qT, .ref qD, .ref qR, .ref qX, .ref qG, .ref qM, .ref qU, .int ml])), (qF, .inl (cy.1, 12, .inl (fun i => nI (sr i)))), (qH, .inl (cy.1, 12, .inl sh)), (qT, .inl (cy.2.1, 12, .inl (mhFun sr sh ht)))])) 0 0 := by
  refine xM_of (X := [(qo, .inr (5, [.int th, .int hh, .int tt, .ref qF, .ref qL, .ref qA, .ref qE, .ref qH, .ref qB, .int (nI n), .ref qS, .ref qP, .ref qC, .int mc, .ref qT, .ref qD, .ref qR, .ref qX, .ref qG, .ref qM, .ref qU, .int ml])), (qF, .inl (cy.1, 12, .inl (fun i => nI (sr i)))), (qH, .inl (cy.1, 12, .inl sh)), (qT, .inl (cy.2.1, 12, .inl ht))]) (pl := []) (nL := 2) (ret := none) RX5 [(0, .ref qo)] (by decide +kernel) rfl rfl rfl (Nat.le_of_ble_eq_true rfl) (List.append_nil _).symm (fun p e s m args below meth c A C hname hT hZ => ?_)
  refine x_aload_n (q := 1) C 0 rfl dX5_heats_0 rfl ?_
  refine x_get (q := 4) C (T := TX5) iw_X5_heats_X5 rfl 0 14 rfl (by decide) rfl (by decide +kernel : Cond.fieldLink RX5 37 RX5 "hasHeat" "[Z" ∈ wsX5_heats) rfl dX5_heats_1 rfl ?_
  refine x_iconst (q := 5) C 0 rfl dX5_heats_4 rfl ?_
  refine x_iconst (q := 6) C 1 rfl dX5_heats_5 rfl ?_
  refine x_zastN (q := 7) C 0 3 (upd ht 0 1) [(qo, .inr (5, [.int th, .int hh, .int tt, .ref qF, .ref qL, .ref qA, .ref qE, .ref qH, .ref qB, .int (nI n), .ref qS, .ref qP, .ref qC, .int mc, .ref qT, .ref qD, .ref qR, .ref qX, .ref qG, .ref qM, .ref qU, .int ml])), (qF, .inl (cy.1, 12, .inl (fun i => nI (sr i)))), (qH, .inl (cy.1, 12, .inl sh)), (qT, .inl (cy.2.1, 12, .inl (upd ht 0 1)))] rfl rfl (by omega) (by omega) (congrArg _ vpz1) rfl dX5_heats_6 rfl ?_
  refine x_iconst (q := 8) C 1 rfl dX5_heats_7 rfl ?_
  refine x_istore_n (q := 9) C [(1, .int 1), (0, .ref qo)] dX5_heats_8 (by decide) rfl rfl ?_
  refine x_less [0, 1] [(1, .int 1), (0, .ref qo)] rfl ?_
  refine x_up (fun j => [(qo, .inr (5, [.int th, .int hh, .int tt, .ref qF, .ref qL, .ref qA, .ref qE, .ref qH, .ref qB, .int (nI n), .ref qS, .ref qP, .ref qC, .int mc, .ref qT, .ref qD, .ref qR, .ref qX, .ref qG, .ref qM, .ref qU, .int ml])), (qF, .inl (cy.1, 12, .inl (fun i => nI (sr i)))), (qH, .inl (cy.1, 12, .inl sh)), (qT, .inl (cy.2.1, 12, .inl (itr (mhStep sr sh) (upd ht 0 1) j)))]) (fun j => [(1, .int (nI (j + 1))), (0, .ref qo)]) 11 rfl rfl (fun j h_j ih_j => ?_) ?_
  · refine x_iload_n (q := 10) C 0 rfl dX5_heats_9 rfl ?_
    refine x_bipush (q := 12) C 12 rfl dX5_heats_10 rfl ?_
    refine x_icmp_ge_f (q := 15) C 55 dX5_heats_12 (by decide) rfl (nI_ge (a := (j + 1)) (b := 12) (by omega) (by omega)) ?_
    refine x_aload_n (q := 16) C 1 rfl dX5_heats_15 rfl ?_
    refine x_get (q := 19) C (T := TX5) iw_X5_heats_X5 rfl 0 14 rfl (by decide) rfl (by decide +kernel : Cond.fieldLink RX5 37 RX5 "hasHeat" "[Z" ∈ wsX5_heats) rfl dX5_heats_16 rfl ?_
    refine x_iload_n (q := 20) C 0 rfl dX5_heats_19 rfl ?_
    refine x_aload_n (q := 21) C 1 rfl dX5_heats_20 rfl ?_
    refine x_get (q := 24) C (T := TX5) iw_X5_heats_X5 rfl 0 7 rfl (by decide) rfl (by decide +kernel : Cond.fieldLink RX5 22 RX5 "shut" "[I" ∈ wsX5_heats) rfl dX5_heats_21 rfl ?_
    refine x_iload_n (q := 25) C 0 rfl dX5_heats_24 rfl ?_
    refine x_ialdN (q := 26) C (j + 1) 2 (sh (j + 1)) rfl rfl (by omega) (by omega) rfl dX5_heats_25 rfl ?_
    refine x_if_ne (q := 29) C 47 dX5_heats_26 (by decide) rfl (fun c_26 => ?_) (fun c_26 => ?_)
    · refine x_iconst (q := 48) C 0 rfl dX5_heats_47 rfl ?_
      refine x_zastN (q := 49) C (j + 1) 3 (upd (itr (mhStep sr sh) (upd ht 0 1) j) (j + 1) 0) [(qo, .inr (5, [.int th, .int hh, .int tt, .ref qF, .ref qL, .ref qA, .ref qE, .ref qH, .ref qB, .int (nI n), .ref qS, .ref qP, .ref qC, .int mc, .ref qT, .ref qD, .ref qR, .ref qX, .ref qG, .ref qM, .ref qU, .int ml])), (qF, .inl (cy.1, 12, .inl (fun i => nI (sr i)))), (qH, .inl (cy.1, 12, .inl sh)), (qT, .inl (cy.2.1, 12, .inl (upd (itr (mhStep sr sh) (upd ht 0 1) j) (j + 1) 0)))] rfl rfl (by omega) (by omega) (congrArg _ vpz0) rfl dX5_heats_48 rfl ?_
      refine x_iinc (q := 52) C 0 (nI ((j + 1) + 1)) [(1, .int (nI ((j + 1) + 1))), (0, .ref qo)] dX5_heats_49 rfl (nI_1 _) (by decide) rfl rfl ?_
      refine x_goto C 9 dX5_heats_52 (by decide) ?_
      refine x_less [0, 1] [(1, .int (nI ((j + 1) + 1))), (0, .ref qo)] rfl ?_
      have e9 : itr (mhStep sr sh) (upd ht 0 1) (j + 1) = upd (itr (mhStep sr sh) (upd ht 0 1) j) (j + 1) 0 := by
        show mhStep sr sh j (itr (mhStep sr sh) (upd ht 0 1) (j)) = _
        simp [mhStep, c_26]
      refine x_less [0, 1] [(1, .int (nI ((j + 1) + 1))), (0, .ref qo)] (by first | rfl | (rw [e9]; rfl)) ?_
      refine x_world (X' := [(qo, .inr (5, [.int th, .int hh, .int tt, .ref qF, .ref qL, .ref qA, .ref qE, .ref qH, .ref qB, .int (nI n), .ref qS, .ref qP, .ref qC, .int mc, .ref qT, .ref qD, .ref qR, .ref qX, .ref qG, .ref qM, .ref qU, .int ml])), (qF, .inl (cy.1, 12, .inl (fun i => nI (sr i)))), (qH, .inl (cy.1, 12, .inl sh)), (qT, .inl (cy.2.1, 12, .inl (itr (mhStep sr sh) (upd ht 0 1) (j + 1))))]) (pl' := []) (by first | rfl | rw [e9]) ?_
      exact ih_j
    · refine x_aload_n (q := 30) C 1 rfl dX5_heats_29 rfl ?_
      refine x_get (q := 33) C (T := TX5) iw_X5_heats_X5 rfl 0 14 rfl (by decide) rfl (by decide +kernel : Cond.fieldLink RX5 37 RX5 "hasHeat" "[Z" ∈ wsX5_heats) rfl dX5_heats_30 rfl ?_
      refine x_aload_n (q := 34) C 1 rfl dX5_heats_33 rfl ?_
      refine x_get (q := 37) C (T := TX5) iw_X5_heats_X5 rfl 0 3 rfl (by decide) rfl (by decide +kernel : Cond.fieldLink RX5 7 RX5 "from" "[I" ∈ wsX5_heats) rfl dX5_heats_34 rfl ?_
      refine x_iload_n (q := 38) C 0 rfl dX5_heats_37 rfl ?_
      refine x_ialdN (q := 39) C (j + 1) 1 (nI (sr (j + 1))) rfl rfl (by omega) (by omega) rfl dX5_heats_38 rfl ?_
      refine x_zaldN (q := 40) C (sr (j + 1)) 3 ((itr (mhStep sr sh) (upd ht 0 1) j) (sr (j + 1))) rfl rfl (by have := hsr (j + 1) (by omega) (by omega); omega) (by omega) rfl dX5_heats_39 rfl ?_
      refine x_if_eq (q := 43) C 47 dX5_heats_40 (by decide) rfl (fun c_40 => ?_) (fun c_40 => ?_)
      · refine x_iconst (q := 48) C 0 rfl dX5_heats_47 rfl ?_
        refine x_zastN (q := 49) C (j + 1) 3 (upd (itr (mhStep sr sh) (upd ht 0 1) j) (j + 1) 0) [(qo, .inr (5, [.int th, .int hh, .int tt, .ref qF, .ref qL, .ref qA, .ref qE, .ref qH, .ref qB, .int (nI n), .ref qS, .ref qP, .ref qC, .int mc, .ref qT, .ref qD, .ref qR, .ref qX, .ref qG, .ref qM, .ref qU, .int ml])), (qF, .inl (cy.1, 12, .inl (fun i => nI (sr i)))), (qH, .inl (cy.1, 12, .inl sh)), (qT, .inl (cy.2.1, 12, .inl (upd (itr (mhStep sr sh) (upd ht 0 1) j) (j + 1) 0)))] rfl rfl (by omega) (by omega) (congrArg _ vpz0) rfl dX5_heats_48 rfl ?_
        refine x_iinc (q := 52) C 0 (nI ((j + 1) + 1)) [(1, .int (nI ((j + 1) + 1))), (0, .ref qo)] dX5_heats_49 rfl (nI_1 _) (by decide) rfl rfl ?_
        refine x_goto C 9 dX5_heats_52 (by decide) ?_
        refine x_less [0, 1] [(1, .int (nI ((j + 1) + 1))), (0, .ref qo)] rfl ?_
        have e9 : itr (mhStep sr sh) (upd ht 0 1) (j + 1) = upd (itr (mhStep sr sh) (upd ht 0 1) j) (j + 1) 0 := by
          show mhStep sr sh j (itr (mhStep sr sh) (upd ht 0 1) (j)) = _
          simp [mhStep, c_26, c_40]
        refine x_less [0, 1] [(1, .int (nI ((j + 1) + 1))), (0, .ref qo)] (by first | rfl | (rw [e9]; rfl)) ?_
        refine x_world (X' := [(qo, .inr (5, [.int th, .int hh, .int tt, .ref qF, .ref qL, .ref qA, .ref qE, .ref qH, .ref qB, .int (nI n), .ref qS, .ref qP, .ref qC, .int mc, .ref qT, .ref qD, .ref qR, .ref qX, .ref qG, .ref qM, .ref qU, .int ml])), (qF, .inl (cy.1, 12, .inl (fun i => nI (sr i)))), (qH, .inl (cy.1, 12, .inl sh)), (qT, .inl (cy.2.1, 12, .inl (itr (mhStep sr sh) (upd ht 0 1) (j + 1))))]) (pl' := []) (by first | rfl | rw [e9]) ?_
        exact ih_j
      · refine x_iconst (q := 44) C 1 rfl dX5_heats_43 rfl ?_
        refine x_goto C 48 dX5_heats_44 (by decide) ?_
        refine x_zastN (q := 49) C (j + 1) 3 (upd (itr (mhStep sr sh) (upd ht 0 1) j) (j + 1) 1) [(qo, .inr (5, [.int th, .int hh, .int tt, .ref qF, .ref qL, .ref qA, .ref qE, .ref qH, .ref qB, .int (nI n), .ref qS, .ref qP, .ref qC, .int mc, .ref qT, .ref qD, .ref qR, .ref qX, .ref qG, .ref qM, .ref qU, .int ml])), (qF, .inl (cy.1, 12, .inl (fun i => nI (sr i)))), (qH, .inl (cy.1, 12, .inl sh)), (qT, .inl (cy.2.1, 12, .inl (upd (itr (mhStep sr sh) (upd ht 0 1) j) (j + 1) 1)))] rfl rfl (by omega) (by omega) (congrArg _ vpz1) rfl dX5_heats_48 rfl ?_
        refine x_iinc (q := 52) C 0 (nI ((j + 1) + 1)) [(1, .int (nI ((j + 1) + 1))), (0, .ref qo)] dX5_heats_49 rfl (nI_1 _) (by decide) rfl rfl ?_
        refine x_goto C 9 dX5_heats_52 (by decide) ?_
        refine x_less [0, 1] [(1, .int (nI ((j + 1) + 1))), (0, .ref qo)] rfl ?_
        have e9 : itr (mhStep sr sh) (upd ht 0 1) (j + 1) = upd (itr (mhStep sr sh) (upd ht 0 1) j) (j + 1) 1 := by
          show mhStep sr sh j (itr (mhStep sr sh) (upd ht 0 1) (j)) = _
          simp [mhStep, c_26, c_40]
        refine x_less [0, 1] [(1, .int (nI ((j + 1) + 1))), (0, .ref qo)] (by first | rfl | (rw [e9]; rfl)) ?_
        refine x_world (X' := [(qo, .inr (5, [.int th, .int hh, .int tt, .ref qF, .ref qL, .ref qA, .ref qE, .ref qH, .ref qB, .int (nI n), .ref qS, .ref qP, .ref qC, .int mc, .ref qT, .ref qD, .ref qR, .ref qX, .ref qG, .ref qM, .ref qU, .int ml])), (qF, .inl (cy.1, 12, .inl (fun i => nI (sr i)))), (qH, .inl (cy.1, 12, .inl sh)), (qT, .inl (cy.2.1, 12, .inl (itr (mhStep sr sh) (upd ht 0 1) (j + 1))))]) (pl' := []) (by first | rfl | rw [e9]) ?_
        exact ih_j
  · refine x_iload_n (q := 10) C 0 rfl dX5_heats_9 rfl ?_
    refine x_bipush (q := 12) C 12 rfl dX5_heats_10 rfl ?_
    refine x_icmp_ge_t C 55 dX5_heats_12 (by decide) (nI_le (a := 12) (b := (11 + 1)) (by omega) (by omega)) ?_
    exact x_vret C rfl (rfl) dX5_heats_55 (Nat.le_of_ble_eq_true rfl) (Nat.le_of_ble_eq_true rfl)

theorem iw_X5_lays_X5 : ∀ w ∈ wsX50, w ∈ wsX5_lays := by decide +kernel
set_option maxHeartbeats 4000000 in
set_option maxRecDepth 100000 in
theorem c_X5_lays {l : Launch} {D : va_G} {cy : ClassId × ClassId × ClassId} (qo qF qL qA qE qH qB qS qP qC qT qD qR qX qG qM qU n : Nat) (th hh tt mc ml : Int32) (sr : Nat → Nat) (lo ar sh ht dm ca : Nat → Int32) (t : Int32) (hsr : ∀ j, 1 ≤ j → j < 12 → sr j < j) : xM false l yX5_lays wsX5_lays ({ frames := 1, cells := 0, slots := 0, locals := 21 }) D cy [.ref qo, .int t] ([(qo, .inr (5, [.int th, .int hh, .int tt, .ref qF, .ref qL, .ref qA, .ref qE, .ref qH, .ref qB, .int (nI n), .ref qS, .ref qP, .ref qC, .int mc, .ref qT, .ref qD, .ref qR, .ref qX, .ref qG, .ref qM, .ref qU, .int ml])), (qF, .inl (cy.1, 12, .inl (fun i => nI (sr i)))), (qL, .inl (cy.1, 12, .inl lo)), (qA, .inl (cy.1, 12, .inl ar)), (qH, .inl (cy.1, 12, .inl sh)), (qT, .inl (cy.2.1, 12, .inl ht)), (qD, .inl (cy.1, 12, .inl dm)), (qR, .inl (cy.2.1, 12, .inl ca))]) (xQi D (fun r w => r = (yC sr lo ar sh ht dm ca t).2 ∧ w = [(qo, .inr (5, [.int th, .int hh, .int tt, .ref qF, .ref qL, .ref qA, .ref qE, .ref qH, .ref qB, .int (nI n), .ref qS, .ref qP, .ref qC, .int mc, .ref qT, .ref qD, .ref qR, .ref qX, .ref qG, .ref qM, .ref qU, .int ml])), (qF, .inl (cy.1, 12, .inl (fun i => nI (sr i)))), (qL, .inl (cy.1, 12, .inl lo)), (qA, .inl (cy.1, 12, .inl ar)), (qH, .inl (cy.1, 12, .inl sh)), (qT, .inl (cy.2.1, 12, .inl (yH sr sh ht))), (qD, .inl (cy.1, 12, .inl ((yM sr ar sh ht dm ca t).1))), (qR, .inl (cy.2.1, 12, .inl ((yC sr lo ar sh ht dm ca t).1)))])) 0 0 := by
  refine xM_of (X := [(qo, .inr (5, [.int th, .int hh, .int tt, .ref qF, .ref qL, .ref qA, .ref qE, .ref qH, .ref qB, .int (nI n), .ref qS, .ref qP, .ref qC, .int mc, .ref qT, .ref qD, .ref qR, .ref qX, .ref qG, .ref qM, .ref qU, .int ml])), (qF, .inl (cy.1, 12, .inl (fun i => nI (sr i)))), (qL, .inl (cy.1, 12, .inl lo)), (qA, .inl (cy.1, 12, .inl ar)), (qH, .inl (cy.1, 12, .inl sh)), (qT, .inl (cy.2.1, 12, .inl ht)), (qD, .inl (cy.1, 12, .inl dm)), (qR, .inl (cy.2.1, 12, .inl ca))]) (pl := []) (nL := 4) (ret := (some .int)) RX5 [(0, .ref qo), (1, .int t)] (by decide +kernel) rfl rfl rfl (Nat.le_of_ble_eq_true rfl) (List.append_nil _).symm (fun p e s m args below meth c A C hname hT hZ => ?_)
  refine x_iconst (q := 1) C 0 rfl dX5_lays_0 rfl ?_
  refine x_istore_n (q := 2) C [(2, .int 0), (0, .ref qo), (1, .int t)] dX5_lays_1 (by decide) rfl rfl ?_
  refine x_aload_n (q := 3) C 1 rfl dX5_lays_2 rfl ?_
  refine x_CvP (q := 6) C [0, 1, 4, 5] [2, 3, 6, 7] (cx := [(qo, .inr (5, [.int th, .int hh, .int tt, .ref qF, .ref qL, .ref qA, .ref qE, .ref qH, .ref qB, .int (nI n), .ref qS, .ref qP, .ref qC, .int mc, .ref qT, .ref qD, .ref qR, .ref qX, .ref qG, .ref qM, .ref qU, .int ml])), (qF, .inl (cy.1, 12, .inl (fun i => nI (sr i)))), (qH, .inl (cy.1, 12, .inl sh)), (qT, .inl (cy.2.1, 12, .inl ht))]) (wr := [(qL, .inl (cy.1, 12, .inl lo)), (qA, .inl (cy.1, 12, .inl ar)), (qD, .inl (cy.1, 12, .inl dm)), (qR, .inl (cy.2.1, 12, .inl ca))]) (st := []) rfl rfl rfl rfl (by decide) (fun H locs ls hP hPc hDc hS hFc hl => x_runV C (As := []) (c_X5_heats qo qF qL qA qE qH qB qS qP qC qT qD qR qX qG qM qU n th hh tt mc ml sr sh ht hsr) (cwV 0 C.2.2.2.2.2.1 gX5_lays_X5_heats rfl rfl rfl (by decide +kernel) ⟨Nat.le_of_ble_eq_true rfl, Nat.le_of_ble_eq_true rfl⟩) rfl 0 rfl rfl rfl (Nat.le_of_ble_eq_true rfl) dX5_lays_3 ⟨Nat.le_of_ble_eq_true rfl, Nat.le_of_ble_eq_true rfl⟩ (fun h => absurd h (by decide)) hP hPc hDc hS hFc hl) (k := 0) (n := 0) rfl rfl rfl (fun w1 hw => ?_)
  obtain rfl := hw
  refine x_ord [4, 5, 0, 1, 6, 7, 2, 3] [(qo, .inr (5, [.int th, .int hh, .int tt, .ref qF, .ref qL, .ref qA, .ref qE, .ref qH, .ref qB, .int (nI n), .ref qS, .ref qP, .ref qC, .int mc, .ref qT, .ref qD, .ref qR, .ref qX, .ref qG, .ref qM, .ref qU, .int ml])), (qF, .inl (cy.1, 12, .inl (fun i => nI (sr i)))), (qL, .inl (cy.1, 12, .inl lo)), (qA, .inl (cy.1, 12, .inl ar)), (qH, .inl (cy.1, 12, .inl sh)), (qT, .inl (cy.2.1, 12, .inl (mhFun sr sh ht))), (qD, .inl (cy.1, 12, .inl dm)), (qR, .inl (cy.2.1, 12, .inl ca))] rfl rfl ?_
  refine x_iconst (q := 7) C 1 rfl dX5_lays_6 rfl ?_
  refine x_istore_n (q := 8) C [(3, .int 1), (2, .int 0), (0, .ref qo), (1, .int t)] dX5_lays_7 (by decide) rfl rfl ?_
  refine x_less [0, 1, 2, 3] [(3, .int 1), (2, .int 0), (0, .ref qo), (1, .int t)] rfl ?_
  refine x_up (fun j => [(qo, .inr (5, [.int th, .int hh, .int tt, .ref qF, .ref qL, .ref qA, .ref qE, .ref qH, .ref qB, .int (nI n), .ref qS, .ref qP, .ref qC, .int mc, .ref qT, .ref qD, .ref qR, .ref qX, .ref qG, .ref qM, .ref qU, .int ml])), (qF, .inl (cy.1, 12, .inl (fun i => nI (sr i)))), (qL, .inl (cy.1, 12, .inl lo)), (qA, .inl (cy.1, 12, .inl ar)), (qH, .inl (cy.1, 12, .inl sh)), (qT, .inl (cy.2.1, 12, .inl (mhFun sr sh ht))), (qD, .inl (cy.1, 12, .inl ((itr (m1Step (mhFun sr sh ht) ar t) (dm, ca, 0) j).1))), (qR, .inl (cy.2.1, 12, .inl ((itr (m1Step (mhFun sr sh ht) ar t) (dm, ca, 0) j).2.1)))]) (fun j => [(3, .int (nI (j + 1))), (2, .int ((itr (m1Step (mhFun sr sh ht) ar t) (dm, ca, 0) j).2.2)), (0, .ref qo), (1, .int t)]) 11 rfl rfl (fun j h_j ih_j => ?_) ?_
  · refine x_iload_n (q := 9) C 0 rfl dX5_lays_8 rfl ?_
    refine x_bipush (q := 11) C 12 rfl dX5_lays_9 rfl ?_
    refine x_icmp_ge_f (q := 14) C 78 dX5_lays_11 (by decide) rfl (nI_ge (a := (j + 1)) (b := 12) (by omega) (by omega)) ?_
    refine x_aload_n (q := 15) C 2 rfl dX5_lays_14 rfl ?_
    refine x_get (q := 18) C (T := TX5) iw_X5_lays_X5 rfl 0 15 rfl (by decide) rfl (by decide +kernel : Cond.fieldLink RX5 41 RX5 "demands" "[I" ∈ wsX5_lays) rfl dX5_lays_15 rfl ?_
    refine x_iload_n (q := 19) C 0 rfl dX5_lays_18 rfl ?_
    refine x_aload_n (q := 20) C 2 rfl dX5_lays_19 rfl ?_
    refine x_get (q := 23) C (T := TX5) iw_X5_lays_X5 rfl 0 14 rfl (by decide) rfl (by decide +kernel : Cond.fieldLink RX5 37 RX5 "hasHeat" "[Z" ∈ wsX5_lays) rfl dX5_lays_20 rfl ?_
    refine x_iload_n (q := 24) C 0 rfl dX5_lays_23 rfl ?_
    refine x_zaldN (q := 25) C (j + 1) 5 ((mhFun sr sh ht) (j + 1)) rfl rfl (by omega) (by omega) rfl dX5_lays_24 rfl ?_
    refine x_if_eq (q := 28) C 41 dX5_lays_25 (by decide) rfl (fun c_25 => ?_) (fun c_25 => ?_)
    · refine x_iconst (q := 42) C 0 rfl dX5_lays_41 rfl ?_
      refine x_iastN (q := 43) C (j + 1) 6 (upd ((itr (m1Step (mhFun sr sh ht) ar t) (dm, ca, 0) j).1) (j + 1) 0) [(qo, .inr (5, [.int th, .int hh, .int tt, .ref qF, .ref qL, .ref qA, .ref qE, .ref qH, .ref qB, .int (nI n), .ref qS, .ref qP, .ref qC, .int mc, .ref qT, .ref qD, .ref qR, .ref qX, .ref qG, .ref qM, .ref qU, .int ml])), (qF, .inl (cy.1, 12, .inl (fun i => nI (sr i)))), (qL, .inl (cy.1, 12, .inl lo)), (qA, .inl (cy.1, 12, .inl ar)), (qH, .inl (cy.1, 12, .inl sh)), (qT, .inl (cy.2.1, 12, .inl (mhFun sr sh ht))), (qD, .inl (cy.1, 12, .inl (upd ((itr (m1Step (mhFun sr sh ht) ar t) (dm, ca, 0) j).1) (j + 1) 0))), (qR, .inl (cy.2.1, 12, .inl ((itr (m1Step (mhFun sr sh ht) ar t) (dm, ca, 0) j).2.1)))] rfl rfl (by omega) (by omega) rfl rfl dX5_lays_42 rfl ?_
      refine x_aload_n (q := 44) C 2 rfl dX5_lays_43 rfl ?_
      refine x_get (q := 47) C (T := TX5) iw_X5_lays_X5 rfl 0 16 rfl (by decide) rfl (by decide +kernel : Cond.fieldLink RX5 44 RX5 "carries" "[Z" ∈ wsX5_lays) rfl dX5_lays_44 rfl ?_
      refine x_iload_n (q := 48) C 0 rfl dX5_lays_47 rfl ?_
      refine x_aload_n (q := 49) C 2 rfl dX5_lays_48 rfl ?_
      refine x_get (q := 52) C (T := TX5) iw_X5_lays_X5 rfl 0 15 rfl (by decide) rfl (by decide +kernel : Cond.fieldLink RX5 41 RX5 "demands" "[I" ∈ wsX5_lays) rfl dX5_lays_49 rfl ?_
      refine x_iload_n (q := 53) C 0 rfl dX5_lays_52 rfl ?_
      refine x_ialdN (q := 54) C (j + 1) 6 0 rfl rfl (by omega) (by omega) pk_us dX5_lays_53 rfl ?_
      refine x_if_le_t C 61 dX5_lays_54 (by decide) (by decide) ?_
      refine x_iconst (q := 62) C 0 rfl dX5_lays_61 rfl ?_
      refine x_zastN (q := 63) C (j + 1) 7 (upd ((itr (m1Step (mhFun sr sh ht) ar t) (dm, ca, 0) j).2.1) (j + 1) 0) [(qo, .inr (5, [.int th, .int hh, .int tt, .ref qF, .ref qL, .ref qA, .ref qE, .ref qH, .ref qB, .int (nI n), .ref qS, .ref qP, .ref qC, .int mc, .ref qT, .ref qD, .ref qR, .ref qX, .ref qG, .ref qM, .ref qU, .int ml])), (qF, .inl (cy.1, 12, .inl (fun i => nI (sr i)))), (qL, .inl (cy.1, 12, .inl lo)), (qA, .inl (cy.1, 12, .inl ar)), (qH, .inl (cy.1, 12, .inl sh)), (qT, .inl (cy.2.1, 12, .inl (mhFun sr sh ht))), (qD, .inl (cy.1, 12, .inl (upd ((itr (m1Step (mhFun sr sh ht) ar t) (dm, ca, 0) j).1) (j + 1) 0))), (qR, .inl (cy.2.1, 12, .inl (upd ((itr (m1Step (mhFun sr sh ht) ar t) (dm, ca, 0) j).2.1) (j + 1) 0)))] rfl rfl (by omega) (by omega) (congrArg _ vpz0) rfl dX5_lays_62 rfl ?_
      refine x_iload_n (q := 64) C 1 rfl dX5_lays_63 rfl ?_
      refine x_aload_n (q := 65) C 2 rfl dX5_lays_64 rfl ?_
      refine x_get (q := 68) C (T := TX5) iw_X5_lays_X5 rfl 0 15 rfl (by decide) rfl (by decide +kernel : Cond.fieldLink RX5 41 RX5 "demands" "[I" ∈ wsX5_lays) rfl dX5_lays_65 rfl ?_
      refine x_iload_n (q := 69) C 0 rfl dX5_lays_68 rfl ?_
      refine x_ialdN (q := 70) C (j + 1) 6 0 rfl rfl (by omega) (by omega) pk_us dX5_lays_69 rfl ?_
      refine x_iadd (q := 71) C (((itr (m1Step (mhFun sr sh ht) ar t) (dm, ca, 0) j).2.2) + 0) (rfl) dX5_lays_70 rfl ?_
      refine x_istore_n (q := 72) C [(2, .int (((itr (m1Step (mhFun sr sh ht) ar t) (dm, ca, 0) j).2.2) + 0)), (3, .int (nI (j + 1))), (0, .ref qo), (1, .int t)] dX5_lays_71 (by decide) rfl rfl ?_
      refine x_iinc (q := 75) C 1 (nI ((j + 1) + 1)) [(3, .int (nI ((j + 1) + 1))), (2, .int (((itr (m1Step (mhFun sr sh ht) ar t) (dm, ca, 0) j).2.2) + 0)), (0, .ref qo), (1, .int t)] dX5_lays_72 rfl (nI_1 _) (by decide) rfl rfl ?_
      refine x_goto C 8 dX5_lays_75 (by decide) ?_
      refine x_less [0, 1, 2, 3] [(3, .int (nI ((j + 1) + 1))), (2, .int (((itr (m1Step (mhFun sr sh ht) ar t) (dm, ca, 0) j).2.2) + 0)), (0, .ref qo), (1, .int t)] rfl ?_
      have e9 : (itr (m1Step (mhFun sr sh ht) ar t) (dm, ca, 0) (j + 1)) = (upd ((itr (m1Step (mhFun sr sh ht) ar t) (dm, ca, 0) j).1) (j + 1) 0, upd ((itr (m1Step (mhFun sr sh ht) ar t) (dm, ca, 0) j).2.1) (j + 1) 0, ((itr (m1Step (mhFun sr sh ht) ar t) (dm, ca, 0) j).2.2) + 0) := by
        show m1Step (mhFun sr sh ht) ar t j (itr (m1Step (mhFun sr sh ht) ar t) (dm, ca, 0) j) = _
        simp only [m1Step, mV, if00, if_pos c_25]
      refine x_less [0, 1, 2, 3] [(3, .int (nI ((j + 1) + 1))), (2, .int ((itr (m1Step (mhFun sr sh ht) ar t) (dm, ca, 0) (j + 1)).2.2)), (0, .ref qo), (1, .int t)] (by first | rfl | (rw [e9]; rfl)) ?_
      refine x_world (X' := [(qo, .inr (5, [.int th, .int hh, .int tt, .ref qF, .ref qL, .ref qA, .ref qE, .ref qH, .ref qB, .int (nI n), .ref qS, .ref qP, .ref qC, .int mc, .ref qT, .ref qD, .ref qR, .ref qX, .ref qG, .ref qM, .ref qU, .int ml])), (qF, .inl (cy.1, 12, .inl (fun i => nI (sr i)))), (qL, .inl (cy.1, 12, .inl lo)), (qA, .inl (cy.1, 12, .inl ar)), (qH, .inl (cy.1, 12, .inl sh)), (qT, .inl (cy.2.1, 12, .inl (mhFun sr sh ht))), (qD, .inl (cy.1, 12, .inl ((itr (m1Step (mhFun sr sh ht) ar t) (dm, ca, 0) (j + 1)).1))), (qR, .inl (cy.2.1, 12, .inl ((itr (m1Step (mhFun sr sh ht) ar t) (dm, ca, 0) (j + 1)).2.1)))]) (pl' := []) (by first | rfl | rw [e9]) ?_
      exact ih_j
    · refine x_aload_n (q := 29) C 2 rfl dX5_lays_28 rfl ?_
      refine x_get (q := 32) C (T := TX5) iw_X5_lays_X5 rfl 0 5 rfl (by decide) rfl (by decide +kernel : Cond.fieldLink RX5 16 RX5 "areas" "[I" ∈ wsX5_lays) rfl dX5_lays_29 rfl ?_
      refine x_iload_n (q := 33) C 0 rfl dX5_lays_32 rfl ?_
      refine x_ialdN (q := 34) C (j + 1) 3 (ar (j + 1)) rfl rfl (by omega) (by omega) rfl dX5_lays_33 rfl ?_
      refine x_iload_n (q := 35) C 3 rfl dX5_lays_34 rfl ?_
      refine x_CiP (q := 38) C [] [0, 1, 2, 3, 4, 5, 6, 7] (cx := []) (wr := [(qo, .inr (5, [.int th, .int hh, .int tt, .ref qF, .ref qL, .ref qA, .ref qE, .ref qH, .ref qB, .int (nI n), .ref qS, .ref qP, .ref qC, .int mc, .ref qT, .ref qD, .ref qR, .ref qX, .ref qG, .ref qM, .ref qU, .int ml])), (qF, .inl (cy.1, 12, .inl (fun i => nI (sr i)))), (qL, .inl (cy.1, 12, .inl lo)), (qA, .inl (cy.1, 12, .inl ar)), (qH, .inl (cy.1, 12, .inl sh)), (qT, .inl (cy.2.1, 12, .inl (mhFun sr sh ht))), (qD, .inl (cy.1, 12, .inl ((itr (m1Step (mhFun sr sh ht) ar t) (dm, ca, 0) j).1))), (qR, .inl (cy.2.1, 12, .inl ((itr (m1Step (mhFun sr sh ht) ar t) (dm, ca, 0) j).2.1)))]) (st := [.int (nI (j + 1)), .ref qD]) rfl rfl rfl rfl (by decide) (fun H locs ls hP hPc hDc hS hFc hl => x_runS C (As := [.int (ar (j + 1)), .int t]) (c_X5_need (ar (j + 1)) t) (va_cwS 2 C.2.2.2.2.2.1 gX5_lays_X5_need rfl rfl rfl (by decide +kernel) ⟨Nat.le_of_ble_eq_true rfl, Nat.le_of_ble_eq_true rfl⟩) rfl rfl (Nat.le_of_ble_eq_true rfl) dX5_lays_35 ⟨Nat.le_of_ble_eq_true rfl, Nat.le_of_ble_eq_true rfl⟩ (fun h => absurd h (by decide)) hP hPc hDc hS hFc hl) (k := 0) (n := 0) rfl rfl rfl (fun r_35 w1 hw => ?_)
      obtain ⟨rfl, rfl⟩ := hw
      refine x_ord [0, 1, 2, 3, 4, 5, 6, 7] [(qo, .inr (5, [.int th, .int hh, .int tt, .ref qF, .ref qL, .ref qA, .ref qE, .ref qH, .ref qB, .int (nI n), .ref qS, .ref qP, .ref qC, .int mc, .ref qT, .ref qD, .ref qR, .ref qX, .ref qG, .ref qM, .ref qU, .int ml])), (qF, .inl (cy.1, 12, .inl (fun i => nI (sr i)))), (qL, .inl (cy.1, 12, .inl lo)), (qA, .inl (cy.1, 12, .inl ar)), (qH, .inl (cy.1, 12, .inl sh)), (qT, .inl (cy.2.1, 12, .inl (mhFun sr sh ht))), (qD, .inl (cy.1, 12, .inl ((itr (m1Step (mhFun sr sh ht) ar t) (dm, ca, 0) j).1))), (qR, .inl (cy.2.1, 12, .inl ((itr (m1Step (mhFun sr sh ht) ar t) (dm, ca, 0) j).2.1)))] rfl rfl ?_
      refine x_goto C 42 dX5_lays_38 (by decide) ?_
      refine x_iastN (q := 43) C (j + 1) 6 (upd ((itr (m1Step (mhFun sr sh ht) ar t) (dm, ca, 0) j).1) (j + 1) (pWant (ar (j + 1)) t)) [(qo, .inr (5, [.int th, .int hh, .int tt, .ref qF, .ref qL, .ref qA, .ref qE, .ref qH, .ref qB, .int (nI n), .ref qS, .ref qP, .ref qC, .int mc, .ref qT, .ref qD, .ref qR, .ref qX, .ref qG, .ref qM, .ref qU, .int ml])), (qF, .inl (cy.1, 12, .inl (fun i => nI (sr i)))), (qL, .inl (cy.1, 12, .inl lo)), (qA, .inl (cy.1, 12, .inl ar)), (qH, .inl (cy.1, 12, .inl sh)), (qT, .inl (cy.2.1, 12, .inl (mhFun sr sh ht))), (qD, .inl (cy.1, 12, .inl (upd ((itr (m1Step (mhFun sr sh ht) ar t) (dm, ca, 0) j).1) (j + 1) (pWant (ar (j + 1)) t)))), (qR, .inl (cy.2.1, 12, .inl ((itr (m1Step (mhFun sr sh ht) ar t) (dm, ca, 0) j).2.1)))] rfl rfl (by omega) (by omega) rfl rfl dX5_lays_42 rfl ?_
      refine x_aload_n (q := 44) C 2 rfl dX5_lays_43 rfl ?_
      refine x_get (q := 47) C (T := TX5) iw_X5_lays_X5 rfl 0 16 rfl (by decide) rfl (by decide +kernel : Cond.fieldLink RX5 44 RX5 "carries" "[Z" ∈ wsX5_lays) rfl dX5_lays_44 rfl ?_
      refine x_iload_n (q := 48) C 0 rfl dX5_lays_47 rfl ?_
      refine x_aload_n (q := 49) C 2 rfl dX5_lays_48 rfl ?_
      refine x_get (q := 52) C (T := TX5) iw_X5_lays_X5 rfl 0 15 rfl (by decide) rfl (by decide +kernel : Cond.fieldLink RX5 41 RX5 "demands" "[I" ∈ wsX5_lays) rfl dX5_lays_49 rfl ?_
      refine x_iload_n (q := 53) C 0 rfl dX5_lays_52 rfl ?_
      refine x_ialdN (q := 54) C (j + 1) 6 (pWant (ar (j + 1)) t) rfl rfl (by omega) (by omega) pk_us dX5_lays_53 rfl ?_
      refine x_if_le (q := 57) C 61 dX5_lays_54 (by decide) rfl (fun c_54 => ?_) (fun c_54 => ?_)
      · refine x_iconst (q := 62) C 0 rfl dX5_lays_61 rfl ?_
        refine x_zastN (q := 63) C (j + 1) 7 (upd ((itr (m1Step (mhFun sr sh ht) ar t) (dm, ca, 0) j).2.1) (j + 1) 0) [(qo, .inr (5, [.int th, .int hh, .int tt, .ref qF, .ref qL, .ref qA, .ref qE, .ref qH, .ref qB, .int (nI n), .ref qS, .ref qP, .ref qC, .int mc, .ref qT, .ref qD, .ref qR, .ref qX, .ref qG, .ref qM, .ref qU, .int ml])), (qF, .inl (cy.1, 12, .inl (fun i => nI (sr i)))), (qL, .inl (cy.1, 12, .inl lo)), (qA, .inl (cy.1, 12, .inl ar)), (qH, .inl (cy.1, 12, .inl sh)), (qT, .inl (cy.2.1, 12, .inl (mhFun sr sh ht))), (qD, .inl (cy.1, 12, .inl (upd ((itr (m1Step (mhFun sr sh ht) ar t) (dm, ca, 0) j).1) (j + 1) (pWant (ar (j + 1)) t)))), (qR, .inl (cy.2.1, 12, .inl (upd ((itr (m1Step (mhFun sr sh ht) ar t) (dm, ca, 0) j).2.1) (j + 1) 0)))] rfl rfl (by omega) (by omega) (congrArg _ vpz0) rfl dX5_lays_62 rfl ?_
        refine x_iload_n (q := 64) C 1 rfl dX5_lays_63 rfl ?_
        refine x_aload_n (q := 65) C 2 rfl dX5_lays_64 rfl ?_
        refine x_get (q := 68) C (T := TX5) iw_X5_lays_X5 rfl 0 15 rfl (by decide) rfl (by decide +kernel : Cond.fieldLink RX5 41 RX5 "demands" "[I" ∈ wsX5_lays) rfl dX5_lays_65 rfl ?_
        refine x_iload_n (q := 69) C 0 rfl dX5_lays_68 rfl ?_
        refine x_ialdN (q := 70) C (j + 1) 6 (pWant (ar (j + 1)) t) rfl rfl (by omega) (by omega) pk_us dX5_lays_69 rfl ?_
        refine x_iadd (q := 71) C (((itr (m1Step (mhFun sr sh ht) ar t) (dm, ca, 0) j).2.2) + (pWant (ar (j + 1)) t)) (rfl) dX5_lays_70 rfl ?_
        refine x_istore_n (q := 72) C [(2, .int (((itr (m1Step (mhFun sr sh ht) ar t) (dm, ca, 0) j).2.2) + (pWant (ar (j + 1)) t))), (3, .int (nI (j + 1))), (0, .ref qo), (1, .int t)] dX5_lays_71 (by decide) rfl rfl ?_
        refine x_iinc (q := 75) C 1 (nI ((j + 1) + 1)) [(3, .int (nI ((j + 1) + 1))), (2, .int (((itr (m1Step (mhFun sr sh ht) ar t) (dm, ca, 0) j).2.2) + (pWant (ar (j + 1)) t))), (0, .ref qo), (1, .int t)] dX5_lays_72 rfl (nI_1 _) (by decide) rfl rfl ?_
        refine x_goto C 8 dX5_lays_75 (by decide) ?_
        refine x_less [0, 1, 2, 3] [(3, .int (nI ((j + 1) + 1))), (2, .int (((itr (m1Step (mhFun sr sh ht) ar t) (dm, ca, 0) j).2.2) + (pWant (ar (j + 1)) t))), (0, .ref qo), (1, .int t)] rfl ?_
        have e9 : (itr (m1Step (mhFun sr sh ht) ar t) (dm, ca, 0) (j + 1)) = (upd ((itr (m1Step (mhFun sr sh ht) ar t) (dm, ca, 0) j).1) (j + 1) (pWant (ar (j + 1)) t), upd ((itr (m1Step (mhFun sr sh ht) ar t) (dm, ca, 0) j).2.1) (j + 1) 0, ((itr (m1Step (mhFun sr sh ht) ar t) (dm, ca, 0) j).2.2) + (pWant (ar (j + 1)) t)) := by
          show m1Step (mhFun sr sh ht) ar t j (itr (m1Step (mhFun sr sh ht) ar t) (dm, ca, 0) j) = _
          simp only [m1Step, mV, if00, if_neg c_25, if_pos c_54]
        refine x_less [0, 1, 2, 3] [(3, .int (nI ((j + 1) + 1))), (2, .int ((itr (m1Step (mhFun sr sh ht) ar t) (dm, ca, 0) (j + 1)).2.2)), (0, .ref qo), (1, .int t)] (by first | rfl | (rw [e9]; rfl)) ?_
        refine x_world (X' := [(qo, .inr (5, [.int th, .int hh, .int tt, .ref qF, .ref qL, .ref qA, .ref qE, .ref qH, .ref qB, .int (nI n), .ref qS, .ref qP, .ref qC, .int mc, .ref qT, .ref qD, .ref qR, .ref qX, .ref qG, .ref qM, .ref qU, .int ml])), (qF, .inl (cy.1, 12, .inl (fun i => nI (sr i)))), (qL, .inl (cy.1, 12, .inl lo)), (qA, .inl (cy.1, 12, .inl ar)), (qH, .inl (cy.1, 12, .inl sh)), (qT, .inl (cy.2.1, 12, .inl (mhFun sr sh ht))), (qD, .inl (cy.1, 12, .inl ((itr (m1Step (mhFun sr sh ht) ar t) (dm, ca, 0) (j + 1)).1))), (qR, .inl (cy.2.1, 12, .inl ((itr (m1Step (mhFun sr sh ht) ar t) (dm, ca, 0) (j + 1)).2.1)))]) (pl' := []) (by first | rfl | rw [e9]) ?_
        exact ih_j
      · refine x_iconst (q := 58) C 1 rfl dX5_lays_57 rfl ?_
        refine x_goto C 62 dX5_lays_58 (by decide) ?_
        refine x_zastN (q := 63) C (j + 1) 7 (upd ((itr (m1Step (mhFun sr sh ht) ar t) (dm, ca, 0) j).2.1) (j + 1) 1) [(qo, .inr (5, [.int th, .int hh, .int tt, .ref qF, .ref qL, .ref qA, .ref qE, .ref qH, .ref qB, .int (nI n), .ref qS, .ref qP, .ref qC, .int mc, .ref qT, .ref qD, .ref qR, .ref qX, .ref qG, .ref qM, .ref qU, .int ml])), (qF, .inl (cy.1, 12, .inl (fun i => nI (sr i)))), (qL, .inl (cy.1, 12, .inl lo)), (qA, .inl (cy.1, 12, .inl ar)), (qH, .inl (cy.1, 12, .inl sh)), (qT, .inl (cy.2.1, 12, .inl (mhFun sr sh ht))), (qD, .inl (cy.1, 12, .inl (upd ((itr (m1Step (mhFun sr sh ht) ar t) (dm, ca, 0) j).1) (j + 1) (pWant (ar (j + 1)) t)))), (qR, .inl (cy.2.1, 12, .inl (upd ((itr (m1Step (mhFun sr sh ht) ar t) (dm, ca, 0) j).2.1) (j + 1) 1)))] rfl rfl (by omega) (by omega) (congrArg _ vpz1) rfl dX5_lays_62 rfl ?_
        refine x_iload_n (q := 64) C 1 rfl dX5_lays_63 rfl ?_
        refine x_aload_n (q := 65) C 2 rfl dX5_lays_64 rfl ?_
        refine x_get (q := 68) C (T := TX5) iw_X5_lays_X5 rfl 0 15 rfl (by decide) rfl (by decide +kernel : Cond.fieldLink RX5 41 RX5 "demands" "[I" ∈ wsX5_lays) rfl dX5_lays_65 rfl ?_
        refine x_iload_n (q := 69) C 0 rfl dX5_lays_68 rfl ?_
        refine x_ialdN (q := 70) C (j + 1) 6 (pWant (ar (j + 1)) t) rfl rfl (by omega) (by omega) pk_us dX5_lays_69 rfl ?_
        refine x_iadd (q := 71) C (((itr (m1Step (mhFun sr sh ht) ar t) (dm, ca, 0) j).2.2) + (pWant (ar (j + 1)) t)) (rfl) dX5_lays_70 rfl ?_
        refine x_istore_n (q := 72) C [(2, .int (((itr (m1Step (mhFun sr sh ht) ar t) (dm, ca, 0) j).2.2) + (pWant (ar (j + 1)) t))), (3, .int (nI (j + 1))), (0, .ref qo), (1, .int t)] dX5_lays_71 (by decide) rfl rfl ?_
        refine x_iinc (q := 75) C 1 (nI ((j + 1) + 1)) [(3, .int (nI ((j + 1) + 1))), (2, .int (((itr (m1Step (mhFun sr sh ht) ar t) (dm, ca, 0) j).2.2) + (pWant (ar (j + 1)) t))), (0, .ref qo), (1, .int t)] dX5_lays_72 rfl (nI_1 _) (by decide) rfl rfl ?_
        refine x_goto C 8 dX5_lays_75 (by decide) ?_
        refine x_less [0, 1, 2, 3] [(3, .int (nI ((j + 1) + 1))), (2, .int (((itr (m1Step (mhFun sr sh ht) ar t) (dm, ca, 0) j).2.2) + (pWant (ar (j + 1)) t))), (0, .ref qo), (1, .int t)] rfl ?_
        have e9 : (itr (m1Step (mhFun sr sh ht) ar t) (dm, ca, 0) (j + 1)) = (upd ((itr (m1Step (mhFun sr sh ht) ar t) (dm, ca, 0) j).1) (j + 1) (pWant (ar (j + 1)) t), upd ((itr (m1Step (mhFun sr sh ht) ar t) (dm, ca, 0) j).2.1) (j + 1) 1, ((itr (m1Step (mhFun sr sh ht) ar t) (dm, ca, 0) j).2.2) + (pWant (ar (j + 1)) t)) := by
          show m1Step (mhFun sr sh ht) ar t j (itr (m1Step (mhFun sr sh ht) ar t) (dm, ca, 0) j) = _
          simp only [m1Step, mV, if00, if_neg c_25, if_neg c_54]
        refine x_less [0, 1, 2, 3] [(3, .int (nI ((j + 1) + 1))), (2, .int ((itr (m1Step (mhFun sr sh ht) ar t) (dm, ca, 0) (j + 1)).2.2)), (0, .ref qo), (1, .int t)] (by first | rfl | (rw [e9]; rfl)) ?_
        refine x_world (X' := [(qo, .inr (5, [.int th, .int hh, .int tt, .ref qF, .ref qL, .ref qA, .ref qE, .ref qH, .ref qB, .int (nI n), .ref qS, .ref qP, .ref qC, .int mc, .ref qT, .ref qD, .ref qR, .ref qX, .ref qG, .ref qM, .ref qU, .int ml])), (qF, .inl (cy.1, 12, .inl (fun i => nI (sr i)))), (qL, .inl (cy.1, 12, .inl lo)), (qA, .inl (cy.1, 12, .inl ar)), (qH, .inl (cy.1, 12, .inl sh)), (qT, .inl (cy.2.1, 12, .inl (mhFun sr sh ht))), (qD, .inl (cy.1, 12, .inl ((itr (m1Step (mhFun sr sh ht) ar t) (dm, ca, 0) (j + 1)).1))), (qR, .inl (cy.2.1, 12, .inl ((itr (m1Step (mhFun sr sh ht) ar t) (dm, ca, 0) (j + 1)).2.1)))]) (pl' := []) (by first | rfl | rw [e9]) ?_
        exact ih_j
  · refine x_iload_n (q := 9) C 0 rfl dX5_lays_8 rfl ?_
    refine x_bipush (q := 11) C 12 rfl dX5_lays_9 rfl ?_
    refine x_icmp_ge_t C 78 dX5_lays_11 (by decide) (nI_le (a := 12) (b := (11 + 1)) (by omega) (by omega)) ?_
    refine x_bipush (q := 80) C 11 rfl dX5_lays_78 rfl ?_
    refine x_istore_n (q := 81) C [(3, .int 11), (2, .int ((itr (m1Step (mhFun sr sh ht) ar t) (dm, ca, 0) 11).2.2)), (0, .ref qo), (1, .int t)] dX5_lays_80 (by decide) rfl rfl ?_
    refine x_less [0, 1, 2, 3] [(3, .int 11), (2, .int ((itr (m1Step (mhFun sr sh ht) ar t) (dm, ca, 0) 11).2.2)), (0, .ref qo), (1, .int t)] rfl ?_
    refine x_up (fun j => [(qo, .inr (5, [.int th, .int hh, .int tt, .ref qF, .ref qL, .ref qA, .ref qE, .ref qH, .ref qB, .int (nI n), .ref qS, .ref qP, .ref qC, .int mc, .ref qT, .ref qD, .ref qR, .ref qX, .ref qG, .ref qM, .ref qU, .int ml])), (qF, .inl (cy.1, 12, .inl (fun i => nI (sr i)))), (qL, .inl (cy.1, 12, .inl lo)), (qA, .inl (cy.1, 12, .inl ar)), (qH, .inl (cy.1, 12, .inl sh)), (qT, .inl (cy.2.1, 12, .inl (mhFun sr sh ht))), (qD, .inl (cy.1, 12, .inl ((m1Fun (mhFun sr sh ht) ar t dm ca).1))), (qR, .inl (cy.2.1, 12, .inl ((itr (m2Step sr lo) ((m1Fun (mhFun sr sh ht) ar t dm ca).2.1, (m1Fun (mhFun sr sh ht) ar t dm ca).2.2) j).1)))]) (fun j => [(3, .int (nI (11 - j))), (2, .int ((itr (m2Step sr lo) ((m1Fun (mhFun sr sh ht) ar t dm ca).2.1, (m1Fun (mhFun sr sh ht) ar t dm ca).2.2) j).2)), (0, .ref qo), (1, .int t)]) 11 rfl rfl (fun j h_j ih_j => ?_) ?_
    · refine x_iload_n (q := 82) C 0 rfl dX5_lays_81 rfl ?_
      refine x_if_le_f (q := 85) C 152 dX5_lays_82 (by decide) rfl (nI_ge (a := 0) (b := (11 - j)) (by omega) (by omega)) ?_
      refine x_aload_n (q := 86) C 2 rfl dX5_lays_85 rfl ?_
      refine x_get (q := 89) C (T := TX5) iw_X5_lays_X5 rfl 0 16 rfl (by decide) rfl (by decide +kernel : Cond.fieldLink RX5 44 RX5 "carries" "[Z" ∈ wsX5_lays) rfl dX5_lays_86 rfl ?_
      refine x_aload_n (q := 90) C 2 rfl dX5_lays_89 rfl ?_
      refine x_get (q := 93) C (T := TX5) iw_X5_lays_X5 rfl 0 3 rfl (by decide) rfl (by decide +kernel : Cond.fieldLink RX5 7 RX5 "from" "[I" ∈ wsX5_lays) rfl dX5_lays_90 rfl ?_
      refine x_iload_n (q := 94) C 0 rfl dX5_lays_93 rfl ?_
      refine x_ialdN (q := 95) C (11 - j) 1 (nI (sr (11 - j))) rfl rfl (by omega) (by omega) rfl dX5_lays_94 rfl ?_
      refine x_aload_n (q := 96) C 2 rfl dX5_lays_95 rfl ?_
      refine x_get (q := 99) C (T := TX5) iw_X5_lays_X5 rfl 0 16 rfl (by decide) rfl (by decide +kernel : Cond.fieldLink RX5 44 RX5 "carries" "[Z" ∈ wsX5_lays) rfl dX5_lays_96 rfl ?_
      refine x_aload_n (q := 100) C 2 rfl dX5_lays_99 rfl ?_
      refine x_get (q := 103) C (T := TX5) iw_X5_lays_X5 rfl 0 3 rfl (by decide) rfl (by decide +kernel : Cond.fieldLink RX5 7 RX5 "from" "[I" ∈ wsX5_lays) rfl dX5_lays_100 rfl ?_
      refine x_iload_n (q := 104) C 0 rfl dX5_lays_103 rfl ?_
      refine x_ialdN (q := 105) C (11 - j) 1 (nI (sr (11 - j))) rfl rfl (by omega) (by omega) rfl dX5_lays_104 rfl ?_
      refine x_zaldN (q := 106) C (sr (11 - j)) 7 (((itr (m2Step sr lo) ((m1Fun (mhFun sr sh ht) ar t dm ca).2.1, (m1Fun (mhFun sr sh ht) ar t dm ca).2.2) j).1) (sr (11 - j))) rfl rfl (by have := hsr (11 - j) (by omega) (by omega); omega) (by omega) rfl dX5_lays_105 rfl ?_
      refine x_if_ne (q := 109) C 118 dX5_lays_106 (by decide) rfl (fun c_106 => ?_) (fun c_106 => ?_)
      · refine x_iconst (q := 119) C 1 rfl dX5_lays_118 rfl ?_
        refine x_goto C 123 dX5_lays_119 (by decide) ?_
        refine x_zastN (q := 124) C (sr (11 - j)) 7 (upd ((itr (m2Step sr lo) ((m1Fun (mhFun sr sh ht) ar t dm ca).2.1, (m1Fun (mhFun sr sh ht) ar t dm ca).2.2) j).1) (sr (11 - j)) 1) [(qo, .inr (5, [.int th, .int hh, .int tt, .ref qF, .ref qL, .ref qA, .ref qE, .ref qH, .ref qB, .int (nI n), .ref qS, .ref qP, .ref qC, .int mc, .ref qT, .ref qD, .ref qR, .ref qX, .ref qG, .ref qM, .ref qU, .int ml])), (qF, .inl (cy.1, 12, .inl (fun i => nI (sr i)))), (qL, .inl (cy.1, 12, .inl lo)), (qA, .inl (cy.1, 12, .inl ar)), (qH, .inl (cy.1, 12, .inl sh)), (qT, .inl (cy.2.1, 12, .inl (mhFun sr sh ht))), (qD, .inl (cy.1, 12, .inl ((m1Fun (mhFun sr sh ht) ar t dm ca).1))), (qR, .inl (cy.2.1, 12, .inl (upd ((itr (m2Step sr lo) ((m1Fun (mhFun sr sh ht) ar t dm ca).2.1, (m1Fun (mhFun sr sh ht) ar t dm ca).2.2) j).1) (sr (11 - j)) 1)))] rfl rfl (by have := hsr (11 - j) (by omega) (by omega); omega) (by omega) (congrArg _ vpz1) rfl dX5_lays_123 rfl ?_
        refine x_iload_n (q := 125) C 1 rfl dX5_lays_124 rfl ?_
        refine x_aload_n (q := 126) C 2 rfl dX5_lays_125 rfl ?_
        refine x_get (q := 129) C (T := TX5) iw_X5_lays_X5 rfl 0 16 rfl (by decide) rfl (by decide +kernel : Cond.fieldLink RX5 44 RX5 "carries" "[Z" ∈ wsX5_lays) rfl dX5_lays_126 rfl ?_
        refine x_iload_n (q := 130) C 0 rfl dX5_lays_129 rfl ?_
        refine x_zaldN (q := 131) C (11 - j) 7 ((upd ((itr (m2Step sr lo) ((m1Fun (mhFun sr sh ht) ar t dm ca).2.1, (m1Fun (mhFun sr sh ht) ar t dm ca).2.2) j).1) (sr (11 - j)) 1) (11 - j)) rfl rfl (by omega) (by omega) rfl dX5_lays_130 rfl ?_
        refine x_if_eq (q := 134) C 143 dX5_lays_131 (by decide) rfl (fun c_131 => ?_) (fun c_131 => ?_)
        · refine x_iconst (q := 144) C 0 rfl dX5_lays_143 rfl ?_
          refine x_iadd (q := 145) C (((itr (m2Step sr lo) ((m1Fun (mhFun sr sh ht) ar t dm ca).2.1, (m1Fun (mhFun sr sh ht) ar t dm ca).2.2) j).2) + 0) (rfl) dX5_lays_144 rfl ?_
          refine x_istore_n (q := 146) C [(2, .int (((itr (m2Step sr lo) ((m1Fun (mhFun sr sh ht) ar t dm ca).2.1, (m1Fun (mhFun sr sh ht) ar t dm ca).2.2) j).2) + 0)), (3, .int (nI (11 - j))), (0, .ref qo), (1, .int t)] dX5_lays_145 (by decide) rfl rfl ?_
          refine x_iinc (q := 149) C 1 (nI (11 - (j + 1))) [(3, .int (nI (11 - (j + 1)))), (2, .int (((itr (m2Step sr lo) ((m1Fun (mhFun sr sh ht) ar t dm ca).2.1, (m1Fun (mhFun sr sh ht) ar t dm ca).2.2) j).2) + 0)), (0, .ref qo), (1, .int t)] dX5_lays_146 rfl (nI_dn h_j) (by decide) rfl rfl ?_
          refine x_goto C 81 dX5_lays_149 (by decide) ?_
          refine x_less [0, 1, 2, 3] [(3, .int (nI (11 - (j + 1)))), (2, .int (((itr (m2Step sr lo) ((m1Fun (mhFun sr sh ht) ar t dm ca).2.1, (m1Fun (mhFun sr sh ht) ar t dm ca).2.2) j).2) + 0)), (0, .ref qo), (1, .int t)] rfl ?_
          have e9 : (itr (m2Step sr lo) ((m1Fun (mhFun sr sh ht) ar t dm ca).2.1, (m1Fun (mhFun sr sh ht) ar t dm ca).2.2) (j + 1)) = (upd ((itr (m2Step sr lo) ((m1Fun (mhFun sr sh ht) ar t dm ca).2.1, (m1Fun (mhFun sr sh ht) ar t dm ca).2.2) j).1) (sr (11 - j)) 1, ((itr (m2Step sr lo) ((m1Fun (mhFun sr sh ht) ar t dm ca).2.1, (m1Fun (mhFun sr sh ht) ar t dm ca).2.2) j).2) + 0) := by
            show m2Step sr lo j (itr (m2Step sr lo) ((m1Fun (mhFun sr sh ht) ar t dm ca).2.1, (m1Fun (mhFun sr sh ht) ar t dm ca).2.2) j) = _
            simp only [m2Step, m2C, if_neg c_106, if_pos c_131]
          refine x_less [0, 1, 2, 3] [(3, .int (nI (11 - (j + 1)))), (2, .int ((itr (m2Step sr lo) ((m1Fun (mhFun sr sh ht) ar t dm ca).2.1, (m1Fun (mhFun sr sh ht) ar t dm ca).2.2) (j + 1)).2)), (0, .ref qo), (1, .int t)] (by first | rfl | (rw [e9]; rfl)) ?_
          refine x_world (X' := [(qo, .inr (5, [.int th, .int hh, .int tt, .ref qF, .ref qL, .ref qA, .ref qE, .ref qH, .ref qB, .int (nI n), .ref qS, .ref qP, .ref qC, .int mc, .ref qT, .ref qD, .ref qR, .ref qX, .ref qG, .ref qM, .ref qU, .int ml])), (qF, .inl (cy.1, 12, .inl (fun i => nI (sr i)))), (qL, .inl (cy.1, 12, .inl lo)), (qA, .inl (cy.1, 12, .inl ar)), (qH, .inl (cy.1, 12, .inl sh)), (qT, .inl (cy.2.1, 12, .inl (mhFun sr sh ht))), (qD, .inl (cy.1, 12, .inl ((m1Fun (mhFun sr sh ht) ar t dm ca).1))), (qR, .inl (cy.2.1, 12, .inl ((itr (m2Step sr lo) ((m1Fun (mhFun sr sh ht) ar t dm ca).2.1, (m1Fun (mhFun sr sh ht) ar t dm ca).2.2) (j + 1)).1)))]) (pl' := []) (by first | rfl | rw [e9]) ?_
          exact ih_j
        · refine x_aload_n (q := 135) C 2 rfl dX5_lays_134 rfl ?_
          refine x_get (q := 138) C (T := TX5) iw_X5_lays_X5 rfl 0 4 rfl (by decide) rfl (by decide +kernel : Cond.fieldLink RX5 13 RX5 "loss" "[I" ∈ wsX5_lays) rfl dX5_lays_135 rfl ?_
          refine x_iload_n (q := 139) C 0 rfl dX5_lays_138 rfl ?_
          refine x_ialdN (q := 140) C (11 - j) 2 (lo (11 - j)) rfl rfl (by omega) (by omega) rfl dX5_lays_139 rfl ?_
          refine x_goto C 144 dX5_lays_140 (by decide) ?_
          refine x_iadd (q := 145) C (((itr (m2Step sr lo) ((m1Fun (mhFun sr sh ht) ar t dm ca).2.1, (m1Fun (mhFun sr sh ht) ar t dm ca).2.2) j).2) + (lo (11 - j))) (rfl) dX5_lays_144 rfl ?_
          refine x_istore_n (q := 146) C [(2, .int (((itr (m2Step sr lo) ((m1Fun (mhFun sr sh ht) ar t dm ca).2.1, (m1Fun (mhFun sr sh ht) ar t dm ca).2.2) j).2) + (lo (11 - j)))), (3, .int (nI (11 - j))), (0, .ref qo), (1, .int t)] dX5_lays_145 (by decide) rfl rfl ?_
          refine x_iinc (q := 149) C 1 (nI (11 - (j + 1))) [(3, .int (nI (11 - (j + 1)))), (2, .int (((itr (m2Step sr lo) ((m1Fun (mhFun sr sh ht) ar t dm ca).2.1, (m1Fun (mhFun sr sh ht) ar t dm ca).2.2) j).2) + (lo (11 - j)))), (0, .ref qo), (1, .int t)] dX5_lays_146 rfl (nI_dn h_j) (by decide) rfl rfl ?_
          refine x_goto C 81 dX5_lays_149 (by decide) ?_
          refine x_less [0, 1, 2, 3] [(3, .int (nI (11 - (j + 1)))), (2, .int (((itr (m2Step sr lo) ((m1Fun (mhFun sr sh ht) ar t dm ca).2.1, (m1Fun (mhFun sr sh ht) ar t dm ca).2.2) j).2) + (lo (11 - j)))), (0, .ref qo), (1, .int t)] rfl ?_
          have e9 : (itr (m2Step sr lo) ((m1Fun (mhFun sr sh ht) ar t dm ca).2.1, (m1Fun (mhFun sr sh ht) ar t dm ca).2.2) (j + 1)) = (upd ((itr (m2Step sr lo) ((m1Fun (mhFun sr sh ht) ar t dm ca).2.1, (m1Fun (mhFun sr sh ht) ar t dm ca).2.2) j).1) (sr (11 - j)) 1, ((itr (m2Step sr lo) ((m1Fun (mhFun sr sh ht) ar t dm ca).2.1, (m1Fun (mhFun sr sh ht) ar t dm ca).2.2) j).2) + (lo (11 - j))) := by
            show m2Step sr lo j (itr (m2Step sr lo) ((m1Fun (mhFun sr sh ht) ar t dm ca).2.1, (m1Fun (mhFun sr sh ht) ar t dm ca).2.2) j) = _
            simp only [m2Step, m2C, if_neg c_106, if_neg c_131]
          refine x_less [0, 1, 2, 3] [(3, .int (nI (11 - (j + 1)))), (2, .int ((itr (m2Step sr lo) ((m1Fun (mhFun sr sh ht) ar t dm ca).2.1, (m1Fun (mhFun sr sh ht) ar t dm ca).2.2) (j + 1)).2)), (0, .ref qo), (1, .int t)] (by first | rfl | (rw [e9]; rfl)) ?_
          refine x_world (X' := [(qo, .inr (5, [.int th, .int hh, .int tt, .ref qF, .ref qL, .ref qA, .ref qE, .ref qH, .ref qB, .int (nI n), .ref qS, .ref qP, .ref qC, .int mc, .ref qT, .ref qD, .ref qR, .ref qX, .ref qG, .ref qM, .ref qU, .int ml])), (qF, .inl (cy.1, 12, .inl (fun i => nI (sr i)))), (qL, .inl (cy.1, 12, .inl lo)), (qA, .inl (cy.1, 12, .inl ar)), (qH, .inl (cy.1, 12, .inl sh)), (qT, .inl (cy.2.1, 12, .inl (mhFun sr sh ht))), (qD, .inl (cy.1, 12, .inl ((m1Fun (mhFun sr sh ht) ar t dm ca).1))), (qR, .inl (cy.2.1, 12, .inl ((itr (m2Step sr lo) ((m1Fun (mhFun sr sh ht) ar t dm ca).2.1, (m1Fun (mhFun sr sh ht) ar t dm ca).2.2) (j + 1)).1)))]) (pl' := []) (by first | rfl | rw [e9]) ?_
          exact ih_j
      · refine x_aload_n (q := 110) C 2 rfl dX5_lays_109 rfl ?_
        refine x_get (q := 113) C (T := TX5) iw_X5_lays_X5 rfl 0 16 rfl (by decide) rfl (by decide +kernel : Cond.fieldLink RX5 44 RX5 "carries" "[Z" ∈ wsX5_lays) rfl dX5_lays_110 rfl ?_
        refine x_iload_n (q := 114) C 0 rfl dX5_lays_113 rfl ?_
        refine x_zaldN (q := 115) C (11 - j) 7 (((itr (m2Step sr lo) ((m1Fun (mhFun sr sh ht) ar t dm ca).2.1, (m1Fun (mhFun sr sh ht) ar t dm ca).2.2) j).1) (11 - j)) rfl rfl (by omega) (by omega) rfl dX5_lays_114 rfl ?_
        refine x_if_eq (q := 118) C 122 dX5_lays_115 (by decide) rfl (fun c_115 => ?_) (fun c_115 => ?_)
        · refine x_iconst (q := 123) C 0 rfl dX5_lays_122 rfl ?_
          refine x_zastN (q := 124) C (sr (11 - j)) 7 (upd ((itr (m2Step sr lo) ((m1Fun (mhFun sr sh ht) ar t dm ca).2.1, (m1Fun (mhFun sr sh ht) ar t dm ca).2.2) j).1) (sr (11 - j)) 0) [(qo, .inr (5, [.int th, .int hh, .int tt, .ref qF, .ref qL, .ref qA, .ref qE, .ref qH, .ref qB, .int (nI n), .ref qS, .ref qP, .ref qC, .int mc, .ref qT, .ref qD, .ref qR, .ref qX, .ref qG, .ref qM, .ref qU, .int ml])), (qF, .inl (cy.1, 12, .inl (fun i => nI (sr i)))), (qL, .inl (cy.1, 12, .inl lo)), (qA, .inl (cy.1, 12, .inl ar)), (qH, .inl (cy.1, 12, .inl sh)), (qT, .inl (cy.2.1, 12, .inl (mhFun sr sh ht))), (qD, .inl (cy.1, 12, .inl ((m1Fun (mhFun sr sh ht) ar t dm ca).1))), (qR, .inl (cy.2.1, 12, .inl (upd ((itr (m2Step sr lo) ((m1Fun (mhFun sr sh ht) ar t dm ca).2.1, (m1Fun (mhFun sr sh ht) ar t dm ca).2.2) j).1) (sr (11 - j)) 0)))] rfl rfl (by have := hsr (11 - j) (by omega) (by omega); omega) (by omega) (congrArg _ vpz0) rfl dX5_lays_123 rfl ?_
          refine x_iload_n (q := 125) C 1 rfl dX5_lays_124 rfl ?_
          refine x_aload_n (q := 126) C 2 rfl dX5_lays_125 rfl ?_
          refine x_get (q := 129) C (T := TX5) iw_X5_lays_X5 rfl 0 16 rfl (by decide) rfl (by decide +kernel : Cond.fieldLink RX5 44 RX5 "carries" "[Z" ∈ wsX5_lays) rfl dX5_lays_126 rfl ?_
          refine x_iload_n (q := 130) C 0 rfl dX5_lays_129 rfl ?_
          refine x_zaldN (q := 131) C (11 - j) 7 ((upd ((itr (m2Step sr lo) ((m1Fun (mhFun sr sh ht) ar t dm ca).2.1, (m1Fun (mhFun sr sh ht) ar t dm ca).2.2) j).1) (sr (11 - j)) 0) (11 - j)) rfl rfl (by omega) (by omega) rfl dX5_lays_130 rfl ?_
          refine x_if_eq (q := 134) C 143 dX5_lays_131 (by decide) rfl (fun c_131 => ?_) (fun c_131 => ?_)
          · refine x_iconst (q := 144) C 0 rfl dX5_lays_143 rfl ?_
            refine x_iadd (q := 145) C (((itr (m2Step sr lo) ((m1Fun (mhFun sr sh ht) ar t dm ca).2.1, (m1Fun (mhFun sr sh ht) ar t dm ca).2.2) j).2) + 0) (rfl) dX5_lays_144 rfl ?_
            refine x_istore_n (q := 146) C [(2, .int (((itr (m2Step sr lo) ((m1Fun (mhFun sr sh ht) ar t dm ca).2.1, (m1Fun (mhFun sr sh ht) ar t dm ca).2.2) j).2) + 0)), (3, .int (nI (11 - j))), (0, .ref qo), (1, .int t)] dX5_lays_145 (by decide) rfl rfl ?_
            refine x_iinc (q := 149) C 1 (nI (11 - (j + 1))) [(3, .int (nI (11 - (j + 1)))), (2, .int (((itr (m2Step sr lo) ((m1Fun (mhFun sr sh ht) ar t dm ca).2.1, (m1Fun (mhFun sr sh ht) ar t dm ca).2.2) j).2) + 0)), (0, .ref qo), (1, .int t)] dX5_lays_146 rfl (nI_dn h_j) (by decide) rfl rfl ?_
            refine x_goto C 81 dX5_lays_149 (by decide) ?_
            refine x_less [0, 1, 2, 3] [(3, .int (nI (11 - (j + 1)))), (2, .int (((itr (m2Step sr lo) ((m1Fun (mhFun sr sh ht) ar t dm ca).2.1, (m1Fun (mhFun sr sh ht) ar t dm ca).2.2) j).2) + 0)), (0, .ref qo), (1, .int t)] rfl ?_
            have e9 : (itr (m2Step sr lo) ((m1Fun (mhFun sr sh ht) ar t dm ca).2.1, (m1Fun (mhFun sr sh ht) ar t dm ca).2.2) (j + 1)) = (upd ((itr (m2Step sr lo) ((m1Fun (mhFun sr sh ht) ar t dm ca).2.1, (m1Fun (mhFun sr sh ht) ar t dm ca).2.2) j).1) (sr (11 - j)) 0, ((itr (m2Step sr lo) ((m1Fun (mhFun sr sh ht) ar t dm ca).2.1, (m1Fun (mhFun sr sh ht) ar t dm ca).2.2) j).2) + 0) := by
              show m2Step sr lo j (itr (m2Step sr lo) ((m1Fun (mhFun sr sh ht) ar t dm ca).2.1, (m1Fun (mhFun sr sh ht) ar t dm ca).2.2) j) = _
              simp only [m2Step, m2C, if_pos c_106, if_pos c_115, if_pos c_131]
            refine x_less [0, 1, 2, 3] [(3, .int (nI (11 - (j + 1)))), (2, .int ((itr (m2Step sr lo) ((m1Fun (mhFun sr sh ht) ar t dm ca).2.1, (m1Fun (mhFun sr sh ht) ar t dm ca).2.2) (j + 1)).2)), (0, .ref qo), (1, .int t)] (by first | rfl | (rw [e9]; rfl)) ?_
            refine x_world (X' := [(qo, .inr (5, [.int th, .int hh, .int tt, .ref qF, .ref qL, .ref qA, .ref qE, .ref qH, .ref qB, .int (nI n), .ref qS, .ref qP, .ref qC, .int mc, .ref qT, .ref qD, .ref qR, .ref qX, .ref qG, .ref qM, .ref qU, .int ml])), (qF, .inl (cy.1, 12, .inl (fun i => nI (sr i)))), (qL, .inl (cy.1, 12, .inl lo)), (qA, .inl (cy.1, 12, .inl ar)), (qH, .inl (cy.1, 12, .inl sh)), (qT, .inl (cy.2.1, 12, .inl (mhFun sr sh ht))), (qD, .inl (cy.1, 12, .inl ((m1Fun (mhFun sr sh ht) ar t dm ca).1))), (qR, .inl (cy.2.1, 12, .inl ((itr (m2Step sr lo) ((m1Fun (mhFun sr sh ht) ar t dm ca).2.1, (m1Fun (mhFun sr sh ht) ar t dm ca).2.2) (j + 1)).1)))]) (pl' := []) (by first | rfl | rw [e9]) ?_
            exact ih_j
          · refine x_aload_n (q := 135) C 2 rfl dX5_lays_134 rfl ?_
            refine x_get (q := 138) C (T := TX5) iw_X5_lays_X5 rfl 0 4 rfl (by decide) rfl (by decide +kernel : Cond.fieldLink RX5 13 RX5 "loss" "[I" ∈ wsX5_lays) rfl dX5_lays_135 rfl ?_
            refine x_iload_n (q := 139) C 0 rfl dX5_lays_138 rfl ?_
            refine x_ialdN (q := 140) C (11 - j) 2 (lo (11 - j)) rfl rfl (by omega) (by omega) rfl dX5_lays_139 rfl ?_
            refine x_goto C 144 dX5_lays_140 (by decide) ?_
            refine x_iadd (q := 145) C (((itr (m2Step sr lo) ((m1Fun (mhFun sr sh ht) ar t dm ca).2.1, (m1Fun (mhFun sr sh ht) ar t dm ca).2.2) j).2) + (lo (11 - j))) (rfl) dX5_lays_144 rfl ?_
            refine x_istore_n (q := 146) C [(2, .int (((itr (m2Step sr lo) ((m1Fun (mhFun sr sh ht) ar t dm ca).2.1, (m1Fun (mhFun sr sh ht) ar t dm ca).2.2) j).2) + (lo (11 - j)))), (3, .int (nI (11 - j))), (0, .ref qo), (1, .int t)] dX5_lays_145 (by decide) rfl rfl ?_
            refine x_iinc (q := 149) C 1 (nI (11 - (j + 1))) [(3, .int (nI (11 - (j + 1)))), (2, .int (((itr (m2Step sr lo) ((m1Fun (mhFun sr sh ht) ar t dm ca).2.1, (m1Fun (mhFun sr sh ht) ar t dm ca).2.2) j).2) + (lo (11 - j)))), (0, .ref qo), (1, .int t)] dX5_lays_146 rfl (nI_dn h_j) (by decide) rfl rfl ?_
            refine x_goto C 81 dX5_lays_149 (by decide) ?_
            refine x_less [0, 1, 2, 3] [(3, .int (nI (11 - (j + 1)))), (2, .int (((itr (m2Step sr lo) ((m1Fun (mhFun sr sh ht) ar t dm ca).2.1, (m1Fun (mhFun sr sh ht) ar t dm ca).2.2) j).2) + (lo (11 - j)))), (0, .ref qo), (1, .int t)] rfl ?_
            have e9 : (itr (m2Step sr lo) ((m1Fun (mhFun sr sh ht) ar t dm ca).2.1, (m1Fun (mhFun sr sh ht) ar t dm ca).2.2) (j + 1)) = (upd ((itr (m2Step sr lo) ((m1Fun (mhFun sr sh ht) ar t dm ca).2.1, (m1Fun (mhFun sr sh ht) ar t dm ca).2.2) j).1) (sr (11 - j)) 0, ((itr (m2Step sr lo) ((m1Fun (mhFun sr sh ht) ar t dm ca).2.1, (m1Fun (mhFun sr sh ht) ar t dm ca).2.2) j).2) + (lo (11 - j))) := by
              show m2Step sr lo j (itr (m2Step sr lo) ((m1Fun (mhFun sr sh ht) ar t dm ca).2.1, (m1Fun (mhFun sr sh ht) ar t dm ca).2.2) j) = _
              simp only [m2Step, m2C, if_pos c_106, if_pos c_115, if_neg c_131]
            refine x_less [0, 1, 2, 3] [(3, .int (nI (11 - (j + 1)))), (2, .int ((itr (m2Step sr lo) ((m1Fun (mhFun sr sh ht) ar t dm ca).2.1, (m1Fun (mhFun sr sh ht) ar t dm ca).2.2) (j + 1)).2)), (0, .ref qo), (1, .int t)] (by first | rfl | (rw [e9]; rfl)) ?_
            refine x_world (X' := [(qo, .inr (5, [.int th, .int hh, .int tt, .ref qF, .ref qL, .ref qA, .ref qE, .ref qH, .ref qB, .int (nI n), .ref qS, .ref qP, .ref qC, .int mc, .ref qT, .ref qD, .ref qR, .ref qX, .ref qG, .ref qM, .ref qU, .int ml])), (qF, .inl (cy.1, 12, .inl (fun i => nI (sr i)))), (qL, .inl (cy.1, 12, .inl lo)), (qA, .inl (cy.1, 12, .inl ar)), (qH, .inl (cy.1, 12, .inl sh)), (qT, .inl (cy.2.1, 12, .inl (mhFun sr sh ht))), (qD, .inl (cy.1, 12, .inl ((m1Fun (mhFun sr sh ht) ar t dm ca).1))), (qR, .inl (cy.2.1, 12, .inl ((itr (m2Step sr lo) ((m1Fun (mhFun sr sh ht) ar t dm ca).2.1, (m1Fun (mhFun sr sh ht) ar t dm ca).2.2) (j + 1)).1)))]) (pl' := []) (by first | rfl | rw [e9]) ?_
            exact ih_j
        · refine x_iconst (q := 119) C 1 rfl dX5_lays_118 rfl ?_
          refine x_goto C 123 dX5_lays_119 (by decide) ?_
          refine x_zastN (q := 124) C (sr (11 - j)) 7 (upd ((itr (m2Step sr lo) ((m1Fun (mhFun sr sh ht) ar t dm ca).2.1, (m1Fun (mhFun sr sh ht) ar t dm ca).2.2) j).1) (sr (11 - j)) 1) [(qo, .inr (5, [.int th, .int hh, .int tt, .ref qF, .ref qL, .ref qA, .ref qE, .ref qH, .ref qB, .int (nI n), .ref qS, .ref qP, .ref qC, .int mc, .ref qT, .ref qD, .ref qR, .ref qX, .ref qG, .ref qM, .ref qU, .int ml])), (qF, .inl (cy.1, 12, .inl (fun i => nI (sr i)))), (qL, .inl (cy.1, 12, .inl lo)), (qA, .inl (cy.1, 12, .inl ar)), (qH, .inl (cy.1, 12, .inl sh)), (qT, .inl (cy.2.1, 12, .inl (mhFun sr sh ht))), (qD, .inl (cy.1, 12, .inl ((m1Fun (mhFun sr sh ht) ar t dm ca).1))), (qR, .inl (cy.2.1, 12, .inl (upd ((itr (m2Step sr lo) ((m1Fun (mhFun sr sh ht) ar t dm ca).2.1, (m1Fun (mhFun sr sh ht) ar t dm ca).2.2) j).1) (sr (11 - j)) 1)))] rfl rfl (by have := hsr (11 - j) (by omega) (by omega); omega) (by omega) (congrArg _ vpz1) rfl dX5_lays_123 rfl ?_
          refine x_iload_n (q := 125) C 1 rfl dX5_lays_124 rfl ?_
          refine x_aload_n (q := 126) C 2 rfl dX5_lays_125 rfl ?_
          refine x_get (q := 129) C (T := TX5) iw_X5_lays_X5 rfl 0 16 rfl (by decide) rfl (by decide +kernel : Cond.fieldLink RX5 44 RX5 "carries" "[Z" ∈ wsX5_lays) rfl dX5_lays_126 rfl ?_
          refine x_iload_n (q := 130) C 0 rfl dX5_lays_129 rfl ?_
          refine x_zaldN (q := 131) C (11 - j) 7 ((upd ((itr (m2Step sr lo) ((m1Fun (mhFun sr sh ht) ar t dm ca).2.1, (m1Fun (mhFun sr sh ht) ar t dm ca).2.2) j).1) (sr (11 - j)) 1) (11 - j)) rfl rfl (by omega) (by omega) rfl dX5_lays_130 rfl ?_
          refine x_if_eq (q := 134) C 143 dX5_lays_131 (by decide) rfl (fun c_131 => ?_) (fun c_131 => ?_)
          · refine x_iconst (q := 144) C 0 rfl dX5_lays_143 rfl ?_
            refine x_iadd (q := 145) C (((itr (m2Step sr lo) ((m1Fun (mhFun sr sh ht) ar t dm ca).2.1, (m1Fun (mhFun sr sh ht) ar t dm ca).2.2) j).2) + 0) (rfl) dX5_lays_144 rfl ?_
            refine x_istore_n (q := 146) C [(2, .int (((itr (m2Step sr lo) ((m1Fun (mhFun sr sh ht) ar t dm ca).2.1, (m1Fun (mhFun sr sh ht) ar t dm ca).2.2) j).2) + 0)), (3, .int (nI (11 - j))), (0, .ref qo), (1, .int t)] dX5_lays_145 (by decide) rfl rfl ?_
            refine x_iinc (q := 149) C 1 (nI (11 - (j + 1))) [(3, .int (nI (11 - (j + 1)))), (2, .int (((itr (m2Step sr lo) ((m1Fun (mhFun sr sh ht) ar t dm ca).2.1, (m1Fun (mhFun sr sh ht) ar t dm ca).2.2) j).2) + 0)), (0, .ref qo), (1, .int t)] dX5_lays_146 rfl (nI_dn h_j) (by decide) rfl rfl ?_
            refine x_goto C 81 dX5_lays_149 (by decide) ?_
            refine x_less [0, 1, 2, 3] [(3, .int (nI (11 - (j + 1)))), (2, .int (((itr (m2Step sr lo) ((m1Fun (mhFun sr sh ht) ar t dm ca).2.1, (m1Fun (mhFun sr sh ht) ar t dm ca).2.2) j).2) + 0)), (0, .ref qo), (1, .int t)] rfl ?_
            have e9 : (itr (m2Step sr lo) ((m1Fun (mhFun sr sh ht) ar t dm ca).2.1, (m1Fun (mhFun sr sh ht) ar t dm ca).2.2) (j + 1)) = (upd ((itr (m2Step sr lo) ((m1Fun (mhFun sr sh ht) ar t dm ca).2.1, (m1Fun (mhFun sr sh ht) ar t dm ca).2.2) j).1) (sr (11 - j)) 1, ((itr (m2Step sr lo) ((m1Fun (mhFun sr sh ht) ar t dm ca).2.1, (m1Fun (mhFun sr sh ht) ar t dm ca).2.2) j).2) + 0) := by
              show m2Step sr lo j (itr (m2Step sr lo) ((m1Fun (mhFun sr sh ht) ar t dm ca).2.1, (m1Fun (mhFun sr sh ht) ar t dm ca).2.2) j) = _
              simp only [m2Step, m2C, if_pos c_106, if_neg c_115, if_pos c_131]
            refine x_less [0, 1, 2, 3] [(3, .int (nI (11 - (j + 1)))), (2, .int ((itr (m2Step sr lo) ((m1Fun (mhFun sr sh ht) ar t dm ca).2.1, (m1Fun (mhFun sr sh ht) ar t dm ca).2.2) (j + 1)).2)), (0, .ref qo), (1, .int t)] (by first | rfl | (rw [e9]; rfl)) ?_
            refine x_world (X' := [(qo, .inr (5, [.int th, .int hh, .int tt, .ref qF, .ref qL, .ref qA, .ref qE, .ref qH, .ref qB, .int (nI n), .ref qS, .ref qP, .ref qC, .int mc, .ref qT, .ref qD, .ref qR, .ref qX, .ref qG, .ref qM, .ref qU, .int ml])), (qF, .inl (cy.1, 12, .inl (fun i => nI (sr i)))), (qL, .inl (cy.1, 12, .inl lo)), (qA, .inl (cy.1, 12, .inl ar)), (qH, .inl (cy.1, 12, .inl sh)), (qT, .inl (cy.2.1, 12, .inl (mhFun sr sh ht))), (qD, .inl (cy.1, 12, .inl ((m1Fun (mhFun sr sh ht) ar t dm ca).1))), (qR, .inl (cy.2.1, 12, .inl ((itr (m2Step sr lo) ((m1Fun (mhFun sr sh ht) ar t dm ca).2.1, (m1Fun (mhFun sr sh ht) ar t dm ca).2.2) (j + 1)).1)))]) (pl' := []) (by first | rfl | rw [e9]) ?_
            exact ih_j
          · refine x_aload_n (q := 135) C 2 rfl dX5_lays_134 rfl ?_
            refine x_get (q := 138) C (T := TX5) iw_X5_lays_X5 rfl 0 4 rfl (by decide) rfl (by decide +kernel : Cond.fieldLink RX5 13 RX5 "loss" "[I" ∈ wsX5_lays) rfl dX5_lays_135 rfl ?_
            refine x_iload_n (q := 139) C 0 rfl dX5_lays_138 rfl ?_
            refine x_ialdN (q := 140) C (11 - j) 2 (lo (11 - j)) rfl rfl (by omega) (by omega) rfl dX5_lays_139 rfl ?_
            refine x_goto C 144 dX5_lays_140 (by decide) ?_
            refine x_iadd (q := 145) C (((itr (m2Step sr lo) ((m1Fun (mhFun sr sh ht) ar t dm ca).2.1, (m1Fun (mhFun sr sh ht) ar t dm ca).2.2) j).2) + (lo (11 - j))) (rfl) dX5_lays_144 rfl ?_
            refine x_istore_n (q := 146) C [(2, .int (((itr (m2Step sr lo) ((m1Fun (mhFun sr sh ht) ar t dm ca).2.1, (m1Fun (mhFun sr sh ht) ar t dm ca).2.2) j).2) + (lo (11 - j)))), (3, .int (nI (11 - j))), (0, .ref qo), (1, .int t)] dX5_lays_145 (by decide) rfl rfl ?_
            refine x_iinc (q := 149) C 1 (nI (11 - (j + 1))) [(3, .int (nI (11 - (j + 1)))), (2, .int (((itr (m2Step sr lo) ((m1Fun (mhFun sr sh ht) ar t dm ca).2.1, (m1Fun (mhFun sr sh ht) ar t dm ca).2.2) j).2) + (lo (11 - j)))), (0, .ref qo), (1, .int t)] dX5_lays_146 rfl (nI_dn h_j) (by decide) rfl rfl ?_
            refine x_goto C 81 dX5_lays_149 (by decide) ?_
            refine x_less [0, 1, 2, 3] [(3, .int (nI (11 - (j + 1)))), (2, .int (((itr (m2Step sr lo) ((m1Fun (mhFun sr sh ht) ar t dm ca).2.1, (m1Fun (mhFun sr sh ht) ar t dm ca).2.2) j).2) + (lo (11 - j)))), (0, .ref qo), (1, .int t)] rfl ?_
            have e9 : (itr (m2Step sr lo) ((m1Fun (mhFun sr sh ht) ar t dm ca).2.1, (m1Fun (mhFun sr sh ht) ar t dm ca).2.2) (j + 1)) = (upd ((itr (m2Step sr lo) ((m1Fun (mhFun sr sh ht) ar t dm ca).2.1, (m1Fun (mhFun sr sh ht) ar t dm ca).2.2) j).1) (sr (11 - j)) 1, ((itr (m2Step sr lo) ((m1Fun (mhFun sr sh ht) ar t dm ca).2.1, (m1Fun (mhFun sr sh ht) ar t dm ca).2.2) j).2) + (lo (11 - j))) := by
              show m2Step sr lo j (itr (m2Step sr lo) ((m1Fun (mhFun sr sh ht) ar t dm ca).2.1, (m1Fun (mhFun sr sh ht) ar t dm ca).2.2) j) = _
              simp only [m2Step, m2C, if_pos c_106, if_neg c_115, if_neg c_131]
            refine x_less [0, 1, 2, 3] [(3, .int (nI (11 - (j + 1)))), (2, .int ((itr (m2Step sr lo) ((m1Fun (mhFun sr sh ht) ar t dm ca).2.1, (m1Fun (mhFun sr sh ht) ar t dm ca).2.2) (j + 1)).2)), (0, .ref qo), (1, .int t)] (by first | rfl | (rw [e9]; rfl)) ?_
            refine x_world (X' := [(qo, .inr (5, [.int th, .int hh, .int tt, .ref qF, .ref qL, .ref qA, .ref qE, .ref qH, .ref qB, .int (nI n), .ref qS, .ref qP, .ref qC, .int mc, .ref qT, .ref qD, .ref qR, .ref qX, .ref qG, .ref qM, .ref qU, .int ml])), (qF, .inl (cy.1, 12, .inl (fun i => nI (sr i)))), (qL, .inl (cy.1, 12, .inl lo)), (qA, .inl (cy.1, 12, .inl ar)), (qH, .inl (cy.1, 12, .inl sh)), (qT, .inl (cy.2.1, 12, .inl (mhFun sr sh ht))), (qD, .inl (cy.1, 12, .inl ((m1Fun (mhFun sr sh ht) ar t dm ca).1))), (qR, .inl (cy.2.1, 12, .inl ((itr (m2Step sr lo) ((m1Fun (mhFun sr sh ht) ar t dm ca).2.1, (m1Fun (mhFun sr sh ht) ar t dm ca).2.2) (j + 1)).1)))]) (pl' := []) (by first | rfl | rw [e9]) ?_
            exact ih_j
    · refine x_iload_n (q := 82) C 0 rfl dX5_lays_81 rfl ?_
      refine x_if_le_t C 152 dX5_lays_82 (by decide) (nI_le (a := (11 - 11)) (b := 0) (by omega) (by omega)) ?_
      refine x_iload_n (q := 153) C 1 rfl dX5_lays_152 rfl ?_
      exact x_iret C .int rfl rfl (⟨rfl, rfl⟩) dX5_lays_153 (Nat.le_of_ble_eq_true rfl) (Nat.le_of_ble_eq_true rfl)
