theorem iw_X0_init_X0 : ∀ w ∈ wsX00, w ∈ wsX0_init := by decide +kernel
set_option maxHeartbeats 4000000 in
set_option maxRecDepth 100000 in
/-- Boiler(..) -/
theorem c_X0_init {l : Launch} {D : va_G} {cy : ClassId × ClassId × ClassId} (o : Nat) (nu st po pr : Int32) : xM false l yX0_init wsX0_init ({ frames := 1, cells := 0, slots := 0, locals := 12 }) D cy [.ref o, .int nu, .int st, .int po, .int pr] ([(o, .inr (0, [.int 0, .int 0, .int 0, .int 0, .int 0, .null]))]) (xQv D (fun w => w = [(o, .inr (0, [.int nu, .int st, .int po, .int pr, .int 0, .null]))])) 0 0 := by
  refine xM_of (X := [(o, .inr (0, [.int 0, .int 0, .int 0, .int 0, .int 0, .null]))]) (pl := []) (nL := 5) (ret := none) RX0 [(0, .ref o), (1, .int nu), (2, .int st), (3, .int po), (4, .int pr)] (by decide +kernel) rfl rfl rfl (Nat.le_of_ble_eq_true rfl) (List.append_nil _).symm (fun p e s m args below meth c A C hname hT hZ => ?_)
  refine x_aload_n (q := 1) C 0 rfl dX0_init_0 rfl ?_
  refine x_objInit (q := 4) C (by decide +kernel : Cond.methodLink RX0 1 Lib.objectInit ∈ wsX0_init) (by decide +kernel) (by decide +kernel) dX0_init_1 (Nat.le_of_ble_eq_true rfl) (Nat.le_of_ble_eq_true rfl) rfl ?_
  refine x_aload_n (q := 5) C 0 rfl dX0_init_4 rfl ?_
  refine x_iload_n (q := 6) C 1 rfl dX0_init_5 rfl ?_
  refine x_putF (q := 9) C (T := TX0) iw_X0_init_X0 tyX0 tyX0_ok nmX0 rfl 0 0 [(o, .inr (0, [.int nu, .int 0, .int 0, .int 0, .int 0, .null]))] rfl rfl (by decide) rfl (by decide +kernel : Cond.fieldLink RX0 7 RX0 "number" "I" ∈ wsX0_init) rfl hname rfl .int (by decide +kernel) rfl rfl (Nat.le_of_ble_eq_true rfl) dX0_init_6 rfl ?_
  refine x_aload_n (q := 10) C 0 rfl dX0_init_9 rfl ?_
  refine x_iload_n (q := 11) C 2 rfl dX0_init_10 rfl ?_
  refine x_putF (q := 14) C (T := TX0) iw_X0_init_X0 tyX0 tyX0_ok nmX0 rfl 0 1 [(o, .inr (0, [.int nu, .int st, .int 0, .int 0, .int 0, .null]))] rfl rfl (by decide) rfl (by decide +kernel : Cond.fieldLink RX0 13 RX0 "steps" "I" ∈ wsX0_init) rfl hname rfl .int (by decide +kernel) rfl rfl (Nat.le_of_ble_eq_true rfl) dX0_init_11 rfl ?_
  refine x_aload_n (q := 15) C 0 rfl dX0_init_14 rfl ?_
  refine x_iload_n (q := 16) C 3 rfl dX0_init_15 rfl ?_
  refine x_putF (q := 19) C (T := TX0) iw_X0_init_X0 tyX0 tyX0_ok nmX0 rfl 0 2 [(o, .inr (0, [.int nu, .int st, .int po, .int 0, .int 0, .null]))] rfl rfl (by decide) rfl (by decide +kernel : Cond.fieldLink RX0 16 RX0 "power" "I" ∈ wsX0_init) rfl hname rfl .int (by decide +kernel) rfl rfl (Nat.le_of_ble_eq_true rfl) dX0_init_16 rfl ?_
  refine x_aload_n (q := 20) C 0 rfl dX0_init_19 rfl ?_
  refine x_iload (q := 22) C 4 rfl dX0_init_20 rfl ?_
  refine x_putF (q := 25) C (T := TX0) iw_X0_init_X0 tyX0 tyX0_ok nmX0 rfl 0 3 [(o, .inr (0, [.int nu, .int st, .int po, .int pr, .int 0, .null]))] rfl rfl (by decide) rfl (by decide +kernel : Cond.fieldLink RX0 19 RX0 "price" "I" ∈ wsX0_init) rfl hname rfl .int (by decide +kernel) rfl rfl (Nat.le_of_ble_eq_true rfl) dX0_init_22 rfl ?_
  exact x_vret C rfl (rfl) dX0_init_25 (Nat.le_of_ble_eq_true rfl) (Nat.le_of_ble_eq_true rfl)

theorem iw_X0_fireFor_X0 : ∀ w ∈ wsX00, w ∈ wsX0_fireFor := by decide +kernel
set_option maxHeartbeats 4000000 in
set_option maxRecDepth 100000 in
/-- Boiler.fireFor -/
theorem c_X0_fireFor {l : Launch} {D : va_G} {cy : ClassId × ClassId × ClassId} (o : Nat) (nu stp pow pr f0 w : Int32) (nx : Option Nat) (hst : stp ≤ 5) : xM false l yX0_fireFor wsX0_fireFor ({ frames := 1, cells := 0, slots := 0, locals := 13 }) D cy [.ref o, .int w] ([(o, .inr (0, [.int nu, .int stp, .int pow, .int pr, .int f0, va_rf nx]))]) (xQi D (fun r w1 => r = pUsed stp pow w ∧ w1 = [(o, .inr (0, [.int nu, .int stp, .int pow, .int pr, .int (pFire stp pow w), va_rf nx]))])) 0 0 := by
  refine xM_of (X := [(o, .inr (0, [.int nu, .int stp, .int pow, .int pr, .int f0, va_rf nx]))]) (pl := []) (nL := 2) (ret := (some .int)) RX0 [(0, .ref o), (1, .int w)] (by decide +kernel) rfl rfl rfl (Nat.le_of_ble_eq_true rfl) (List.append_nil _).symm (fun p e s m args below meth c A C hname hT hZ => ?_)
  refine x_aload_n (q := 1) C 0 rfl dX0_fireFor_0 rfl ?_
  refine x_iconst (q := 2) C 0 rfl dX0_fireFor_1 rfl ?_
  refine x_put (q := 5) C (T := TX0) iw_X0_fireFor_X0 tyX0 tyX0_ok nmX0 rfl 0 4 [(o, .inr (0, [.int nu, .int stp, .int pow, .int pr, .int 0, va_rf nx]))] rfl rfl (by decide) rfl (by decide +kernel : Cond.fieldLink RX0 22 RX0 "firedSteps" "I" ∈ wsX0_fireFor) rfl .int (by decide +kernel) rfl rfl (Nat.le_of_ble_eq_true rfl) dX0_fireFor_2 rfl ?_
  refine x_rec (fun i : Nat => 6 - i) (fun i => i ≤ 5 ∧ pf stp pow w (6 - i) (nI i) = pFire stp pow w) (fun i => [(o, .inr (0, [.int nu, .int stp, .int pow, .int pr, .int (nI i), va_rf nx]))]) (fun _ => []) (fun _ => [(0, .ref o), (1, .int w)]) 0 rfl rfl rfl ⟨by omega, rfl⟩ (fun i hI ih => ?_)
  refine x_aload_n (q := 6) C 0 rfl dX0_fireFor_5 rfl ?_
  refine x_get (q := 9) C (T := TX0) iw_X0_fireFor_X0 rfl 0 4 rfl (by decide) rfl (by decide +kernel : Cond.fieldLink RX0 22 RX0 "firedSteps" "I" ∈ wsX0_fireFor) rfl dX0_fireFor_6 rfl ?_
  refine x_aload_n (q := 10) C 0 rfl dX0_fireFor_9 rfl ?_
  refine x_get (q := 13) C (T := TX0) iw_X0_fireFor_X0 rfl 0 1 rfl (by decide) rfl (by decide +kernel : Cond.fieldLink RX0 13 RX0 "steps" "I" ∈ wsX0_fireFor) rfl dX0_fireFor_10 rfl ?_
  refine x_icmp_ge (q := 16) C 42 dX0_fireFor_13 (by decide) rfl (fun c_13 => ?_) (fun c_13 => ?_)
  · have e9 : nI i = pFire stp pow w := by have h9 := hI.2; have h1 := hI.1; rw [show 6 - i = (6 - (i + 1)) + 1 by omega, pf, if_pos c_13] at h9; exact h9
    refine x_world (X' := [(o, .inr (0, [.int nu, .int stp, .int pow, .int pr, .int (pFire stp pow w), va_rf nx]))]) (pl' := []) (by rw [e9]) ?_
    refine x_iload_n (q := 43) C 1 rfl dX0_fireFor_42 rfl ?_
    refine x_aload_n (q := 44) C 0 rfl dX0_fireFor_43 rfl ?_
    refine x_get (q := 47) C (T := TX0) iw_X0_fireFor_X0 rfl 0 4 rfl (by decide) rfl (by decide +kernel : Cond.fieldLink RX0 22 RX0 "firedSteps" "I" ∈ wsX0_fireFor) rfl dX0_fireFor_44 rfl ?_
    refine x_aload_n (q := 48) C 0 rfl dX0_fireFor_47 rfl ?_
    refine x_get (q := 51) C (T := TX0) iw_X0_fireFor_X0 rfl 0 2 rfl (by decide) rfl (by decide +kernel : Cond.fieldLink RX0 16 RX0 "power" "I" ∈ wsX0_fireFor) rfl dX0_fireFor_48 rfl ?_
    refine x_imul (q := 52) C ((pFire stp pow w) * pow) (rfl) dX0_fireFor_51 rfl ?_
    refine x_mmin (q := 55) C (pUsed stp pow w) rfl (by decide +kernel : Cond.methodLink RX0 25 Lib.Math.min.name ∈ wsX0_fireFor) (by decide +kernel) (by decide +kernel) (by decide +kernel) (Nat.le_of_ble_eq_true rfl) (Nat.le_of_ble_eq_true rfl) (Nat.le_of_ble_eq_true rfl) (Nat.le_of_ble_eq_true rfl) dX0_fireFor_52 rfl ?_
    exact x_iret C .int rfl rfl (⟨rfl, rfl⟩) dX0_fireFor_55 (Nat.le_of_ble_eq_true rfl) (Nat.le_of_ble_eq_true rfl)
  · refine x_aload_n (q := 17) C 0 rfl dX0_fireFor_16 rfl ?_
    refine x_get (q := 20) C (T := TX0) iw_X0_fireFor_X0 rfl 0 4 rfl (by decide) rfl (by decide +kernel : Cond.fieldLink RX0 22 RX0 "firedSteps" "I" ∈ wsX0_fireFor) rfl dX0_fireFor_17 rfl ?_
    refine x_aload_n (q := 21) C 0 rfl dX0_fireFor_20 rfl ?_
    refine x_get (q := 24) C (T := TX0) iw_X0_fireFor_X0 rfl 0 2 rfl (by decide) rfl (by decide +kernel : Cond.fieldLink RX0 16 RX0 "power" "I" ∈ wsX0_fireFor) rfl dX0_fireFor_21 rfl ?_
    refine x_imul (q := 25) C ((nI i) * pow) (rfl) dX0_fireFor_24 rfl ?_
    refine x_iload_n (q := 26) C 1 rfl dX0_fireFor_25 rfl ?_
    refine x_icmp_ge (q := 29) C 42 dX0_fireFor_26 (by decide) rfl (fun c_26 => ?_) (fun c_26 => ?_)
    · have e9 : nI i = pFire stp pow w := by have h9 := hI.2; have h1 := hI.1; rw [show 6 - i = (6 - (i + 1)) + 1 by omega, pf, if_neg c_13, if_pos c_26] at h9; exact h9
      refine x_world (X' := [(o, .inr (0, [.int nu, .int stp, .int pow, .int pr, .int (pFire stp pow w), va_rf nx]))]) (pl' := []) (by rw [e9]) ?_
      refine x_iload_n (q := 43) C 1 rfl dX0_fireFor_42 rfl ?_
      refine x_aload_n (q := 44) C 0 rfl dX0_fireFor_43 rfl ?_
      refine x_get (q := 47) C (T := TX0) iw_X0_fireFor_X0 rfl 0 4 rfl (by decide) rfl (by decide +kernel : Cond.fieldLink RX0 22 RX0 "firedSteps" "I" ∈ wsX0_fireFor) rfl dX0_fireFor_44 rfl ?_
      refine x_aload_n (q := 48) C 0 rfl dX0_fireFor_47 rfl ?_
      refine x_get (q := 51) C (T := TX0) iw_X0_fireFor_X0 rfl 0 2 rfl (by decide) rfl (by decide +kernel : Cond.fieldLink RX0 16 RX0 "power" "I" ∈ wsX0_fireFor) rfl dX0_fireFor_48 rfl ?_
      refine x_imul (q := 52) C ((pFire stp pow w) * pow) (rfl) dX0_fireFor_51 rfl ?_
      refine x_mmin (q := 55) C (pUsed stp pow w) rfl (by decide +kernel : Cond.methodLink RX0 25 Lib.Math.min.name ∈ wsX0_fireFor) (by decide +kernel) (by decide +kernel) (by decide +kernel) (Nat.le_of_ble_eq_true rfl) (Nat.le_of_ble_eq_true rfl) (Nat.le_of_ble_eq_true rfl) (Nat.le_of_ble_eq_true rfl) dX0_fireFor_52 rfl ?_
      exact x_iret C .int rfl rfl (⟨rfl, rfl⟩) dX0_fireFor_55 (Nat.le_of_ble_eq_true rfl) (Nat.le_of_ble_eq_true rfl)
    · refine x_aload_n (q := 30) C 0 rfl dX0_fireFor_29 rfl ?_
      refine x_dup (q := 31) C rfl dX0_fireFor_30 rfl ?_
      refine x_get (q := 34) C (T := TX0) iw_X0_fireFor_X0 rfl 0 4 rfl (by decide) rfl (by decide +kernel : Cond.fieldLink RX0 22 RX0 "firedSteps" "I" ∈ wsX0_fireFor) rfl dX0_fireFor_31 rfl ?_
      refine x_iconst (q := 35) C 1 rfl dX0_fireFor_34 rfl ?_
      refine x_iadd (q := 36) C (nI (i + 1)) (nI_1 i) dX0_fireFor_35 rfl ?_
      refine x_put (q := 39) C (T := TX0) iw_X0_fireFor_X0 tyX0 tyX0_ok nmX0 rfl 0 4 [(o, .inr (0, [.int nu, .int stp, .int pow, .int pr, .int (nI (i + 1)), va_rf nx]))] rfl rfl (by decide) rfl (by decide +kernel : Cond.fieldLink RX0 22 RX0 "firedSteps" "I" ∈ wsX0_fireFor) rfl .int (by decide +kernel) rfl rfl (Nat.le_of_ble_eq_true rfl) dX0_fireFor_36 rfl ?_
      refine x_goto C 5 dX0_fireFor_39 (by decide) ?_
      exact ih (i + 1) ⟨by have h1 := hI.1; have h2 := hst; have h3 := c_13; rw [Int32.le_iff_toInt_le, nI_toInt (by omega)] at h3; rw [Int32.le_iff_toInt_le, show (5 : Int32).toInt = 5 from rfl] at h2; omega, by have h9 := hI.2; have h1 := hI.1; rw [show 6 - i = (6 - (i + 1)) + 1 by omega, pf, if_neg c_13, if_neg c_26, nI_1] at h9; exact h9⟩ (by have h1 := hI.1; show 6 - (i + 1) < 6 - i; omega)

theorem iw_X3_lastFiredBefore_X3 : ∀ w ∈ wsX30, w ∈ wsX3_lastFiredBefore := by decide +kernel
theorem iw_X3_lastFiredBefore_X0 : ∀ w ∈ wsX00, w ∈ wsX3_lastFiredBefore := by decide +kernel
set_option maxHeartbeats 4000000 in
set_option maxRecDepth 100000 in
/-- Plant.lastFiredBefore -/
theorem c_X3_lastFiredBefore {l : Launch} {D : va_G} {cy : ClassId × ClassId × ClassId} (po n : Nat) (ad : Nat → Nat) (stp pow cst frd : Nat → Int32) (nx : Nat → Option Nat) (ord : List Nat) (cn ap sp : Int32) (p9 : Int32) (hch : chn nx ord) (hlt : ∀ k ∈ ord, k < n) : xM false l yX3_lastFiredBefore wsX3_lastFiredBefore ({ frames := 0, cells := 0, slots := 0, locals := 0 }) D cy [.ref po, .int p9] ([(po, .inr (3, [va_rf (Option.map ad ord.head?), .int cn, .int ap, .int sp]))] ++ bl ad stp pow cst frd nx n) (xQq2 D (fun r w => r = Option.map ad (lfb cst p9 none ord) ∧ w = ([(po, .inr (3, [va_rf (Option.map ad ord.head?), .int cn, .int ap, .int sp]))], bl ad stp pow cst frd nx n))) 0 0 := by
  refine xM_of (X := [(po, .inr (3, [va_rf (Option.map ad ord.head?), .int cn, .int ap, .int sp]))]) (pl := bl ad stp pow cst frd nx n) (nL := 4) (ret := (some (.object "HeatGuild$Boiler"))) RX3 [(0, .ref po), (1, .int p9)] (by decide +kernel) rfl rfl rfl (Nat.le_of_ble_eq_true rfl) rfl (fun p e s m args below meth c A C hname hT hZ => ?_)
  refine x_null (q := 1) C dX3_lastFiredBefore_0 rfl ?_
  refine x_astore_nN (q := 2) C [(2, .null), (0, .ref po), (1, .int p9)] dX3_lastFiredBefore_1 (by decide) rfl rfl ?_
  refine x_aload_n (q := 3) C 1 rfl dX3_lastFiredBefore_2 rfl ?_
  refine x_get (q := 6) C (T := TX3) iw_X3_lastFiredBefore_X3 rfl 0 0 rfl (by decide) rfl (by decide +kernel : Cond.fieldLink RX3 22 RX3 "first" "LHeatGuild$Boiler;" ∈ wsX3_lastFiredBefore) rfl dX3_lastFiredBefore_3 rfl ?_
  refine x_astore_nO (q := 7) C (Option.map ad ord.head?) [(3, va_rf (Option.map ad ord.head?)), (2, .null), (0, .ref po), (1, .int p9)] dX3_lastFiredBefore_6 (by decide) rfl rfl ?_
  refine x_less [0, 1, 2, 3] [(3, va_rf (Option.map ad ord.head?)), (2, .null), (0, .ref po), (1, .int p9)] rfl ?_
  refine x_rec (σ := List Nat × Option Nat) (fun x => x.1.length) (fun x => chn nx x.1 ∧ (∀ k ∈ x.1, k < n) ∧ lfb cst p9 x.2 x.1 = lfb cst p9 none ord) (fun _ => [(po, .inr (3, [va_rf (Option.map ad ord.head?), .int cn, .int ap, .int sp]))]) (fun _ => bl ad stp pow cst frd nx n) (fun x => [(3, va_rf (Option.map ad x.1.head?)), (2, va_rf (Option.map ad x.2)), (0, .ref po), (1, .int p9)]) (ord, none) rfl rfl rfl ⟨hch, hlt, rfl⟩ (fun x hI ih => ?_)
  obtain ⟨ord1, last⟩ := x
  rcases ord1 with _ | ⟨k, ks⟩
  · refine x_aload_nN (q := 8) C 0 rfl dX3_lastFiredBefore_7 rfl ?_
    refine x_ifnull_t C 29 dX3_lastFiredBefore_8 (by decide) ?_
    refine x_aload_nO (q := 30) C (Option.map ad last) 1 rfl dX3_lastFiredBefore_29 rfl ?_
    exact x_qretT C "HeatGuild$Boiler" rfl (Option.map ad last) rfl (⟨by rw [← hI.2.2]; rfl, rfl⟩) dX3_lastFiredBefore_30 (Nat.le_of_ble_eq_true rfl) (Nat.le_of_ble_eq_true rfl)
  · refine x_aload_n (q := 8) C 0 rfl dX3_lastFiredBefore_7 rfl ?_
    refine x_ifnull_f (q := 11) C dX3_lastFiredBefore_8 rfl ?_
    refine x_aload_n (q := 12) C 0 rfl dX3_lastFiredBefore_11 rfl ?_
    refine x_getN (q := 15) C (T := TX0) iw_X3_lastFiredBefore_X0 rfl _ 3 (bl_at (hI.2.1 k List.mem_cons_self)) (by decide) rfl (by decide +kernel : Cond.fieldLinkNest RX3 35 RX0 "price" "I" RX4 ∈ xNest) (v := .int (cst k)) rfl dX3_lastFiredBefore_12 rfl ?_
    refine x_iload_n (q := 16) C 3 rfl dX3_lastFiredBefore_15 rfl ?_
    refine x_icmp_gt (q := 19) C 29 dX3_lastFiredBefore_16 (by decide) rfl (fun c_16 => ?_) (fun c_16 => ?_)
    · refine x_aload_nO (q := 30) C (Option.map ad last) 1 rfl dX3_lastFiredBefore_29 rfl ?_
      exact x_qretT C "HeatGuild$Boiler" rfl (Option.map ad last) rfl (⟨by rw [← hI.2.2]; simp only [lfb, if_pos c_16], rfl⟩) dX3_lastFiredBefore_30 (Nat.le_of_ble_eq_true rfl) (Nat.le_of_ble_eq_true rfl)
    · refine x_aload_n (q := 20) C 0 rfl dX3_lastFiredBefore_19 rfl ?_
      refine x_astore_n (q := 21) C [(2, .ref (ad k)), (3, .ref (ad k)), (0, .ref po), (1, .int p9)] dX3_lastFiredBefore_20 (by decide) rfl rfl ?_
      refine x_aload_n (q := 22) C 1 rfl dX3_lastFiredBefore_21 rfl ?_
      refine x_getN (q := 25) C (T := TX0) iw_X3_lastFiredBefore_X0 rfl _ 5 (bl_at (hI.2.1 k List.mem_cons_self)) (by decide) rfl (by decide +kernel : Cond.fieldLinkNest RX3 26 RX0 "next" "LHeatGuild$Boiler;" RX4 ∈ xNest) (v := va_rf (Option.map ad (ks.head?))) (congrArg (fun z => some (va_rf (Option.map ad z))) hI.1.1) dX3_lastFiredBefore_22 rfl ?_
      refine x_astore_nO (q := 26) C (Option.map ad (ks.head?)) [(3, va_rf (Option.map ad (ks.head?))), (2, .ref (ad k)), (0, .ref po), (1, .int p9)] dX3_lastFiredBefore_25 (by decide) rfl rfl ?_
      refine x_goto C 7 dX3_lastFiredBefore_26 (by decide) ?_
      refine x_less [0, 1, 2, 3] [(3, va_rf (Option.map ad (ks.head?))), (2, .ref (ad k)), (0, .ref po), (1, .int p9)] rfl ?_
      exact ih (ks, some k) ⟨hI.1.2, fun j hj => hI.2.1 j (List.mem_cons_of_mem _ hj), by rw [← hI.2.2]; simp only [lfb, if_neg c_16]⟩ (by simp)

theorem iw_X3_find_X3 : ∀ w ∈ wsX30, w ∈ wsX3_find := by decide +kernel
theorem iw_X3_find_X0 : ∀ w ∈ wsX00, w ∈ wsX3_find := by decide +kernel
set_option maxHeartbeats 4000000 in
set_option maxRecDepth 100000 in
/-- Plant.find -/
theorem c_X3_find {l : Launch} {D : va_G} {cy : ClassId × ClassId × ClassId} (po n : Nat) (ad : Nat → Nat) (stp pow cst frd : Nat → Int32) (nx : Nat → Option Nat) (ord : List Nat) (cn ap sp : Int32) (x9 : Int32) (hch : chn nx ord) (hlt : ∀ k ∈ ord, k < n) : xM false l yX3_find wsX3_find ({ frames := 0, cells := 0, slots := 0, locals := 0 }) D cy [.ref po, .int x9] ([(po, .inr (3, [va_rf (Option.map ad ord.head?), .int cn, .int ap, .int sp]))] ++ bl ad stp pow cst frd nx n) (xQq2 D (fun r w => r = Option.map ad (findL x9 ord) ∧ w = ([(po, .inr (3, [va_rf (Option.map ad ord.head?), .int cn, .int ap, .int sp]))], bl ad stp pow cst frd nx n))) 0 0 := by
  refine xM_of (X := [(po, .inr (3, [va_rf (Option.map ad ord.head?), .int cn, .int ap, .int sp]))]) (pl := bl ad stp pow cst frd nx n) (nL := 3) (ret := (some (.object "HeatGuild$Boiler"))) RX3 [(0, .ref po), (1, .int x9)] (by decide +kernel) rfl rfl rfl (Nat.le_of_ble_eq_true rfl) rfl (fun p e s m args below meth c A C hname hT hZ => ?_)
  refine x_aload_n (q := 1) C 0 rfl dX3_find_0 rfl ?_
  refine x_get (q := 4) C (T := TX3) iw_X3_find_X3 rfl 0 0 rfl (by decide) rfl (by decide +kernel : Cond.fieldLink RX3 22 RX3 "first" "LHeatGuild$Boiler;" ∈ wsX3_find) rfl dX3_find_1 rfl ?_
  refine x_astore_nO (q := 5) C (Option.map ad ord.head?) [(2, va_rf (Option.map ad ord.head?)), (0, .ref po), (1, .int x9)] dX3_find_4 (by decide) rfl rfl ?_
  refine x_less [0, 1, 2] [(2, va_rf (Option.map ad ord.head?)), (0, .ref po), (1, .int x9)] rfl ?_
  refine x_rec (σ := List Nat) (fun x => x.length) (fun x => chn nx x ∧ (∀ k ∈ x, k < n) ∧ findL x9 x = findL x9 ord) (fun _ => [(po, .inr (3, [va_rf (Option.map ad ord.head?), .int cn, .int ap, .int sp]))]) (fun _ => bl ad stp pow cst frd nx n) (fun x => [(2, va_rf (Option.map ad x.head?)), (0, .ref po), (1, .int x9)]) ord rfl rfl rfl ⟨hch, hlt, rfl⟩ (fun x hI ih => ?_)
  rcases x with _ | ⟨k, ks⟩
  · refine x_aload_nN (q := 6) C 0 rfl dX3_find_5 rfl ?_
    refine x_ifnull_t C 27 dX3_find_6 (by decide) ?_
    refine x_null (q := 28) C dX3_find_27 rfl ?_
    exact x_qretT C "HeatGuild$Boiler" rfl none rfl (⟨by rw [← hI.2.2]; rfl, rfl⟩) dX3_find_28 (Nat.le_of_ble_eq_true rfl) (Nat.le_of_ble_eq_true rfl)
  · refine x_aload_n (q := 6) C 0 rfl dX3_find_5 rfl ?_
    refine x_ifnull_f (q := 9) C dX3_find_6 rfl ?_
    refine x_aload_n (q := 10) C 0 rfl dX3_find_9 rfl ?_
    refine x_getN (q := 13) C (T := TX0) iw_X3_find_X0 rfl _ 0 (bl_at (hI.2.1 k List.mem_cons_self)) (by decide) rfl (by decide +kernel : Cond.fieldLinkNest RX3 32 RX0 "number" "I" RX4 ∈ xNest) (v := .int (nI k)) rfl dX3_find_10 rfl ?_
    refine x_iload_n (q := 14) C 2 rfl dX3_find_13 rfl ?_
    refine x_icmp_ne (q := 17) C 19 dX3_find_14 (by decide) rfl (fun c_14 => ?_) (fun c_14 => ?_)
    · refine x_aload_n (q := 20) C 0 rfl dX3_find_19 rfl ?_
      refine x_getN (q := 23) C (T := TX0) iw_X3_find_X0 rfl _ 5 (bl_at (hI.2.1 k List.mem_cons_self)) (by decide) rfl (by decide +kernel : Cond.fieldLinkNest RX3 26 RX0 "next" "LHeatGuild$Boiler;" RX4 ∈ xNest) (v := va_rf (Option.map ad (ks.head?))) (congrArg (fun z => some (va_rf (Option.map ad z))) hI.1.1) dX3_find_20 rfl ?_
      refine x_astore_nO (q := 24) C (Option.map ad (ks.head?)) [(2, va_rf (Option.map ad (ks.head?))), (0, .ref po), (1, .int x9)] dX3_find_23 (by decide) rfl rfl ?_
      refine x_goto C 5 dX3_find_24 (by decide) ?_
      refine x_less [0, 1, 2] [(2, va_rf (Option.map ad (ks.head?))), (0, .ref po), (1, .int x9)] rfl ?_
      exact ih ks ⟨hI.1.2, fun j hj => hI.2.1 j (List.mem_cons_of_mem _ hj), by rw [← hI.2.2]; simp only [findL, if_neg c_14]⟩ (by simp)
    · refine x_aload_n (q := 18) C 0 rfl dX3_find_17 rfl ?_
      exact x_qretT C "HeatGuild$Boiler" rfl (some (ad k)) rfl (⟨by rw [← hI.2.2]; simp only [findL, if_pos c_14]; rfl, rfl⟩) dX3_find_18 (Nat.le_of_ble_eq_true rfl) (Nat.le_of_ble_eq_true rfl)

theorem iw_X3_fire_X3 : ∀ w ∈ wsX30, w ∈ wsX3_fire := by decide +kernel
theorem iw_X3_fire_X0 : ∀ w ∈ wsX00, w ∈ wsX3_fire := by decide +kernel
set_option maxHeartbeats 4000000 in
set_option maxRecDepth 100000 in
/-- Plant.fire -/
theorem c_X3_fire {l : Launch} {D : va_G} {cy : ClassId × ClassId × ClassId} (po n : Nat) (ad : Nat → Nat) (stp pow cst frd : Nat → Int32) (nx : Nat → Option Nat) (ord : List Nat) (cn ap sp : Int32) (w9 : Int32) (hch : chn nx ord) (hlt : ∀ k ∈ ord, k < n) (hst : ∀ k, k < n → stp k ≤ 5) : xM false l yX3_fire wsX3_fire ({ frames := 2, cells := 0, slots := 0, locals := 34 }) D cy [.ref po, .int w9] ([(po, .inr (3, [va_rf (Option.map ad ord.head?), .int cn, .int ap, .int sp]))] ++ bl ad stp pow cst frd nx n) (xQv2 D (fun w => w = ([(po, .inr (3, [va_rf (Option.map ad ord.head?), .int cn, .int ap, .int ((fireL stp pow cst ord w9 sp frd).1)]))], bl ad stp pow cst (fireL stp pow cst ord w9 sp frd).2 nx n))) 0 0 := by
  refine xM_of (X := [(po, .inr (3, [va_rf (Option.map ad ord.head?), .int cn, .int ap, .int sp]))]) (pl := bl ad stp pow cst frd nx n) (nL := 5) (ret := none) RX3 [(0, .ref po), (1, .int w9)] (by decide +kernel) rfl rfl rfl (Nat.le_of_ble_eq_true rfl) rfl (fun p e s m args below meth c A C hname hT hZ => ?_)
  refine x_iload_n (q := 1) C 1 rfl dX3_fire_0 rfl ?_
  refine x_istore_n (q := 2) C [(2, .int w9), (0, .ref po), (1, .int w9)] dX3_fire_1 (by decide) rfl rfl ?_
  refine x_aload_n (q := 3) C 1 rfl dX3_fire_2 rfl ?_
  refine x_get (q := 6) C (T := TX3) iw_X3_fire_X3 rfl 0 0 rfl (by decide) rfl (by decide +kernel : Cond.fieldLink RX3 22 RX3 "first" "LHeatGuild$Boiler;" ∈ wsX3_fire) rfl dX3_fire_3 rfl ?_
  refine x_astore_nO (q := 7) C (Option.map ad ord.head?) [(3, va_rf (Option.map ad ord.head?)), (2, .int w9), (0, .ref po), (1, .int w9)] dX3_fire_6 (by decide) rfl rfl ?_
  refine x_less [0, 1, 2] [(3, va_rf (Option.map ad ord.head?)), (2, .int w9), (0, .ref po)] rfl ?_
  refine x_rec (σ := List Nat × Int32 × Int32 × (Nat → Int32)) (fun x => x.1.length) (fun x => chn nx x.1 ∧ (∀ k ∈ x.1, k < n) ∧ fireL stp pow cst x.1 x.2.1 x.2.2.1 x.2.2.2 = fireL stp pow cst ord w9 sp frd) (fun x => [(po, .inr (3, [va_rf (Option.map ad ord.head?), .int cn, .int ap, .int x.2.2.1]))]) (fun x => bl ad stp pow cst x.2.2.2 nx n) (fun x => [(3, va_rf (Option.map ad x.1.head?)), (2, .int x.2.1), (0, .ref po)]) (ord, w9, sp, frd) rfl rfl rfl ⟨hch, hlt, rfl⟩ (fun x hI ih => ?_)
  obtain ⟨ord1, l1, s1, f1⟩ := x
  rcases ord1 with _ | ⟨k, ks⟩
  · refine x_aload_nN (q := 8) C 0 rfl dX3_fire_7 rfl ?_
    refine x_ifnull_t C 47 dX3_fire_8 (by decide) ?_
    exact x_vretT C rfl (by rw [show fireL stp pow cst ord w9 sp frd = (s1, f1) from hI.2.2.symm]) dX3_fire_47 (Nat.le_of_ble_eq_true rfl) (Nat.le_of_ble_eq_true rfl)
  · refine x_aload_n (q := 8) C 0 rfl dX3_fire_7 rfl ?_
    refine x_ifnull_f (q := 11) C dX3_fire_8 rfl ?_
    refine x_perm [(po, .inr (3, [va_rf (Option.map ad ord.head?), .int cn, .int ap, .int s1])), ((ad k), .inr (0, [.int (nI k), .int (stp k), .int (pow k), .int (cst k), .int (f1 k), va_rf (Option.map ad (nx k))]))] (blr ad stp pow cst f1 nx n k) (bl_out (X := [(po, .inr (3, [va_rf (Option.map ad ord.head?), .int cn, .int ap, .int s1]))]) (hI.2.1 k List.mem_cons_self)) ?_
    refine x_aload_n (q := 12) C 0 rfl dX3_fire_11 rfl ?_
    refine x_iload_n (q := 13) C 1 rfl dX3_fire_12 rfl ?_
    refine x_CiP (q := 16) C [1] [0] (cx := [((ad k), .inr (0, [.int (nI k), .int (stp k), .int (pow k), .int (cst k), .int (f1 k), va_rf (Option.map ad (nx k))]))]) (wr := [(po, .inr (3, [va_rf (Option.map ad ord.head?), .int cn, .int ap, .int s1]))]) (st := []) rfl rfl rfl rfl (by decide) (fun H locs ls hP hPc hDc hS hFc hl => x_runVN C (As := [.int l1]) (c_X0_fireFor (ad k) (nI k) (stp k) (pow k) (cst k) (f1 k) l1 (Option.map ad (nx k)) (hst k (hI.2.1 k List.mem_cons_self))) (⟨va_cnB 1 C.2.2.2.2.2.1 gX3_fire_X0_fireFor_n38 rfl rfl rfl (va_Nw.of rfl (C.2.2.2.2.2.2.1.2.1.use (B := #[]) (by decide +kernel : Cond.methodLinkNest RX3 38 yX0_fireFor RX4 ∈ xNest))) (C.2.2.2.2.2.1 _ (by decide +kernel)) (by decide +kernel) ⟨Nat.le_of_ble_eq_true rfl, Nat.le_of_ble_eq_true rfl⟩, C.2.2.2.2.2.1 (Cond.instanceMethod yX0_fireFor) (by decide +kernel), C.2.2.2.2.2.1 (Cond.selects RX0 yX0_fireFor yX0_fireFor) (by decide +kernel)⟩) rfl 1 rfl rfl rfl (Nat.le_of_ble_eq_true rfl) dX3_fire_13 ⟨Nat.le_of_ble_eq_true rfl, Nat.le_of_ble_eq_true rfl⟩ (fun h => absurd h (by decide)) hP hPc hDc hS hFc hl) (k := 0) (n := 0) rfl rfl rfl (fun r_13 w1 hw => ?_)
    obtain ⟨rfl, rfl⟩ := hw
    refine x_ord [0, 1] [(po, .inr (3, [va_rf (Option.map ad ord.head?), .int cn, .int ap, .int s1])), ((ad k), .inr (0, [.int (nI k), .int (stp k), .int (pow k), .int (cst k), .int (pFire (stp k) (pow k) l1), va_rf (Option.map ad (nx k))]))] rfl rfl ?_
    refine x_perm [(po, .inr (3, [va_rf (Option.map ad ord.head?), .int cn, .int ap, .int s1]))] (bl ad stp pow cst (va_up f1 k (pFire (stp k) (pow k) l1)) nx n) (bl_in (X := [(po, .inr (3, [va_rf (Option.map ad ord.head?), .int cn, .int ap, .int s1]))]) (hI.2.1 k List.mem_cons_self) (by simp [bcell, va_up]) (fun j hj => by simp [va_up, hj]) (fun _ _ => rfl)) ?_
    refine x_istore (q := 18) C [(4, .int (pUsed (stp k) (pow k) l1)), (3, .ref (ad k)), (2, .int l1), (0, .ref po)] dX3_fire_16 (by decide) rfl rfl ?_
    refine x_aload_n (q := 19) C 3 rfl dX3_fire_18 rfl ?_
    refine x_dup (q := 20) C rfl dX3_fire_19 rfl ?_
    refine x_get (q := 23) C (T := TX3) iw_X3_fire_X3 rfl 0 3 rfl (by decide) rfl (by decide +kernel : Cond.fieldLink RX3 42 RX3 "spent" "I" ∈ wsX3_fire) rfl dX3_fire_20 rfl ?_
    refine x_iload (q := 25) C 0 rfl dX3_fire_23 rfl ?_
    refine x_aload_n (q := 26) C 1 rfl dX3_fire_25 rfl ?_
    refine x_getN (q := 29) C (T := TX0) iw_X3_fire_X0 rfl _ 3 (bl_at (hI.2.1 k List.mem_cons_self)) (by decide) rfl (by decide +kernel : Cond.fieldLinkNest RX3 35 RX0 "price" "I" RX4 ∈ xNest) (v := .int (cst k)) rfl dX3_fire_26 rfl ?_
    refine x_imul (q := 30) C ((pUsed (stp k) (pow k) l1) * (cst k)) (rfl) dX3_fire_29 rfl ?_
    refine x_iadd (q := 31) C (s1 + ((pUsed (stp k) (pow k) l1) * (cst k))) (rfl) dX3_fire_30 rfl ?_
    refine x_put (q := 34) C (T := TX3) iw_X3_fire_X3 tyX3 tyX3_ok nmX3 rfl 0 3 [(po, .inr (3, [va_rf (Option.map ad ord.head?), .int cn, .int ap, .int (s1 + ((pUsed (stp k) (pow k) l1) * (cst k)))]))] rfl rfl (by decide) rfl (by decide +kernel : Cond.fieldLink RX3 42 RX3 "spent" "I" ∈ wsX3_fire) rfl .int (by decide +kernel) rfl rfl (Nat.le_of_ble_eq_true rfl) dX3_fire_31 rfl ?_
    refine x_iload_n (q := 35) C 2 rfl dX3_fire_34 rfl ?_
    refine x_iload (q := 37) C 0 rfl dX3_fire_35 rfl ?_
    refine x_isub (q := 38) C (l1 - (pUsed (stp k) (pow k) l1)) (rfl) dX3_fire_37 rfl ?_
    refine x_istore_n (q := 39) C [(2, .int (l1 - (pUsed (stp k) (pow k) l1))), (4, .int (pUsed (stp k) (pow k) l1)), (3, .ref (ad k)), (0, .ref po)] dX3_fire_38 (by decide) rfl rfl ?_
    refine x_aload_n (q := 40) C 2 rfl dX3_fire_39 rfl ?_
    refine x_getN (q := 43) C (T := TX0) iw_X3_fire_X0 rfl _ 5 (bl_at (hI.2.1 k List.mem_cons_self)) (by decide) rfl (by decide +kernel : Cond.fieldLinkNest RX3 26 RX0 "next" "LHeatGuild$Boiler;" RX4 ∈ xNest) (v := va_rf (Option.map ad (ks.head?))) (congrArg (fun z => some (va_rf (Option.map ad z))) hI.1.1) dX3_fire_40 rfl ?_
    refine x_astore_nO (q := 44) C (Option.map ad (ks.head?)) [(3, va_rf (Option.map ad (ks.head?))), (2, .int (l1 - (pUsed (stp k) (pow k) l1))), (4, .int (pUsed (stp k) (pow k) l1)), (0, .ref po)] dX3_fire_43 (by decide) rfl rfl ?_
    refine x_goto C 7 dX3_fire_44 (by decide) ?_
    refine x_less [0, 1, 3] [(3, va_rf (Option.map ad (ks.head?))), (2, .int (l1 - (pUsed (stp k) (pow k) l1))), (0, .ref po)] rfl ?_
    exact ih (ks, l1 - pUsed (stp k) (pow k) l1, s1 + pUsed (stp k) (pow k) l1 * cst k, va_up f1 k (pFire (stp k) (pow k) l1)) ⟨hI.1.2, fun j hj => hI.2.1 j (List.mem_cons_of_mem _ hj), hI.2.2⟩ (by simp)

set_option maxHeartbeats 4000000 in
set_option maxRecDepth 100000 in
/-- Plant() -/
theorem c_X3_init {l : Launch} {D : va_G} {cy : ClassId × ClassId × ClassId} (po : Nat) : xM false l yX3_init wsX3_init ({ frames := 1, cells := 0, slots := 0, locals := 12 }) D cy [.ref po] ([(po, .inr (3, [.null, .int 0, .int 0, .int 0]))]) (xQv D (fun w => w = [(po, .inr (3, [.null, .int 0, .int 0, .int 0]))])) 0 0 := by
  refine xM_of (X := [(po, .inr (3, [.null, .int 0, .int 0, .int 0]))]) (pl := []) (nL := 1) (ret := none) RX3 [(0, .ref po)] (by decide +kernel) rfl rfl rfl (Nat.le_of_ble_eq_true rfl) (List.append_nil _).symm (fun p e s m args below meth c A C hname hT hZ => ?_)
  refine x_aload_n (q := 1) C 0 rfl dX3_init_0 rfl ?_
  refine x_objInit (q := 4) C (by decide +kernel : Cond.methodLink RX3 1 Lib.objectInit ∈ wsX3_init) (by decide +kernel) (by decide +kernel) dX3_init_1 (Nat.le_of_ble_eq_true rfl) (Nat.le_of_ble_eq_true rfl) rfl ?_
  exact x_vret C rfl (rfl) dX3_init_4 (Nat.le_of_ble_eq_true rfl) (Nat.le_of_ble_eq_true rfl)

theorem iw_X3_add_X0 : ∀ w ∈ wsX00, w ∈ wsX3_add := by decide +kernel
theorem iw_X3_add_X3 : ∀ w ∈ wsX30, w ∈ wsX3_add := by decide +kernel
set_option maxHeartbeats 4000000 in
set_option maxRecDepth 100000 in
/-- Plant.add -/
theorem c_X3_add {l : Launch} {D : va_G} {cy : ClassId × ClassId × ClassId} (po n : Nat) (ad : Nat → Nat) (stp pow cst frd : Nat → Int32) (nx : Nat → Option Nat) (ord : List Nat) (ap sp S9 P9 C9 : Int32) (hch : chn nx ord) (hlt : ∀ k ∈ ord, k < n) (hnx : ∀ k, k < n → ∀ j, nx k = some j → j < n) (hhd : ∀ j, ord.head? = some j → j < n) : xM false l yX3_add wsX3_add ({ frames := 2, cells := 1, slots := 6, locals := 36 }) D cy [.ref po, .int S9, .int P9, .int C9] ([(po, .inr (3, [va_rf (Option.map ad ord.head?), .int (nI n), .int ap, .int sp]))] ++ bl ad stp pow cst frd nx n) (xQi2 D (fun r w => r = nI n ∧ ∃ o_0 : Nat, w = ([(po, .inr (3, [va_rf (Option.map (va_up ad n o_0) (addFst n ord.head? (lfb cst C9 none ord))), .int (nI (n + 1)), .int (ap + S9 * P9), .int sp]))], bl (va_up ad n o_0) (va_up stp n S9) (va_up pow n P9) (va_up cst n C9) (va_up frd n 0) (addNx nx n ord.head? (lfb cst C9 none ord)) (n + 1)))) 1 6 := by
  refine xM_of (X := [(po, .inr (3, [va_rf (Option.map ad ord.head?), .int (nI n), .int ap, .int sp]))]) (pl := bl ad stp pow cst frd nx n) (nL := 6) (ret := (some .int)) RX3 [(0, .ref po), (1, .int S9), (2, .int P9), (3, .int C9)] (by decide +kernel) rfl rfl rfl (Nat.le_of_ble_eq_true rfl) rfl (fun p e s m args below meth c A C hname hT hZ => ?_)
  refine x_new (q := 3) C (T := TX0) (ci := 0) iw_X3_add_X0 tyX0 tyX0_ok (by decide +kernel : Cond.classLink RX3 7 RX0 ∈ wsX3_add) (by decide +kernel) (by decide +kernel) rfl [.int 0, .int 0, .int 0, .int 0, .int 0, .null] (fun j hj => by rcases (show j = 0 ∨ j = 1 ∨ j = 2 ∨ j = 3 ∨ j = 4 ∨ j = 5 by omega) with rfl | rfl | rfl | rfl | rfl | rfl <;> rfl) (Nat.le_of_ble_eq_true rfl) (Nat.le_of_ble_eq_true rfl) dX3_add_0 rfl rfl rfl (fun o_0 => ?_)
  refine x_ord [0, 1] [(po, .inr (3, [va_rf (Option.map ad ord.head?), .int (nI n), .int ap, .int sp])), (o_0, .inr (0, [.int 0, .int 0, .int 0, .int 0, .int 0, .null]))] rfl rfl ?_
  refine x_dup (q := 4) C rfl dX3_add_3 rfl ?_
  refine x_aload_n (q := 5) C 0 rfl dX3_add_4 rfl ?_
  refine x_get (q := 8) C (T := TX3) iw_X3_add_X3 rfl 0 1 rfl (by decide) rfl (by decide +kernel : Cond.fieldLink RX3 9 RX3 "count" "I" ∈ wsX3_add) rfl dX3_add_5 rfl ?_
  refine x_iload_n (q := 9) C 1 rfl dX3_add_8 rfl ?_
  refine x_iload_n (q := 10) C 2 rfl dX3_add_9 rfl ?_
  refine x_iload_n (q := 11) C 3 rfl dX3_add_10 rfl ?_
  refine x_CvP (q := 14) C [1] [0] (cx := [(o_0, .inr (0, [.int 0, .int 0, .int 0, .int 0, .int 0, .null]))]) (wr := [(po, .inr (3, [va_rf (Option.map ad ord.head?), .int (nI n), .int ap, .int sp]))]) (st := [.ref o_0]) rfl rfl rfl rfl (by decide) (fun H locs ls hP hPc hDc hS hFc hl => x_runIN C (As := [.int (nI n), .int S9, .int P9, .int C9]) (c_X0_init o_0 (nI n) S9 P9 C9) (⟨va_cnB 4 C.2.2.2.2.2.1 gX3_add_X0_init_n15 rfl rfl rfl (va_Nw.of rfl (C.2.2.2.2.2.2.1.2.1.use (B := #[]) (by decide +kernel : Cond.methodLinkNest RX3 15 yX0_init RX4 ∈ xNest))) (C.2.2.2.2.2.1 _ (by decide +kernel)) (by decide +kernel) ⟨Nat.le_of_ble_eq_true rfl, Nat.le_of_ble_eq_true rfl⟩, rfl, C.2.2.2.2.2.1 (Cond.instanceMethod yX0_init) (by decide +kernel)⟩) rfl rfl (Nat.le_of_ble_eq_true rfl) dX3_add_11 ⟨Nat.le_of_ble_eq_true rfl, Nat.le_of_ble_eq_true rfl⟩ (fun h => absurd h (by decide)) hP hPc hDc hS hFc hl) (k := 1) (n := 6) rfl rfl rfl (fun w1 hw => ?_)
  obtain rfl := hw
  refine x_ord [0, 1] [(po, .inr (3, [va_rf (Option.map ad ord.head?), .int (nI n), .int ap, .int sp])), (o_0, .inr (0, [.int (nI n), .int S9, .int P9, .int C9, .int 0, .null]))] rfl rfl ?_
  refine x_astore (q := 16) C [(4, .ref o_0), (0, .ref po), (1, .int S9), (2, .int P9), (3, .int C9)] dX3_add_14 (by decide) rfl rfl ?_
  refine x_aload_n (q := 17) C 1 rfl dX3_add_16 rfl ?_
  refine x_iload_n (q := 18) C 4 rfl dX3_add_17 rfl ?_
  refine x_CqT (q := 21) C [0] [1] (cx := [(po, .inr (3, [va_rf (Option.map ad ord.head?), .int (nI n), .int ap, .int sp]))]) (wr := [(o_0, .inr (0, [.int (nI n), .int S9, .int P9, .int C9, .int 0, .null]))]) (st := []) rfl rfl rfl rfl (by decide) (fun H locs ls hP hPc hDc hS hFc hl => x_runV C (As := [.int C9]) (c_X3_lastFiredBefore po n ad stp pow cst frd nx ord (nI n) ap sp C9  hch hlt) (cwV 1 C.2.2.2.2.2.1 gX3_add_X3_lastFiredBefore rfl rfl rfl (by decide +kernel) ⟨Nat.le_of_ble_eq_true rfl, Nat.le_of_ble_eq_true rfl⟩) rfl 0 rfl rfl rfl (Nat.le_of_ble_eq_true rfl) dX3_add_18 ⟨Nat.le_of_ble_eq_true rfl, Nat.le_of_ble_eq_true rfl⟩ (fun h => absurd h (by decide)) hP hPc hDc hS hFc hl) (k := 1) (n := 6) rfl rfl rfl (fun r_18 x1 pl1 hw => ?_)
  obtain ⟨rfl, hw⟩ := hw
  obtain ⟨rfl, rfl⟩ := Prod.mk.inj hw
  refine x_ord [1, 0] [(po, .inr (3, [va_rf (Option.map ad ord.head?), .int (nI n), .int ap, .int sp])), (o_0, .inr (0, [.int (nI n), .int S9, .int P9, .int C9, .int 0, .null]))] rfl rfl ?_
  refine x_astoreO (q := 23) C (Option.map ad (lfb cst C9 none ord)) [(5, va_rf (Option.map ad (lfb cst C9 none ord))), (4, .ref o_0), (0, .ref po), (1, .int S9), (2, .int P9), (3, .int C9)] dX3_add_21 (by decide) rfl rfl ?_
  rcases hb : lfb cst C9 none ord with _ | b
  · refine x_aloadN (q := 25) C 0 rfl dX3_add_23 rfl ?_
    refine x_ifnonnull_f (q := 28) C dX3_add_25 rfl ?_
    refine x_aload (q := 30) C 1 rfl dX3_add_28 rfl ?_
    refine x_aload_n (q := 31) C 2 rfl dX3_add_30 rfl ?_
    refine x_get (q := 34) C (T := TX3) iw_X3_add_X3 rfl 0 0 rfl (by decide) rfl (by decide +kernel : Cond.fieldLink RX3 22 RX3 "first" "LHeatGuild$Boiler;" ∈ wsX3_add) rfl dX3_add_31 rfl ?_
    refine x_putN (q := 37) C (T := TX0) iw_X3_add_X0 tyX0 tyX0_ok nmX0 rfl 1 5 [(po, .inr (3, [va_rf (Option.map ad ord.head?), .int (nI n), .int ap, .int sp])), (o_0, .inr (0, [.int (nI n), .int S9, .int P9, .int C9, .int 0, va_rf (Option.map ad ord.head?)]))] rfl rfl (by decide) rfl (by decide +kernel : Cond.fieldLinkNest RX3 26 RX0 "next" "LHeatGuild$Boiler;" RX4 ∈ xNest) rfl (.object "HeatGuild$Boiler") (by decide +kernel) (by cases (Option.map ad ord.head?) <;> rfl) (by cases (Option.map ad ord.head?) <;> rfl) (Nat.le_of_ble_eq_true rfl) dX3_add_34 rfl ?_
    refine x_aload_n (q := 38) C 2 rfl dX3_add_37 rfl ?_
    refine x_aload (q := 40) C 1 rfl dX3_add_38 rfl ?_
    refine x_put (q := 43) C (T := TX3) iw_X3_add_X3 tyX3 tyX3_ok nmX3 rfl 0 0 [(po, .inr (3, [.ref o_0, .int (nI n), .int ap, .int sp])), (o_0, .inr (0, [.int (nI n), .int S9, .int P9, .int C9, .int 0, va_rf (Option.map ad ord.head?)]))] rfl rfl (by decide) rfl (by decide +kernel : Cond.fieldLink RX3 22 RX3 "first" "LHeatGuild$Boiler;" ∈ wsX3_add) rfl (.object "HeatGuild$Boiler") (by decide +kernel) rfl rfl (Nat.le_of_ble_eq_true rfl) dX3_add_40 rfl ?_
    refine x_goto C 63 dX3_add_43 (by decide) ?_
    refine x_aload_n (q := 64) C 2 rfl dX3_add_63 rfl ?_
    refine x_dup (q := 65) C rfl dX3_add_64 rfl ?_
    refine x_get (q := 68) C (T := TX3) iw_X3_add_X3 rfl 0 1 rfl (by decide) rfl (by decide +kernel : Cond.fieldLink RX3 9 RX3 "count" "I" ∈ wsX3_add) rfl dX3_add_65 rfl ?_
    refine x_iconst (q := 69) C 1 rfl dX3_add_68 rfl ?_
    refine x_iadd (q := 70) C (nI (n + 1)) (nI_1 n) dX3_add_69 rfl ?_
    refine x_put (q := 73) C (T := TX3) iw_X3_add_X3 tyX3 tyX3_ok nmX3 rfl 0 1 [(po, .inr (3, [.ref o_0, .int (nI (n + 1)), .int ap, .int sp])), (o_0, .inr (0, [.int (nI n), .int S9, .int P9, .int C9, .int 0, va_rf (Option.map ad ord.head?)]))] rfl rfl (by decide) rfl (by decide +kernel : Cond.fieldLink RX3 9 RX3 "count" "I" ∈ wsX3_add) rfl .int (by decide +kernel) rfl rfl (Nat.le_of_ble_eq_true rfl) dX3_add_70 rfl ?_
    refine x_aload_n (q := 74) C 2 rfl dX3_add_73 rfl ?_
    refine x_dup (q := 75) C rfl dX3_add_74 rfl ?_
    refine x_get (q := 78) C (T := TX3) iw_X3_add_X3 rfl 0 2 rfl (by decide) rfl (by decide +kernel : Cond.fieldLink RX3 29 RX3 "allPower" "I" ∈ wsX3_add) rfl dX3_add_75 rfl ?_
    refine x_iload_n (q := 79) C 3 rfl dX3_add_78 rfl ?_
    refine x_iload_n (q := 80) C 4 rfl dX3_add_79 rfl ?_
    refine x_imul (q := 81) C (S9 * P9) (rfl) dX3_add_80 rfl ?_
    refine x_iadd (q := 82) C (ap + (S9 * P9)) (rfl) dX3_add_81 rfl ?_
    refine x_put (q := 85) C (T := TX3) iw_X3_add_X3 tyX3 tyX3_ok nmX3 rfl 0 2 [(po, .inr (3, [.ref o_0, .int (nI (n + 1)), .int (ap + (S9 * P9)), .int sp])), (o_0, .inr (0, [.int (nI n), .int S9, .int P9, .int C9, .int 0, va_rf (Option.map ad ord.head?)]))] rfl rfl (by decide) rfl (by decide +kernel : Cond.fieldLink RX3 29 RX3 "allPower" "I" ∈ wsX3_add) rfl .int (by decide +kernel) rfl rfl (Nat.le_of_ble_eq_true rfl) dX3_add_82 rfl ?_
    refine x_aload (q := 87) C 1 rfl dX3_add_85 rfl ?_
    refine x_getN (q := 90) C (T := TX0) iw_X3_add_X0 rfl 1 0 rfl (by decide) rfl (by decide +kernel : Cond.fieldLinkNest RX3 32 RX0 "number" "I" RX4 ∈ xNest) rfl dX3_add_87 rfl ?_
    refine x_world (X' := [(po, .inr (3, [va_rf (Option.map (va_up ad n o_0) (addFst n ord.head? none)), .int (nI (n + 1)), .int (ap + (S9 * P9)), .int sp])), (o_0, .inr (0, [.int (nI n), .int S9, .int P9, .int C9, .int 0, va_rf (Option.map ad ord.head?)]))]) (pl' := bl ad stp pow cst frd nx n) (by simp [addFst, va_up]; rfl) ?_
    refine x_perm [(po, .inr (3, [va_rf (Option.map (va_up ad n o_0) (addFst n ord.head? none)), .int (nI (n + 1)), .int (ap + (S9 * P9)), .int sp]))] (bl (va_up ad n o_0) (va_up stp n S9) (va_up pow n P9) (va_up cst n C9) (va_up frd n 0) (addNx nx n ord.head? none) (n + 1)) (bl_push (X := [(po, .inr (3, [va_rf (Option.map (va_up ad n o_0) (addFst n ord.head? none)), .int (nI (n + 1)), .int (ap + (S9 * P9)), .int sp]))]) (by simp [bcell, addNx, va_up_self, map_up hhd]) (fun k hk => add_cell hk (by simp [addNx, va_up, Nat.ne_of_lt hk]) (hnx k hk))) ?_
    exact x_iretT C .int rfl rfl (⟨rfl, o_0, rfl⟩) dX3_add_90 (Nat.le_of_ble_eq_true rfl) (Nat.le_of_ble_eq_true rfl)
  · have hbn : b < n := by
      rcases lfb_mem hb with h | h
      · cases h
      · exact hlt b h
    refine x_aload (q := 25) C 0 rfl dX3_add_23 rfl ?_
    refine x_ifnonnull_t C 46 dX3_add_25 (by decide) ?_
    refine x_aload (q := 48) C 1 rfl dX3_add_46 rfl ?_
    refine x_aload (q := 50) C 0 rfl dX3_add_48 rfl ?_
    refine x_getN (q := 53) C (T := TX0) iw_X3_add_X0 rfl _ 5 (bl_at hbn) (by decide) rfl (by decide +kernel : Cond.fieldLinkNest RX3 26 RX0 "next" "LHeatGuild$Boiler;" RX4 ∈ xNest) (v := va_rf (Option.map ad (nx b))) (congrArg (fun z => some (va_rf (Option.map ad z))) rfl) dX3_add_50 rfl ?_
    refine x_putN (q := 56) C (T := TX0) iw_X3_add_X0 tyX0 tyX0_ok nmX0 rfl 1 5 [(po, .inr (3, [va_rf (Option.map ad ord.head?), .int (nI n), .int ap, .int sp])), (o_0, .inr (0, [.int (nI n), .int S9, .int P9, .int C9, .int 0, va_rf (Option.map ad (nx b))]))] rfl rfl (by decide) rfl (by decide +kernel : Cond.fieldLinkNest RX3 26 RX0 "next" "LHeatGuild$Boiler;" RX4 ∈ xNest) rfl (.object "HeatGuild$Boiler") (by decide +kernel) (by cases (Option.map ad (nx b)) <;> rfl) (by cases (Option.map ad (nx b)) <;> rfl) (Nat.le_of_ble_eq_true rfl) dX3_add_53 rfl ?_
    refine x_perm [(po, .inr (3, [va_rf (Option.map ad ord.head?), .int (nI n), .int ap, .int sp])), (o_0, .inr (0, [.int (nI n), .int S9, .int P9, .int C9, .int 0, va_rf (Option.map ad (nx b))])), ((ad b), .inr (0, [.int (nI b), .int (stp b), .int (pow b), .int (cst b), .int (frd b), va_rf (Option.map ad (nx b))]))] (blr ad stp pow cst frd nx n b) (bl_out (X := [(po, .inr (3, [va_rf (Option.map ad ord.head?), .int (nI n), .int ap, .int sp])), (o_0, .inr (0, [.int (nI n), .int S9, .int P9, .int C9, .int 0, va_rf (Option.map ad (nx b))]))]) hbn) ?_
    refine x_aload (q := 58) C 0 rfl dX3_add_56 rfl ?_
    refine x_aload (q := 60) C 1 rfl dX3_add_58 rfl ?_
    refine x_putN (q := 63) C (T := TX0) iw_X3_add_X0 tyX0 tyX0_ok nmX0 rfl 2 5 [(po, .inr (3, [va_rf (Option.map ad ord.head?), .int (nI n), .int ap, .int sp])), (o_0, .inr (0, [.int (nI n), .int S9, .int P9, .int C9, .int 0, va_rf (Option.map ad (nx b))])), ((ad b), .inr (0, [.int (nI b), .int (stp b), .int (pow b), .int (cst b), .int (frd b), .ref o_0]))] rfl rfl (by decide) rfl (by decide +kernel : Cond.fieldLinkNest RX3 26 RX0 "next" "LHeatGuild$Boiler;" RX4 ∈ xNest) rfl (.object "HeatGuild$Boiler") (by decide +kernel) rfl rfl (Nat.le_of_ble_eq_true rfl) dX3_add_60 rfl ?_
    refine x_aload_n (q := 64) C 2 rfl dX3_add_63 rfl ?_
    refine x_dup (q := 65) C rfl dX3_add_64 rfl ?_
    refine x_get (q := 68) C (T := TX3) iw_X3_add_X3 rfl 0 1 rfl (by decide) rfl (by decide +kernel : Cond.fieldLink RX3 9 RX3 "count" "I" ∈ wsX3_add) rfl dX3_add_65 rfl ?_
    refine x_iconst (q := 69) C 1 rfl dX3_add_68 rfl ?_
    refine x_iadd (q := 70) C (nI (n + 1)) (nI_1 n) dX3_add_69 rfl ?_
    refine x_put (q := 73) C (T := TX3) iw_X3_add_X3 tyX3 tyX3_ok nmX3 rfl 0 1 [(po, .inr (3, [va_rf (Option.map ad ord.head?), .int (nI (n + 1)), .int ap, .int sp])), (o_0, .inr (0, [.int (nI n), .int S9, .int P9, .int C9, .int 0, va_rf (Option.map ad (nx b))])), ((ad b), .inr (0, [.int (nI b), .int (stp b), .int (pow b), .int (cst b), .int (frd b), .ref o_0]))] rfl rfl (by decide) rfl (by decide +kernel : Cond.fieldLink RX3 9 RX3 "count" "I" ∈ wsX3_add) rfl .int (by decide +kernel) rfl rfl (Nat.le_of_ble_eq_true rfl) dX3_add_70 rfl ?_
    refine x_aload_n (q := 74) C 2 rfl dX3_add_73 rfl ?_
    refine x_dup (q := 75) C rfl dX3_add_74 rfl ?_
    refine x_get (q := 78) C (T := TX3) iw_X3_add_X3 rfl 0 2 rfl (by decide) rfl (by decide +kernel : Cond.fieldLink RX3 29 RX3 "allPower" "I" ∈ wsX3_add) rfl dX3_add_75 rfl ?_
    refine x_iload_n (q := 79) C 3 rfl dX3_add_78 rfl ?_
    refine x_iload_n (q := 80) C 4 rfl dX3_add_79 rfl ?_
    refine x_imul (q := 81) C (S9 * P9) (rfl) dX3_add_80 rfl ?_
    refine x_iadd (q := 82) C (ap + (S9 * P9)) (rfl) dX3_add_81 rfl ?_
    refine x_put (q := 85) C (T := TX3) iw_X3_add_X3 tyX3 tyX3_ok nmX3 rfl 0 2 [(po, .inr (3, [va_rf (Option.map ad ord.head?), .int (nI (n + 1)), .int (ap + (S9 * P9)), .int sp])), (o_0, .inr (0, [.int (nI n), .int S9, .int P9, .int C9, .int 0, va_rf (Option.map ad (nx b))])), ((ad b), .inr (0, [.int (nI b), .int (stp b), .int (pow b), .int (cst b), .int (frd b), .ref o_0]))] rfl rfl (by decide) rfl (by decide +kernel : Cond.fieldLink RX3 29 RX3 "allPower" "I" ∈ wsX3_add) rfl .int (by decide +kernel) rfl rfl (Nat.le_of_ble_eq_true rfl) dX3_add_82 rfl ?_
    refine x_aload (q := 87) C 1 rfl dX3_add_85 rfl ?_
    refine x_getN (q := 90) C (T := TX0) iw_X3_add_X0 rfl 1 0 rfl (by decide) rfl (by decide +kernel : Cond.fieldLinkNest RX3 32 RX0 "number" "I" RX4 ∈ xNest) rfl dX3_add_87 rfl ?_
    refine x_world (X' := [(po, .inr (3, [va_rf (Option.map (va_up ad n o_0) (addFst n ord.head? (some b))), .int (nI (n + 1)), .int (ap + (S9 * P9)), .int sp])), (o_0, .inr (0, [.int (nI n), .int S9, .int P9, .int C9, .int 0, va_rf (Option.map ad (nx b))])), ((ad b), .inr (0, [.int (nI b), .int (stp b), .int (pow b), .int (cst b), .int (frd b), .ref o_0]))]) (pl' := blr ad stp pow cst frd nx n b) (by simp only [addFst]; rw [map_up hhd]) ?_
    refine x_perm [(po, .inr (3, [va_rf (Option.map (va_up ad n o_0) (addFst n ord.head? (some b))), .int (nI (n + 1)), .int (ap + (S9 * P9)), .int sp]))] (bl (va_up ad n o_0) (va_up stp n S9) (va_up pow n P9) (va_up cst n C9) (va_up frd n 0) (addNx nx n ord.head? (some b)) (n + 1)) (bl_push2 (X := [(po, .inr (3, [va_rf (Option.map (va_up ad n o_0) (addFst n ord.head? (some b))), .int (nI (n + 1)), .int (ap + (S9 * P9)), .int sp]))]) hbn (by simp [bcell, addNx, va_up, Nat.ne_of_gt hbn]; rw [map_up (hnx b hbn)]) (by simp [bcell, addNx, va_up, Nat.ne_of_lt hbn]; rfl) (fun k hk hkb => add_cell hk (by simp [addNx, va_up, hkb, Nat.ne_of_lt hk]) (hnx k hk))) ?_
    exact x_iretT C .int rfl rfl (⟨rfl, o_0, rfl⟩) dX3_add_90 (Nat.le_of_ble_eq_true rfl) (Nat.le_of_ble_eq_true rfl)
