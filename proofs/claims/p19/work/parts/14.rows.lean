/-! rows that the law of p19 needs beside: remainders, shifts, constants, the script, the switch; numbers -/
theorem nI_bv (a : Nat) (h : a < 2 ^ 31) : (nI a).toInt = (a : Int) := nI_toInt h
theorem i_ext {a b : Int32} (h : a.toInt = b.toInt) : a = b := Int32.toInt_inj.mp h
theorem nI_mul {a b : Nat} (h : a * b < 2 ^ 31) (ha : a < 2 ^ 31) (hb : b < 2 ^ 31) : nI a * nI b = nI (a * b) := by
  refine i_ext ?_
  rw [Int32.toInt_mul, nI_toInt ha, nI_toInt hb, nI_toInt h]
  rw [← Int.natCast_mul]
  exact Int.bmod_eq_of_le (by omega) (by omega)
theorem nI_div {a b : Nat} (ha : a < 2 ^ 31) (hb : b < 2 ^ 31) (h0 : 0 < b) : nI a / nI b = nI (a / b) := by
  obtain ⟨d, hd2⟩ : ∃ d, a / b = d := ⟨_, rfl⟩
  have hd : d ≤ a := hd2 ▸ Nat.div_le_self a b
  refine i_ext ?_
  rw [Int32.toInt_div, nI_toInt ha, nI_toInt hb, ← Int.ofNat_tdiv, hd2, nI_toInt (by omega)]
  exact Int.bmod_eq_of_le (by omega) (by omega)
theorem nI_sub {a b : Nat} (h : b ≤ a) (ha : a < 2 ^ 31) : nI a - nI b = nI (a - b) := by
  refine i_ext ?_
  rw [Int32.toInt_sub, nI_toInt ha, nI_toInt (by omega), nI_toInt (by omega)]
  rw [show (a : Int) - (b : Int) = ((a - b : Nat) : Int) by omega]
  exact Int.bmod_eq_of_le (by omega) (by omega)
theorem nI_rem {a b : Nat} (ha : a < 2 ^ 31) (hb : b < 2 ^ 31) (h0 : 0 < b) : nI a - nI a / nI b * nI b = nI (a % b) := by
  have hd : a / b ≤ a := Nat.div_le_self a b
  have hm : a / b * b ≤ a := Nat.div_mul_le_self a b
  have he : a - a / b * b = a % b := by rw [Nat.mod_eq_sub_mul_div, Nat.mul_comm]
  rw [nI_div ha hb h0, nI_mul (by omega) (by omega) hb, nI_sub hm ha, he]
section XS
variable {p : Program} {l : Launch} {e : Env} {R : Room} {s : State} {m : MethodId} {args : Array Value} {below : List Frame} {meth : Method} {c : Code} {cc : ByteArray} {nL : Nat} {ret : Option FieldType} {Ts : List Cond} {own : String} {D : va_G} {cy : ClassId × ClassId × ClassId} {A : Nat → Prop} {cells slots : Nat} {Q : State → Prop} {X pl : va_W} {lv : List (Nat × Value)} {st : List Value} {pc q : Nat}
theorem x_irem (C : xC p s m args meth c cc nL ret Ts own D cy A) {x y : Int32} (v : Int32) (hv : x - x / y * y = v) (hne : ¬ y = 0) (hd : decode cc pc = .ok (.irem, 1)) (hq : pc + 1 = q) (kk : xW p l e R s m args below meth c D A nL cells slots Q q X pl lv (.int v :: st)) : xW p l e R s m args below meth c D A nL cells slots Q pc X pl lv (.int y :: .int x :: st) := by
  subst hq
  subst hv
  intro H locs ls hP hD hS hl
  exact lv_irem C.1 C.2.1 hd hne (kk H locs ls hP hD hS hl)
theorem x_ior (C : xC p s m args meth c cc nL ret Ts own D cy A) {x y : Int32} (v : Int32) (hv : x ||| y = v) (hd : decode cc pc = .ok (.ior, 1)) (hq : pc + 1 = q) (kk : xW p l e R s m args below meth c D A nL cells slots Q q X pl lv (.int v :: st)) : xW p l e R s m args below meth c D A nL cells slots Q pc X pl lv (.int y :: .int x :: st) := by
  subst hq
  subst hv
  intro H locs ls hP hD hS hl
  exact lv_ior C.1 C.2.1 hd (kk H locs ls hP hD hS hl)
theorem x_ishl (C : xC p s m args meth c cc nL ret Ts own D cy A) {x y : Int32} (v : Int32) (hv : x <<< (y &&& 31) = v) (hd : decode cc pc = .ok (.ishl, 1)) (hq : pc + 1 = q) (kk : xW p l e R s m args below meth c D A nL cells slots Q q X pl lv (.int v :: st)) : xW p l e R s m args below meth c D A nL cells slots Q pc X pl lv (.int y :: .int x :: st) := by
  subst hq
  subst hv
  intro H locs ls hP hD hS hl
  exact lv_ishl C.1 C.2.1 hd (kk H locs ls hP hD hS hl)
theorem x_ishr (C : xC p s m args meth c cc nL ret Ts own D cy A) {x y : Int32} (v : Int32) (hv : x >>> (y &&& 31) = v) (hd : decode cc pc = .ok (.ishr, 1)) (hq : pc + 1 = q) (kk : xW p l e R s m args below meth c D A nL cells slots Q q X pl lv (.int v :: st)) : xW p l e R s m args below meth c D A nL cells slots Q pc X pl lv (.int y :: .int x :: st) := by
  subst hq
  subst hv
  intro H locs ls hP hD hS hl
  exact lv_ishr C.1 C.2.1 hd (kk H locs ls hP hD hS hl)
theorem x_ldc (C : xC p s m args meth c cc nL ret Ts own D cy A) {index : Nat} (v : Int32) (hw : Cond.constant own index v ∈ Ts) (hd : decode cc pc = .ok (.ldc index, 2)) (hq : pc + 2 = q) (kk : xW p l e R s m args below meth c D A nL cells slots Q q X pl lv (.int v :: st)) : xW p l e R s m args below meth c D A nL cells slots Q pc X pl lv st := by
  subst hq
  intro H locs ls hP hD hS hl
  exact lv_ldc C.1 C.2.1 C.2.2.2.2.1 (C.2.2.2.2.2.1 _ hw) hd (kk H locs ls hP hD hS hl)
theorem x_sld (C : xC p s m args meth c cc nL ret Ts own D cy A) {bS L : Nat} {xs : Nat → Int32} (hX : va_X bS L xs s s.heap) (hbl : bS < s.heap.size) (hbA : ¬ A bS) {i : Int32} (j : Nat) (v : Int32) (hi : i = nI j) (hj : j < L) (hL : L < 2 ^ 31) (hv : xs j = v) (hd : decode cc pc = .ok (.iaload, 1)) (hq : pc + 1 = q) (kk : xW p l e R s m args below meth c D A nL cells slots Q q X pl lv (.int v :: st)) : xW p l e R s m args below meth c D A nL cells slots Q pc X pl lv (.int i :: .ref bS :: st) := by
  subst hq
  subst hi
  subst hv
  intro H locs ls hP hD hS hl
  refine va_sld C.1 C.2.1 hX hbl hbA hS (vp_in_nI hj hL) hd ?_
  rw [nI_clamp (Nat.lt_trans hj hL)]
  exact kk H locs ls hP hD hS hl
theorem x_slen (C : xC p s m args meth c cc nL ret Ts own D cy A) {bS L : Nat} {xs : Nat → Int32} (hX : va_X bS L xs s s.heap) (hbl : bS < s.heap.size) (hbA : ¬ A bS) (hd : decode cc pc = .ok (.arraylength, 1)) (hq : pc + 1 = q) (kk : xW p l e R s m args below meth c D A nL cells slots Q q X pl lv (.int (nI L) :: st)) : xW p l e R s m args below meth c D A nL cells slots Q pc X pl lv (.ref bS :: st) := by
  subst hq
  intro H locs ls hP hD hS hl
  exact va_slen C.1 C.2.1 hX hbl hbA hS hd (kk H locs ls hP hD hS hl)
theorem x_table (C : xC p s m args meth c cc nL ret Ts own D cy A) {dflt lo hi : Int} {offs : Array Int} {len : Nat} {x : Int32} {off : Int} (tgt : Nat) (hd : decode cc pc = .ok (.tableswitch dflt lo hi offs, len)) (h1 : ¬ x.toInt < lo) (h2 : ¬ hi < x.toInt) (ho : offs[(x.toInt - lo).toNat]? = some off) (ht : (pc : Int) + off = (tgt : Int)) (kk : xW p l e R s m args below meth c D A nL cells slots Q tgt X pl lv st) : xW p l e R s m args below meth c D A nL cells slots Q pc X pl lv (.int x :: st) := by
  intro H locs ls hP hD hS hl
  exact lv_tableIn C.1 C.2.1 hd h1 h2 ho ht (kk H locs ls hP hD hS hl)
theorem x_tableO (C : xC p s m args meth c cc nL ret Ts own D cy A) {dflt lo hi : Int} {offs : Array Int} {len : Nat} {x : Int32} (tgt : Nat) (hd : decode cc pc = .ok (.tableswitch dflt lo hi offs, len)) (h1 : x.toInt < lo ∨ hi < x.toInt) (ht : (pc : Int) + dflt = (tgt : Int)) (kk : xW p l e R s m args below meth c D A nL cells slots Q tgt X pl lv st) : xW p l e R s m args below meth c D A nL cells slots Q pc X pl lv (.int x :: st) := by
  intro H locs ls hP hD hS hl
  exact lv_tableOut C.1 C.2.1 hd h1 ht (kk H locs ls hP hD hS hl)
/-- a method that reads the script at bS and nothing else -/
def xMS (l : Launch) (y : MethodName) (ws : List Cond) (rm : Room) (D : va_G) (cy : ClassId × ClassId × ClassId) (av : List Value) (bS L : Nat) (xs : Nat → Int32) (Qc : (Nat → Prop) → Array Value → State → Outcome → State → Prop) : Prop := ∀ sz : Nat, Met l y ws rm (fun a U => xPc false D cy av [] sz a U ∧ va_X bS L xs U U.heap ∧ bS < sz) (Qc (va_A [] sz)) 0 0 (va_A [] sz)
theorem xMS_of {l : Launch} {y : MethodName} {ws ws' : List Cond} {rm : Room} {D : va_G} {cy : ClassId × ClassId × ClassId} {av : List Value} {bS L : Nat} {xs : Nat → Int32} {Qc : (Nat → Prop) → Array Value → State → Outcome → State → Prop} {nL : Nat} {cc : ByteArray} {ret : Option FieldType} (own : String) (lv : List (Nat × Value)) (hy : plainName y.cls = true) (hw : ws = Cond.code y cc nL ret :: ws') (hown : y.cls = own) (hlv : lv_args 0 av = lv) (hlen : (lg_sl av).length ≤ nL)
    (body : ∀ (p : Program) (e : Env) (s : State) (m : MethodId) (args : Array Value) (below : List Frame) (meth : Method) (c : Code) (A : Nat → Prop), xC p s m args meth c cc nL ret ws own D cy A → va_X bS L xs s s.heap → bS < s.heap.size → ¬ A bS → xW p l e rm s m args below meth c D A nL 0 0 (MQ below (Qc A) args s 0 0 A) 0 [] [] lv []) : xMS l y ws rm D cy av bS L xs Qc := by
  intro sz
  refine Met.ofW (cc := cc) (maxL := nL) (ret := ret) hy hw ?_
  intro p e s m args below meth c s₁ B hml hv
  obtain ⟨⟨rfl, hsz, hP, hK, hD0, hZ⟩, hX, hb⟩ := hv
  subst hsz
  have hts := atoms_spec (ws := ws) B.pre
  have hown' : s.vm.findClass own = some m.cls := hown ▸ findClass_of_methodNamed B.named
  have hl := lv_entry av hlen
  rw [lg_entry_eq]
  rw [hlv] at hl
  exact body p e s m _ below meth c _ ⟨B.exec, B.bytes, hml, B.returns, hown', hts, hK, fun q h => Or.inr h, B.notSynchronized⟩ hX hb (fun h => by
    rcases h with ⟨k, e, h⟩ | h
    · cases h
    · omega) s.heap [] _ hP hD0.self va_S.rf hl
theorem x_runSS (C : xC p s m args meth c cc nL ret Ts own D cy A) {y : MethodName} {bytes : ByteArray} {maxL n index : Nat} {ret9 : Option FieldType} {wsy : List Cond} {rm : Room} {bS L : Nat} {xs : Nat → Int32} {Qc : (Nat → Prop) → Array Value → State → Outcome → State → Prop} {As : List Value} {st0 : List Value} (hM : xMS l y wsy rm D cy As bS L xs Qc) (hX : va_X bS L xs s s.heap) (hbl : bS < s.heap.size) (hbA : ¬ A bS) (cw : CallB R s args own index y bytes maxL ret9 wsy rm 0 0 n ∧ (Cond.static y).before args s = true)
    (hst : st0 = As.reverse ++ st) (hn : As.length = n) (hroom : (st.map fun v => v.category).sum ≤ 8) (hd : decode cc pc = .ok (.invokestatic index, 3)) (hf : cells + 0 ≤ R.cells ∧ slots + 0 ≤ R.slots)
    {H : Heap} {locs : List Loc} {ls : Array Slot} (hPc : va_P D vwCl [] H) (hDc : va_D (fun _ => True) []) (hS : va_S A s.heap H locs) (hl : ls.size = nL) : va_Run p l e R s m args below meth c H locs cells slots 0 0 (F0 m pc ls st0) st (Qc (va_A [] H.size) As.toArray) (va_A [] H.size) := by
  subst hst
  have hbH : H[bS]? = s.heap[bS]? := hS.2.1 bS hbl hbA
  have hbl2 : bS < H.size := by
    have h1 : (s.heap[bS]?).isSome = true := by rw [Array.getElem?_eq_getElem hbl]; rfl
    rw [← hbH] at h1
    exact (Array.getElem?_eq_some_iff.mp (Option.eq_some_of_isSome h1)).1
  refine va_runS (As := As) (rest := st) ⟨C.1, C.2.1, C.2.2.1, C.2.2.2.2.1, C.2.2.2.2.2.1⟩ (hM H.size) cw ⟨?_, fun U hU hW => ⟨xPc.at C.2.2.2.2.2.2.1 hPc hDc (fun h => absurd h (by decide)) hU hW, ?_, hbl2⟩⟩ rfl hn hl rfl (lv_room hroom) hd hf
  · intro a U g mk h
    exact ⟨xPc.blind a U g mk h.1, va_X.moved (u := U) (U := U.calling g mk a) (Vm.Alike.refl U.vm) h.2.1, h.2.2⟩
  · rw [hU]
    exact (hX.kept hbH).moved hW.alike
end XS
