/-! the law's own rows: the script, longs compared, the switch -/
section XS
variable {p : Program} {l : Launch} {e : Env} {R : Room} {s : State} {m : MethodId} {args : Array Value} {below : List Frame} {meth : Method} {c : Code} {cc : ByteArray} {nL : Nat} {ret : Option FieldType} {Ts : List Cond} {own : String} {D : va_G} {cy : ClassId × ClassId × ClassId} {A : Nat → Prop} {cells slots : Nat} {Q : State → Prop} {X pl : va_W} {lv : List (Nat × Value)} {st : List Value} {pc q : Nat}
theorem x_sld (C : xC p s m args meth c cc nL ret Ts own D cy A) {bS L : Nat} {xs : Nat → Int32} (hX : va_X bS L xs s s.heap) (hbl : bS < s.heap.size) (hbA : ¬ A bS) {i : Int32} (j : Nat) (v : Int32) (hi : i = nI j) (hj : j < L) (hL : L < 2 ^ 31) (hv : xs j = v) (hd : decode cc pc = .ok (.iaload, 1)) (hq : pc + 1 = q) (kk : xW p l e R s m args below meth c D A nL cells slots Q q X pl lv (.int v :: st)) : xW p l e R s m args below meth c D A nL cells slots Q pc X pl lv (.int i :: .ref bS :: st) := by
  subst hq
  subst hi
  subst hv
  intro H locs ls hP hD hS hl
  refine va_sld C.1 C.2.1 hX hbl hbA hS (vp_in_nI hj hL) hd ?_
  rw [nI_clamp (Nat.lt_trans hj hL)]
  exact kk H locs ls hP hD hS hl
theorem x_slen (C : xC p s m args meth c cc nL ret Ts own D cy A) {bS L : Nat} {xs : Nat → Int32} (hX : va_X bS L xs s s.heap) (hbl : bS < s.heap.size) (hbA : ¬ A bS) (hd : decode cc pc = .ok (.arraylength, 1)) (hq : pc + 1 = q) (kk : xW p l e R s m args below meth c D A nL cells slots Q q X pl lv (.int (nI L) :: st)) : xW p l e R s m args below meth c D A nL cells slots Q pc X pl lv (.ref bS :: st) := by
  subst hq
  intro H locs ls hP hD hS hl
  exact va_slen C.1 C.2.1 hX hbl hbA hS hd (kk H locs ls hP hD hS hl)
theorem x_lcmp_eq (C : xC p s m args meth c cc nL ret Ts own D cy A) {x y : Int64} (h : x = y) (hd : decode cc pc = .ok (.lcmp, 1)) (hq : pc + 1 = q) (kk : xW p l e R s m args below meth c D A nL cells slots Q q X pl lv (.int 0 :: st)) : xW p l e R s m args below meth c D A nL cells slots Q pc X pl lv (.long y :: .long x :: st) := by
  subst hq
  subst h
  intro H locs ls hP hD hS hl
  refine W.lcmp C.1 C.2.1 hd ?_
  rw [show lg_cmp x x = 0 by simp [lg_cmp]]
  exact kk H locs ls hP hD hS hl
theorem x_table (C : xC p s m args meth c cc nL ret Ts own D cy A) {dflt lo hi : Int} {offs : Array Int} {len : Nat} {x : Int32} {off : Int} (tgt : Nat) (hd : decode cc pc = .ok (.tableswitch dflt lo hi offs, len)) (h1 : ¬ x.toInt < lo) (h2 : ¬ hi < x.toInt) (ho : offs[(x.toInt - lo).toNat]? = some off) (ht : (pc : Int) + off = (tgt : Int)) (kk : xW p l e R s m args below meth c D A nL cells slots Q tgt X pl lv st) : xW p l e R s m args below meth c D A nL cells slots Q pc X pl lv (.int x :: st) := by
  intro H locs ls hP hD hS hl
  exact lv_tableIn C.1 C.2.1 hd h1 h2 ho ht (kk H locs ls hP hD hS hl)
end XS
theorem lw_head {L k : Nat} (hL : L ≤ 2048) (h : ¬ nI L - 4 < nI (4 * k)) (hk : k ≤ 512) : 4 * k + 4 ≤ L := by
  rw [Int32.lt_iff_toInt_lt, nI_toInt (by omega)] at h
  rw [show (4 : Int32) = nI 4 from rfl, pk_sub_toInt (by omega) (by omega)] at h
  omega
theorem lw_exit {L : Nat} (hL : L ≤ 2048) : nI L - 4 < nI (4 * 512) := by
  rw [Int32.lt_iff_toInt_lt, nI_toInt (by omega), show (4 : Int32) = nI 4 from rfl, pk_sub_toInt (by omega) (by omega)]
  omega
