/-! the frame: one judgement xW over a world (its list of cells X, and a tail pl), the locals that are known, the stack; a row an instruction -/
def xT (cy : ClassId × ClassId × ClassId) : List (ClassId × FieldType) := [(cy.1, .int), (cy.2.1, .boolean)]
def xIsNest : Cond → Bool
  | .methodLinkNest .. => true
  | .fieldLinkNest .. => true
  | .declares _ => true
  | .castable .. => true
  | _ => false
def xNest : List Cond := tables_1.filter xIsNest
def xN (U : State) : Prop := ∀ w ∈ xNest, w.before #[] U = true
theorem xN.warm {s U : State} (hW : s.WarmedH U.vm) (h : xN s) : xN U := fun w hw => by
  have hb := (List.mem_filter.mp hw).2
  have h0 := h w hw
  have tr : ∀ {c : Cond}, c.onTables = true → c.before #[] (s.setVm U.vm) = true → c.before #[] U = true := by
    intro c hc h
    have e := Cond.onTables_vm (A := #[]) (A' := #[]) (U := s) (U' := U) U.vm c hc
    rw [show U.setVm U.vm = U from rfl] at e
    rw [← e]
    exact h
  cases w <;> first | (simp [xIsNest] at hb; done) | exact va_Nw.warmF hW h0 | exact va_Nw.warmM hW h0 | exact tr rfl (by rw [Cond.declares_setVm hW.alike]; exact h0) | exact tr rfl (by rw [Cond.castable_setVm hW.alike]; exact h0)
theorem xN.same {u U : State} (hv : u.vm = U.vm) (h : xN u) : xN U := fun w hw => by
  have hb := (List.mem_filter.mp hw).2
  have h0 := h w hw
  cases w <;> first | (simp [xIsNest] at hb; done) | exact va_Nw.same rfl hv h0
/-- the texts of the class's exceptions -/
def xStr : List (Nat × String) := [(44, "junction, from or loss is out of range"), (55, "an hour has passed"), (64, "junction or area is out of range"), (69, "steps, power or cost is out of range"), (74, "there are 4 boilers"), (80, "junction or error is out of range"), (85, "junction or hours is out of range"), (90, "the valve is shut"), (95, "the last hour was too cold"), (174, "temperature is out of range"), (144, "there is no such boiler"), (152, "junction is out of range")]
def xK (D : va_G) (cy : ClassId × ClassId × ClassId) (U : State) : Prop := va_K D vwCl (xT cy) U ∧ xN U ∧ (∀ q ∈ xStr, ∃ a, vk_R RX4 q.1 q.2 a U) ∧ True
theorem va_Nc.mv {C T : String} {u U : State} (hvm : u.vm.Alike U.vm) (h : va_Nc C T u) : va_Nc C T U := by
  obtain ⟨c, t, h1, h2, h3⟩ := h
  exact ⟨c, t, by rw [hvm.findClass]; exact h1, by rw [hvm.findClass]; exact h2, by rw [← h3]; exact hvm.assignable c t⟩
theorem xK.warm {D : va_G} {cy : ClassId × ClassId × ClassId} {s U : State} (hW : s.WarmedH U.vm) (h : xK D cy s) : xK D cy U := ⟨va_K.moved hW.alike h.1, h.2.1.warm hW, fun q hq => by obtain ⟨a, ha⟩ := h.2.2.1 q hq; exact ⟨a, ha.warm hW⟩, trivial⟩
theorem xK.calling {D : va_G} {cy : ClassId × ClassId × ClassId} {U : State} {g : JFrame} {mk : MethodId} {a : Array Value} (h : xK D cy U) : xK D cy (U.calling g mk a) := ⟨va_K.moved (u := U) (U := U.calling g mk a) (Vm.Alike.refl U.vm) h.1, h.2.1.same (u := U) (U := U.calling g mk a) rfl, fun q hq => by obtain ⟨b, hb⟩ := h.2.2.1 q hq; exact ⟨b, vk_R.same (u := U) (U := U.calling g mk a) rfl hb⟩, trivial⟩
/-- the two statics of Throwable that a throw reads -/
def xZ (A : Nat → Prop) (U : State) (H : Heap) : Prop := vx_Zq Bundle.tN "UNASSIGNED_STACK" Bundle.steD A U H ∧ vx_Zq Bundle.tN "SUPPRESSED_SENTINEL" Bundle.listD A U H
theorem xZ.moved {A : Nat → Prop} {u U : State} {H : Heap} (hvm : u.vm.Alike U.vm) (h : xZ A u H) : xZ A U H := ⟨vx_Zq.moved hvm h.1, vx_Zq.moved hvm h.2⟩
theorem xZ.kept {A : Nat → Prop} {U : State} {H H1 : Heap} (h : xZ A U H) (hq : ∀ a : Nat, a < H.size → ¬ A a → H1[a]? = H[a]?) : xZ A U H1 := ⟨vx_Zq.kept h.1 hq, vx_Zq.kept h.2 hq⟩
theorem xZ.narrow {A B : Nat → Prop} {U : State} {H : Heap} (h : xZ A U H) (hAB : ∀ q, B q → A q) : xZ B U H := ⟨vx_Zq.narrow h.1 hAB, vx_Zq.narrow h.2 hAB⟩
/-- a method's start: the heap holds the world w0 (b: and the statics of Throwable) -/
def xPc (b : Bool) (D : va_G) (cy : ClassId × ClassId × ClassId) (av : List Value) (w0 : va_W) (sz : Nat) : Array Value → State → Prop := va_Pc av (fun U => U.heap.size = sz ∧ va_P D vwCl w0 U.heap ∧ xK D cy U ∧ va_D (fun _ => True) w0 ∧ (b = true → xZ (va_A w0 sz) U U.heap))
/-- its end: the world w1 -/
def xB (D : va_G) (A : Nat → Prop) : va_W → State → Prop := fun w1 t => va_P D vwCl w1 t.heap ∧ va_D A w1
def xB2 (D : va_G) (A : Nat → Prop) : va_W × va_W → State → Prop := fun w1 t => va_P D vwCl (w1.1 ++ w1.2) t.heap ∧ va_D A (w1.1 ++ w1.2)
theorem xPc.blind {b : Bool} {D : va_G} {cy : ClassId × ClassId × ClassId} {av : List Value} {w0 : va_W} {sz : Nat} : FrameBlind (xPc b D cy av w0 sz) := fun a U g mk q => by
  obtain ⟨q0, q1, qP, qK, qD, qZ⟩ := q
  exact ⟨q0, q1, qP, qK.calling, qD, fun h => xZ.moved (u := U) (U := U.calling g mk a) (Vm.Alike.refl U.vm) (qZ h)⟩
theorem xPc.at {b : Bool} {D : va_G} {cy : ClassId × ClassId × ClassId} {av : List Value} {w0 : va_W} {s U : State} {H : Heap} (hK : xK D cy s) (hP : va_P D vwCl w0 H) (hD : va_D (fun _ => True) w0) (hZ : b = true → xZ (va_A w0 H.size) s H) (hU : U.heap = H) (hW : s.WarmedH U.vm) : xPc b D cy av w0 H.size av.toArray U := ⟨rfl, by rw [hU], by rw [hU]; exact hP, hK.warm hW, hD, fun h => by rw [hU]; exact (hZ h).moved hW.alike⟩

def xC (p : Program) (s : State) (m : MethodId) (args : Array Value) (meth : Method) (c : Code) (cc : ByteArray) (nL : Nat) (ret : Option FieldType) (Ts : List Cond) (own : String) (D : va_G) (cy : ClassId × ClassId × ClassId) (A : Nat → Prop) : Prop :=
  p.tables.exec = Jvm.exec ∧ c.code = cc ∧ c.maxLocals = nL ∧ meth.sig.returnType = ret ∧ s.vm.findClass own = some m.cls ∧ (∀ w ∈ Ts, w.before args s = true) ∧ xK D cy s ∧ (∀ q : Nat, s.heap.size ≤ q → A q) ∧ meth.locks = false
def xW (p : Program) (l : Launch) (e : Env) (R : Room) (s : State) (m : MethodId) (args : Array Value) (below : List Frame) (meth : Method) (c : Code) (D : va_G) (A : Nat → Prop) (nL cells slots : Nat) (Q : State → Prop) (pc : Nat) (X pl : va_W) (lv : List (Nat × Value)) (st : List Value) : Prop :=
  ∀ (H : Heap) (locs : List Loc) (ls : Array Slot), va_P D vwCl (X ++ pl) H → va_D A (X ++ pl) → va_S A s.heap H locs → lv_has ls nL lv → W p l e R s m args below meth c H locs cells slots Q (F0 m pc ls st)

section XF
variable {p : Program} {l : Launch} {e : Env} {R : Room} {s : State} {m : MethodId} {args : Array Value} {below : List Frame} {meth : Method} {c : Code} {cc : ByteArray} {nL : Nat} {ret : Option FieldType} {Ts : List Cond} {own : String} {D : va_G} {cy : ClassId × ClassId × ClassId} {A : Nat → Prop} {cells slots : Nat} {Q : State → Prop} {X X' pl : va_W} {lv lv' : List (Nat × Value)} {st : List Value} {pc q : Nat}

theorem x_iload_n (C : xC p s m args meth c cc nL ret Ts own D cy A) {k : Fin 4} {x : Int32} (j : Nat) (hj : lv[j]? = some ((k : Nat), Value.int x)) (hd : decode cc pc = .ok (.iload_n k, 1)) (hq : pc + 1 = q) (kk : xW p l e R s m args below meth c D A nL cells slots Q q X pl lv (.int x :: st)) : xW p l e R s m args below meth c D A nL cells slots Q pc X pl lv st := by
  subst hq
  intro H locs ls hP hD hS hl
  exact lv_iload_n C.1 C.2.1 hd rfl (lv_at hl j hj) (kk H locs ls hP hD hS hl)
theorem x_iload (C : xC p s m args meth c cc nL ret Ts own D cy A) {i : Nat} {x : Int32} (j : Nat) (hj : lv[j]? = some (i, Value.int x)) (hd : decode cc pc = .ok (.iload i, 2)) (hq : pc + 2 = q) (kk : xW p l e R s m args below meth c D A nL cells slots Q q X pl lv (.int x :: st)) : xW p l e R s m args below meth c D A nL cells slots Q pc X pl lv st := by
  subst hq
  intro H locs ls hP hD hS hl
  exact lv_iload C.1 C.2.1 hd (lv_at hl j hj) (kk H locs ls hP hD hS hl)
theorem x_aload_n (C : xC p s m args meth c cc nL ret Ts own D cy A) {k : Fin 4} {x : Nat} (j : Nat) (hj : lv[j]? = some ((k : Nat), Value.ref x)) (hd : decode cc pc = .ok (.aload_n k, 1)) (hq : pc + 1 = q) (kk : xW p l e R s m args below meth c D A nL cells slots Q q X pl lv (.ref x :: st)) : xW p l e R s m args below meth c D A nL cells slots Q pc X pl lv st := by
  subst hq
  intro H locs ls hP hD hS hl
  exact lv_aload_n C.1 C.2.1 hd rfl (lv_at hl j hj) (kk H locs ls hP hD hS hl)
theorem x_aload (C : xC p s m args meth c cc nL ret Ts own D cy A) {i : Nat} {x : Nat} (j : Nat) (hj : lv[j]? = some (i, Value.ref x)) (hd : decode cc pc = .ok (.aload i, 2)) (hq : pc + 2 = q) (kk : xW p l e R s m args below meth c D A nL cells slots Q q X pl lv (.ref x :: st)) : xW p l e R s m args below meth c D A nL cells slots Q pc X pl lv st := by
  subst hq
  intro H locs ls hP hD hS hl
  exact lv_aload C.1 C.2.1 hd (lv_at hl j hj) (kk H locs ls hP hD hS hl)
theorem x_lload_n (C : xC p s m args meth c cc nL ret Ts own D cy A) {k : Fin 4} {x : Int64} (j : Nat) (hj : lv[j]? = some ((k : Nat), Value.long x)) (hd : decode cc pc = .ok (.lload_n k, 1)) (hq : pc + 1 = q) (kk : xW p l e R s m args below meth c D A nL cells slots Q q X pl lv (.long x :: st)) : xW p l e R s m args below meth c D A nL cells slots Q pc X pl lv st := by
  subst hq
  intro H locs ls hP hD hS hl
  exact lv_lload_n C.1 C.2.1 hd rfl (lv_at hl j hj) (kk H locs ls hP hD hS hl)
theorem x_lload (C : xC p s m args meth c cc nL ret Ts own D cy A) {i : Nat} {x : Int64} (j : Nat) (hj : lv[j]? = some (i, Value.long x)) (hd : decode cc pc = .ok (.lload i, 2)) (hq : pc + 2 = q) (kk : xW p l e R s m args below meth c D A nL cells slots Q q X pl lv (.long x :: st)) : xW p l e R s m args below meth c D A nL cells slots Q pc X pl lv st := by
  subst hq
  intro H locs ls hP hD hS hl
  exact lv_lload C.1 C.2.1 hd (lv_at hl j hj) (kk H locs ls hP hD hS hl)
theorem x_aload_nN (C : xC p s m args meth c cc nL ret Ts own D cy A) {k : Fin 4} (j : Nat) (hj : lv[j]? = some ((k : Nat), Value.null)) (hd : decode cc pc = .ok (.aload_n k, 1)) (hq : pc + 1 = q) (kk : xW p l e R s m args below meth c D A nL cells slots Q q X pl lv (.null :: st)) : xW p l e R s m args below meth c D A nL cells slots Q pc X pl lv st := by
  subst hq
  intro H locs ls hP hD hS hl
  exact lv_aload_nN C.1 C.2.1 hd rfl (lv_at hl j hj) (kk H locs ls hP hD hS hl)
theorem x_aloadN (C : xC p s m args meth c cc nL ret Ts own D cy A) {i : Nat} (j : Nat) (hj : lv[j]? = some (i, Value.null)) (hd : decode cc pc = .ok (.aload i, 2)) (hq : pc + 2 = q) (kk : xW p l e R s m args below meth c D A nL cells slots Q q X pl lv (.null :: st)) : xW p l e R s m args below meth c D A nL cells slots Q pc X pl lv st := by
  subst hq
  intro H locs ls hP hD hS hl
  exact lv_aloadN C.1 C.2.1 hd (lv_at hl j hj) (kk H locs ls hP hD hS hl)
theorem x_istore_n (C : xC p s m args meth c cc nL ret Ts own D cy A) {k : Fin 4} {x : Int32} (lv' : List (Nat × Value)) (hd : decode cc pc = .ok (.istore_n k, 1)) (hn : (k : Nat) < nL) (hl' : ((k : Nat), Value.int x) :: lv.filter (fun q => !(q.1 == (k : Nat)) && !(q.1 + 1 == (k : Nat) && q.2.category == 2)) = lv') (hq : pc + 1 = q) (kk : xW p l e R s m args below meth c D A nL cells slots Q q X pl lv' st) : xW p l e R s m args below meth c D A nL cells slots Q pc X pl lv (.int x :: st) := by
  subst hq
  intro H locs ls hP hD hS hl
  exact lv_istore_n C.1 C.2.1 hd rfl hl hn hl' (fun ls' h => kk H locs ls' hP hD hS h)
theorem x_istore (C : xC p s m args meth c cc nL ret Ts own D cy A) {i : Nat} {x : Int32} (lv' : List (Nat × Value)) (hd : decode cc pc = .ok (.istore i, 2)) (hn : i < nL) (hl' : (i, Value.int x) :: lv.filter (fun q => !(q.1 == i) && !(q.1 + 1 == i && q.2.category == 2)) = lv') (hq : pc + 2 = q) (kk : xW p l e R s m args below meth c D A nL cells slots Q q X pl lv' st) : xW p l e R s m args below meth c D A nL cells slots Q pc X pl lv (.int x :: st) := by
  subst hq
  intro H locs ls hP hD hS hl
  exact lv_istore C.1 C.2.1 hd hl hn hl' (fun ls' h => kk H locs ls' hP hD hS h)
theorem x_astore_n (C : xC p s m args meth c cc nL ret Ts own D cy A) {k : Fin 4} {x : Nat} (lv' : List (Nat × Value)) (hd : decode cc pc = .ok (.astore_n k, 1)) (hn : (k : Nat) < nL) (hl' : ((k : Nat), Value.ref x) :: lv.filter (fun q => !(q.1 == (k : Nat)) && !(q.1 + 1 == (k : Nat) && q.2.category == 2)) = lv') (hq : pc + 1 = q) (kk : xW p l e R s m args below meth c D A nL cells slots Q q X pl lv' st) : xW p l e R s m args below meth c D A nL cells slots Q pc X pl lv (.ref x :: st) := by
  subst hq
  intro H locs ls hP hD hS hl
  exact lv_astore_n C.1 C.2.1 hd rfl hl hn hl' (fun ls' h => kk H locs ls' hP hD hS h)
theorem x_astore (C : xC p s m args meth c cc nL ret Ts own D cy A) {i : Nat} {x : Nat} (lv' : List (Nat × Value)) (hd : decode cc pc = .ok (.astore i, 2)) (hn : i < nL) (hl' : (i, Value.ref x) :: lv.filter (fun q => !(q.1 == i) && !(q.1 + 1 == i && q.2.category == 2)) = lv') (hq : pc + 2 = q) (kk : xW p l e R s m args below meth c D A nL cells slots Q q X pl lv' st) : xW p l e R s m args below meth c D A nL cells slots Q pc X pl lv (.ref x :: st) := by
  subst hq
  intro H locs ls hP hD hS hl
  exact lv_astore C.1 C.2.1 hd hl hn hl' (fun ls' h => kk H locs ls' hP hD hS h)
theorem x_astore_nN (C : xC p s m args meth c cc nL ret Ts own D cy A) {k : Fin 4} (lv' : List (Nat × Value)) (hd : decode cc pc = .ok (.astore_n k, 1)) (hn : (k : Nat) < nL) (hl' : ((k : Nat), Value.null) :: lv.filter (fun q => !(q.1 == (k : Nat)) && !(q.1 + 1 == (k : Nat) && q.2.category == 2)) = lv') (hq : pc + 1 = q) (kk : xW p l e R s m args below meth c D A nL cells slots Q q X pl lv' st) : xW p l e R s m args below meth c D A nL cells slots Q pc X pl lv (.null :: st) := by
  subst hq
  intro H locs ls hP hD hS hl
  exact lv_astore_nN C.1 C.2.1 hd rfl hl hn hl' (fun ls' h => kk H locs ls' hP hD hS h)
theorem x_astoreN (C : xC p s m args meth c cc nL ret Ts own D cy A) {i : Nat} (lv' : List (Nat × Value)) (hd : decode cc pc = .ok (.astore i, 2)) (hn : i < nL) (hl' : (i, Value.null) :: lv.filter (fun q => !(q.1 == i) && !(q.1 + 1 == i && q.2.category == 2)) = lv') (hq : pc + 2 = q) (kk : xW p l e R s m args below meth c D A nL cells slots Q q X pl lv' st) : xW p l e R s m args below meth c D A nL cells slots Q pc X pl lv (.null :: st) := by
  subst hq
  intro H locs ls hP hD hS hl
  exact lv_astoreN C.1 C.2.1 hd hl hn hl' (fun ls' h => kk H locs ls' hP hD hS h)
theorem x_iinc (C : xC p s m args meth c cc nL ret Ts own D cy A) {i : Nat} {n : Int} {x : Int32} (j : Nat) (v : Int32) (lv' : List (Nat × Value)) (hd : decode cc pc = .ok (.iinc i n, 3)) (hj : lv[j]? = some (i, Value.int x)) (hv : x + Int32.ofInt n = v) (hn : i < nL) (hl' : (i, Value.int v) :: lv.filter (fun q => !(q.1 == i) && !(q.1 + 1 == i && q.2.category == 2)) = lv') (hq : pc + 3 = q) (kk : xW p l e R s m args below meth c D A nL cells slots Q q X pl lv' st) : xW p l e R s m args below meth c D A nL cells slots Q pc X pl lv st := by
  subst hq
  intro H locs ls hP hD hS hl
  exact lv_iinc C.1 C.2.1 hd hl hj hv hn hl' (fun ls' h => kk H locs ls' hP hD hS h)
theorem x_iconst (C : xC p s m args meth c cc nL ret Ts own D cy A) {n : Int} (v : Int32) (hv : Int32.ofInt n = v) (hd : decode cc pc = .ok (.iconst n, 1)) (hq : pc + 1 = q) (kk : xW p l e R s m args below meth c D A nL cells slots Q q X pl lv (.int v :: st)) : xW p l e R s m args below meth c D A nL cells slots Q pc X pl lv st := by
  subst hq
  intro H locs ls hP hD hS hl
  exact lv_iconst C.1 C.2.1 hd hv (kk H locs ls hP hD hS hl)
theorem x_bipush (C : xC p s m args meth c cc nL ret Ts own D cy A) {n : Int} (v : Int32) (hv : (Int8.ofInt n).toInt32 = v) (hd : decode cc pc = .ok (.bipush n, 2)) (hq : pc + 2 = q) (kk : xW p l e R s m args below meth c D A nL cells slots Q q X pl lv (.int v :: st)) : xW p l e R s m args below meth c D A nL cells slots Q pc X pl lv st := by
  subst hq
  intro H locs ls hP hD hS hl
  exact lv_bipush C.1 C.2.1 hd hv (kk H locs ls hP hD hS hl)
theorem x_lconst (C : xC p s m args meth c cc nL ret Ts own D cy A) {n : Fin 2} (v : Int64) (hv : Int64.ofNat (n : Nat) = v) (hd : decode cc pc = .ok (.lconst n, 1)) (hq : pc + 1 = q) (kk : xW p l e R s m args below meth c D A nL cells slots Q q X pl lv (.long v :: st)) : xW p l e R s m args below meth c D A nL cells slots Q pc X pl lv st := by
  subst hq
  intro H locs ls hP hD hS hl
  exact lv_lconst C.1 C.2.1 hd hv (kk H locs ls hP hD hS hl)
theorem x_null (C : xC p s m args meth c cc nL ret Ts own D cy A)  (hd : decode cc pc = .ok (.aconst_null, 1)) (hq : pc + 1 = q) (kk : xW p l e R s m args below meth c D A nL cells slots Q q X pl lv (.null :: st)) : xW p l e R s m args below meth c D A nL cells slots Q pc X pl lv st := by
  subst hq
  intro H locs ls hP hD hS hl
  exact lv_null C.1 C.2.1 hd (kk H locs ls hP hD hS hl)
theorem x_iadd (C : xC p s m args meth c cc nL ret Ts own D cy A) {x y : Int32} (v : Int32) (hv : x + y = v) (hd : decode cc pc = .ok (.iadd, 1)) (hq : pc + 1 = q) (kk : xW p l e R s m args below meth c D A nL cells slots Q q X pl lv (.int v :: st)) : xW p l e R s m args below meth c D A nL cells slots Q pc X pl lv (.int y :: .int x :: st) := by
  subst hq
  subst hv
  intro H locs ls hP hD hS hl
  exact lv_iadd C.1 C.2.1 hd (kk H locs ls hP hD hS hl)
theorem x_isub (C : xC p s m args meth c cc nL ret Ts own D cy A) {x y : Int32} (v : Int32) (hv : x - y = v) (hd : decode cc pc = .ok (.isub, 1)) (hq : pc + 1 = q) (kk : xW p l e R s m args below meth c D A nL cells slots Q q X pl lv (.int v :: st)) : xW p l e R s m args below meth c D A nL cells slots Q pc X pl lv (.int y :: .int x :: st) := by
  subst hq
  subst hv
  intro H locs ls hP hD hS hl
  exact lv_isub C.1 C.2.1 hd (kk H locs ls hP hD hS hl)
theorem x_imul (C : xC p s m args meth c cc nL ret Ts own D cy A) {x y : Int32} (v : Int32) (hv : x * y = v) (hd : decode cc pc = .ok (.imul, 1)) (hq : pc + 1 = q) (kk : xW p l e R s m args below meth c D A nL cells slots Q q X pl lv (.int v :: st)) : xW p l e R s m args below meth c D A nL cells slots Q pc X pl lv (.int y :: .int x :: st) := by
  subst hq
  subst hv
  intro H locs ls hP hD hS hl
  exact lv_imul C.1 C.2.1 hd (kk H locs ls hP hD hS hl)
theorem x_iand (C : xC p s m args meth c cc nL ret Ts own D cy A) {x y : Int32} (v : Int32) (hv : x &&& y = v) (hd : decode cc pc = .ok (.iand, 1)) (hq : pc + 1 = q) (kk : xW p l e R s m args below meth c D A nL cells slots Q q X pl lv (.int v :: st)) : xW p l e R s m args below meth c D A nL cells slots Q pc X pl lv (.int y :: .int x :: st) := by
  subst hq
  subst hv
  intro H locs ls hP hD hS hl
  exact lv_iand C.1 C.2.1 hd (kk H locs ls hP hD hS hl)
theorem x_idiv (C : xC p s m args meth c cc nL ret Ts own D cy A) {x y : Int32} (v : Int32) (hv : x / y = v) (hne : ¬ y = 0) (hd : decode cc pc = .ok (.idiv, 1)) (hq : pc + 1 = q) (kk : xW p l e R s m args below meth c D A nL cells slots Q q X pl lv (.int v :: st)) : xW p l e R s m args below meth c D A nL cells slots Q pc X pl lv (.int y :: .int x :: st) := by
  subst hq
  subst hv
  intro H locs ls hP hD hS hl
  exact lv_idiv C.1 C.2.1 hd hne (kk H locs ls hP hD hS hl)
theorem x_i2l (C : xC p s m args meth c cc nL ret Ts own D cy A) {x : Int32} (v : Int64) (hv : x.toInt64 = v) (hd : decode cc pc = .ok (.i2l, 1)) (hq : pc + 1 = q) (kk : xW p l e R s m args below meth c D A nL cells slots Q q X pl lv (.long v :: st)) : xW p l e R s m args below meth c D A nL cells slots Q pc X pl lv (.int x :: st) := by
  subst hq
  intro H locs ls hP hD hS hl
  exact lv_i2l C.1 C.2.1 hd hv (kk H locs ls hP hD hS hl)
theorem x_dup (C : xC p s m args meth c cc nL ret Ts own D cy A) {va : Value} (hva : va.category = 1) (hd : decode cc pc = .ok (.dup, 1)) (hq : pc + 1 = q) (kk : xW p l e R s m args below meth c D A nL cells slots Q q X pl lv (va :: va :: st)) : xW p l e R s m args below meth c D A nL cells slots Q pc X pl lv (va :: st) := by
  subst hq
  intro H locs ls hP hD hS hl
  exact lv_dup C.1 C.2.1 hd hva (kk H locs ls hP hD hS hl)
theorem x_dup2 (C : xC p s m args meth c cc nL ret Ts own D cy A) {va vb : Value} (hva : va.category = 1) (hvb : vb.category = 1) (hd : decode cc pc = .ok (.dup2, 1)) (hq : pc + 1 = q) (kk : xW p l e R s m args below meth c D A nL cells slots Q q X pl lv (va :: vb :: va :: vb :: st)) : xW p l e R s m args below meth c D A nL cells slots Q pc X pl lv (va :: vb :: st) := by
  subst hq
  intro H locs ls hP hD hS hl
  exact lv_dup2_11 C.1 C.2.1 hd hva hvb (kk H locs ls hP hD hS hl)
theorem x_if_eq (C : xC p s m args meth c cc nL ret Ts own D cy A) {x : Int32} {off : Int} (tgt : Nat) (hd : decode cc pc = .ok (.ifCond .eq off, 3)) (ht : (pc : Int) + off = (tgt : Int)) (hq : pc + 3 = q) (kt : x = 0 → xW p l e R s m args below meth c D A nL cells slots Q tgt X pl lv st) (kf : ¬ x = 0 → xW p l e R s m args below meth c D A nL cells slots Q q X pl lv st) : xW p l e R s m args below meth c D A nL cells slots Q pc X pl lv (.int x :: st) := by
  subst hq
  intro H locs ls hP hD hS hl
  exact lv_if_eq C.1 C.2.1 hd ht (fun h => kt h H locs ls hP hD hS hl) (fun h => kf h H locs ls hP hD hS hl)
theorem x_if_eq_t (C : xC p s m args meth c cc nL ret Ts own D cy A) {x : Int32} {off : Int} (tgt : Nat) (hd : decode cc pc = .ok (.ifCond .eq off, 3)) (ht : (pc : Int) + off = (tgt : Int)) (h : x = 0) (kt : xW p l e R s m args below meth c D A nL cells slots Q tgt X pl lv st) : xW p l e R s m args below meth c D A nL cells slots Q pc X pl lv (.int x :: st) := by
  intro H locs ls hP hD hS hl
  exact lv_if_eq C.1 C.2.1 hd ht (fun _ => kt H locs ls hP hD hS hl) (fun h9 => absurd h h9)
theorem x_if_eq_f (C : xC p s m args meth c cc nL ret Ts own D cy A) {x : Int32} {off : Int} (tgt : Nat) (hd : decode cc pc = .ok (.ifCond .eq off, 3)) (ht : (pc : Int) + off = (tgt : Int)) (hq : pc + 3 = q) (h : ¬ x = 0) (kf : xW p l e R s m args below meth c D A nL cells slots Q q X pl lv st) : xW p l e R s m args below meth c D A nL cells slots Q pc X pl lv (.int x :: st) := by
  subst hq
  intro H locs ls hP hD hS hl
  exact lv_if_eq C.1 C.2.1 hd ht (fun h9 => by first | exact absurd h9 h | exact absurd h h9) (fun _ => kf H locs ls hP hD hS hl)
theorem x_icmp_eq (C : xC p s m args meth c cc nL ret Ts own D cy A) {x y : Int32} {off : Int} (tgt : Nat) (hd : decode cc pc = .ok (.if_icmp .eq off, 3)) (ht : (pc : Int) + off = (tgt : Int)) (hq : pc + 3 = q) (kt : x = y → xW p l e R s m args below meth c D A nL cells slots Q tgt X pl lv st) (kf : ¬ x = y → xW p l e R s m args below meth c D A nL cells slots Q q X pl lv st) : xW p l e R s m args below meth c D A nL cells slots Q pc X pl lv (.int y :: .int x :: st) := by
  subst hq
  intro H locs ls hP hD hS hl
  exact lv_icmp_eq C.1 C.2.1 hd ht (fun h => kt h H locs ls hP hD hS hl) (fun h => kf h H locs ls hP hD hS hl)
theorem x_icmp_eq_t (C : xC p s m args meth c cc nL ret Ts own D cy A) {x y : Int32} {off : Int} (tgt : Nat) (hd : decode cc pc = .ok (.if_icmp .eq off, 3)) (ht : (pc : Int) + off = (tgt : Int)) (h : x = y) (kt : xW p l e R s m args below meth c D A nL cells slots Q tgt X pl lv st) : xW p l e R s m args below meth c D A nL cells slots Q pc X pl lv (.int y :: .int x :: st) := by
  intro H locs ls hP hD hS hl
  exact lv_icmp_eq C.1 C.2.1 hd ht (fun _ => kt H locs ls hP hD hS hl) (fun h9 => absurd h h9)
theorem x_icmp_eq_f (C : xC p s m args meth c cc nL ret Ts own D cy A) {x y : Int32} {off : Int} (tgt : Nat) (hd : decode cc pc = .ok (.if_icmp .eq off, 3)) (ht : (pc : Int) + off = (tgt : Int)) (hq : pc + 3 = q) (h : ¬ x = y) (kf : xW p l e R s m args below meth c D A nL cells slots Q q X pl lv st) : xW p l e R s m args below meth c D A nL cells slots Q pc X pl lv (.int y :: .int x :: st) := by
  subst hq
  intro H locs ls hP hD hS hl
  exact lv_icmp_eq C.1 C.2.1 hd ht (fun h9 => by first | exact absurd h9 h | exact absurd h h9) (fun _ => kf H locs ls hP hD hS hl)
theorem x_if_ne (C : xC p s m args meth c cc nL ret Ts own D cy A) {x : Int32} {off : Int} (tgt : Nat) (hd : decode cc pc = .ok (.ifCond .ne off, 3)) (ht : (pc : Int) + off = (tgt : Int)) (hq : pc + 3 = q) (kt : ¬ x = 0 → xW p l e R s m args below meth c D A nL cells slots Q tgt X pl lv st) (kf : x = 0 → xW p l e R s m args below meth c D A nL cells slots Q q X pl lv st) : xW p l e R s m args below meth c D A nL cells slots Q pc X pl lv (.int x :: st) := by
  subst hq
  intro H locs ls hP hD hS hl
  exact lv_if_ne C.1 C.2.1 hd ht (fun h => kt h H locs ls hP hD hS hl) (fun h => kf h H locs ls hP hD hS hl)
theorem x_if_ne_t (C : xC p s m args meth c cc nL ret Ts own D cy A) {x : Int32} {off : Int} (tgt : Nat) (hd : decode cc pc = .ok (.ifCond .ne off, 3)) (ht : (pc : Int) + off = (tgt : Int)) (h : ¬ x = 0) (kt : xW p l e R s m args below meth c D A nL cells slots Q tgt X pl lv st) : xW p l e R s m args below meth c D A nL cells slots Q pc X pl lv (.int x :: st) := by
  intro H locs ls hP hD hS hl
  exact lv_if_ne C.1 C.2.1 hd ht (fun _ => kt H locs ls hP hD hS hl) (fun h9 => by first | exact absurd h h9 | exact absurd h9 h | omega)
theorem x_if_ne_f (C : xC p s m args meth c cc nL ret Ts own D cy A) {x : Int32} {off : Int} (tgt : Nat) (hd : decode cc pc = .ok (.ifCond .ne off, 3)) (ht : (pc : Int) + off = (tgt : Int)) (hq : pc + 3 = q) (h : x = 0) (kf : xW p l e R s m args below meth c D A nL cells slots Q q X pl lv st) : xW p l e R s m args below meth c D A nL cells slots Q pc X pl lv (.int x :: st) := by
  subst hq
  intro H locs ls hP hD hS hl
  exact lv_if_ne C.1 C.2.1 hd ht (fun h9 => by first | exact absurd h9 h | exact absurd h h9) (fun _ => kf H locs ls hP hD hS hl)
theorem x_icmp_ne (C : xC p s m args meth c cc nL ret Ts own D cy A) {x y : Int32} {off : Int} (tgt : Nat) (hd : decode cc pc = .ok (.if_icmp .ne off, 3)) (ht : (pc : Int) + off = (tgt : Int)) (hq : pc + 3 = q) (kt : ¬ x = y → xW p l e R s m args below meth c D A nL cells slots Q tgt X pl lv st) (kf : x = y → xW p l e R s m args below meth c D A nL cells slots Q q X pl lv st) : xW p l e R s m args below meth c D A nL cells slots Q pc X pl lv (.int y :: .int x :: st) := by
  subst hq
  intro H locs ls hP hD hS hl
  exact lv_icmp_ne C.1 C.2.1 hd ht (fun h => kt h H locs ls hP hD hS hl) (fun h => kf h H locs ls hP hD hS hl)
theorem x_icmp_ne_t (C : xC p s m args meth c cc nL ret Ts own D cy A) {x y : Int32} {off : Int} (tgt : Nat) (hd : decode cc pc = .ok (.if_icmp .ne off, 3)) (ht : (pc : Int) + off = (tgt : Int)) (h : ¬ x = y) (kt : xW p l e R s m args below meth c D A nL cells slots Q tgt X pl lv st) : xW p l e R s m args below meth c D A nL cells slots Q pc X pl lv (.int y :: .int x :: st) := by
  intro H locs ls hP hD hS hl
  exact lv_icmp_ne C.1 C.2.1 hd ht (fun _ => kt H locs ls hP hD hS hl) (fun h9 => by first | exact absurd h h9 | exact absurd h9 h | omega)
theorem x_icmp_ne_f (C : xC p s m args meth c cc nL ret Ts own D cy A) {x y : Int32} {off : Int} (tgt : Nat) (hd : decode cc pc = .ok (.if_icmp .ne off, 3)) (ht : (pc : Int) + off = (tgt : Int)) (hq : pc + 3 = q) (h : x = y) (kf : xW p l e R s m args below meth c D A nL cells slots Q q X pl lv st) : xW p l e R s m args below meth c D A nL cells slots Q pc X pl lv (.int y :: .int x :: st) := by
  subst hq
  intro H locs ls hP hD hS hl
  exact lv_icmp_ne C.1 C.2.1 hd ht (fun h9 => by first | exact absurd h9 h | exact absurd h h9) (fun _ => kf H locs ls hP hD hS hl)
theorem x_if_lt (C : xC p s m args meth c cc nL ret Ts own D cy A) {x : Int32} {off : Int} (tgt : Nat) (hd : decode cc pc = .ok (.ifCond .lt off, 3)) (ht : (pc : Int) + off = (tgt : Int)) (hq : pc + 3 = q) (kt : x < 0 → xW p l e R s m args below meth c D A nL cells slots Q tgt X pl lv st) (kf : ¬ x < 0 → xW p l e R s m args below meth c D A nL cells slots Q q X pl lv st) : xW p l e R s m args below meth c D A nL cells slots Q pc X pl lv (.int x :: st) := by
  subst hq
  intro H locs ls hP hD hS hl
  exact lv_if_lt C.1 C.2.1 hd ht (fun h => kt h H locs ls hP hD hS hl) (fun h => kf h H locs ls hP hD hS hl)
theorem x_if_lt_t (C : xC p s m args meth c cc nL ret Ts own D cy A) {x : Int32} {off : Int} (tgt : Nat) (hd : decode cc pc = .ok (.ifCond .lt off, 3)) (ht : (pc : Int) + off = (tgt : Int)) (h : x < 0) (kt : xW p l e R s m args below meth c D A nL cells slots Q tgt X pl lv st) : xW p l e R s m args below meth c D A nL cells slots Q pc X pl lv (.int x :: st) := by
  intro H locs ls hP hD hS hl
  exact lv_if_lt C.1 C.2.1 hd ht (fun _ => kt H locs ls hP hD hS hl) (fun h9 => absurd h h9)
theorem x_if_lt_f (C : xC p s m args meth c cc nL ret Ts own D cy A) {x : Int32} {off : Int} (tgt : Nat) (hd : decode cc pc = .ok (.ifCond .lt off, 3)) (ht : (pc : Int) + off = (tgt : Int)) (hq : pc + 3 = q) (h : ¬ x < 0) (kf : xW p l e R s m args below meth c D A nL cells slots Q q X pl lv st) : xW p l e R s m args below meth c D A nL cells slots Q pc X pl lv (.int x :: st) := by
  subst hq
  intro H locs ls hP hD hS hl
  exact lv_if_lt C.1 C.2.1 hd ht (fun h9 => by first | exact absurd h9 h | exact absurd h h9) (fun _ => kf H locs ls hP hD hS hl)
theorem x_icmp_lt (C : xC p s m args meth c cc nL ret Ts own D cy A) {x y : Int32} {off : Int} (tgt : Nat) (hd : decode cc pc = .ok (.if_icmp .lt off, 3)) (ht : (pc : Int) + off = (tgt : Int)) (hq : pc + 3 = q) (kt : x < y → xW p l e R s m args below meth c D A nL cells slots Q tgt X pl lv st) (kf : ¬ x < y → xW p l e R s m args below meth c D A nL cells slots Q q X pl lv st) : xW p l e R s m args below meth c D A nL cells slots Q pc X pl lv (.int y :: .int x :: st) := by
  subst hq
  intro H locs ls hP hD hS hl
  exact lv_icmp_lt C.1 C.2.1 hd ht (fun h => kt h H locs ls hP hD hS hl) (fun h => kf h H locs ls hP hD hS hl)
theorem x_icmp_lt_t (C : xC p s m args meth c cc nL ret Ts own D cy A) {x y : Int32} {off : Int} (tgt : Nat) (hd : decode cc pc = .ok (.if_icmp .lt off, 3)) (ht : (pc : Int) + off = (tgt : Int)) (h : x < y) (kt : xW p l e R s m args below meth c D A nL cells slots Q tgt X pl lv st) : xW p l e R s m args below meth c D A nL cells slots Q pc X pl lv (.int y :: .int x :: st) := by
  intro H locs ls hP hD hS hl
  exact lv_icmp_lt C.1 C.2.1 hd ht (fun _ => kt H locs ls hP hD hS hl) (fun h9 => absurd h h9)
theorem x_icmp_lt_f (C : xC p s m args meth c cc nL ret Ts own D cy A) {x y : Int32} {off : Int} (tgt : Nat) (hd : decode cc pc = .ok (.if_icmp .lt off, 3)) (ht : (pc : Int) + off = (tgt : Int)) (hq : pc + 3 = q) (h : ¬ x < y) (kf : xW p l e R s m args below meth c D A nL cells slots Q q X pl lv st) : xW p l e R s m args below meth c D A nL cells slots Q pc X pl lv (.int y :: .int x :: st) := by
  subst hq
  intro H locs ls hP hD hS hl
  exact lv_icmp_lt C.1 C.2.1 hd ht (fun h9 => by first | exact absurd h9 h | exact absurd h h9) (fun _ => kf H locs ls hP hD hS hl)
theorem x_if_ge (C : xC p s m args meth c cc nL ret Ts own D cy A) {x : Int32} {off : Int} (tgt : Nat) (hd : decode cc pc = .ok (.ifCond .ge off, 3)) (ht : (pc : Int) + off = (tgt : Int)) (hq : pc + 3 = q) (kt : 0 ≤ x → xW p l e R s m args below meth c D A nL cells slots Q tgt X pl lv st) (kf : ¬ 0 ≤ x → xW p l e R s m args below meth c D A nL cells slots Q q X pl lv st) : xW p l e R s m args below meth c D A nL cells slots Q pc X pl lv (.int x :: st) := by
  subst hq
  intro H locs ls hP hD hS hl
  exact lv_if_ge C.1 C.2.1 hd ht (fun h => kt h H locs ls hP hD hS hl) (fun h => kf h H locs ls hP hD hS hl)
theorem x_if_ge_t (C : xC p s m args meth c cc nL ret Ts own D cy A) {x : Int32} {off : Int} (tgt : Nat) (hd : decode cc pc = .ok (.ifCond .ge off, 3)) (ht : (pc : Int) + off = (tgt : Int)) (h : 0 ≤ x) (kt : xW p l e R s m args below meth c D A nL cells slots Q tgt X pl lv st) : xW p l e R s m args below meth c D A nL cells slots Q pc X pl lv (.int x :: st) := by
  intro H locs ls hP hD hS hl
  exact lv_if_ge C.1 C.2.1 hd ht (fun _ => kt H locs ls hP hD hS hl) (fun h9 => absurd h h9)
theorem x_if_ge_f (C : xC p s m args meth c cc nL ret Ts own D cy A) {x : Int32} {off : Int} (tgt : Nat) (hd : decode cc pc = .ok (.ifCond .ge off, 3)) (ht : (pc : Int) + off = (tgt : Int)) (hq : pc + 3 = q) (h : ¬ 0 ≤ x) (kf : xW p l e R s m args below meth c D A nL cells slots Q q X pl lv st) : xW p l e R s m args below meth c D A nL cells slots Q pc X pl lv (.int x :: st) := by
  subst hq
  intro H locs ls hP hD hS hl
  exact lv_if_ge C.1 C.2.1 hd ht (fun h9 => by first | exact absurd h9 h | exact absurd h h9) (fun _ => kf H locs ls hP hD hS hl)
theorem x_icmp_ge (C : xC p s m args meth c cc nL ret Ts own D cy A) {x y : Int32} {off : Int} (tgt : Nat) (hd : decode cc pc = .ok (.if_icmp .ge off, 3)) (ht : (pc : Int) + off = (tgt : Int)) (hq : pc + 3 = q) (kt : y ≤ x → xW p l e R s m args below meth c D A nL cells slots Q tgt X pl lv st) (kf : ¬ y ≤ x → xW p l e R s m args below meth c D A nL cells slots Q q X pl lv st) : xW p l e R s m args below meth c D A nL cells slots Q pc X pl lv (.int y :: .int x :: st) := by
  subst hq
  intro H locs ls hP hD hS hl
  exact lv_icmp_ge C.1 C.2.1 hd ht (fun h => kt h H locs ls hP hD hS hl) (fun h => kf h H locs ls hP hD hS hl)
theorem x_icmp_ge_t (C : xC p s m args meth c cc nL ret Ts own D cy A) {x y : Int32} {off : Int} (tgt : Nat) (hd : decode cc pc = .ok (.if_icmp .ge off, 3)) (ht : (pc : Int) + off = (tgt : Int)) (h : y ≤ x) (kt : xW p l e R s m args below meth c D A nL cells slots Q tgt X pl lv st) : xW p l e R s m args below meth c D A nL cells slots Q pc X pl lv (.int y :: .int x :: st) := by
  intro H locs ls hP hD hS hl
  exact lv_icmp_ge C.1 C.2.1 hd ht (fun _ => kt H locs ls hP hD hS hl) (fun h9 => absurd h h9)
theorem x_icmp_ge_f (C : xC p s m args meth c cc nL ret Ts own D cy A) {x y : Int32} {off : Int} (tgt : Nat) (hd : decode cc pc = .ok (.if_icmp .ge off, 3)) (ht : (pc : Int) + off = (tgt : Int)) (hq : pc + 3 = q) (h : ¬ y ≤ x) (kf : xW p l e R s m args below meth c D A nL cells slots Q q X pl lv st) : xW p l e R s m args below meth c D A nL cells slots Q pc X pl lv (.int y :: .int x :: st) := by
  subst hq
  intro H locs ls hP hD hS hl
  exact lv_icmp_ge C.1 C.2.1 hd ht (fun h9 => by first | exact absurd h9 h | exact absurd h h9) (fun _ => kf H locs ls hP hD hS hl)
theorem x_if_gt (C : xC p s m args meth c cc nL ret Ts own D cy A) {x : Int32} {off : Int} (tgt : Nat) (hd : decode cc pc = .ok (.ifCond .gt off, 3)) (ht : (pc : Int) + off = (tgt : Int)) (hq : pc + 3 = q) (kt : 0 < x → xW p l e R s m args below meth c D A nL cells slots Q tgt X pl lv st) (kf : ¬ 0 < x → xW p l e R s m args below meth c D A nL cells slots Q q X pl lv st) : xW p l e R s m args below meth c D A nL cells slots Q pc X pl lv (.int x :: st) := by
  subst hq
  intro H locs ls hP hD hS hl
  exact lv_if_gt C.1 C.2.1 hd ht (fun h => kt h H locs ls hP hD hS hl) (fun h => kf h H locs ls hP hD hS hl)
theorem x_if_gt_t (C : xC p s m args meth c cc nL ret Ts own D cy A) {x : Int32} {off : Int} (tgt : Nat) (hd : decode cc pc = .ok (.ifCond .gt off, 3)) (ht : (pc : Int) + off = (tgt : Int)) (h : 0 < x) (kt : xW p l e R s m args below meth c D A nL cells slots Q tgt X pl lv st) : xW p l e R s m args below meth c D A nL cells slots Q pc X pl lv (.int x :: st) := by
  intro H locs ls hP hD hS hl
  exact lv_if_gt C.1 C.2.1 hd ht (fun _ => kt H locs ls hP hD hS hl) (fun h9 => absurd h h9)
theorem x_if_gt_f (C : xC p s m args meth c cc nL ret Ts own D cy A) {x : Int32} {off : Int} (tgt : Nat) (hd : decode cc pc = .ok (.ifCond .gt off, 3)) (ht : (pc : Int) + off = (tgt : Int)) (hq : pc + 3 = q) (h : ¬ 0 < x) (kf : xW p l e R s m args below meth c D A nL cells slots Q q X pl lv st) : xW p l e R s m args below meth c D A nL cells slots Q pc X pl lv (.int x :: st) := by
  subst hq
  intro H locs ls hP hD hS hl
  exact lv_if_gt C.1 C.2.1 hd ht (fun h9 => by first | exact absurd h9 h | exact absurd h h9) (fun _ => kf H locs ls hP hD hS hl)
theorem x_icmp_gt (C : xC p s m args meth c cc nL ret Ts own D cy A) {x y : Int32} {off : Int} (tgt : Nat) (hd : decode cc pc = .ok (.if_icmp .gt off, 3)) (ht : (pc : Int) + off = (tgt : Int)) (hq : pc + 3 = q) (kt : y < x → xW p l e R s m args below meth c D A nL cells slots Q tgt X pl lv st) (kf : ¬ y < x → xW p l e R s m args below meth c D A nL cells slots Q q X pl lv st) : xW p l e R s m args below meth c D A nL cells slots Q pc X pl lv (.int y :: .int x :: st) := by
  subst hq
  intro H locs ls hP hD hS hl
  exact lv_icmp_gt C.1 C.2.1 hd ht (fun h => kt h H locs ls hP hD hS hl) (fun h => kf h H locs ls hP hD hS hl)
theorem x_icmp_gt_t (C : xC p s m args meth c cc nL ret Ts own D cy A) {x y : Int32} {off : Int} (tgt : Nat) (hd : decode cc pc = .ok (.if_icmp .gt off, 3)) (ht : (pc : Int) + off = (tgt : Int)) (h : y < x) (kt : xW p l e R s m args below meth c D A nL cells slots Q tgt X pl lv st) : xW p l e R s m args below meth c D A nL cells slots Q pc X pl lv (.int y :: .int x :: st) := by
  intro H locs ls hP hD hS hl
  exact lv_icmp_gt C.1 C.2.1 hd ht (fun _ => kt H locs ls hP hD hS hl) (fun h9 => absurd h h9)
theorem x_icmp_gt_f (C : xC p s m args meth c cc nL ret Ts own D cy A) {x y : Int32} {off : Int} (tgt : Nat) (hd : decode cc pc = .ok (.if_icmp .gt off, 3)) (ht : (pc : Int) + off = (tgt : Int)) (hq : pc + 3 = q) (h : ¬ y < x) (kf : xW p l e R s m args below meth c D A nL cells slots Q q X pl lv st) : xW p l e R s m args below meth c D A nL cells slots Q pc X pl lv (.int y :: .int x :: st) := by
  subst hq
  intro H locs ls hP hD hS hl
  exact lv_icmp_gt C.1 C.2.1 hd ht (fun h9 => by first | exact absurd h9 h | exact absurd h h9) (fun _ => kf H locs ls hP hD hS hl)
theorem x_if_le (C : xC p s m args meth c cc nL ret Ts own D cy A) {x : Int32} {off : Int} (tgt : Nat) (hd : decode cc pc = .ok (.ifCond .le off, 3)) (ht : (pc : Int) + off = (tgt : Int)) (hq : pc + 3 = q) (kt : x ≤ 0 → xW p l e R s m args below meth c D A nL cells slots Q tgt X pl lv st) (kf : ¬ x ≤ 0 → xW p l e R s m args below meth c D A nL cells slots Q q X pl lv st) : xW p l e R s m args below meth c D A nL cells slots Q pc X pl lv (.int x :: st) := by
  subst hq
  intro H locs ls hP hD hS hl
  exact lv_if_le C.1 C.2.1 hd ht (fun h => kt h H locs ls hP hD hS hl) (fun h => kf h H locs ls hP hD hS hl)
theorem x_if_le_t (C : xC p s m args meth c cc nL ret Ts own D cy A) {x : Int32} {off : Int} (tgt : Nat) (hd : decode cc pc = .ok (.ifCond .le off, 3)) (ht : (pc : Int) + off = (tgt : Int)) (h : x ≤ 0) (kt : xW p l e R s m args below meth c D A nL cells slots Q tgt X pl lv st) : xW p l e R s m args below meth c D A nL cells slots Q pc X pl lv (.int x :: st) := by
  intro H locs ls hP hD hS hl
  exact lv_if_le C.1 C.2.1 hd ht (fun _ => kt H locs ls hP hD hS hl) (fun h9 => absurd h h9)
theorem x_if_le_f (C : xC p s m args meth c cc nL ret Ts own D cy A) {x : Int32} {off : Int} (tgt : Nat) (hd : decode cc pc = .ok (.ifCond .le off, 3)) (ht : (pc : Int) + off = (tgt : Int)) (hq : pc + 3 = q) (h : ¬ x ≤ 0) (kf : xW p l e R s m args below meth c D A nL cells slots Q q X pl lv st) : xW p l e R s m args below meth c D A nL cells slots Q pc X pl lv (.int x :: st) := by
  subst hq
  intro H locs ls hP hD hS hl
  exact lv_if_le C.1 C.2.1 hd ht (fun h9 => by first | exact absurd h9 h | exact absurd h h9) (fun _ => kf H locs ls hP hD hS hl)
theorem x_icmp_le (C : xC p s m args meth c cc nL ret Ts own D cy A) {x y : Int32} {off : Int} (tgt : Nat) (hd : decode cc pc = .ok (.if_icmp .le off, 3)) (ht : (pc : Int) + off = (tgt : Int)) (hq : pc + 3 = q) (kt : x ≤ y → xW p l e R s m args below meth c D A nL cells slots Q tgt X pl lv st) (kf : ¬ x ≤ y → xW p l e R s m args below meth c D A nL cells slots Q q X pl lv st) : xW p l e R s m args below meth c D A nL cells slots Q pc X pl lv (.int y :: .int x :: st) := by
  subst hq
  intro H locs ls hP hD hS hl
  exact lv_icmp_le C.1 C.2.1 hd ht (fun h => kt h H locs ls hP hD hS hl) (fun h => kf h H locs ls hP hD hS hl)
theorem x_icmp_le_t (C : xC p s m args meth c cc nL ret Ts own D cy A) {x y : Int32} {off : Int} (tgt : Nat) (hd : decode cc pc = .ok (.if_icmp .le off, 3)) (ht : (pc : Int) + off = (tgt : Int)) (h : x ≤ y) (kt : xW p l e R s m args below meth c D A nL cells slots Q tgt X pl lv st) : xW p l e R s m args below meth c D A nL cells slots Q pc X pl lv (.int y :: .int x :: st) := by
  intro H locs ls hP hD hS hl
  exact lv_icmp_le C.1 C.2.1 hd ht (fun _ => kt H locs ls hP hD hS hl) (fun h9 => absurd h h9)
theorem x_icmp_le_f (C : xC p s m args meth c cc nL ret Ts own D cy A) {x y : Int32} {off : Int} (tgt : Nat) (hd : decode cc pc = .ok (.if_icmp .le off, 3)) (ht : (pc : Int) + off = (tgt : Int)) (hq : pc + 3 = q) (h : ¬ x ≤ y) (kf : xW p l e R s m args below meth c D A nL cells slots Q q X pl lv st) : xW p l e R s m args below meth c D A nL cells slots Q pc X pl lv (.int y :: .int x :: st) := by
  subst hq
  intro H locs ls hP hD hS hl
  exact lv_icmp_le C.1 C.2.1 hd ht (fun h9 => by first | exact absurd h9 h | exact absurd h h9) (fun _ => kf H locs ls hP hD hS hl)
theorem x_goto (C : xC p s m args meth c cc nL ret Ts own D cy A) {off : Int} (tgt : Nat) (hd : decode cc pc = .ok (.goto off, 3)) (ht : (pc : Int) + off = (tgt : Int)) (kk : xW p l e R s m args below meth c D A nL cells slots Q tgt X pl lv st) : xW p l e R s m args below meth c D A nL cells slots Q pc X pl lv st := by
  intro H locs ls hP hD hS hl
  exact lv_goto C.1 C.2.1 hd ht (kk H locs ls hP hD hS hl)
theorem x_ifnull_f (C : xC p s m args meth c cc nL ret Ts own D cy A) {x : Nat} {off : Int} (hd : decode cc pc = .ok (.ifnull off, 3)) (hq : pc + 3 = q) (kk : xW p l e R s m args below meth c D A nL cells slots Q q X pl lv st) : xW p l e R s m args below meth c D A nL cells slots Q pc X pl lv (.ref x :: st) := by
  subst hq
  intro H locs ls hP hD hS hl
  exact lv_ifnull C.1 C.2.1 hd (kk H locs ls hP hD hS hl)
theorem x_ifnull_t (C : xC p s m args meth c cc nL ret Ts own D cy A) {off : Int} (tgt : Nat) (hd : decode cc pc = .ok (.ifnull off, 3)) (ht : (pc : Int) + off = (tgt : Int)) (kk : xW p l e R s m args below meth c D A nL cells slots Q tgt X pl lv st) : xW p l e R s m args below meth c D A nL cells slots Q pc X pl lv (.null :: st) := by
  intro H locs ls hP hD hS hl
  exact lv_ifnullN C.1 C.2.1 hd ht (kk H locs ls hP hD hS hl)
theorem x_ifnonnull_t (C : xC p s m args meth c cc nL ret Ts own D cy A) {x : Nat} {off : Int} (tgt : Nat) (hd : decode cc pc = .ok (.ifnonnull off, 3)) (ht : (pc : Int) + off = (tgt : Int)) (kk : xW p l e R s m args below meth c D A nL cells slots Q tgt X pl lv st) : xW p l e R s m args below meth c D A nL cells slots Q pc X pl lv (.ref x :: st) := by
  intro H locs ls hP hD hS hl
  exact lv_ifnonnull C.1 C.2.1 hd ht (kk H locs ls hP hD hS hl)
theorem x_ifnonnull_f (C : xC p s m args meth c cc nL ret Ts own D cy A) {off : Int} (hd : decode cc pc = .ok (.ifnonnull off, 3)) (hq : pc + 3 = q) (kk : xW p l e R s m args below meth c D A nL cells slots Q q X pl lv st) : xW p l e R s m args below meth c D A nL cells slots Q pc X pl lv (.null :: st) := by
  subst hq
  intro H locs ls hP hD hS hl
  exact lv_ifnonnullN C.1 C.2.1 hd (kk H locs ls hP hD hS hl)
theorem x_topi {x : Int32} (k : ∀ y : Int32, y = x → xW p l e R s m args below meth c D A nL cells slots Q pc X pl lv (.int y :: st)) : xW p l e R s m args below meth c D A nL cells slots Q pc X pl lv (.int x :: st) := k x rfl
theorem x_top {x : Int32} (y : Int32) (h : x = y) (k : xW p l e R s m args below meth c D A nL cells slots Q pc X pl lv (.int y :: st)) : xW p l e R s m args below meth c D A nL cells slots Q pc X pl lv (.int x :: st) := h ▸ k
theorem x_less (ks : List Nat) (lv' : List (Nat × Value)) (h : lv_pick lv ks = lv') (k : xW p l e R s m args below meth c D A nL cells slots Q pc X pl lv' st) : xW p l e R s m args below meth c D A nL cells slots Q pc X pl lv st := fun H locs ls hP hD hS hl => k H locs ls hP hD hS (lv_sub hl ks h)
theorem x_ord (is : List Nat) (X' : va_W) (h : is.map (fun i => X[i]?) = X'.map some) (hn : va_nd is = true) (k : xW p l e R s m args below meth c D A nL cells slots Q pc X' pl lv st) : xW p l e R s m args below meth c D A nL cells slots Q pc X pl lv st := fun H locs ls hP hD hS hl => k H locs ls (hP.part is h) (hD.part is hn h) hS hl
theorem x_world {pl' : va_W} (h : X ++ pl = X' ++ pl') (k : xW p l e R s m args below meth c D A nL cells slots Q pc X' pl' lv st) : xW p l e R s m args below meth c D A nL cells slots Q pc X pl lv st := fun H locs ls hP hD hS hl => k H locs ls (h ▸ hP) (h ▸ hD) hS hl
theorem x_wide {k n : Nat} (h1 : cells ≤ k) (h2 : slots ≤ n) (kk : xW p l e R s m args below meth c D A nL k n Q pc X pl lv st) : xW p l e R s m args below meth c D A nL cells slots Q pc X pl lv st := fun H locs ls hP hD hS hl => W.widen h1 h2 (kk H locs ls hP hD hS hl)
theorem x_forget (hA : ∀ q, A q → s.heap.size ≤ q) (kk : ∀ (H : Heap) (ls : Array Slot), va_P D vwCl (X ++ pl) H → va_D A (X ++ pl) → va_S A s.heap H [] → lv_has ls nL lv → W p l e R s m args below meth c H [] cells slots Q (F0 m pc ls st)) : xW p l e R s m args below meth c D A nL cells slots Q pc X pl lv st := fun H locs ls hP hD hS hl => va_forget (fun q hq => hA _ (hS.2.2 q hq)) (kk H ls hP hD ⟨hS.1, hS.2.1, fun _ h => absurd h List.not_mem_nil⟩ hl)
theorem x_get (C : xC p s m args meth c cc nL ret Ts own D cy A) {a : Nat} {C9 : String} {T : u_T} {N ci index : Nat}  (hin : ∀ w ∈ u_ws C9 T N, w ∈ Ts) (hc : vwCl[ci]? = some (C9, T, N)) (q0 k : Nat) {fs : List Value} (he : (X ++ pl)[q0]? = some (a, .inr (ci, fs))) (hk : k < N) (hs : (T k).1 = C9) (hlink : Cond.fieldLink own index C9 (T k).2.1 (T k).2.2.1 ∈ Ts) {v : Value} (hv : fs[k]? = some v) (hd : decode cc pc = .ok (.getfield index, 3)) (hq : pc + 3 = q) (kk : xW p l e R s m args below meth c D A nL cells slots Q q X pl lv (v :: st)) : xW p l e R s m args below meth c D A nL cells slots Q pc X pl lv (.ref a :: st) := by
  subst hq
  intro H locs ls hP hD hS hl
  exact va_get C.1 C.2.1 C.2.2.2.2.2.1 hin C.2.2.2.2.1 C.2.2.2.2.2.2.1.1 hP q0 he hc k hk (C.2.2.2.2.2.1 _ hlink) (fun x h => by rw [hs] at h; exact h) hv hd (kk H locs ls hP hD hS hl)
theorem x_getN (C : xC p s m args meth c cc nL ret Ts own D cy A) {a : Nat} {C9 : String} {T : u_T} {N ci index : Nat} {host : String} (hin : ∀ w ∈ u_ws C9 T N, w ∈ Ts) (hc : vwCl[ci]? = some (C9, T, N)) (q0 k : Nat) {fs : List Value} (he : (X ++ pl)[q0]? = some (a, .inr (ci, fs))) (hk : k < N) (hs : (T k).1 = C9) (hlink : Cond.fieldLinkNest own index C9 (T k).2.1 (T k).2.2.1 host ∈ xNest) {v : Value} (hv : fs[k]? = some v) (hd : decode cc pc = .ok (.getfield index, 3)) (hq : pc + 3 = q) (kk : xW p l e R s m args below meth c D A nL cells slots Q q X pl lv (v :: st)) : xW p l e R s m args below meth c D A nL cells slots Q pc X pl lv (.ref a :: st) := by
  subst hq
  intro H locs ls hP hD hS hl
  exact va_getN C.1 C.2.1 C.2.2.2.2.2.1 hin C.2.2.2.2.1 C.2.2.2.2.2.2.1.1 hP q0 he hc k hk (va_Nw.use rfl (C.2.2.2.2.2.2.1.2.1 _ hlink)) (fun x h => by rw [hs] at h; exact h) hv hd (kk H locs ls hP hD hS hl)
theorem x_put (C : xC p s m args meth c cc nL ret Ts own D cy A) {a : Nat} {C9 : String} {T : u_T} {N ci index : Nat}  (hin : ∀ w ∈ u_ws C9 T N, w ∈ Ts) (ty0 : Nat → FieldType) (hty : ∀ k, k < N → parseFieldDescriptor (T k).2.2.1 = some (ty0 k)) (hnm : ∀ a, a < N → ∀ b, b < N → a ≠ b → (T a).2.1 ≠ (T b).2.1) (hc : vwCl[ci]? = some (C9, T, N)) (q0 k : Nat) {fs : List Value} {v : Value} (X' : va_W) (he : X[q0]? = some (a, .inr (ci, fs))) (hX : X.set q0 (a, .inr (ci, fs.set k v)) = X') (hk : k < N) (hs : (T k).1 = C9) (hlink : Cond.fieldLink own index C9 (T k).2.1 (T k).2.2.1 ∈ Ts) (hfin : (T k).2.2.2 = false)  (ty : FieldType) (hdt : parseFieldDescriptor (T k).2.2.1 = some ty) (hnr : narrow ty v = v) (hfit : fits ty v = true) (hlen : k < fs.length) (hd : decode cc pc = .ok (.putfield index, 3)) (hq : pc + 3 = q) (kk : xW p l e R s m args below meth c D A nL cells slots Q q X' pl lv st) : xW p l e R s m args below meth c D A nL cells slots Q pc X pl lv (v :: .ref a :: st) := by
  subst hq
  subst hX
  intro H locs ls hP hD hS hl
  have hlt : q0 < X.length := (List.getElem?_eq_some_iff.mp he).1
  have he2 : (X ++ pl)[q0]? = some (a, .inr (ci, fs)) := by rw [List.getElem?_append_left hlt]; exact he
  have e9 : ∀ y, (X ++ pl).set q0 y = X.set q0 y ++ pl := fun y => List.set_append_left q0 y hlt
  refine va_put C.1 C.2.1 C.2.2.2.2.2.1 hin ty0 hty hnm C.2.2.2.2.1 C.2.2.2.2.2.2.1.1 hP hD hS q0 he2 hc k hk (C.2.2.2.2.2.1 _ hlink) (fun x h => by rw [hs] at h; exact h) hfin hdt hnr hfit hlen hd (fun H1 locs1 hP1 hD1 hS1 => ?_)
  rw [e9] at hP1 hD1
  exact kk H1 locs1 ls hP1 hD1 hS1 hl
theorem x_putF (C : xC p s m args meth c cc nL ret Ts own D cy A) {a : Nat} {C9 : String} {T : u_T} {N ci index : Nat}  (hin : ∀ w ∈ u_ws C9 T N, w ∈ Ts) (ty0 : Nat → FieldType) (hty : ∀ k, k < N → parseFieldDescriptor (T k).2.2.1 = some (ty0 k)) (hnm : ∀ a, a < N → ∀ b, b < N → a ≠ b → (T a).2.1 ≠ (T b).2.1) (hc : vwCl[ci]? = some (C9, T, N)) (q0 k : Nat) {fs : List Value} {v : Value} (X' : va_W) (he : X[q0]? = some (a, .inr (ci, fs))) (hX : X.set q0 (a, .inr (ci, fs.set k v)) = X') (hk : k < N) (hs : (T k).1 = C9) (hlink : Cond.fieldLink own index C9 (T k).2.1 (T k).2.2.1 ∈ Ts) (hfin : (T k).2.2.2 = true) (hin2 : meth.name = "<init>") (hdecl : (T k).1 = own) (ty : FieldType) (hdt : parseFieldDescriptor (T k).2.2.1 = some ty) (hnr : narrow ty v = v) (hfit : fits ty v = true) (hlen : k < fs.length) (hd : decode cc pc = .ok (.putfield index, 3)) (hq : pc + 3 = q) (kk : xW p l e R s m args below meth c D A nL cells slots Q q X' pl lv st) : xW p l e R s m args below meth c D A nL cells slots Q pc X pl lv (v :: .ref a :: st) := by
  subst hq
  subst hX
  intro H locs ls hP hD hS hl
  have hlt : q0 < X.length := (List.getElem?_eq_some_iff.mp he).1
  have he2 : (X ++ pl)[q0]? = some (a, .inr (ci, fs)) := by rw [List.getElem?_append_left hlt]; exact he
  have e9 : ∀ y, (X ++ pl).set q0 y = X.set q0 y ++ pl := fun y => List.set_append_left q0 y hlt
  refine va_putF C.1 C.2.1 C.2.2.2.2.2.1 hin ty0 hty hnm C.2.2.2.2.1 C.2.2.2.2.2.2.1.1 hP hD hS q0 he2 hc k hk (C.2.2.2.2.2.1 _ hlink) (fun x h => by rw [hs] at h; exact h) hfin hin2 hdecl hdt hnr hfit hlen hd (fun H1 locs1 hP1 hD1 hS1 => ?_)
  rw [e9] at hP1 hD1
  exact kk H1 locs1 ls hP1 hD1 hS1 hl
theorem x_putN (C : xC p s m args meth c cc nL ret Ts own D cy A) {a : Nat} {C9 : String} {T : u_T} {N ci index : Nat} {host : String} (hin : ∀ w ∈ u_ws C9 T N, w ∈ Ts) (ty0 : Nat → FieldType) (hty : ∀ k, k < N → parseFieldDescriptor (T k).2.2.1 = some (ty0 k)) (hnm : ∀ a, a < N → ∀ b, b < N → a ≠ b → (T a).2.1 ≠ (T b).2.1) (hc : vwCl[ci]? = some (C9, T, N)) (q0 k : Nat) {fs : List Value} {v : Value} (X' : va_W) (he : X[q0]? = some (a, .inr (ci, fs))) (hX : X.set q0 (a, .inr (ci, fs.set k v)) = X') (hk : k < N) (hs : (T k).1 = C9) (hlink : Cond.fieldLinkNest own index C9 (T k).2.1 (T k).2.2.1 host ∈ xNest) (hfin : (T k).2.2.2 = false)  (ty : FieldType) (hdt : parseFieldDescriptor (T k).2.2.1 = some ty) (hnr : narrow ty v = v) (hfit : fits ty v = true) (hlen : k < fs.length) (hd : decode cc pc = .ok (.putfield index, 3)) (hq : pc + 3 = q) (kk : xW p l e R s m args below meth c D A nL cells slots Q q X' pl lv st) : xW p l e R s m args below meth c D A nL cells slots Q pc X pl lv (v :: .ref a :: st) := by
  subst hq
  subst hX
  intro H locs ls hP hD hS hl
  have hlt : q0 < X.length := (List.getElem?_eq_some_iff.mp he).1
  have he2 : (X ++ pl)[q0]? = some (a, .inr (ci, fs)) := by rw [List.getElem?_append_left hlt]; exact he
  have e9 : ∀ y, (X ++ pl).set q0 y = X.set q0 y ++ pl := fun y => List.set_append_left q0 y hlt
  refine va_putN C.1 C.2.1 C.2.2.2.2.2.1 hin ty0 hty hnm C.2.2.2.2.1 C.2.2.2.2.2.2.1.1 hP hD hS q0 he2 hc k hk (va_Nw.use rfl (C.2.2.2.2.2.2.1.2.1 _ hlink)) (fun x h => by rw [hs] at h; exact h) hfin hdt hnr hfit hlen hd (fun H1 locs1 hP1 hD1 hS1 => ?_)
  rw [e9] at hP1 hD1
  exact kk H1 locs1 ls hP1 hD1 hS1 hl
theorem x_iald (C : xC p s m args meth c cc nL ret Ts own D cy A) {a n : Nat} {f : Nat → Int32} {i : Int32} (q0 : Nat) (v : Int32) (ha : (X ++ pl)[q0]? = some (a, .inl (cy.1, n, .inl f))) (hin : vp_in i n) (hv : f i.toNatClampNeg = v) (hd : decode cc pc = .ok (.iaload, 1)) (hq : pc + 1 = q) (kk : xW p l e R s m args below meth c D A nL cells slots Q q X pl lv (.int v :: st)) : xW p l e R s m args below meth c D A nL cells slots Q pc X pl lv (.int i :: .ref a :: st) := by
  subst hq
  subst hv
  intro H locs ls hP hD hS hl
  exact va_iald C.1 C.2.1 C.2.2.2.2.2.2.1.1 hP q0 0 ha rfl hin hd (kk H locs ls hP hD hS hl)
theorem x_ialdN (C : xC p s m args meth c cc nL ret Ts own D cy A) {a n : Nat} {f : Nat → Int32} (j : Nat) {i : Int32} (q0 : Nat) (v : Int32) (ha : (X ++ pl)[q0]? = some (a, .inl (cy.1, n, .inl f))) (hi : i = nI j) (hj : j < n) (hn : n < 2 ^ 31) (hv : f j = v) (hd : decode cc pc = .ok (.iaload, 1)) (hq : pc + 1 = q) (kk : xW p l e R s m args below meth c D A nL cells slots Q q X pl lv (.int v :: st)) : xW p l e R s m args below meth c D A nL cells slots Q pc X pl lv (.int i :: .ref a :: st) := by
  subst hi
  exact x_iald C q0 v ha (vp_in_nI hj hn) (by rw [nI_clamp (Nat.lt_trans hj hn)]; exact hv) hd hq kk
theorem x_zald (C : xC p s m args meth c cc nL ret Ts own D cy A) {a n : Nat} {f : Nat → Int32} {i : Int32} (q0 : Nat) (v : Int32) (ha : (X ++ pl)[q0]? = some (a, .inl (cy.2.1, n, .inl f))) (hin : vp_in i n) (hv : f i.toNatClampNeg = v) (hd : decode cc pc = .ok (.baload, 1)) (hq : pc + 1 = q) (kk : xW p l e R s m args below meth c D A nL cells slots Q q X pl lv (.int v :: st)) : xW p l e R s m args below meth c D A nL cells slots Q pc X pl lv (.int i :: .ref a :: st) := by
  subst hq
  subst hv
  intro H locs ls hP hD hS hl
  exact va_zald C.1 C.2.1 C.2.2.2.2.2.2.1.1 hP q0 1 ha rfl hin hd (kk H locs ls hP hD hS hl)
theorem x_zaldN (C : xC p s m args meth c cc nL ret Ts own D cy A) {a n : Nat} {f : Nat → Int32} (j : Nat) {i : Int32} (q0 : Nat) (v : Int32) (ha : (X ++ pl)[q0]? = some (a, .inl (cy.2.1, n, .inl f))) (hi : i = nI j) (hj : j < n) (hn : n < 2 ^ 31) (hv : f j = v) (hd : decode cc pc = .ok (.baload, 1)) (hq : pc + 1 = q) (kk : xW p l e R s m args below meth c D A nL cells slots Q q X pl lv (.int v :: st)) : xW p l e R s m args below meth c D A nL cells slots Q pc X pl lv (.int i :: .ref a :: st) := by
  subst hi
  exact x_zald C q0 v ha (vp_in_nI hj hn) (by rw [nI_clamp (Nat.lt_trans hj hn)]; exact hv) hd hq kk
theorem x_iast (C : xC p s m args meth c cc nL ret Ts own D cy A) {a n : Nat} {f : Nat → Int32} {i x : Int32} (q0 : Nat) (X' : va_W) (ha : X[q0]? = some (a, .inl (cy.1, n, .inl f))) (hin : vp_in i n) (hX : X.set q0 (a, .inl (cy.1, n, .inl (upd f i.toNatClampNeg x))) = X') (hd : decode cc pc = .ok (.iastore, 1)) (hq : pc + 1 = q) (kk : xW p l e R s m args below meth c D A nL cells slots Q q X' pl lv st) : xW p l e R s m args below meth c D A nL cells slots Q pc X pl lv (.int x :: .int i :: .ref a :: st) := by
  subst hq
  subst hX
  intro H locs ls hP hD hS hl
  have hlt : q0 < X.length := (List.getElem?_eq_some_iff.mp ha).1
  have he2 : (X ++ pl)[q0]? = some (a, .inl (cy.1, n, .inl f)) := by rw [List.getElem?_append_left hlt]; exact ha
  have e9 : ∀ y, (X ++ pl).set q0 y = X.set q0 y ++ pl := fun y => List.set_append_left q0 y hlt
  refine va_iast C.1 C.2.1 C.2.2.2.2.2.2.1.1 hP hD hS q0 0 he2 rfl hin hd (fun H1 locs1 hP1 hD1 hS1 => ?_)
  rw [e9] at hP1 hD1
  exact kk H1 locs1 ls hP1 hD1 hS1 hl
theorem x_iastN (C : xC p s m args meth c cc nL ret Ts own D cy A) {a n : Nat} {f : Nat → Int32} (j : Nat) {i x : Int32} (q0 : Nat) (f' : Nat → Int32) (X' : va_W) (ha : X[q0]? = some (a, .inl (cy.1, n, .inl f))) (hi : i = nI j) (hj : j < n) (hn : n < 2 ^ 31) (hf : upd f j x = f') (hX : X.set q0 (a, .inl (cy.1, n, .inl f')) = X') (hd : decode cc pc = .ok (.iastore, 1)) (hq : pc + 1 = q) (kk : xW p l e R s m args below meth c D A nL cells slots Q q X' pl lv st) : xW p l e R s m args below meth c D A nL cells slots Q pc X pl lv (.int x :: .int i :: .ref a :: st) := by
  subst hi
  subst hf
  exact x_iast C q0 X' ha (vp_in_nI hj hn) (by rw [nI_clamp (Nat.lt_trans hj hn)]; exact hX) hd hq kk
theorem x_zast (C : xC p s m args meth c cc nL ret Ts own D cy A) {a n : Nat} {f : Nat → Int32} {i x : Int32} (q0 : Nat) (X' : va_W) (ha : X[q0]? = some (a, .inl (cy.2.1, n, .inl f))) (hin : vp_in i n) (hX : X.set q0 (a, .inl (cy.2.1, n, .inl (upd f i.toNatClampNeg (vp_nar .boolean x)))) = X') (hd : decode cc pc = .ok (.bastore, 1)) (hq : pc + 1 = q) (kk : xW p l e R s m args below meth c D A nL cells slots Q q X' pl lv st) : xW p l e R s m args below meth c D A nL cells slots Q pc X pl lv (.int x :: .int i :: .ref a :: st) := by
  subst hq
  subst hX
  intro H locs ls hP hD hS hl
  have hlt : q0 < X.length := (List.getElem?_eq_some_iff.mp ha).1
  have he2 : (X ++ pl)[q0]? = some (a, .inl (cy.2.1, n, .inl f)) := by rw [List.getElem?_append_left hlt]; exact ha
  have e9 : ∀ y, (X ++ pl).set q0 y = X.set q0 y ++ pl := fun y => List.set_append_left q0 y hlt
  refine va_zast C.1 C.2.1 C.2.2.2.2.2.2.1.1 hP hD hS q0 1 he2 rfl hin hd (fun H1 locs1 hP1 hD1 hS1 => ?_)
  rw [e9] at hP1 hD1
  exact kk H1 locs1 ls hP1 hD1 hS1 hl
theorem x_zastN (C : xC p s m args meth c cc nL ret Ts own D cy A) {a n : Nat} {f : Nat → Int32} (j : Nat) {i x : Int32} (q0 : Nat) (f' : Nat → Int32) (X' : va_W) (ha : X[q0]? = some (a, .inl (cy.2.1, n, .inl f))) (hi : i = nI j) (hj : j < n) (hn : n < 2 ^ 31) (hf : upd f j (vp_nar .boolean x) = f') (hX : X.set q0 (a, .inl (cy.2.1, n, .inl f')) = X') (hd : decode cc pc = .ok (.bastore, 1)) (hq : pc + 1 = q) (kk : xW p l e R s m args below meth c D A nL cells slots Q q X' pl lv st) : xW p l e R s m args below meth c D A nL cells slots Q pc X pl lv (.int x :: .int i :: .ref a :: st) := by
  subst hi
  subst hf
  exact x_zast C q0 X' ha (vp_in_nI hj hn) (by rw [nI_clamp (Nat.lt_trans hj hn)]; exact hX) hd hq kk
theorem x_vret (C : xC p s m args meth c cc nL ret Ts own D cy A) {post : va_W → Prop} {mc ms : Nat}  (hr : ret = none) (hw : post (X ++ pl)) (hd : decode cc pc = .ok (.return_, 1)) (hmc : cells ≤ mc) (hms : slots ≤ ms) : xW p l e R s m args below meth c D A nL cells slots (MQ below (va_Qv post (xB D A) A) args s mc ms A) pc X pl lv ([]) := by
  intro H locs ls hP hD hS hl
  refine W.widen hmc hms ?_
  exact W.vret C.1 C.2.1 (C.2.2.2.1.trans hr) (fun t ht hW => ⟨⟨(X ++ pl), rfl, hw, by rw [ht]; exact hP, hD⟩, hS.F ht⟩) hS.2.2 hd C.2.2.2.2.2.2.2.2
theorem x_iret (C : xC p s m args meth c cc nL ret Ts own D cy A) {post : Int32 → va_W → Prop} {v : Int32} {mc ms : Nat}  (ty : FieldType) (hr : ret = some ty) (hnr : narrow ty (.int v) = .int v) (hw : post v (X ++ pl)) (hd : decode cc pc = .ok (.ireturn, 1)) (hmc : cells ≤ mc) (hms : slots ≤ ms) : xW p l e R s m args below meth c D A nL cells slots (MQ below (va_Qi post (xB D A) A) args s mc ms A) pc X pl lv ([.int v]) := by
  intro H locs ls hP hD hS hl
  refine W.widen hmc hms ?_
  exact W.zret C.1 C.2.1 (C.2.2.2.1.trans hr) hnr (fun t ht hW => ⟨⟨v, (X ++ pl), rfl, hw, by rw [ht]; exact hP, hD⟩, hS.F ht⟩) hS.2.2 hd C.2.2.2.2.2.2.2.2
theorem x_qret (C : xC p s m args meth c cc nL ret Ts own D cy A) {post : Option Nat → va_W → Prop} {v : Value} {mc ms : Nat}  (cn : String) (hr : ret = some (.object cn)) (r : Option Nat) (hv : v = va_rf r) (hw : post r (X ++ pl)) (hd : decode cc pc = .ok (.areturn, 1)) (hmc : cells ≤ mc) (hms : slots ≤ ms) : xW p l e R s m args below meth c D A nL cells slots (MQ below (va_Qq post (xB D A) A) args s mc ms A) pc X pl lv ([v]) := by
  intro H locs ls hP hD hS hl
  refine W.widen hmc hms ?_
  exact W.aret C.1 C.2.1 (C.2.2.2.1.trans hr) (Or.inl ⟨cn, rfl⟩) (by subst hv; cases r with | none => exact Or.inl rfl | some z => exact Or.inr ⟨z, rfl⟩) (fun t ht hW => ⟨⟨r, (X ++ pl), by rw [hv], hw, by rw [ht]; exact hP, hD⟩, hS.F ht⟩) hS.2.2 hd C.2.2.2.2.2.2.2.2
theorem x_vretX (C : xC p s m args meth c cc nL ret Ts own D cy A) {post : va_W → Prop} {mc ms : Nat} {XC : String → State → State → Prop} (hr : ret = none) (hw : post (X ++ pl)) (hd : decode cc pc = .ok (.return_, 1)) (hmc : cells ≤ mc) (hms : slots ≤ ms) : xW p l e R s m args below meth c D A nL cells slots (vx_MQ below (va_Qv post (xB D A) A) XC args s mc ms A) pc X pl lv ([]) := by
  intro H locs ls hP hD hS hl
  refine vx_ret <| W.widen hmc hms ?_
  exact W.vret C.1 C.2.1 (C.2.2.2.1.trans hr) (fun t ht hW => ⟨⟨(X ++ pl), rfl, hw, by rw [ht]; exact hP, hD⟩, hS.F ht⟩) hS.2.2 hd C.2.2.2.2.2.2.2.2
theorem x_iretX (C : xC p s m args meth c cc nL ret Ts own D cy A) {post : Int32 → va_W → Prop} {v : Int32} {mc ms : Nat} {XC : String → State → State → Prop} (ty : FieldType) (hr : ret = some ty) (hnr : narrow ty (.int v) = .int v) (hw : post v (X ++ pl)) (hd : decode cc pc = .ok (.ireturn, 1)) (hmc : cells ≤ mc) (hms : slots ≤ ms) : xW p l e R s m args below meth c D A nL cells slots (vx_MQ below (va_Qi post (xB D A) A) XC args s mc ms A) pc X pl lv ([.int v]) := by
  intro H locs ls hP hD hS hl
  refine vx_ret <| W.widen hmc hms ?_
  exact W.zret C.1 C.2.1 (C.2.2.2.1.trans hr) hnr (fun t ht hW => ⟨⟨v, (X ++ pl), rfl, hw, by rw [ht]; exact hP, hD⟩, hS.F ht⟩) hS.2.2 hd C.2.2.2.2.2.2.2.2
theorem x_vretT (C : xC p s m args meth c cc nL ret Ts own D cy A) {post : va_W × va_W → Prop} {mc ms : Nat}  (hr : ret = none) (hw : post (X, pl)) (hd : decode cc pc = .ok (.return_, 1)) (hmc : cells ≤ mc) (hms : slots ≤ ms) : xW p l e R s m args below meth c D A nL cells slots (MQ below (va_Qv post (xB2 D A) A) args s mc ms A) pc X pl lv ([]) := by
  intro H locs ls hP hD hS hl
  refine W.widen hmc hms ?_
  exact W.vret C.1 C.2.1 (C.2.2.2.1.trans hr) (fun t ht hW => ⟨⟨(X, pl), rfl, hw, by rw [ht]; exact hP, hD⟩, hS.F ht⟩) hS.2.2 hd C.2.2.2.2.2.2.2.2
theorem x_iretT (C : xC p s m args meth c cc nL ret Ts own D cy A) {post : Int32 → va_W × va_W → Prop} {v : Int32} {mc ms : Nat}  (ty : FieldType) (hr : ret = some ty) (hnr : narrow ty (.int v) = .int v) (hw : post v (X, pl)) (hd : decode cc pc = .ok (.ireturn, 1)) (hmc : cells ≤ mc) (hms : slots ≤ ms) : xW p l e R s m args below meth c D A nL cells slots (MQ below (va_Qi post (xB2 D A) A) args s mc ms A) pc X pl lv ([.int v]) := by
  intro H locs ls hP hD hS hl
  refine W.widen hmc hms ?_
  exact W.zret C.1 C.2.1 (C.2.2.2.1.trans hr) hnr (fun t ht hW => ⟨⟨v, (X, pl), rfl, hw, by rw [ht]; exact hP, hD⟩, hS.F ht⟩) hS.2.2 hd C.2.2.2.2.2.2.2.2
theorem x_qretT (C : xC p s m args meth c cc nL ret Ts own D cy A) {post : Option Nat → va_W × va_W → Prop} {v : Value} {mc ms : Nat}  (cn : String) (hr : ret = some (.object cn)) (r : Option Nat) (hv : v = va_rf r) (hw : post r (X, pl)) (hd : decode cc pc = .ok (.areturn, 1)) (hmc : cells ≤ mc) (hms : slots ≤ ms) : xW p l e R s m args below meth c D A nL cells slots (MQ below (va_Qq post (xB2 D A) A) args s mc ms A) pc X pl lv ([v]) := by
  intro H locs ls hP hD hS hl
  refine W.widen hmc hms ?_
  exact W.aret C.1 C.2.1 (C.2.2.2.1.trans hr) (Or.inl ⟨cn, rfl⟩) (by subst hv; cases r with | none => exact Or.inl rfl | some z => exact Or.inr ⟨z, rfl⟩) (fun t ht hW => ⟨⟨r, (X, pl), by rw [hv], hw, by rw [ht]; exact hP, hD⟩, hS.F ht⟩) hS.2.2 hd C.2.2.2.2.2.2.2.2
theorem x_vretTX (C : xC p s m args meth c cc nL ret Ts own D cy A) {post : va_W × va_W → Prop} {mc ms : Nat} {XC : String → State → State → Prop} (hr : ret = none) (hw : post (X, pl)) (hd : decode cc pc = .ok (.return_, 1)) (hmc : cells ≤ mc) (hms : slots ≤ ms) : xW p l e R s m args below meth c D A nL cells slots (vx_MQ below (va_Qv post (xB2 D A) A) XC args s mc ms A) pc X pl lv ([]) := by
  intro H locs ls hP hD hS hl
  refine vx_ret <| W.widen hmc hms ?_
  exact W.vret C.1 C.2.1 (C.2.2.2.1.trans hr) (fun t ht hW => ⟨⟨(X, pl), rfl, hw, by rw [ht]; exact hP, hD⟩, hS.F ht⟩) hS.2.2 hd C.2.2.2.2.2.2.2.2
theorem x_iretTX (C : xC p s m args meth c cc nL ret Ts own D cy A) {post : Int32 → va_W × va_W → Prop} {v : Int32} {mc ms : Nat} {XC : String → State → State → Prop} (ty : FieldType) (hr : ret = some ty) (hnr : narrow ty (.int v) = .int v) (hw : post v (X, pl)) (hd : decode cc pc = .ok (.ireturn, 1)) (hmc : cells ≤ mc) (hms : slots ≤ ms) : xW p l e R s m args below meth c D A nL cells slots (vx_MQ below (va_Qi post (xB2 D A) A) XC args s mc ms A) pc X pl lv ([.int v]) := by
  intro H locs ls hP hD hS hl
  refine vx_ret <| W.widen hmc hms ?_
  exact W.zret C.1 C.2.1 (C.2.2.2.1.trans hr) hnr (fun t ht hW => ⟨⟨v, (X, pl), rfl, hw, by rw [ht]; exact hP, hD⟩, hS.F ht⟩) hS.2.2 hd C.2.2.2.2.2.2.2.2
end XF
