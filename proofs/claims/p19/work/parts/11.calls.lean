/-! contracts over worlds: from the world w0 a method comes to a world that 'post' names (one list, or a list and a tail); bodies, calls, throws, catches -/
theorem xLeftP {D : va_G} {cl : List vw_C} {a b : va_W} {H : Heap} (h : va_P D cl (a ++ b) H) : va_P D cl a H := fun k q hk => h k q (by rw [List.getElem?_append_left (List.getElem?_eq_some_iff.mp hk).1]; exact hk)
theorem xLeftD {A : Nat → Prop} {a b : va_W} (h : va_D A (a ++ b)) : va_D A a :=
  ⟨fun i j p q hi hj e => h.1 i j p q (by rw [List.getElem?_append_left (List.getElem?_eq_some_iff.mp hi).1]; exact hi) (by rw [List.getElem?_append_left (List.getElem?_eq_some_iff.mp hj).1]; exact hj) e, fun k q hk => h.2 k q (by rw [List.getElem?_append_left (List.getElem?_eq_some_iff.mp hk).1]; exact hk)⟩
abbrev xQi (D : va_G) (post : Int32 → va_W → Prop) (A : Nat → Prop) : Array Value → State → Outcome → State → Prop := va_Qi post (xB D A) A
abbrev xQv (D : va_G) (post : va_W → Prop) (A : Nat → Prop) : Array Value → State → Outcome → State → Prop := va_Qv post (xB D A) A
abbrev xQq (D : va_G) (post : Option Nat → va_W → Prop) (A : Nat → Prop) : Array Value → State → Outcome → State → Prop := va_Qq post (xB D A) A
abbrev xQi2 (D : va_G) (post : Int32 → va_W × va_W → Prop) (A : Nat → Prop) : Array Value → State → Outcome → State → Prop := va_Qi post (xB2 D A) A
abbrev xQv2 (D : va_G) (post : va_W × va_W → Prop) (A : Nat → Prop) : Array Value → State → Outcome → State → Prop := va_Qv post (xB2 D A) A
abbrev xQq2 (D : va_G) (post : Option Nat → va_W × va_W → Prop) (A : Nat → Prop) : Array Value → State → Outcome → State → Prop := va_Qq post (xB2 D A) A
/-- where a method throws: an exception that 'px' names, the world as it was -/
abbrev xXC (D : va_G) (w0 : va_W) (px : String → Prop) (A : Nat → Prop) : String → State → State → Prop := vx_X px (fun E u t => E = u ∧ va_P D vwCl w0 t.heap ∧ va_D A w0) A
def xM (b : Bool) (l : Launch) (y : MethodName) (ws : List Cond) (rm : Room) (D : va_G) (cy : ClassId × ClassId × ClassId) (av : List Value) (w0 : va_W) (Qc : (Nat → Prop) → Array Value → State → Outcome → State → Prop) (mc ms : Nat) : Prop := ∀ sz : Nat, Met l y ws rm (xPc b D cy av w0 sz) (Qc (va_A w0 sz)) mc ms (va_A w0 sz)
def xX (b : Bool) (l : Launch) (y : MethodName) (ws : List Cond) (rm : Room) (D : va_G) (cy : ClassId × ClassId × ClassId) (av : List Value) (w0 : va_W) (Qc : (Nat → Prop) → Array Value → State → Outcome → State → Prop) (px : String → Prop) (mc ms : Nat) : Prop := ∀ sz : Nat, vx_Met l y ws rm (xPc b D cy av w0 sz) (Qc (va_A w0 sz)) (xXC D w0 px (va_A w0 sz)) mc ms (va_A w0 sz)

theorem xM_of {b : Bool} {l : Launch} {y : MethodName} {ws ws' : List Cond} {rm : Room} {D : va_G} {cy : ClassId × ClassId × ClassId} {av : List Value} {w0 X pl : va_W} {Qc : (Nat → Prop) → Array Value → State → Outcome → State → Prop}  {mc ms nL : Nat} {cc : ByteArray} {ret : Option FieldType}  (own : String) (lv : List (Nat × Value)) (hy : plainName y.cls = true) (hw : ws = Cond.code y cc nL ret :: ws') (hown : y.cls = own) (hlv : lv_args 0 av = lv) (hlen : (lg_sl av).length ≤ nL) (hX : w0 = X ++ pl)
    (body : ∀ (p : Program) (e : Env) (s : State) (m : MethodId) (args : Array Value) (below : List Frame) (meth : Method) (c : Code) (A : Nat → Prop), xC p s m args meth c cc nL ret ws own D cy A → meth.name = y.name → True → (b = true → xZ A s s.heap) → xW p l e rm s m args below meth c D A nL 0 0 (MQ below (Qc A) args s mc ms A) 0 X pl lv []) : xM b l y ws rm D cy av w0 Qc  mc ms := by
  intro sz
  refine Met.ofW (cc := cc) (maxL := nL) (ret := ret)  hy hw ?_
  intro p e s m args below meth c s₁ B hml  hv
  obtain ⟨rfl, hsz, hP, hK, hD0, hZ⟩ := hv
  subst hsz
  subst hX
  have hts := atoms_spec (ws := ws) B.pre
  have hown' : s.vm.findClass own = some m.cls := hown ▸ findClass_of_methodNamed B.named
  have hl := lv_entry av hlen
  rw [lg_entry_eq]
  rw [hlv] at hl
  exact body p e s m _ below meth c _ ⟨B.exec, B.bytes, hml, B.returns, hown', hts, hK, fun q h => Or.inr h, B.notSynchronized⟩ (name_of_methodNamed B.named B.method).1 trivial hZ s.heap [] _ hP hD0.self va_S.rf hl

theorem xMH_of {b : Bool} {l : Launch} {y : MethodName} {ws ws' : List Cond} {rm : Room} {D : va_G} {cy : ClassId × ClassId × ClassId} {av : List Value} {w0 X pl : va_W} {Qc : (Nat → Prop) → Array Value → State → Outcome → State → Prop}  {mc ms nL : Nat} {cc : ByteArray} {ret : Option FieldType} (hh : List (Nat × Nat × Nat × Nat)) (own : String) (lv : List (Nat × Value)) (hy : plainName y.cls = true) (hw : ws = Cond.codeWith y cc nL ret hh :: ws') (hown : y.cls = own) (hlv : lv_args 0 av = lv) (hlen : (lg_sl av).length ≤ nL) (hX : w0 = X ++ pl)
    (body : ∀ (p : Program) (e : Env) (s : State) (m : MethodId) (args : Array Value) (below : List Frame) (meth : Method) (c : Code) (A : Nat → Prop), xC p s m args meth c cc nL ret ws own D cy A → meth.name = y.name → c.exceptionTable.toList = tableOf hh → (b = true → xZ A s s.heap) → xW p l e rm s m args below meth c D A nL 0 0 (MQ below (Qc A) args s mc ms A) 0 X pl lv []) : xM b l y ws rm D cy av w0 Qc  mc ms := by
  intro sz
  refine va_MetW (cc := cc) (maxL := nL) (ret := ret) (hh := hh) hy hw ?_
  intro p e s m args below meth c s₁ B hml  hv
  obtain ⟨rfl, hsz, hP, hK, hD0, hZ⟩ := hv
  subst hsz
  subst hX
  have hts := atoms_spec (ws := ws) B.pre
  have hown' : s.vm.findClass own = some m.cls := hown ▸ findClass_of_methodNamed B.named
  have hl := lv_entry av hlen
  rw [lg_entry_eq]
  rw [hlv] at hl
  exact body p e s m _ below meth c _ ⟨B.exec, B.bytes, hml, B.returns, hown', hts, hK, fun q h => Or.inr h, B.notSynchronized⟩ (name_of_methodNamed B.named B.method).1 (vx_table (x := y) B (hts _ (by rw [hw]; exact List.mem_cons_self))) hZ s.heap [] _ hP hD0.self va_S.rf hl

theorem xX_of {b : Bool} {l : Launch} {y : MethodName} {ws ws' : List Cond} {rm : Room} {D : va_G} {cy : ClassId × ClassId × ClassId} {av : List Value} {w0 X pl : va_W} {Qc : (Nat → Prop) → Array Value → State → Outcome → State → Prop} {px : String → Prop} {mc ms nL : Nat} {cc : ByteArray} {ret : Option FieldType}  (own : String) (lv : List (Nat × Value)) (hy : plainName y.cls = true) (hw : ws = Cond.code y cc nL ret :: ws') (hown : y.cls = own) (hlv : lv_args 0 av = lv) (hlen : (lg_sl av).length ≤ nL) (hX : w0 = X ++ pl)
    (body : ∀ (p : Program) (e : Env) (s : State) (m : MethodId) (args : Array Value) (below : List Frame) (meth : Method) (c : Code) (A : Nat → Prop), xC p s m args meth c cc nL ret ws own D cy A → meth.name = y.name → (∀ x ∈ c.exceptionTable.toList, False) → (b = true → xZ A s s.heap) → xW p l e rm s m args below meth c D A nL 0 0 (vx_MQ below (Qc A) (xXC D w0 px A) args s mc ms A) 0 X pl lv []) : xX b l y ws rm D cy av w0 Qc px mc ms := by
  intro sz
  refine vx_ofW (cc := cc) (maxL := nL) (ret := ret)  hy hw ?_
  intro p e s m args below meth c s₁ B hml ht hv
  obtain ⟨rfl, hsz, hP, hK, hD0, hZ⟩ := hv
  subst hsz
  subst hX
  have hts := atoms_spec (ws := ws) B.pre
  have hown' : s.vm.findClass own = some m.cls := hown ▸ findClass_of_methodNamed B.named
  have hl := lv_entry av hlen
  rw [lg_entry_eq]
  rw [hlv] at hl
  exact body p e s m _ below meth c _ ⟨B.exec, B.bytes, hml, B.returns, hown', hts, hK, fun q h => Or.inr h, B.notSynchronized⟩ (name_of_methodNamed B.named B.method).1 ht hZ s.heap [] _ hP hD0.self va_S.rf hl

section XG
variable {p : Program} {l : Launch} {e : Env} {R : Room} {s : State} {m : MethodId} {args : Array Value} {below : List Frame} {meth : Method} {c : Code} {cc : ByteArray} {nL : Nat} {ret : Option FieldType} {Ts : List Cond} {own : String} {D : va_G} {cy : ClassId × ClassId × ClassId} {A : Nat → Prop} {cells slots : Nat} {Q : State → Prop} {X X' pl : va_W} {lv lv' : List (Nat × Value)} {st : List Value} {pc q : Nat}

/-- a throwing state -/
def xV (p : Program) (l : Launch) (e : Env) (R : Room) (s : State) (m : MethodId) (args : Array Value) (below : List Frame) (meth : Method) (c : Code) (D : va_G) (A : Nat → Prop) (nL cells slots : Nat) (Q : State → Prop) (E : String) (pc : Nat) (X pl : va_W) (lv : List (Nat × Value)) (st : List Value) : Prop :=
  ∀ (H : Heap) (locs : List Loc) (ls : Array Slot) (q9 : Addr) (ce : Cell), va_P D vwCl (X ++ pl) H → va_D A (X ++ pl) → va_S A s.heap H locs → lv_has ls nL lv → H[q9]? = some ce → ce.vm = .none → s.vm.findClass E = some ce.cls → vx_W p l e R s m args below meth c H locs cells slots Q (F0 m pc ls st) q9
theorem xKeepG {D : va_G} {ws wc : va_W} {H H1 : Heap} (hP : va_P D vwCl ws H) (hin : ∀ (a : Nat), (∃ (k : Nat) (e : va_E), wc[k]? = some (a, e)) → ∀ (i : Nat) (q : Nat × va_E), ws[i]? = some q → q.1 = a → ∃ k : Nat, wc[k]? = some q) (hk : ∀ q : Nat, q < H.size → ¬ va_A wc H.size q → H1[q]? = H[q]?) (hP1 : va_P D vwCl wc H1) : va_P D vwCl ws H1 := by
  intro i q hq
  by_cases hA : ∃ (k : Nat) (e : va_E), wc[k]? = some (q.1, e)
  · obtain ⟨k, hk2⟩ := hin q.1 hA i q hq rfl
    exact hP1 k q hk2
  · have hlt := (hP i q hq).lt
    refine (hP i q hq).kept (hk q.1 hlt (fun h => ?_))
    rcases h with h | h
    · exact hA h
    · omega

theorem xKeepP {D : va_G} {A : Nat → Prop} {X pl cx : va_W} {H H1 : Heap} (isC : List Nat) (hC : isC.map (fun i => X[i]?) = cx.map some) (hP : va_P D vwCl (X ++ pl) H) (hD : va_D A (X ++ pl)) (hk : ∀ q : Nat, q < H.size → ¬ va_A cx H.size q → H1[q]? = H[q]?) (hP1 : va_P D vwCl cx H1) : va_P D vwCl (X ++ pl) H1 := by
  refine xKeepG hP (fun a h i q hq ha => ?_) hk hP1
  obtain ⟨k, e, hk2⟩ := h
  obtain ⟨j, hj, hXj⟩ := va_in_of isC hC hk2
  have hXj2 : (X ++ pl)[j]? = some (a, e) := by rw [List.getElem?_append_left (List.getElem?_eq_some_iff.mp hXj).1]; exact hXj
  have hij := hD.1 i j q (a, e) hq hXj2 ha
  subst hij
  have : q = (a, e) := Option.some.inj (hq.symm.trans hXj2)
  subst this
  exact ⟨k, hk2⟩
theorem xKeepT {D : va_G} {A : Nat → Prop} {X pl cx : va_W} {H H1 : Heap} (isC : List Nat) (hC : isC.map (fun i => X[i]?) = cx.map some) (hP : va_P D vwCl (X ++ pl) H) (hD : va_D A (X ++ pl)) (hk : ∀ q : Nat, q < H.size → ¬ va_A (cx ++ pl) H.size q → H1[q]? = H[q]?) (hP1 : va_P D vwCl (cx ++ pl) H1) : va_P D vwCl (X ++ pl) H1 := by
  refine xKeepG hP (fun a h i q hq ha => ?_) hk hP1
  obtain ⟨k, e, hk2⟩ := h
  have hXj2 := va_part isC hC k (a, e) hk2
  have hij := hD.1 i _ q (a, e) hq hXj2 ha
  have : q = (a, e) := by rw [hij] at hq; exact Option.some.inj (hq.symm.trans hXj2)
  subst this
  exact ⟨k, hk2⟩

theorem x_CiP (C : xC p s m args meth c cc nL ret Ts own D cy A) (isC isR : List Nat) {cx wr : va_W} {post : Int32 → va_W → Prop} {mc ms k n : Nat} {a : Array Value} {st0 : List Value} 
    (hC : isC.map (fun i => X[i]?) = cx.map some) (hR : isR.map (fun i => X[i]?) = wr.map some) (hn : va_nd isR = true) (hnC : va_nd isC = true) (hdis : ∀ i ∈ isR, i ∉ isC)
    (hr : ∀ (H : Heap) (locs : List Loc) (ls : Array Slot), va_P D vwCl (X ++ pl) H → va_P D vwCl (cx) H → va_D (fun _ => True) (cx) → va_S A s.heap H locs → (∀ q, va_A (cx) H.size q → A q) → ls.size = nL → va_Run p l e R s m args below meth c H locs cells slots mc ms (F0 m pc ls st0) st (va_Qi post (xB D (va_A (cx) H.size)) (va_A (cx) H.size) a) (va_A (cx) H.size))
    (hc : cells + mc = k) (hs : slots + ms = n) (hq : pc + 3 = q) (kk : ∀ (r : Int32) (w1 : va_W), post r  w1 → xW p l e R s m args below meth c D A nL k n Q q (wr ++ w1) pl lv (.int r :: st)) : xW p l e R s m args below meth c D A nL cells slots Q pc X pl lv st0 := by
  subst hc
  subst hs
  subst hq
  intro H locs ls hP hD hS hl
  have hA := C.2.2.2.2.2.2.2.1
  have hPc : va_P D vwCl cx H := xLeftP (hP.part isC hC)
  have hDc : va_D (fun _ => True) cx := (xLeftD (hD.part isC hnC hC)).weaken (fun _ _ _ _ => trivial)
  have hFc := va_free (xLeftD hD) hS hA isC hC
  refine va_calli (hr H locs ls hP hPc hDc hS hFc hl.1) hS (fun q _ h => hFc q h) hFc (fun r u t H1 locs1 ht hvm hw hB hz1 hk1 hS1 => ?_)
  obtain ⟨hP1, hD1⟩ := hB
  rw [ht] at hP1
  obtain ⟨hP2, hD2⟩ := va_joinQ hP hD isC isR hC hR hn hdis hk1 hFc hP1 hD1
  exact kk r u hw H1 locs1 ls hP2 hD2 hS1 hl
theorem x_CvP (C : xC p s m args meth c cc nL ret Ts own D cy A) (isC isR : List Nat) {cx wr : va_W} {post : va_W → Prop} {mc ms k n : Nat} {a : Array Value} {st0 : List Value} 
    (hC : isC.map (fun i => X[i]?) = cx.map some) (hR : isR.map (fun i => X[i]?) = wr.map some) (hn : va_nd isR = true) (hnC : va_nd isC = true) (hdis : ∀ i ∈ isR, i ∉ isC)
    (hr : ∀ (H : Heap) (locs : List Loc) (ls : Array Slot), va_P D vwCl (X ++ pl) H → va_P D vwCl (cx) H → va_D (fun _ => True) (cx) → va_S A s.heap H locs → (∀ q, va_A (cx) H.size q → A q) → ls.size = nL → va_Run p l e R s m args below meth c H locs cells slots mc ms (F0 m pc ls st0) st (va_Qv post (xB D (va_A (cx) H.size)) (va_A (cx) H.size) a) (va_A (cx) H.size))
    (hc : cells + mc = k) (hs : slots + ms = n) (hq : pc + 3 = q) (kk : ∀ (w1 : va_W), post  w1 → xW p l e R s m args below meth c D A nL k n Q q (wr ++ w1) pl lv st) : xW p l e R s m args below meth c D A nL cells slots Q pc X pl lv st0 := by
  subst hc
  subst hs
  subst hq
  intro H locs ls hP hD hS hl
  have hA := C.2.2.2.2.2.2.2.1
  have hPc : va_P D vwCl cx H := xLeftP (hP.part isC hC)
  have hDc : va_D (fun _ => True) cx := (xLeftD (hD.part isC hnC hC)).weaken (fun _ _ _ _ => trivial)
  have hFc := va_free (xLeftD hD) hS hA isC hC
  refine va_callv (hr H locs ls hP hPc hDc hS hFc hl.1) hS (fun q _ h => hFc q h) hFc (fun u t H1 locs1 ht hvm hw hB hz1 hk1 hS1 => ?_)
  obtain ⟨hP1, hD1⟩ := hB
  rw [ht] at hP1
  obtain ⟨hP2, hD2⟩ := va_joinQ hP hD isC isR hC hR hn hdis hk1 hFc hP1 hD1
  exact kk u hw H1 locs1 ls hP2 hD2 hS1 hl
theorem x_CqP (C : xC p s m args meth c cc nL ret Ts own D cy A) (isC isR : List Nat) {cx wr : va_W} {post : Option Nat → va_W → Prop} {mc ms k n : Nat} {a : Array Value} {st0 : List Value} 
    (hC : isC.map (fun i => X[i]?) = cx.map some) (hR : isR.map (fun i => X[i]?) = wr.map some) (hn : va_nd isR = true) (hnC : va_nd isC = true) (hdis : ∀ i ∈ isR, i ∉ isC)
    (hr : ∀ (H : Heap) (locs : List Loc) (ls : Array Slot), va_P D vwCl (X ++ pl) H → va_P D vwCl (cx) H → va_D (fun _ => True) (cx) → va_S A s.heap H locs → (∀ q, va_A (cx) H.size q → A q) → ls.size = nL → va_Run p l e R s m args below meth c H locs cells slots mc ms (F0 m pc ls st0) st (va_Qq post (xB D (va_A (cx) H.size)) (va_A (cx) H.size) a) (va_A (cx) H.size))
    (hc : cells + mc = k) (hs : slots + ms = n) (hq : pc + 3 = q) (kk : ∀ (r : Option Nat) (w1 : va_W), post r  w1 → xW p l e R s m args below meth c D A nL k n Q q (wr ++ w1) pl lv (va_rf r :: st)) : xW p l e R s m args below meth c D A nL cells slots Q pc X pl lv st0 := by
  subst hc
  subst hs
  subst hq
  intro H locs ls hP hD hS hl
  have hA := C.2.2.2.2.2.2.2.1
  have hPc : va_P D vwCl cx H := xLeftP (hP.part isC hC)
  have hDc : va_D (fun _ => True) cx := (xLeftD (hD.part isC hnC hC)).weaken (fun _ _ _ _ => trivial)
  have hFc := va_free (xLeftD hD) hS hA isC hC
  refine va_callq (hr H locs ls hP hPc hDc hS hFc hl.1) hS (fun q _ h => hFc q h) hFc (fun r u t H1 locs1 ht hvm hw hB hz1 hk1 hS1 => ?_)
  obtain ⟨hP1, hD1⟩ := hB
  rw [ht] at hP1
  obtain ⟨hP2, hD2⟩ := va_joinQ hP hD isC isR hC hR hn hdis hk1 hFc hP1 hD1
  exact kk r u hw H1 locs1 ls hP2 hD2 hS1 hl
theorem x_CiT (C : xC p s m args meth c cc nL ret Ts own D cy A) (isC isR : List Nat) {cx wr : va_W} {post : Int32 → va_W × va_W → Prop} {mc ms k n : Nat} {a : Array Value} {st0 : List Value} 
    (hC : isC.map (fun i => X[i]?) = cx.map some) (hR : isR.map (fun i => X[i]?) = wr.map some) (hn : va_nd isR = true) (hnC : va_nd isC = true) (hdis : ∀ i ∈ isR, i ∉ isC)
    (hr : ∀ (H : Heap) (locs : List Loc) (ls : Array Slot), va_P D vwCl (X ++ pl) H → va_P D vwCl (cx ++ pl) H → va_D (fun _ => True) (cx ++ pl) → va_S A s.heap H locs → (∀ q, va_A (cx ++ pl) H.size q → A q) → ls.size = nL → va_Run p l e R s m args below meth c H locs cells slots mc ms (F0 m pc ls st0) st (va_Qi post (xB2 D (va_A (cx ++ pl) H.size)) (va_A (cx ++ pl) H.size) a) (va_A (cx ++ pl) H.size))
    (hc : cells + mc = k) (hs : slots + ms = n) (hq : pc + 3 = q) (kk : ∀ (r : Int32) (x1 pl1 : va_W), post r (x1, pl1) → xW p l e R s m args below meth c D A nL k n Q q (wr ++ x1) pl1 lv (.int r :: st)) : xW p l e R s m args below meth c D A nL cells slots Q pc X pl lv st0 := by
  subst hc
  subst hs
  subst hq
  intro H locs ls hP hD hS hl
  have hA := C.2.2.2.2.2.2.2.1
  have hPc := hP.part isC hC
  have hDc : va_D (fun _ => True) (cx ++ pl) := (hD.part isC hnC hC).weaken (fun _ _ _ _ => trivial)
  have hFc := va_freeP hD hS hA isC hC
  refine va_calli (hr H locs ls hP hPc hDc hS hFc hl.1) hS (fun q _ h => hFc q h) hFc (fun r u t H1 locs1 ht hvm hw hB hz1 hk1 hS1 => ?_)
  obtain ⟨hP1, hD1⟩ := hB
  obtain ⟨x1, pl1⟩ := u
  rw [ht] at hP1
  obtain ⟨hP2, hD2⟩ := va_joinP hP hD isC isR hC hR hn hdis hk1 hFc hP1 hD1
  exact kk r x1 pl1 hw H1 locs1 ls hP2 hD2 hS1 hl
theorem x_CvT (C : xC p s m args meth c cc nL ret Ts own D cy A) (isC isR : List Nat) {cx wr : va_W} {post : va_W × va_W → Prop} {mc ms k n : Nat} {a : Array Value} {st0 : List Value} 
    (hC : isC.map (fun i => X[i]?) = cx.map some) (hR : isR.map (fun i => X[i]?) = wr.map some) (hn : va_nd isR = true) (hnC : va_nd isC = true) (hdis : ∀ i ∈ isR, i ∉ isC)
    (hr : ∀ (H : Heap) (locs : List Loc) (ls : Array Slot), va_P D vwCl (X ++ pl) H → va_P D vwCl (cx ++ pl) H → va_D (fun _ => True) (cx ++ pl) → va_S A s.heap H locs → (∀ q, va_A (cx ++ pl) H.size q → A q) → ls.size = nL → va_Run p l e R s m args below meth c H locs cells slots mc ms (F0 m pc ls st0) st (va_Qv post (xB2 D (va_A (cx ++ pl) H.size)) (va_A (cx ++ pl) H.size) a) (va_A (cx ++ pl) H.size))
    (hc : cells + mc = k) (hs : slots + ms = n) (hq : pc + 3 = q) (kk : ∀ (x1 pl1 : va_W), post (x1, pl1) → xW p l e R s m args below meth c D A nL k n Q q (wr ++ x1) pl1 lv st) : xW p l e R s m args below meth c D A nL cells slots Q pc X pl lv st0 := by
  subst hc
  subst hs
  subst hq
  intro H locs ls hP hD hS hl
  have hA := C.2.2.2.2.2.2.2.1
  have hPc := hP.part isC hC
  have hDc : va_D (fun _ => True) (cx ++ pl) := (hD.part isC hnC hC).weaken (fun _ _ _ _ => trivial)
  have hFc := va_freeP hD hS hA isC hC
  refine va_callv (hr H locs ls hP hPc hDc hS hFc hl.1) hS (fun q _ h => hFc q h) hFc (fun u t H1 locs1 ht hvm hw hB hz1 hk1 hS1 => ?_)
  obtain ⟨hP1, hD1⟩ := hB
  obtain ⟨x1, pl1⟩ := u
  rw [ht] at hP1
  obtain ⟨hP2, hD2⟩ := va_joinP hP hD isC isR hC hR hn hdis hk1 hFc hP1 hD1
  exact kk x1 pl1 hw H1 locs1 ls hP2 hD2 hS1 hl
theorem x_CqT (C : xC p s m args meth c cc nL ret Ts own D cy A) (isC isR : List Nat) {cx wr : va_W} {post : Option Nat → va_W × va_W → Prop} {mc ms k n : Nat} {a : Array Value} {st0 : List Value} 
    (hC : isC.map (fun i => X[i]?) = cx.map some) (hR : isR.map (fun i => X[i]?) = wr.map some) (hn : va_nd isR = true) (hnC : va_nd isC = true) (hdis : ∀ i ∈ isR, i ∉ isC)
    (hr : ∀ (H : Heap) (locs : List Loc) (ls : Array Slot), va_P D vwCl (X ++ pl) H → va_P D vwCl (cx ++ pl) H → va_D (fun _ => True) (cx ++ pl) → va_S A s.heap H locs → (∀ q, va_A (cx ++ pl) H.size q → A q) → ls.size = nL → va_Run p l e R s m args below meth c H locs cells slots mc ms (F0 m pc ls st0) st (va_Qq post (xB2 D (va_A (cx ++ pl) H.size)) (va_A (cx ++ pl) H.size) a) (va_A (cx ++ pl) H.size))
    (hc : cells + mc = k) (hs : slots + ms = n) (hq : pc + 3 = q) (kk : ∀ (r : Option Nat) (x1 pl1 : va_W), post r (x1, pl1) → xW p l e R s m args below meth c D A nL k n Q q (wr ++ x1) pl1 lv (va_rf r :: st)) : xW p l e R s m args below meth c D A nL cells slots Q pc X pl lv st0 := by
  subst hc
  subst hs
  subst hq
  intro H locs ls hP hD hS hl
  have hA := C.2.2.2.2.2.2.2.1
  have hPc := hP.part isC hC
  have hDc : va_D (fun _ => True) (cx ++ pl) := (hD.part isC hnC hC).weaken (fun _ _ _ _ => trivial)
  have hFc := va_freeP hD hS hA isC hC
  refine va_callq (hr H locs ls hP hPc hDc hS hFc hl.1) hS (fun q _ h => hFc q h) hFc (fun r u t H1 locs1 ht hvm hw hB hz1 hk1 hS1 => ?_)
  obtain ⟨hP1, hD1⟩ := hB
  obtain ⟨x1, pl1⟩ := u
  rw [ht] at hP1
  obtain ⟨hP2, hD2⟩ := va_joinP hP hD isC isR hC hR hn hdis hk1 hFc hP1 hD1
  exact kk r x1 pl1 hw H1 locs1 ls hP2 hD2 hS1 hl
theorem x_XvP (C : xC p s m args meth c cc nL ret Ts own D cy A) (isC isR : List Nat) {cx wr : va_W} {post : va_W → Prop} {mc ms k n : Nat} {a : Array Value} {st0 : List Value} {px : String → Prop}
    (hC : isC.map (fun i => X[i]?) = cx.map some) (hR : isR.map (fun i => X[i]?) = wr.map some) (hn : va_nd isR = true) (hnC : va_nd isC = true) (hdis : ∀ i ∈ isR, i ∉ isC)
    (hr : ∀ (H : Heap) (locs : List Loc) (ls : Array Slot), va_P D vwCl (X ++ pl) H → va_P D vwCl (cx) H → va_D (fun _ => True) (cx) → va_S A s.heap H locs → (∀ q, va_A (cx) H.size q → A q) → ls.size = nL → vx_Run p l e R s m args below meth c H locs cells slots mc ms (F0 m pc ls st0) st (va_Qv post (xB D (va_A (cx) H.size)) (va_A (cx) H.size) a) (xXC D (cx) px (va_A (cx) H.size)) (va_A (cx) H.size))
    (hc : cells + mc = k) (hs : slots + ms = n) (hq : pc + 3 = q) (kx : ∀ E : String, px E → xV p l e R s m args below meth c D A nL k n Q E pc X pl lv st) (kk : ∀ (w1 : va_W), post  w1 → xW p l e R s m args below meth c D A nL k n Q q (wr ++ w1) pl lv st) : xW p l e R s m args below meth c D A nL cells slots Q pc X pl lv st0 := by
  subst hc
  subst hs
  subst hq
  intro H locs ls hP hD hS hl
  have hA := C.2.2.2.2.2.2.2.1
  have hPc : va_P D vwCl cx H := xLeftP (hP.part isC hC)
  have hDc : va_D (fun _ => True) cx := (xLeftD (hD.part isC hnC hC)).weaken (fun _ _ _ _ => trivial)
  have hFc := va_free (xLeftD hD) hS hA isC hC
  refine vx_callv (hr H locs ls hP hPc hDc hS hFc hl.1) hS (fun q _ h => hFc q h) hFc (fun q _ h => hFc q h) (fun E ce q9 u t H1 locs1 ht hvm hpx hB hz1 hk1 hS1 hce hcv hcl => ?_) (fun u t H1 locs1 ht hvm hw hB hz1 hk1 hS1 => ?_)
  · obtain ⟨rfl, hP1, hD1⟩ := hB
    rw [ht] at hP1
    have hPX : va_P D vwCl (X ++ pl) H1 := xKeepP isC hC hP hD hk1 hP1
    exact kx E hpx H1 locs1 ls q9 ce hPX hD hS1 hl hce hcv hcl
  · obtain ⟨hP1, hD1⟩ := hB
    rw [ht] at hP1
    obtain ⟨hP2, hD2⟩ := va_joinQ hP hD isC isR hC hR hn hdis hk1 hFc hP1 hD1
    exact kk u hw H1 locs1 ls hP2 hD2 hS1 hl
theorem x_XiP (C : xC p s m args meth c cc nL ret Ts own D cy A) (isC isR : List Nat) {cx wr : va_W} {post : Int32 → va_W → Prop} {mc ms k n : Nat} {a : Array Value} {st0 : List Value} {px : String → Prop}
    (hC : isC.map (fun i => X[i]?) = cx.map some) (hR : isR.map (fun i => X[i]?) = wr.map some) (hn : va_nd isR = true) (hnC : va_nd isC = true) (hdis : ∀ i ∈ isR, i ∉ isC)
    (hr : ∀ (H : Heap) (locs : List Loc) (ls : Array Slot), va_P D vwCl (X ++ pl) H → va_P D vwCl (cx) H → va_D (fun _ => True) (cx) → va_S A s.heap H locs → (∀ q, va_A (cx) H.size q → A q) → ls.size = nL → vx_Run p l e R s m args below meth c H locs cells slots mc ms (F0 m pc ls st0) st (va_Qi post (xB D (va_A (cx) H.size)) (va_A (cx) H.size) a) (xXC D (cx) px (va_A (cx) H.size)) (va_A (cx) H.size))
    (hc : cells + mc = k) (hs : slots + ms = n) (hq : pc + 3 = q) (kx : ∀ E : String, px E → xV p l e R s m args below meth c D A nL k n Q E pc X pl lv st) (kk : ∀ (r : Int32) (w1 : va_W), post r  w1 → xW p l e R s m args below meth c D A nL k n Q q (wr ++ w1) pl lv (.int r :: st)) : xW p l e R s m args below meth c D A nL cells slots Q pc X pl lv st0 := by
  subst hc
  subst hs
  subst hq
  intro H locs ls hP hD hS hl
  have hA := C.2.2.2.2.2.2.2.1
  have hPc : va_P D vwCl cx H := xLeftP (hP.part isC hC)
  have hDc : va_D (fun _ => True) cx := (xLeftD (hD.part isC hnC hC)).weaken (fun _ _ _ _ => trivial)
  have hFc := va_free (xLeftD hD) hS hA isC hC
  refine vx_calli (hr H locs ls hP hPc hDc hS hFc hl.1) hS (fun q _ h => hFc q h) hFc (fun q _ h => hFc q h) (fun E ce q9 u t H1 locs1 ht hvm hpx hB hz1 hk1 hS1 hce hcv hcl => ?_) (fun r u t H1 locs1 ht hvm hw hB hz1 hk1 hS1 => ?_)
  · obtain ⟨rfl, hP1, hD1⟩ := hB
    rw [ht] at hP1
    have hPX : va_P D vwCl (X ++ pl) H1 := xKeepP isC hC hP hD hk1 hP1
    exact kx E hpx H1 locs1 ls q9 ce hPX hD hS1 hl hce hcv hcl
  · obtain ⟨hP1, hD1⟩ := hB
    rw [ht] at hP1
    obtain ⟨hP2, hD2⟩ := va_joinQ hP hD isC isR hC hR hn hdis hk1 hFc hP1 hD1
    exact kk r u hw H1 locs1 ls hP2 hD2 hS1 hl
theorem x_XiT (C : xC p s m args meth c cc nL ret Ts own D cy A) (isC isR : List Nat) {cx wr : va_W} {post : Int32 → va_W × va_W → Prop} {mc ms k n : Nat} {a : Array Value} {st0 : List Value} {px : String → Prop}
    (hC : isC.map (fun i => X[i]?) = cx.map some) (hR : isR.map (fun i => X[i]?) = wr.map some) (hn : va_nd isR = true) (hnC : va_nd isC = true) (hdis : ∀ i ∈ isR, i ∉ isC)
    (hr : ∀ (H : Heap) (locs : List Loc) (ls : Array Slot), va_P D vwCl (X ++ pl) H → va_P D vwCl (cx ++ pl) H → va_D (fun _ => True) (cx ++ pl) → va_S A s.heap H locs → (∀ q, va_A (cx ++ pl) H.size q → A q) → ls.size = nL → vx_Run p l e R s m args below meth c H locs cells slots mc ms (F0 m pc ls st0) st (va_Qi post (xB2 D (va_A (cx ++ pl) H.size)) (va_A (cx ++ pl) H.size) a) (xXC D (cx ++ pl) px (va_A (cx ++ pl) H.size)) (va_A (cx ++ pl) H.size))
    (hc : cells + mc = k) (hs : slots + ms = n) (hq : pc + 3 = q) (kx : ∀ E : String, px E → xV p l e R s m args below meth c D A nL k n Q E pc X pl lv st) (kk : ∀ (r : Int32) (x1 pl1 : va_W), post r (x1, pl1) → xW p l e R s m args below meth c D A nL k n Q q (wr ++ x1) pl1 lv (.int r :: st)) : xW p l e R s m args below meth c D A nL cells slots Q pc X pl lv st0 := by
  subst hc
  subst hs
  subst hq
  intro H locs ls hP hD hS hl
  have hA := C.2.2.2.2.2.2.2.1
  have hPc := hP.part isC hC
  have hDc : va_D (fun _ => True) (cx ++ pl) := (hD.part isC hnC hC).weaken (fun _ _ _ _ => trivial)
  have hFc := va_freeP hD hS hA isC hC
  refine vx_calli (hr H locs ls hP hPc hDc hS hFc hl.1) hS (fun q _ h => hFc q h) hFc (fun q _ h => hFc q h) (fun E ce q9 u t H1 locs1 ht hvm hpx hB hz1 hk1 hS1 hce hcv hcl => ?_) (fun r u t H1 locs1 ht hvm hw hB hz1 hk1 hS1 => ?_)
  · obtain ⟨rfl, hP1, hD1⟩ := hB
    rw [ht] at hP1
    have hPX : va_P D vwCl (X ++ pl) H1 := xKeepT isC hC hP hD hk1 hP1
    exact kx E hpx H1 locs1 ls q9 ce hPX hD hS1 hl hce hcv hcl
  · obtain ⟨hP1, hD1⟩ := hB
    obtain ⟨x1, pl1⟩ := u
    rw [ht] at hP1
    obtain ⟨hP2, hD2⟩ := va_joinP hP hD isC isR hC hR hn hdis hk1 hFc hP1 hD1
    exact kk r x1 pl1 hw H1 locs1 ls hP2 hD2 hS1 hl
theorem x_runV (C : xC p s m args meth c cc nL ret Ts own D cy A) {b : Bool} {y : MethodName} {bytes : ByteArray} {maxL mc ms n index : Nat} {ret9 : Option FieldType} {wsy : List Cond} {rm : Room} {wc : va_W} {Qc : (Nat → Prop) → Array Value → State → Outcome → State → Prop}  {As : List Value} {st0 : List Value} {o : Nat} {Cn : String} (hM : xM b l y wsy rm D cy (.ref o :: As) wc Qc mc ms) (cw : CallW R s args own Cn index y bytes maxL ret9 wsy rm mc ms n)
    {ci : Nat} {T : u_T} {N : Nat} {fs : List Value} (hc : vwCl[ci]? = some (Cn, T, N)) (q0 : Nat) (he : (X ++ pl)[q0]? = some (o, .inr (ci, fs)))
    (hst : st0 = As.reverse ++ .ref o :: st) (hn : As.length = n) (hroom : (st.map fun v => v.category).sum ≤ 8) (hd : decode cc pc = .ok (.invokevirtual index, 3)) (hf : cells + mc ≤ R.cells ∧ slots + ms ≤ R.slots) (hZ : b = true → xZ A s s.heap)
    {H : Heap} {locs : List Loc} {ls : Array Slot} (hP : va_P D vwCl (X ++ pl) H) (hPc : va_P D vwCl wc H) (hDc : va_D (fun _ => True) wc) (hS : va_S A s.heap H locs) (hFc : ∀ q, va_A wc H.size q → A q) (hl : ls.size = nL) : va_Run p l e R s m args below meth c H locs cells slots mc ms (F0 m pc ls st0) st (Qc (va_A wc H.size) (.ref o :: As).toArray) (va_A wc H.size) := by
  subst hst
  have hZ1 : b = true → xZ (va_A wc H.size) s H := fun h => ((hZ h).kept hS.2.1).narrow hFc
  exact va_runV (As := As) (rest := st) ⟨C.1, C.2.1, C.2.2.1, C.2.2.2.2.1, C.2.2.2.2.2.1⟩ (hM H.size) cw ⟨xPc.blind, va_recv C.2.2.2.2.2.2.1.1 hP hc he, fun U hU hW => xPc.at C.2.2.2.2.2.2.1 hPc hDc hZ1 hU hW⟩ rfl hn hl rfl (lv_room hroom) hd hf
theorem x_runVN (C : xC p s m args meth c cc nL ret Ts own D cy A) {b : Bool} {y : MethodName} {bytes : ByteArray} {maxL mc ms n index : Nat} {ret9 : Option FieldType} {wsy : List Cond} {rm : Room} {wc : va_W} {Qc : (Nat → Prop) → Array Value → State → Outcome → State → Prop}  {As : List Value} {st0 : List Value} {o : Nat} {Cn host : String} (hM : xM b l y wsy rm D cy (.ref o :: As) wc Qc mc ms) (cw : va_CN R s args own index y host bytes maxL ret9 wsy rm mc ms n ∧ (Cond.instanceMethod y).before args s = true ∧ (Cond.selects Cn y y).before args s = true)
    {ci : Nat} {T : u_T} {N : Nat} {fs : List Value} (hc : vwCl[ci]? = some (Cn, T, N)) (q0 : Nat) (he : (X ++ pl)[q0]? = some (o, .inr (ci, fs)))
    (hst : st0 = As.reverse ++ .ref o :: st) (hn : As.length = n) (hroom : (st.map fun v => v.category).sum ≤ 8) (hd : decode cc pc = .ok (.invokevirtual index, 3)) (hf : cells + mc ≤ R.cells ∧ slots + ms ≤ R.slots) (hZ : b = true → xZ A s s.heap)
    {H : Heap} {locs : List Loc} {ls : Array Slot} (hP : va_P D vwCl (X ++ pl) H) (hPc : va_P D vwCl wc H) (hDc : va_D (fun _ => True) wc) (hS : va_S A s.heap H locs) (hFc : ∀ q, va_A wc H.size q → A q) (hl : ls.size = nL) : va_Run p l e R s m args below meth c H locs cells slots mc ms (F0 m pc ls st0) st (Qc (va_A wc H.size) (.ref o :: As).toArray) (va_A wc H.size) := by
  subst hst
  have hZ1 : b = true → xZ (va_A wc H.size) s H := fun h => ((hZ h).kept hS.2.1).narrow hFc
  exact va_runVN (As := As) (rest := st) ⟨C.1, C.2.1, C.2.2.1, C.2.2.2.2.1, C.2.2.2.2.2.1⟩ (hM H.size) cw ⟨xPc.blind, va_recv C.2.2.2.2.2.2.1.1 hP hc he, fun U hU hW => xPc.at C.2.2.2.2.2.2.1 hPc hDc hZ1 hU hW⟩ rfl hn hl rfl (lv_room hroom) hd hf
theorem x_runS (C : xC p s m args meth c cc nL ret Ts own D cy A) {b : Bool} {y : MethodName} {bytes : ByteArray} {maxL mc ms n index : Nat} {ret9 : Option FieldType} {wsy : List Cond} {rm : Room} {wc : va_W} {Qc : (Nat → Prop) → Array Value → State → Outcome → State → Prop}  {As : List Value} {st0 : List Value}   (hM : xM b l y wsy rm D cy As wc Qc mc ms) (cw : CallB R s args own index y bytes maxL ret9 wsy rm mc ms n ∧ (Cond.static y).before args s = true)
    (hst : st0 = As.reverse ++ st) (hn : As.length = n) (hroom : (st.map fun v => v.category).sum ≤ 8) (hd : decode cc pc = .ok (.invokestatic index, 3)) (hf : cells + mc ≤ R.cells ∧ slots + ms ≤ R.slots) (hZ : b = true → xZ A s s.heap)
    {H : Heap} {locs : List Loc} {ls : Array Slot} (hP : va_P D vwCl (X ++ pl) H) (hPc : va_P D vwCl wc H) (hDc : va_D (fun _ => True) wc) (hS : va_S A s.heap H locs) (hFc : ∀ q, va_A wc H.size q → A q) (hl : ls.size = nL) : va_Run p l e R s m args below meth c H locs cells slots mc ms (F0 m pc ls st0) st (Qc (va_A wc H.size) As.toArray) (va_A wc H.size) := by
  subst hst
  have hZ1 : b = true → xZ (va_A wc H.size) s H := fun h => ((hZ h).kept hS.2.1).narrow hFc
  exact va_runS (As := As) (rest := st) ⟨C.1, C.2.1, C.2.2.1, C.2.2.2.2.1, C.2.2.2.2.2.1⟩ (hM H.size) cw ⟨xPc.blind, fun U hU hW => xPc.at C.2.2.2.2.2.2.1 hPc hDc hZ1 hU hW⟩ rfl hn hl rfl (lv_room hroom) hd hf
theorem x_runSN (C : xC p s m args meth c cc nL ret Ts own D cy A) {b : Bool} {y : MethodName} {bytes : ByteArray} {maxL mc ms n index : Nat} {ret9 : Option FieldType} {wsy : List Cond} {rm : Room} {wc : va_W} {Qc : (Nat → Prop) → Array Value → State → Outcome → State → Prop}  {As : List Value} {st0 : List Value}  {host : String} (hM : xM b l y wsy rm D cy As wc Qc mc ms) (cw : va_CN R s args own index y host bytes maxL ret9 wsy rm mc ms n ∧ (Cond.static y).before args s = true ∧ True)
    (hst : st0 = As.reverse ++ st) (hn : As.length = n) (hroom : (st.map fun v => v.category).sum ≤ 8) (hd : decode cc pc = .ok (.invokestatic index, 3)) (hf : cells + mc ≤ R.cells ∧ slots + ms ≤ R.slots) (hZ : b = true → xZ A s s.heap)
    {H : Heap} {locs : List Loc} {ls : Array Slot} (hP : va_P D vwCl (X ++ pl) H) (hPc : va_P D vwCl wc H) (hDc : va_D (fun _ => True) wc) (hS : va_S A s.heap H locs) (hFc : ∀ q, va_A wc H.size q → A q) (hl : ls.size = nL) : va_Run p l e R s m args below meth c H locs cells slots mc ms (F0 m pc ls st0) st (Qc (va_A wc H.size) As.toArray) (va_A wc H.size) := by
  subst hst
  have hZ1 : b = true → xZ (va_A wc H.size) s H := fun h => ((hZ h).kept hS.2.1).narrow hFc
  exact va_runSN (As := As) (rest := st) ⟨C.1, C.2.1, C.2.2.1, C.2.2.2.2.1, C.2.2.2.2.2.1⟩ (hM H.size) cw ⟨xPc.blind, fun U hU hW => xPc.at C.2.2.2.2.2.2.1 hPc hDc hZ1 hU hW⟩ rfl hn hl rfl (lv_room hroom) hd hf
theorem x_runI (C : xC p s m args meth c cc nL ret Ts own D cy A) {b : Bool} {y : MethodName} {bytes : ByteArray} {maxL mc ms n index : Nat}  {wsy : List Cond} {rm : Room} {wc : va_W} {Qc : (Nat → Prop) → Array Value → State → Outcome → State → Prop}  {As : List Value} {st0 : List Value} {o : Nat}  (hM : xM b l y wsy rm D cy (.ref o :: As) wc Qc mc ms) (cw : CallB R s args own index y bytes maxL none wsy rm mc ms n ∧ y.name = "<init>" ∧ (Cond.instanceMethod y).before args s = true)
    (hst : st0 = As.reverse ++ .ref o :: st) (hn : As.length = n) (hroom : (st.map fun v => v.category).sum ≤ 8) (hd : decode cc pc = .ok (.invokespecial index, 3)) (hf : cells + mc ≤ R.cells ∧ slots + ms ≤ R.slots) (hZ : b = true → xZ A s s.heap)
    {H : Heap} {locs : List Loc} {ls : Array Slot} (hP : va_P D vwCl (X ++ pl) H) (hPc : va_P D vwCl wc H) (hDc : va_D (fun _ => True) wc) (hS : va_S A s.heap H locs) (hFc : ∀ q, va_A wc H.size q → A q) (hl : ls.size = nL) : va_Run p l e R s m args below meth c H locs cells slots mc ms (F0 m pc ls st0) st (Qc (va_A wc H.size) (.ref o :: As).toArray) (va_A wc H.size) := by
  subst hst
  have hZ1 : b = true → xZ (va_A wc H.size) s H := fun h => ((hZ h).kept hS.2.1).narrow hFc
  exact va_runI (As := As) (rest := st) ⟨C.1, C.2.1, C.2.2.1, C.2.2.2.2.1, C.2.2.2.2.2.1⟩ (hM H.size) cw ⟨xPc.blind, fun U hU hW => xPc.at C.2.2.2.2.2.2.1 hPc hDc hZ1 hU hW⟩ rfl hn hl rfl (lv_room hroom) hd hf
theorem x_runIN (C : xC p s m args meth c cc nL ret Ts own D cy A) {b : Bool} {y : MethodName} {bytes : ByteArray} {maxL mc ms n index : Nat}  {wsy : List Cond} {rm : Room} {wc : va_W} {Qc : (Nat → Prop) → Array Value → State → Outcome → State → Prop}  {As : List Value} {st0 : List Value} {o : Nat} {host : String} (hM : xM b l y wsy rm D cy (.ref o :: As) wc Qc mc ms) (cw : va_CN R s args own index y host bytes maxL none wsy rm mc ms n ∧ y.name = "<init>" ∧ (Cond.instanceMethod y).before args s = true)
    (hst : st0 = As.reverse ++ .ref o :: st) (hn : As.length = n) (hroom : (st.map fun v => v.category).sum ≤ 8) (hd : decode cc pc = .ok (.invokespecial index, 3)) (hf : cells + mc ≤ R.cells ∧ slots + ms ≤ R.slots) (hZ : b = true → xZ A s s.heap)
    {H : Heap} {locs : List Loc} {ls : Array Slot} (hP : va_P D vwCl (X ++ pl) H) (hPc : va_P D vwCl wc H) (hDc : va_D (fun _ => True) wc) (hS : va_S A s.heap H locs) (hFc : ∀ q, va_A wc H.size q → A q) (hl : ls.size = nL) : va_Run p l e R s m args below meth c H locs cells slots mc ms (F0 m pc ls st0) st (Qc (va_A wc H.size) (.ref o :: As).toArray) (va_A wc H.size) := by
  subst hst
  have hZ1 : b = true → xZ (va_A wc H.size) s H := fun h => ((hZ h).kept hS.2.1).narrow hFc
  exact va_runIN (As := As) (rest := st) ⟨C.1, C.2.1, C.2.2.1, C.2.2.2.2.1, C.2.2.2.2.2.1⟩ (hM H.size) cw ⟨xPc.blind, fun U hU hW => xPc.at C.2.2.2.2.2.2.1 hPc hDc hZ1 hU hW⟩ rfl hn hl rfl (lv_room hroom) hd hf
theorem x_runSW (C : xC p s m args meth c cc nL ret Ts own D cy A) {b : Bool} {y : MethodName} {bytes : ByteArray} {maxL mc ms n index : Nat} {ret9 : Option FieldType} {wsy : List Cond} {rm : Room} {wc : va_W} {Qc : (Nat → Prop) → Array Value → State → Outcome → State → Prop}  {As : List Value} {st0 : List Value}  {hh : List (Nat × Nat × Nat × Nat)} (hM : xM b l y wsy rm D cy As wc Qc mc ms) (cw : vx_CSW R s args own index y bytes maxL ret9 hh wsy rm mc ms n)
    (hst : st0 = As.reverse ++ st) (hn : As.length = n) (hroom : (st.map fun v => v.category).sum ≤ 8) (hd : decode cc pc = .ok (.invokestatic index, 3)) (hf : cells + mc ≤ R.cells ∧ slots + ms ≤ R.slots) (hZ : b = true → xZ A s s.heap)
    {H : Heap} {locs : List Loc} {ls : Array Slot} (hP : va_P D vwCl (X ++ pl) H) (hPc : va_P D vwCl wc H) (hDc : va_D (fun _ => True) wc) (hS : va_S A s.heap H locs) (hFc : ∀ q, va_A wc H.size q → A q) (hl : ls.size = nL) : va_Run p l e R s m args below meth c H locs cells slots mc ms (F0 m pc ls st0) st (Qc (va_A wc H.size) As.toArray) (va_A wc H.size) := by
  subst hst
  have hZ1 : b = true → xZ (va_A wc H.size) s H := fun h => ((hZ h).kept hS.2.1).narrow hFc
  exact vx_runSW (As := As) (rest := st) ⟨C.1, C.2.1, C.2.2.1, C.2.2.2.2.1, C.2.2.2.2.2.1⟩ (hM H.size) cw ⟨xPc.blind, fun U hU hW => xPc.at C.2.2.2.2.2.2.1 hPc hDc hZ1 hU hW⟩ rfl hn hl rfl (lv_room hroom) hd hf
theorem x_runVX (C : xC p s m args meth c cc nL ret Ts own D cy A) {b : Bool} {y : MethodName} {bytes : ByteArray} {maxL mc ms n index : Nat} {ret9 : Option FieldType} {wsy : List Cond} {rm : Room} {wc : va_W} {Qc : (Nat → Prop) → Array Value → State → Outcome → State → Prop} {px : String → Prop} {As : List Value} {st0 : List Value} {o : Nat} {Cn : String} (hM : xX b l y wsy rm D cy (.ref o :: As) wc Qc px mc ms) (cw : CallW R s args own Cn index y bytes maxL ret9 wsy rm mc ms n)
    {ci : Nat} {T : u_T} {N : Nat} {fs : List Value} (hc : vwCl[ci]? = some (Cn, T, N)) (q0 : Nat) (he : (X ++ pl)[q0]? = some (o, .inr (ci, fs)))
    (hst : st0 = As.reverse ++ .ref o :: st) (hn : As.length = n) (hroom : (st.map fun v => v.category).sum ≤ 8) (hd : decode cc pc = .ok (.invokevirtual index, 3)) (hf : cells + mc ≤ R.cells ∧ slots + ms ≤ R.slots) (hZ : b = true → xZ A s s.heap)
    {H : Heap} {locs : List Loc} {ls : Array Slot} (hP : va_P D vwCl (X ++ pl) H) (hPc : va_P D vwCl wc H) (hDc : va_D (fun _ => True) wc) (hS : va_S A s.heap H locs) (hFc : ∀ q, va_A wc H.size q → A q) (hl : ls.size = nL) : vx_Run p l e R s m args below meth c H locs cells slots mc ms (F0 m pc ls st0) st (Qc (va_A wc H.size) (.ref o :: As).toArray) (xXC D wc px (va_A wc H.size)) (va_A wc H.size) := by
  subst hst
  have hZ1 : b = true → xZ (va_A wc H.size) s H := fun h => ((hZ h).kept hS.2.1).narrow hFc
  exact vx_runV (As := As) (rest := st) ⟨C.1, C.2.1, C.2.2.1, C.2.2.2.2.1, C.2.2.2.2.2.1⟩ (hM H.size) cw ⟨xPc.blind, va_recv C.2.2.2.2.2.2.1.1 hP hc he, fun U hU hW => xPc.at C.2.2.2.2.2.2.1 hPc hDc hZ1 hU hW⟩ rfl hn hl rfl (lv_room hroom) hd hf
theorem x_runSX (C : xC p s m args meth c cc nL ret Ts own D cy A) {b : Bool} {y : MethodName} {bytes : ByteArray} {maxL mc ms n index : Nat} {ret9 : Option FieldType} {wsy : List Cond} {rm : Room} {wc : va_W} {Qc : (Nat → Prop) → Array Value → State → Outcome → State → Prop} {px : String → Prop} {As : List Value} {st0 : List Value}   (hM : xX b l y wsy rm D cy As wc Qc px mc ms) (cw : CallB R s args own index y bytes maxL ret9 wsy rm mc ms n ∧ (Cond.static y).before args s = true)
    (hst : st0 = As.reverse ++ st) (hn : As.length = n) (hroom : (st.map fun v => v.category).sum ≤ 8) (hd : decode cc pc = .ok (.invokestatic index, 3)) (hf : cells + mc ≤ R.cells ∧ slots + ms ≤ R.slots) (hZ : b = true → xZ A s s.heap)
    {H : Heap} {locs : List Loc} {ls : Array Slot} (hP : va_P D vwCl (X ++ pl) H) (hPc : va_P D vwCl wc H) (hDc : va_D (fun _ => True) wc) (hS : va_S A s.heap H locs) (hFc : ∀ q, va_A wc H.size q → A q) (hl : ls.size = nL) : vx_Run p l e R s m args below meth c H locs cells slots mc ms (F0 m pc ls st0) st (Qc (va_A wc H.size) As.toArray) (xXC D wc px (va_A wc H.size)) (va_A wc H.size) := by
  subst hst
  have hZ1 : b = true → xZ (va_A wc H.size) s H := fun h => ((hZ h).kept hS.2.1).narrow hFc
  exact vx_runS (As := As) (rest := st) ⟨C.1, C.2.1, C.2.2.1, C.2.2.2.2.1, C.2.2.2.2.2.1⟩ (hM H.size) cw ⟨xPc.blind, fun U hU hW => xPc.at C.2.2.2.2.2.2.1 hPc hDc hZ1 hU hW⟩ rfl hn hl rfl (lv_room hroom) hd hf
theorem x_mmin (C : xC p s m args meth c cc nL ret Ts own D cy A) {index : Nat} {x y : Int32} (v : Int32) (hv : (if y < x then y else x) = v) (hlink : Cond.methodLink own index Lib.Math.min.name ∈ Ts) (hstat : Cond.static Lib.Math.min.name ∈ Ts) (hini : Cond.initialized "java/lang/Math" ∈ Ts) (hcode : Cond.code Lib.Math.min.name Lib.Math.min.code 2 (some .int) ∈ Ts) (hframes : 1 ≤ R.frames) (hlocals : (st.map fun v => v.category).sum + 13 ≤ R.locals) (hc : cells ≤ R.cells) (hs : slots ≤ R.slots) (hd : decode cc pc = .ok (.invokestatic index, 3)) (hq : pc + 3 = q) (kk : xW p l e R s m args below meth c D A nL cells slots Q q X pl lv (.int v :: st)) : xW p l e R s m args below meth c D A nL cells slots Q pc X pl lv (.int y :: .int x :: st) := by
  subst hq
  subst hv
  intro H locs ls hP hD hS hl
  exact va_mmin C.1 C.2.1 (C.2.2.1.trans hl.1.symm) C.2.2.2.2.1 (C.2.2.2.2.2.1 _ hlink) (C.2.2.2.2.2.1 _ hstat) (C.2.2.2.2.2.1 _ hini) (C.2.2.2.2.2.1 _ hcode) hframes hlocals hc hs hd (kk H locs ls hP hD hS hl)
theorem x_mmax (C : xC p s m args meth c cc nL ret Ts own D cy A) {index : Nat} {x y : Int32} (v : Int32) (hv : (if x < y then y else x) = v) (hlink : Cond.methodLink own index Lib.Math.max.name ∈ Ts) (hstat : Cond.static Lib.Math.max.name ∈ Ts) (hini : Cond.initialized "java/lang/Math" ∈ Ts) (hcode : Cond.code Lib.Math.max.name Lib.Math.max.code 2 (some .int) ∈ Ts) (hframes : 1 ≤ R.frames) (hlocals : (st.map fun v => v.category).sum + 13 ≤ R.locals) (hc : cells ≤ R.cells) (hs : slots ≤ R.slots) (hd : decode cc pc = .ok (.invokestatic index, 3)) (hq : pc + 3 = q) (kk : xW p l e R s m args below meth c D A nL cells slots Q q X pl lv (.int v :: st)) : xW p l e R s m args below meth c D A nL cells slots Q pc X pl lv (.int y :: .int x :: st) := by
  subst hq
  subst hv
  intro H locs ls hP hD hS hl
  exact va_mmax C.1 C.2.1 (C.2.2.1.trans hl.1.symm) C.2.2.2.2.1 (C.2.2.2.2.2.1 _ hlink) (C.2.2.2.2.2.1 _ hstat) (C.2.2.2.2.2.1 _ hini) (C.2.2.2.2.2.1 _ hcode) hframes hlocals hc hs hd (kk H locs ls hP hD hS hl)
theorem x_objInit (C : xC p s m args meth c cc nL ret Ts own D cy A) {a index : Nat} (hlink : Cond.methodLink own index Lib.objectInit ∈ Ts) (hinst : Cond.instanceMethod Lib.objectInit ∈ Ts) (hcode : Cond.code Lib.objectInit ⟨#[0xb1]⟩ 1 none ∈ Ts) (hd : decode cc pc = .ok (.invokespecial index, 3)) (hframes : 1 ≤ R.frames) (hlocals : (st.map fun v => v.category).sum + 12 ≤ R.locals) (hq : pc + 3 = q) (kk : xW p l e R s m args below meth c D A nL cells slots Q q X pl lv st) : xW p l e R s m args below meth c D A nL cells slots Q pc X pl lv (.ref a :: st) := by
  subst hq
  intro H locs ls hP hD hS hl
  exact W.objInit C.1 C.2.1 C.2.2.2.2.1 (C.2.2.2.2.2.1 _ hlink) (C.2.2.2.2.2.1 _ hinst) (C.2.2.2.2.2.1 _ hcode) rfl (hl.1.trans C.2.2.1.symm) rfl hd hframes (by show 2 * 0 + _ + 12 ≤ _; omega) (kk H locs ls hP hD hS hl)
theorem x_new (C : xC p s m args meth c cc nL ret Ts own D cy A) {C9 : String} {T : u_T} {N ci index k n : Nat} (hin : ∀ w ∈ u_ws C9 T N, w ∈ Ts) (ty0 : Nat → FieldType) (hty : ∀ k, k < N → parseFieldDescriptor (T k).2.2.1 = some (ty0 k)) (hlink : Cond.classLink own index C9 ∈ Ts) (hinst : Cond.instantiable C9 N ∈ Ts) (hini : Cond.initialized C9 ∈ Ts) (hc : vwCl[ci]? = some (C9, T, N)) (fs : List Value) (hfs : ∀ j, j < N → defaultValue (ty0 j) = vp_V fs j) (hcells : cells + 1 ≤ R.cells) (hslots : slots + N ≤ R.slots) (hd : decode cc pc = .ok (.new index, 3)) (hk : cells + 1 = k) (hn : slots + N = n) (hq : pc + 3 = q) (kk : ∀ o : Nat, xW p l e R s m args below meth c D A nL k n Q q (X ++ [(o, .inr (ci, fs))]) pl lv (.ref o :: st)) : xW p l e R s m args below meth c D A nL cells slots Q pc X pl lv st := by
  subst hq
  subst hk
  subst hn
  intro H locs ls hP hD hS hl
  refine va_new C.1 C.2.1 C.2.2.2.2.2.1 hin ty0 hty C.2.2.2.2.1 (C.2.2.2.2.2.1 _ hlink) (C.2.2.2.2.2.1 _ hinst) (C.2.2.2.2.2.1 _ hini) C.2.2.2.2.2.2.1.1 hP hD hS C.2.2.2.2.2.2.2.1 hc hfs hcells hslots hd (fun o H1 hP1 hD1 hS1 => ?_)
  exact kk o H1 locs ls hP1.swap hD1.swap hS1 hl
theorem x_newI (C : xC p s m args meth c cc nL ret Ts own D cy A) {N k n : Nat} {x : Int32} (harr : Cond.arrayClass .int ∈ Ts) (hx : ¬ x < 0) (hN : x.toNatClampNeg = N) (hb : N * componentBytes .int ≤ 536870912) (hcells : cells + 1 ≤ R.cells) (hslots : slots + N ≤ R.slots) (hd : decode cc pc = .ok (.newarray .int, 2)) (hk : cells + 1 = k) (hn : slots + N = n) (hq : pc + 2 = q) (kk : ∀ o : Nat, xW p l e R s m args below meth c D A nL k n Q q (X ++ [(o, .inl (cy.1, N, .inl (fun _ => 0)))]) pl lv (.ref o :: st)) : xW p l e R s m args below meth c D A nL cells slots Q pc X pl lv (.int x :: st) := by
  subst hq
  subst hk
  subst hn
  intro H locs ls hP hD hS hl
  refine va_newa (atype := .int) (a0 := (N, .inl (fun _ => 0))) C.1 C.2.1 (C.2.2.2.2.2.1 _ harr) (ty := .int) rfl C.2.2.2.2.2.2.1.1 hP hD hS C.2.2.2.2.2.2.2.1 (fun _ => rfl) hx hN hb hcells hslots hd (fun o cA H1 hK1 hP1 hD1 hS1 => ?_)
  have h1 := (C.2.2.2.2.2.2.1.1.2 0 _ rfl).2
  have h2 := (hK1.2 2 _ rfl).2
  have e9 : cA = cy.1 := Option.some.inj (h2.symm.trans h1)
  subst e9
  exact kk o H1 locs ls hP1.swap hD1.swap hS1 hl
theorem x_newZ (C : xC p s m args meth c cc nL ret Ts own D cy A) {N k n : Nat} {x : Int32} (harr : Cond.arrayClass .boolean ∈ Ts) (hx : ¬ x < 0) (hN : x.toNatClampNeg = N) (hb : N * componentBytes .boolean ≤ 536870912) (hcells : cells + 1 ≤ R.cells) (hslots : slots + N ≤ R.slots) (hd : decode cc pc = .ok (.newarray .boolean, 2)) (hk : cells + 1 = k) (hn : slots + N = n) (hq : pc + 2 = q) (kk : ∀ o : Nat, xW p l e R s m args below meth c D A nL k n Q q (X ++ [(o, .inl (cy.2.1, N, .inl (fun _ => 0)))]) pl lv (.ref o :: st)) : xW p l e R s m args below meth c D A nL cells slots Q pc X pl lv (.int x :: st) := by
  subst hq
  subst hk
  subst hn
  intro H locs ls hP hD hS hl
  refine va_newa (atype := .boolean) (a0 := (N, .inl (fun _ => 0))) C.1 C.2.1 (C.2.2.2.2.2.1 _ harr) (ty := .boolean) rfl C.2.2.2.2.2.2.1.1 hP hD hS C.2.2.2.2.2.2.2.1 (fun _ => rfl) hx hN hb hcells hslots hd (fun o cA H1 hK1 hP1 hD1 hS1 => ?_)
  have h1 := (C.2.2.2.2.2.2.1.1.2 1 _ rfl).2
  have h2 := (hK1.2 2 _ rfl).2
  have e9 : cA = cy.2.1 := Option.some.inj (h2.symm.trans h1)
  subst e9
  exact kk o H1 locs ls hP1.swap hD1.swap hS1 hl
theorem xN.use {w : Cond} {B : Array Value} {U : State} (h : xN U) (hw : w ∈ xNest) : w.before B U = true := by
  have hb := (List.mem_filter.mp hw).2
  have h0 := h w hw
  cases w <;> first | (simp [xIsNest] at hb; done) | exact va_Nw.use rfl h0
theorem x_throw (C : xC p s m args meth c cc nL ret Ts own D cy A) (hlt : l.stackTraces = false) (hT : ∀ x ∈ c.exceptionTable.toList, False) (hZ : xZ A s s.heap) {Qc : Array Value → State → Outcome → State → Prop} {px : String → Prop} {w0 : va_W} {cls : String} (text : String) {ik is ic mc ms : Nat} (ho : own = RX4) (hcls : Bundle.fit cls = true) (hlink : Cond.classLink own ik cls ∈ Ts) (hini : Cond.initialized cls ∈ Ts) (hstr : (is, text) ∈ xStr) (hat1 : ∀ w ∈ (vx_atS own ic cls ["java/lang/RuntimeException", "java/lang/Exception"]).filter goodWord, w ∈ Ts) (hat2 : ∀ w ∈ (vx_atS own ic cls ["java/lang/RuntimeException", "java/lang/Exception"]).filter (fun w => !goodWord w), w ∈ xNest) (hgood : (Cond.classLink own ik cls :: Cond.initialized cls :: vx_atS own ic cls ["java/lang/RuntimeException", "java/lang/Exception"]).all vx_ot = true) (d0 : decode cc pc = .ok (.new ik, 3)) (d3 : decode cc (pc + 3) = .ok (.dup, 1)) (d4 : decode cc (pc + 4) = .ok (.ldc is, 2)) (d6 : decode cc (pc + 6) = .ok (.invokespecial ic, 3)) (d9 : decode cc (pc + 9) = .ok (.athrow, 1)) (hRf : 5 < R.frames) (hRl : (st.map fun v => v.category).sum + 82 ≤ R.locals) (hRc : cells + 1 ≤ R.cells) (hRs : slots + 6 ≤ R.slots) (hmc : cells + 1 ≤ mc) (hms : slots + 6 ≤ ms) (hpx : px cls) (hw0 : X ++ pl = w0) : xW p l e R s m args below meth c D A nL cells slots (vx_MQ below Qc (xXC D w0 px A) args s mc ms A) pc X pl lv st := by
  subst hw0
  intro H locs ls hP hD hS hl
  have hN := C.2.2.2.2.2.2.1.2.1
  obtain ⟨sa, hsa⟩ := C.2.2.2.2.2.2.1.2.2.1 _ hstr
  have hstr' : vk_R own is text sa s := by rw [ho]; exact hsa
  refine vx_throwS (names := ["java/lang/RuntimeException", "java/lang/Exception"]) C.1 C.2.1 hlt C.2.2.2.2.1 hcls (by decide +kernel) (C.2.2.2.2.2.1 _ hlink) (C.2.2.2.2.2.1 _ hini) hstr' (vx_hat (B := xNest) (fun w hw => C.2.2.2.2.2.1 _ (hat1 w hw)) hat2 (fun w hw => hN.use hw)) (fun w hw => List.all_eq_true.mp hgood w hw) hZ.1 hZ.2 hS (hl.1.trans C.2.2.1.symm) d0 d3 d4 d6 d9 (fun x hx => absurd hx (fun h => hT x h)) hRf hRl hRc hRs C.2.2.2.2.2.2.2.2 (fun t ha hz hq => ⟨cls, hpx, ⟨rfl, hP.kept (fun k q hk => hq q.1 ((hP k q hk).lt)), hD⟩, ⟨Nat.le_trans hS.1 hz, fun q h1 h2 => (hq q (Nat.lt_of_lt_of_le h1 hS.1)).trans (hS.2.1 q h1 h2)⟩⟩) hS.2.2 hmc hms
theorem x_out (C : xC p s m args meth c cc nL ret Ts own D cy A) (hT : ∀ x ∈ c.exceptionTable.toList, False) {Qc : Array Value → State → Outcome → State → Prop} {px : String → Prop} {w0 : va_W} {E : String} {mc ms : Nat} (hpx : px E) (hw0 : X ++ pl = w0) (hmc : cells ≤ mc) (hms : slots ≤ ms) : xV p l e R s m args below meth c D A nL cells slots (vx_MQ below Qc (xXC D w0 px A) args s mc ms A) E pc X pl lv st := by
  subst hw0
  intro H locs ls q9 ce hP hD hS hl hce hcv hcl
  exact vx_out (fun x hx => absurd hx (fun h => hT x h)) C.2.2.2.2.2.2.2.2 hce hcv hcl (fun t ht ha => ⟨E, hpx, ⟨rfl, by rw [ht]; exact hP, hD⟩, hS.F ht⟩) hS.2.2 hmc hms
theorem x_aload_nO (C : xC p s m args meth c cc nL ret Ts own D cy A) {k : Fin 4} (r : Option Nat) (j : Nat) (hj : lv[j]? = some ((k : Nat), va_rf r)) (hd : decode cc pc = .ok (.aload_n k, 1)) (hq : pc + 1 = q) (kk : xW p l e R s m args below meth c D A nL cells slots Q q X pl lv (va_rf r :: st)) : xW p l e R s m args below meth c D A nL cells slots Q pc X pl lv st := by
  cases r with
  | none => exact x_aload_nN C j hj hd hq kk
  | some z => exact x_aload_n C (x := z) j hj hd hq kk
theorem x_aloadO (C : xC p s m args meth c cc nL ret Ts own D cy A) {i : Nat} (r : Option Nat) (j : Nat) (hj : lv[j]? = some (i, va_rf r)) (hd : decode cc pc = .ok (.aload i, 2)) (hq : pc + 2 = q) (kk : xW p l e R s m args below meth c D A nL cells slots Q q X pl lv (va_rf r :: st)) : xW p l e R s m args below meth c D A nL cells slots Q pc X pl lv st := by
  cases r with
  | none => exact x_aloadN C j hj hd hq kk
  | some z => exact x_aload C (x := z) j hj hd hq kk
theorem x_astore_nO (C : xC p s m args meth c cc nL ret Ts own D cy A) {k : Fin 4} (r : Option Nat) (lv' : List (Nat × Value)) (hd : decode cc pc = .ok (.astore_n k, 1)) (hn : (k : Nat) < nL) (hl' : ((k : Nat), va_rf r) :: lv.filter (fun q => !(q.1 == (k : Nat)) && !(q.1 + 1 == (k : Nat) && q.2.category == 2)) = lv') (hq : pc + 1 = q) (kk : xW p l e R s m args below meth c D A nL cells slots Q q X pl lv' st) : xW p l e R s m args below meth c D A nL cells slots Q pc X pl lv (va_rf r :: st) := by
  cases r with
  | none => exact x_astore_nN C lv' hd hn hl' hq kk
  | some z => exact x_astore_n C (x := z) lv' hd hn hl' hq kk
theorem x_astoreO (C : xC p s m args meth c cc nL ret Ts own D cy A) {i : Nat} (r : Option Nat) (lv' : List (Nat × Value)) (hd : decode cc pc = .ok (.astore i, 2)) (hn : i < nL) (hl' : (i, va_rf r) :: lv.filter (fun q => !(q.1 == i) && !(q.1 + 1 == i && q.2.category == 2)) = lv') (hq : pc + 2 = q) (kk : xW p l e R s m args below meth c D A nL cells slots Q q X pl lv' st) : xW p l e R s m args below meth c D A nL cells slots Q pc X pl lv (va_rf r :: st) := by
  cases r with
  | none => exact x_astoreN C lv' hd hn hl' hq kk
  | some z => exact x_astore C (x := z) lv' hd hn hl' hq kk
theorem xD_iff {A : Nat → Prop} {ws : va_W} : va_D A ws ↔ (ws.map Prod.fst).Nodup ∧ ∀ q ∈ ws, A q.1 := by
  constructor
  · intro h
    refine ⟨?_, fun q hq => ?_⟩
    · rw [List.nodup_iff_pairwise_ne, List.pairwise_iff_getElem]
      intro i j hi hj hij e
      simp only [List.length_map] at hi hj
      simp only [List.getElem_map] at e
      have := h.1 i j ws[i] ws[j] (List.getElem?_eq_getElem hi) (List.getElem?_eq_getElem hj) e
      omega
    · obtain ⟨k, hk⟩ := List.mem_iff_getElem?.mp hq
      exact h.2 k q hk
  · rintro ⟨h1, h2⟩
    refine ⟨fun i j p q hi hj e => ?_, fun k q hk => h2 q (List.mem_of_getElem? hk)⟩
    have hi' := (List.getElem?_eq_some_iff.mp hi)
    have hj' := (List.getElem?_eq_some_iff.mp hj)
    obtain ⟨li, ei⟩ := hi'
    obtain ⟨lj, ej⟩ := hj'
    have hp := List.pairwise_iff_getElem.mp (List.nodup_iff_pairwise_ne.mp h1)
    have li' : i < (ws.map Prod.fst).length := by simpa using li
    have lj' : j < (ws.map Prod.fst).length := by simpa using lj
    rcases Nat.lt_trichotomy i j with h | h | h
    · exact absurd (by simp [ei, ej, e]) (hp i j li' lj' h)
    · exact h
    · exact absurd (by simp [ei, ej, e]) (hp j i lj' li' h)
theorem xPerm {D : va_G} {A : Nat → Prop} {ws ws' : va_W} {H : Heap} (h : ws.Perm ws') (hP : va_P D vwCl ws H) (hD : va_D A ws) : va_P D vwCl ws' H ∧ va_D A ws' := by
  refine ⟨fun k q hk => ?_, ?_⟩
  · obtain ⟨i, hi⟩ := List.mem_iff_getElem?.mp (h.mem_iff.mpr (List.mem_of_getElem? hk))
    exact hP i q hi
  · obtain ⟨h1, h2⟩ := xD_iff.mp hD
    exact xD_iff.mpr ⟨(h.map Prod.fst).nodup_iff.mp h1, fun q hq => h2 q (h.mem_iff.mpr hq)⟩
theorem x_perm (X' : va_W) (pl' : va_W) (h : (X ++ pl).Perm (X' ++ pl')) (k : xW p l e R s m args below meth c D A nL cells slots Q pc X' pl' lv st) : xW p l e R s m args below meth c D A nL cells slots Q pc X pl lv st := fun H locs ls hP hD hS hl => k H locs ls (xPerm h hP hD).1 (xPerm h hP hD).2 hS hl
end XG
