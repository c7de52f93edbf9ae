section
-- ===== PART A: goes FIRST, ahead of the names: the tables' words, and 'selects' of the private methods out of them =====
/-- a private method of a class that the tables say can be made, by its rows of tables_1 -/
def lw_okq (q : MethodName × Nat) : Prop := (q.1.cls ≠ "java/lang/invoke/MethodHandle" ∧ q.1.cls ≠ "java/lang/invoke/VarHandle") ∧ Cond.instantiable q.1.cls q.2 ∈ tables_1 ∧ Cond.privateMethod q.1 ∈ tables_1 ∧ Cond.instanceMethod q.1 ∈ tables_1
theorem lw_p0 : lw_okq (⟨"java/lang/Throwable", "fillInStackTrace", "(I)Ljava/lang/Throwable;"⟩, 6) := ⟨⟨by decide +kernel, by decide +kernel⟩, List.mem_of_getElem? (i := 189) (by decide +kernel), List.mem_of_getElem? (i := 187) (by decide +kernel), List.mem_of_getElem? (i := 188) (by decide +kernel)⟩
theorem lw_p1 : lw_okq (⟨"HeatGuild$Net", "survey", "(I)I"⟩, 9) := ⟨⟨by decide +kernel, by decide +kernel⟩, List.mem_of_getElem? (i := 22) (by decide +kernel), List.mem_of_getElem? (i := 219) (by decide +kernel), List.mem_of_getElem? (i := 220) (by decide +kernel)⟩
theorem lw_p2 : lw_okq (⟨"HeatGuild$Net", "markHeated", "()V"⟩, 9) := ⟨⟨by decide +kernel, by decide +kernel⟩, List.mem_of_getElem? (i := 22) (by decide +kernel), List.mem_of_getElem? (i := 223) (by decide +kernel), List.mem_of_getElem? (i := 224) (by decide +kernel)⟩
theorem lw_p3 : lw_okq (⟨"HeatGuild$Net", "markCarries", "()V"⟩, 9) := ⟨⟨by decide +kernel, by decide +kernel⟩, List.mem_of_getElem? (i := 22) (by decide +kernel), List.mem_of_getElem? (i := 233) (by decide +kernel), List.mem_of_getElem? (i := 234) (by decide +kernel)⟩
theorem lw_p4 : lw_okq (⟨"HeatGuild$Net", "carriedLoss", "(I)I"⟩, 9) := ⟨⟨by decide +kernel, by decide +kernel⟩, List.mem_of_getElem? (i := 22) (by decide +kernel), List.mem_of_getElem? (i := 237) (by decide +kernel), List.mem_of_getElem? (i := 238) (by decide +kernel)⟩
theorem lw_p5 : lw_okq (⟨"HeatGuild$Plant", "find", "(I)LHeatGuild$Boiler;"⟩, 4) := ⟨⟨by decide +kernel, by decide +kernel⟩, List.mem_of_getElem? (i := 68) (by decide +kernel), List.mem_of_getElem? (i := 289) (by decide +kernel), List.mem_of_getElem? (i := 290) (by decide +kernel)⟩
theorem lw_p6 : lw_okq (⟨"HeatGuild$Plant", "add", "(III)I"⟩, 4) := ⟨⟨by decide +kernel, by decide +kernel⟩, List.mem_of_getElem? (i := 68) (by decide +kernel), List.mem_of_getElem? (i := 315) (by decide +kernel), List.mem_of_getElem? (i := 316) (by decide +kernel)⟩
theorem lw_p7 : lw_okq (⟨"HeatGuild$Plant", "lastFiredBefore", "(I)LHeatGuild$Boiler;"⟩, 4) := ⟨⟨by decide +kernel, by decide +kernel⟩, List.mem_of_getElem? (i := 68) (by decide +kernel), List.mem_of_getElem? (i := 347) (by decide +kernel), List.mem_of_getElem? (i := 348) (by decide +kernel)⟩
theorem lw_p8 : lw_okq (⟨"HeatGuild$Net", "countHousesWithoutHeat", "()I"⟩, 9) := ⟨⟨by decide +kernel, by decide +kernel⟩, List.mem_of_getElem? (i := 22) (by decide +kernel), List.mem_of_getElem? (i := 371) (by decide +kernel), List.mem_of_getElem? (i := 372) (by decide +kernel)⟩
theorem lw_p9 : lw_okq (⟨"HeatGuild$Net", "serve", "(I)V"⟩, 9) := ⟨⟨by decide +kernel, by decide +kernel⟩, List.mem_of_getElem? (i := 22) (by decide +kernel), List.mem_of_getElem? (i := 388) (by decide +kernel), List.mem_of_getElem? (i := 389) (by decide +kernel)⟩
theorem lw_p10 : lw_okq (⟨"HeatGuild$Plant", "fire", "(I)V"⟩, 4) := ⟨⟨by decide +kernel, by decide +kernel⟩, List.mem_of_getElem? (i := 68) (by decide +kernel), List.mem_of_getElem? (i := 398) (by decide +kernel), List.mem_of_getElem? (i := 399) (by decide +kernel)⟩
theorem lw_p11 : lw_okq (⟨"HeatGuild$Boiler", "fireFor", "(I)I"⟩, 6) := ⟨⟨by decide +kernel, by decide +kernel⟩, List.mem_of_getElem? (i := 319) (by decide +kernel), List.mem_of_getElem? (i := 402) (by decide +kernel), List.mem_of_getElem? (i := 403) (by decide +kernel)⟩
theorem lw_p12 : lw_okq (⟨"HeatGuild$Meters", "read", "(LHeatGuild$Net;)V"⟩, 5) := ⟨⟨by decide +kernel, by decide +kernel⟩, List.mem_of_getElem? (i := 90) (by decide +kernel), List.mem_of_getElem? (i := 407) (by decide +kernel), List.mem_of_getElem? (i := 408) (by decide +kernel)⟩
theorem lw_p13 : lw_okq (⟨"HeatGuild", "isPeak", "(I)Z"⟩, 7) := ⟨⟨by decide +kernel, by decide +kernel⟩, List.mem_of_getElem? (i := 14) (by decide +kernel), List.mem_of_getElem? (i := 413) (by decide +kernel), List.mem_of_getElem? (i := 414) (by decide +kernel)⟩
theorem lw_p14 : lw_okq (⟨"HeatGuild", "charge", "(IZ)V"⟩, 7) := ⟨⟨by decide +kernel, by decide +kernel⟩, List.mem_of_getElem? (i := 14) (by decide +kernel), List.mem_of_getElem? (i := 417) (by decide +kernel), List.mem_of_getElem? (i := 418) (by decide +kernel)⟩
theorem lw_p15 : lw_okq (⟨"HeatGuild$Net", "endHourOfRepairs", "()V"⟩, 9) := ⟨⟨by decide +kernel, by decide +kernel⟩, List.mem_of_getElem? (i := 22) (by decide +kernel), List.mem_of_getElem? (i := 422) (by decide +kernel), List.mem_of_getElem? (i := 423) (by decide +kernel)⟩
def lw_privs_1 : List (MethodName × Nat) := [(⟨"java/lang/Throwable", "fillInStackTrace", "(I)Ljava/lang/Throwable;"⟩, 6), (⟨"HeatGuild$Net", "survey", "(I)I"⟩, 9), (⟨"HeatGuild$Net", "markHeated", "()V"⟩, 9), (⟨"HeatGuild$Net", "markCarries", "()V"⟩, 9), (⟨"HeatGuild$Net", "carriedLoss", "(I)I"⟩, 9), (⟨"HeatGuild$Plant", "find", "(I)LHeatGuild$Boiler;"⟩, 4), (⟨"HeatGuild$Plant", "add", "(III)I"⟩, 4), (⟨"HeatGuild$Plant", "lastFiredBefore", "(I)LHeatGuild$Boiler;"⟩, 4), (⟨"HeatGuild$Net", "countHousesWithoutHeat", "()I"⟩, 9), (⟨"HeatGuild$Net", "serve", "(I)V"⟩, 9), (⟨"HeatGuild$Plant", "fire", "(I)V"⟩, 4), (⟨"HeatGuild$Boiler", "fireFor", "(I)I"⟩, 6), (⟨"HeatGuild$Meters", "read", "(LHeatGuild$Net;)V"⟩, 5), (⟨"HeatGuild", "isPeak", "(I)Z"⟩, 7), (⟨"HeatGuild", "charge", "(IZ)V"⟩, 7), (⟨"HeatGuild$Net", "endHourOfRepairs", "()V"⟩, 9)]
theorem lw_r1 : ∀ q ∈ lw_privs_1, lw_okq q := List.forall_mem_cons.mpr ⟨lw_p0, List.forall_mem_cons.mpr ⟨lw_p1, List.forall_mem_cons.mpr ⟨lw_p2, List.forall_mem_cons.mpr ⟨lw_p3, List.forall_mem_cons.mpr ⟨lw_p4, List.forall_mem_cons.mpr ⟨lw_p5, List.forall_mem_cons.mpr ⟨lw_p6, List.forall_mem_cons.mpr ⟨lw_p7, List.forall_mem_cons.mpr ⟨lw_p8, List.forall_mem_cons.mpr ⟨lw_p9, List.forall_mem_cons.mpr ⟨lw_p10, List.forall_mem_cons.mpr ⟨lw_p11, List.forall_mem_cons.mpr ⟨lw_p12, List.forall_mem_cons.mpr ⟨lw_p13, List.forall_mem_cons.mpr ⟨lw_p14, List.forall_mem_cons.mpr ⟨lw_p15, fun _ h => absurd h List.not_mem_nil⟩⟩⟩⟩⟩⟩⟩⟩⟩⟩⟩⟩⟩⟩⟩⟩
def lw_privs : List (MethodName × Nat) := lw_privs_1
def lw_tbl : List Cond := k2_sels lw_privs ++ tables_1
theorem lw_privs_ok : ∀ q ∈ lw_privs, lw_okq q := lw_r1
end
section
/-! ===== BEGIN words of one list among another's, by their places ===== -/
theorem goodIn_r {big : List Cond} (ws : List Cond) (ps : List Nat) (hp : ws = ps.filterMap (fun i => big[i]?)) (h : ws.all goodWord = true) : GoodIn big ws := by
  intro w hw
  have h1 := List.all_eq_true.mp h w hw
  rw [hp] at hw
  obtain ⟨i, -, hi⟩ := List.mem_filterMap.mp hw
  have hm : w ∈ big := by first | exact List.mem_of_getElem? hi | exact List.getElem?_mem hi
  exact ⟨hm, good_of_word h1⟩
theorem goodIn_app {big a b : List Cond} (ha : GoodIn big a) (hb : GoodIn big b) : GoodIn big (a ++ b) := fun w h => (List.mem_append.mp h).elim (ha w) (hb w)
theorem goodIn_ca {big a b : List Cond} {c : Cond} (ha : GoodIn big (c :: a)) (hb : GoodIn big b) : GoodIn big (c :: (a ++ b)) := fun w h => (List.mem_cons.mp h).elim (fun e => ha w (List.mem_cons.mpr (Or.inl e))) (fun h => (List.mem_append.mp h).elim (fun h => ha w (List.mem_cons.mpr (Or.inr h))) (hb w))
theorem goodIn_sub {big ws : List Cond} (hm : ∀ w ∈ ws, w ∈ big) (h : ws.all goodWord = true) : GoodIn big ws := fun w hw => ⟨hm w hw, good_of_word (List.all_eq_true.mp h w hw)⟩
/-! ===== END ===== -/

/-! ===== BEGIN exceptions that leave a method, and their catching by the caller (launches without stack traces) ===== -/
section VXA
/-! The laws vx_back, vx_callV, vx_callS, vx_callSW, vx_throw0, vx_throwS follow proofs of the library, with one case more: JvmDerived/Free/Laws.lean (Back.of_free), Shelf42/LK1.lean (callV, callS), Shelf/KitTraced.lean (throwNew0V, throwNewS). -/
/-- where a method has thrown q: the class by its name, the cell, what was written, the world -/
def vx_T (XC : String → State → State → Prop) (st : State) (q : Addr) (t : State) (mc ms : Nat) (free : Addr → Prop) : Prop :=
  ∃ (E : String) (ce : Cell) (L : List Loc), XC E st t ∧ t.heap[q]? = some ce ∧ ce.vm = .none ∧ st.vm.findClass E = some ce.cls ∧ st.WarmedH t.vm ∧ st.sameButNew ({ t with vm := st.vm } : State) L mc ms ∧ ∀ z ∈ L, free z.base
def vx_Q (Qc : Array Value → State → Outcome → State → Prop) (XC : String → State → State → Prop) (mc ms : Nat) (free : Addr → Prop) : Array Value → State → Outcome → State → Prop := fun a st o t =>
  (Qc a st o t ∧ ∃ L, FrameEnd st o t L mc ms ∧ ∀ q ∈ L, free q.base) ∨ ∃ q, o = .threw q ∧ vx_T XC st q t mc ms free
/-- a callee that returns or throws -/
def vx_Met (l : Launch) (y : MethodName) (ws : List Cond) (rm : Room) (Pc : Array Value → State → Prop) (Qc : Array Value → State → Outcome → State → Prop) (XC : String → State → State → Prop) (mc ms : Nat) (free : Addr → Prop) : Prop :=
  MetFree l y (headSpec ws rm) Pc (fun _ _ _ _ _ => True) (vx_Q Qc XC mc ms free)
def vx_Post (XC : String → State → State → Prop) (mc ms : Nat) (free : Addr → Prop) : Pt → Array Value → Addr → Pt → Prop := fun A a q B =>
  ∃ (g : JFrame) (mk : MethodId) (t : State) (L : List Loc) (E : String) (ce : Cell), B.U.heap = t.heap ∧ B.U.vm = t.vm ∧ XC E (A.U.calling g mk a) t ∧ t.heap[q]? = some ce ∧ ce.vm = .none ∧ A.U.vm.findClass E = some ce.cls ∧ B.locs = A.locs ++ L ∧ (∀ z ∈ L, free z.base) ∧ B.cells = A.cells + mc ∧ B.slots = A.slots + ms
def vx_Back (l : Launch) (R : Room) (p : Program) (e : Env) (below : List Frame) (s : State) (sargs : Array Value) (y : MethodName) (len W9 : Nat)
    (Pre : Pt → Array Value → Prop) (Post : Pt → Array Value → Option Value → Pt → Prop) (PostX : Pt → Array Value → Addr → Pt → Prop) : Prop :=
  ∀ (m : MethodId) (meth : Method) (c : Code) (A : Pt) (g : JFrame) (ig : Instr) (mk : MethodId) (a : Array Value),
    Stand p l e R s m sargs below meth c A.U A.locs A.cells A.slots → g.method = m → g.locals.size = c.maxLocals → decode c.code g.pc = .ok (ig, len) →
    2 * g.monitorRoom + (g.stack.map fun v => v.category).sum ≤ W9 → A.U.methodNamed? y = some mk → Pre A a →
    (∃ (v : Option Value) (B : Pt), Stand p l e R s m sargs below meth c B.U B.locs B.cells B.slots ∧ Post A a v B ∧
      Steps p.tables e below (doInvoke e (A.U.setTop g) [] mk a).1 (B.U.setTop { g with pc := g.pc + len, stack := v.toList ++ g.stack })) ∨
    (∃ (q : Addr) (B : Pt), Stand p l e R s m sargs below meth c B.U B.locs B.cells B.slots ∧ PostX A a q B ∧
      Steps p.tables e below (doInvoke e (A.U.setTop g) [] mk a).1 ((B.U.setTop g).pushFrame (.throwing q)))
section Payer
variable {l : Launch} {R : Room} {p : Program} {e : Env} {below : List Frame} {s : State} {sargs : Array Value} {y : MethodName} {len W9 : Nat}
theorem vx_back {ws : List Cond} {rm : Room} {Pc : Array Value → State → Prop} {Qc : Array Value → State → Outcome → State → Prop} {XC : String → State → State → Prop} {mc ms : Nat} {free : Addr → Prop} {bytes : ByteArray} {maxL : Nat} {ret : Option FieldType}
    (hM : vx_Met l y ws rm Pc Qc XC mc ms free) (hblind : FrameBlind Pc) (hrc : rm.cells = mc) (hrs : rm.slots = ms)
    (hframes : rm.frames + 1 ≤ R.frames) (hlocals : W9 + (maxL + 11) + rm.locals ≤ R.locals)
    (hws : ∀ w ∈ ws, ∀ a' U, s.WarmedH U.vm → w.before a' U = true) (hcode : Cond.code y bytes maxL ret ∈ ws) (hinit : ∀ a' U, s.WarmedH U.vm → (Cond.initialized y.cls).before a' U = true) :
    vx_Back l R p e below s sargs y len W9 (PreOf R mc ms Pc) (PostOf Qc mc ms free) (vx_Post XC mc ms free) := by
  intro m meth c A g ig mk a X hg hsize hdg hW hn hp
  have h1 : (headSpec ws rm).pre.before a A.U = true := atoms_intro fun w hw => hws w hw _ _ X.warmed
  have h2 : (Cond.code y bytes maxL ret).before a A.U = true := hws _ hcode _ _ X.warmed
  have h3 : (Cond.initialized y.cls).before a A.U = true := hinit _ _ X.warmed
  have h4 : A.cells + (headSpec ws rm).room.cells ≤ R.cells := by rw [show (headSpec ws rm).room.cells = mc from hrc]; exact hp.1
  have h5 : A.slots + (headSpec ws rm).room.slots ≤ R.slots := by rw [show (headSpec ws rm).room.slots = ms from hrs]; exact hp.2.1
  have hPc : Pc a (A.U.calling g mk a) := hblind _ _ _ _ hp.2.2
  obtain ⟨U, Ls, c0, s0⟩ := A
  dsimp only [Pt.U, Pt.locs, Pt.cells, Pt.slots] at h1 h2 h3 h4 h5 X hn hPc ⊢
  obtain ⟨methY, cY, hmY, hcY, -, hlY, -, -, -, -⟩ := Cond.code_spec hn h2
  obtain ⟨kY, hkY, -⟩ := className_of_methodNamed hn
  have hinitY : kY.init = .initialized := Cond.initialized_spec (findClass_of_methodNamed hn) hkY h3
  have h : At U g.method c below := by rw [hg]; exact X.here
  have hlocals9 : W9 + (maxL + 11) + (headSpec ws rm).room.locals ≤ R.locals := hlocals
  have happ : (headSpec ws rm).appliesLoose y e.platform (U.calling g mk a) = true :=
    Spec.appliesLoose_calling (g := g) h hdg hn hkY hinitY
      (X.room_calling (g := g) (R' := (headSpec ws rm).room) hsize hmY hcY hframes (by rw [hlY]; omega) h4 h5) h1
  obtain ⟨mid, hmid⟩ := h.above
  have hfr : (U.setTop g).frames = (.java g :: mid) ++ below := by rw [State.frames_setTop' g h.top, hmid]; rfl
  obtain ⟨o, s₂, hsteps, -, hend, hq⟩ := Steps.callFree hM p X.admits X.cas X.clock (acts := []) hfr happ hPc trivial
  have hq' : vx_Q Qc XC mc ms free a (U.calling g mk a) o s₂ := hq
  rw [State.frames_setTop' g h.top] at hend
  obtain ⟨g₀, hg0⟩ := Option.isSome_iff_exists.mp h.top
  obtain ⟨r, hr⟩ := State.topJava?_eq_some.mp hg0
  have hr' : (({ U with heap := s₂.heap, slotsUsed := s₂.slotsUsed } : State).setVm s₂.vm).frames = .java g₀ :: r := hr
  rcases hq' with ⟨hqc, L, hfe, hL⟩ | ⟨q, rfl, E, ce, L, hx, hce, hcv, hcl, hW₂, hsm, hL⟩
  · obtain ⟨⟨v, rfl⟩, hW₂, e2, q2, q3, q4, q5, q6⟩ := id hfe
    have e3 : s₂ = ({ (U.calling g mk a).setFrames s₂.frames with heap := s₂.heap, slotsUsed := s₂.slotsUsed } : State).setVm s₂.vm := by
      have : s₂ = ({ s₂ with vm := (U.calling g mk a).vm } : State).setVm s₂.vm := rfl
      rw [e2] at this
      exact this
    obtain ⟨c₂, i₂, len₂, hc₂, hd₂, hf₂⟩ := hend
    have hW' : U.WarmedH s₂.vm := hW₂
    have hcc : c₂ = c := by
      have h1 : s₂.code? g.method = U.code? g.method := by
        rw [State.code?_eq, State.code?_eq, hW'.alike.method?]
      exact Option.some.inj (hc₂.symm.trans (h1.trans h.code))
    subst hcc
    have hlen : len₂ = len := by rw [hdg] at hd₂; cases hd₂; rfl
    subst hlen
    have hs₂ : s₂ = (({ U with heap := s₂.heap, slotsUsed := s₂.slotsUsed } : State).setVm s₂.vm).setTop { g with pc := g.pc + len₂, stack := v.toList ++ g.stack } := by
      refine e3.trans ?_
      rw [hf₂, State.calling_eq h.top, State.setFrames_setFrames, State.setTop_of_frames _ hr', hr]
      rfl
    have hsame : U.sameButNew ({ U with heap := s₂.heap, slotsUsed := s₂.slotsUsed } : State) L mc ms := by
      refine ⟨?_, q2, q3, q4, q5, q6⟩
      obtain ⟨t, ht, -⟩ := State.frames_cons hr
      show ({ U with heap := s₂.heap, slotsUsed := s₂.slotsUsed } : State) = { U.setFrames U.frames with heap := s₂.heap, slotsUsed := s₂.slotsUsed }
      rw [State.setFrames_self ht]
    subst hg
    refine Or.inl ⟨v, ⟨(({ U with heap := s₂.heap, slotsUsed := s₂.slotsUsed } : State).setVm s₂.vm), Ls ++ L, c0 + mc, s0 + ms⟩,
      ⟨X.admits, X.cas, X.clock, X.frames, X.room, X.hears, X.method, X.code, (X.here.setHeapUsed s₂.heap s₂.slotsUsed).setVm hW'.alike, X.tail, State.WarmedH.trans X.warmed hW', X.limits, X.bytes, X.same.trans (hsame.setVm s.vm)⟩,
      ⟨g, mk, s₂, L, rfl, rfl, hqc, rfl, hL, rfl, rfl⟩, ?_⟩
    show Steps p.tables e below _ ((({ U with heap := s₂.heap, slotsUsed := s₂.slotsUsed } : State).setVm s₂.vm).setTop { g with pc := g.pc + len₂, stack := v.toList ++ g.stack })
    rw [← hs₂]
    exact hsteps
  · obtain ⟨e2, q2, q3, q4, q5, q6⟩ := id hsm
    have e3 : s₂ = ({ (U.calling g mk a).setFrames s₂.frames with heap := s₂.heap, slotsUsed := s₂.slotsUsed } : State).setVm s₂.vm := by
      have : s₂ = ({ s₂ with vm := (U.calling g mk a).vm } : State).setVm s₂.vm := rfl
      rw [e2] at this
      exact this
    have hf₂ : s₂.frames = .throwing q :: .java g :: U.frames.tail := hend
    have hW' : U.WarmedH s₂.vm := hW₂
    have hs₂ : s₂ = ((({ U with heap := s₂.heap, slotsUsed := s₂.slotsUsed } : State).setVm s₂.vm).setTop g).pushFrame (.throwing q) := by
      refine e3.trans ?_
      rw [hf₂, State.calling_eq h.top, State.setFrames_setFrames, State.pushFrame, State.frames_setTop _ hr', State.setTop_of_frames _ hr', State.setFrames_setFrames, hr]
      rfl
    have hsame : U.sameButNew ({ U with heap := s₂.heap, slotsUsed := s₂.slotsUsed } : State) L mc ms := by
      refine ⟨?_, q2, q3, q4, q5, q6⟩
      obtain ⟨t, ht, -⟩ := State.frames_cons hr
      show ({ U with heap := s₂.heap, slotsUsed := s₂.slotsUsed } : State) = { U.setFrames U.frames with heap := s₂.heap, slotsUsed := s₂.slotsUsed }
      rw [State.setFrames_self ht]
    subst hg
    refine Or.inr ⟨q, ⟨(({ U with heap := s₂.heap, slotsUsed := s₂.slotsUsed } : State).setVm s₂.vm), Ls ++ L, c0 + mc, s0 + ms⟩,
      ⟨X.admits, X.cas, X.clock, X.frames, X.room, X.hears, X.method, X.code, (X.here.setHeapUsed s₂.heap s₂.slotsUsed).setVm hW'.alike, X.tail, State.WarmedH.trans X.warmed hW', X.limits, X.bytes, X.same.trans (hsame.setVm s.vm)⟩,
      ⟨g, mk, s₂, L, E, ce, rfl, rfl, hx, hce, hcv, hcl, rfl, hL, rfl, rfl⟩, ?_⟩
    show Steps p.tables e below _ (((({ U with heap := s₂.heap, slotsUsed := s₂.slotsUsed } : State).setVm s₂.vm).setTop g).pushFrame (.throwing q))
    rw [← hs₂]
    exact hsteps
end Payer
section Calls
variable {p : Program} {l : Launch} {e : Env} {R : Room} {s : State} {m : MethodId} {args : Array Value} {below : List Frame} {meth : Method} {c : Code} {T : State} {locs : List Loc} {cells slots : Nat}
theorem vx_callV (X : Stand p l e R s m args below meth c T locs cells slots) (hexec : p.tables.exec = Jvm.exec) {own C : String} {index : Nat} {y : MethodName} {bytes : ByteArray} {maxL : Nat} {ret : Option FieldType}
    (hown : s.vm.findClass own = some m.cls) (hlink : (Cond.methodLink own index y).before args s = true) (hinst : (Cond.instanceMethod y).before args s = true) (hsel : (Cond.selects C y y).before args s = true)
    (hcode : (Cond.code y bytes maxL ret).before args s = true) (hy : y.cls ≠ "java/lang/invoke/MethodHandle" ∧ y.cls ≠ "java/lang/invoke/VarHandle")
    {W9 : Nat} {Pre : Pt → Array Value → Prop} {Post : Pt → Array Value → Option Value → Pt → Prop} {PostX : Pt → Array Value → Addr → Pt → Prop} (hK : vx_Back l R p e below s args y 3 W9 Pre Post PostX)
    {b : Addr} {cellB : Cell} (hcell : T.heap[b]? = some cellB) (hobj : cellB.vm.isStatics = false) (hcls : s.vm.findClass C = some cellB.cls)
    {g : JFrame} (hg : g.method = m) (hsize : g.locals.size = c.maxLocals) {argsL rest : List Value} (hlen : ∀ sig, parseMethodDescriptor y.desc = some sig → argsL.length = sig.parameters.length)
    (hstack : g.stack = argsL.reverse ++ .ref b :: rest) (hW : 2 * g.monitorRoom + (rest.map fun v => v.category).sum ≤ W9) (hdg : decode c.code g.pc = .ok (.invokevirtual index, 3))
    (hpre : ∀ vm₁, s.WarmedH vm₁ → Pre ⟨T.setVm vm₁, locs, cells, slots⟩ (Value.ref b :: argsL).toArray) :
    (∃ (v : Option Value) (vm₁ : Vm) (B : Pt), s.WarmedH vm₁ ∧ Stand p l e R s m args below meth c B.U B.locs B.cells B.slots ∧ Post ⟨T.setVm vm₁, locs, cells, slots⟩ (Value.ref b :: argsL).toArray v B ∧
      ∀ target, Steps p.tables e below (B.U.setTop { g with pc := g.pc + 3, stack := v.toList ++ rest }) target → Steps p.tables e below (T.setTop g) target) ∨
    (∃ (q : Addr) (vm₁ : Vm) (B : Pt), s.WarmedH vm₁ ∧ Stand p l e R s m args below meth c B.U B.locs B.cells B.slots ∧ PostX ⟨T.setVm vm₁, locs, cells, slots⟩ (Value.ref b :: argsL).toArray q B ∧
      Steps p.tables e below (T.setTop g) ((B.U.setTop { g with stack := rest }).pushFrame (.throwing q))) := by
  obtain ⟨mk, methM, hnamed, hmethM, hstM, habM⟩ := Cond.instanceMethod_spec hinst
  obtain ⟨methM', cM, hmethM', -, -, -, -, -, -, hsigM⟩ := Cond.code_spec hnamed hcode
  cases hmethM.symm.trans hmethM'
  obtain ⟨c2, r2, m2, q1, q2, q3, q4, kP, hkP, hkPi⟩ := Cond.selects_spec hsel
  cases hcls.symm.trans q1
  cases (State.methodFound?_of_named hnamed hy).symm.trans q2
  cases hnamed.symm.trans q3
  have hselP : selectMethod e.platform s.vm cellB.cls mk = .method mk := by rw [Launch.admits_selectMethod X.admits]; exact q4
  obtain ⟨vm₁, X₁, hstep₁⟩ := X.invokevirtual hexec hown hlink hnamed hmethM hstM hkP hkPi hy (a := b) (cell := cellB) hcell
    (fun z h => by rw [h] at hobj; cases hobj) hselP hmethM habM hkP hkPi (g := g) hg (argsL := argsL) (rest := rest) (hlen _ hsigM) hstack hdg
  rcases hK m meth c ⟨T.setVm vm₁, locs, cells, slots⟩ { g with stack := rest } (.invokevirtual index) mk (Value.ref b :: argsL).toArray X₁ hg hsize hdg hW (X₁.named hnamed) (hpre vm₁ X₁.warmed) with ⟨v, B, X', hpost, hsteps⟩ | ⟨q, B, X', hpost, hsteps⟩
  · exact Or.inl ⟨v, vm₁, B, X₁.warmed, X', hpost, fun target h => hstep₁ _ fun acts => by rw [doInvoke_state]; exact hsteps.trans h⟩
  · exact Or.inr ⟨q, vm₁, B, X₁.warmed, X', hpost, hstep₁ _ fun acts => by rw [doInvoke_state]; exact hsteps⟩
theorem vx_callS (X : Stand p l e R s m args below meth c T locs cells slots) (hexec : p.tables.exec = Jvm.exec) {own : String} {index : Nat} {y : MethodName} {bytes : ByteArray} {maxL : Nat} {ret : Option FieldType}
    (hown : s.vm.findClass own = some m.cls) (hlink : (Cond.methodLink own index y).before args s = true) (hstat : (Cond.static y).before args s = true) (hinit : (Cond.initialized y.cls).before args s = true)
    (hcode : (Cond.code y bytes maxL ret).before args s = true) (hy : y.cls ≠ "java/lang/invoke/MethodHandle" ∧ y.cls ≠ "java/lang/invoke/VarHandle")
    {W9 : Nat} {Pre : Pt → Array Value → Prop} {Post : Pt → Array Value → Option Value → Pt → Prop} {PostX : Pt → Array Value → Addr → Pt → Prop} (hK : vx_Back l R p e below s args y 3 W9 Pre Post PostX)
    {g : JFrame} (hg : g.method = m) (hsize : g.locals.size = c.maxLocals) {argsL rest : List Value} (hlen : ∀ sig, parseMethodDescriptor y.desc = some sig → argsL.length = sig.parameters.length)
    (hstack : g.stack = argsL.reverse ++ rest) (hW : 2 * g.monitorRoom + (rest.map fun v => v.category).sum ≤ W9) (hdg : decode c.code g.pc = .ok (.invokestatic index, 3))
    (hpre : ∀ vm₁, s.WarmedH vm₁ → Pre ⟨T.setVm vm₁, locs, cells, slots⟩ argsL.toArray) :
    (∃ (v : Option Value) (vm₁ : Vm) (B : Pt), s.WarmedH vm₁ ∧ Stand p l e R s m args below meth c B.U B.locs B.cells B.slots ∧ Post ⟨T.setVm vm₁, locs, cells, slots⟩ argsL.toArray v B ∧
      ∀ target, Steps p.tables e below (B.U.setTop { g with pc := g.pc + 3, stack := v.toList ++ rest }) target → Steps p.tables e below (T.setTop g) target) ∨
    (∃ (q : Addr) (vm₁ : Vm) (B : Pt), s.WarmedH vm₁ ∧ Stand p l e R s m args below meth c B.U B.locs B.cells B.slots ∧ PostX ⟨T.setVm vm₁, locs, cells, slots⟩ argsL.toArray q B ∧
      Steps p.tables e below (T.setTop g) ((B.U.setTop { g with stack := rest }).pushFrame (.throwing q))) := by
  obtain ⟨mk, hnamed⟩ := Cond.code_named hcode
  obtain ⟨methM, cM, hmethM, -, -, -, -, -, -, hsigM⟩ := Cond.code_spec hnamed hcode
  have hstatic : methM.isStatic = true := Cond.static_spec hnamed hmethM hstat
  obtain ⟨kP, hkP, -⟩ := className_of_methodNamed hnamed
  have hinitP : kP.init = .initialized := Cond.initialized_spec (findClass_of_methodNamed hnamed) hkP hinit
  obtain ⟨vm₁, X₁, hstep₁⟩ := X.invokestatic hexec hown hlink hnamed hmethM hstatic hkP hinitP hy (g := g) hg (argsL := argsL) (rest := rest) (hlen _ hsigM) hstack hdg
  rcases hK m meth c ⟨T.setVm vm₁, locs, cells, slots⟩ { g with stack := rest } (.invokestatic index) mk argsL.toArray X₁ hg hsize hdg hW (X₁.named hnamed) (hpre vm₁ X₁.warmed) with ⟨v, B, X', hpost, hsteps⟩ | ⟨q, B, X', hpost, hsteps⟩
  · exact Or.inl ⟨v, vm₁, B, X₁.warmed, X', hpost, fun target h => hstep₁ _ fun acts => by rw [doInvoke_state]; exact hsteps.trans h⟩
  · exact Or.inr ⟨q, vm₁, B, X₁.warmed, X', hpost, hstep₁ _ fun acts => by rw [doInvoke_state]; exact hsteps⟩
end Calls
theorem vx_cls {s : State} {T : State} {vm₁ : Vm} {E : String} {k : ClassId} (hW : s.WarmedH vm₁) (h : (T.setVm vm₁).vm.findClass E = some k) : s.vm.findClass E = some k := by
  have h1 : vm₁.findClass E = some k := h
  rw [hW.alike.findClass] at h1
  exact h1
/-- the method's frame g, with q thrown over it -/
def vx_W (p : Program) (l : Launch) (e : Env) (R : Room) (s : State) (m : MethodId) (args : Array Value) (below : List Frame) (meth : Method) (c : Code) (H : Heap) (locs : List Loc) (cells slots : Nat) (Q : State → Prop) (g : JFrame) (q : Addr) : Prop :=
  ∀ T : State, T.heap = H → Stand p l e R s m args below meth c T locs cells slots → ∃ t, Steps p.tables e below ((T.setTop g).pushFrame (.throwing q)) t ∧ Q t
def vx_Run (p : Program) (l : Launch) (e : Env) (R : Room) (s : State) (m : MethodId) (args : Array Value) (below : List Frame) (meth : Method) (c : Code) (H : Heap) (locs : List Loc) (cells slots mc ms : Nat) (g : JFrame) (rest : List Value) (Qa : State → Outcome → State → Prop) (XC : String → State → State → Prop) (free : Addr → Prop) : Prop :=
  ∀ T : State, T.heap = H → Stand p l e R s m args below meth c T locs cells slots →
    (∃ (v : Option Value) (st₀ t T' : State) (L : List Loc), st₀.heap = H ∧ Stand p l e R s m args below meth c T' (locs ++ L) (cells + mc) (slots + ms) ∧ (∀ q ∈ L, free q.base) ∧ T'.heap = t.heap ∧ T'.vm = t.vm ∧ Qa st₀ (.returned v) t ∧
      Goes p e below T g T' { g with pc := g.pc + 3, stack := v.toList ++ rest }) ∨
    (∃ (q : Addr) (st₀ t T' : State) (L : List Loc) (E : String) (ce : Cell), st₀.heap = H ∧ Stand p l e R s m args below meth c T' (locs ++ L) (cells + mc) (slots + ms) ∧ (∀ z ∈ L, free z.base) ∧ T'.heap = t.heap ∧ T'.vm = t.vm ∧ XC E st₀ t ∧ t.heap[q]? = some ce ∧ ce.vm = .none ∧ s.vm.findClass E = some ce.cls ∧
      Steps p.tables e below (T.setTop g) ((T'.setTop { g with stack := rest }).pushFrame (.throwing q)))
def vx_X {S : Type} (px : S → Prop) (B : String → S → State → Prop) (A : Nat → Prop) : String → State → State → Prop := fun E st t => ∃ u : S, px u ∧ B E u t ∧ va_F A st t
section Runs
variable {p : Program} {l : Launch} {e : Env} {R : Room} {s : State} {m : MethodId} {args : Array Value} {below : List Frame} {meth : Method} {c : Code} {H : Heap} {locs : List Loc} {cells slots : Nat}
variable {y : MethodName} {bytes cc : ByteArray} {maxL nL mc ms n index : Nat} {ret : Option FieldType} {ws : List Cond} {rm : Room} {Pc : Array Value → State → Prop} {Qc : Array Value → State → Outcome → State → Prop} {XC : String → State → State → Prop} {free : Addr → Prop} {Ts : List Cond} {own C : String} {b : Addr} {As rest : List Value} {g : JFrame}
theorem vx_callBack (cb : CallB R s args own index y bytes maxL ret ws rm mc ms n) (hM : vx_Met l y ws rm Pc Qc XC mc ms free) (hbl : FrameBlind Pc) : vx_Back l R p e below s args y 3 8 (PreOf R mc ms Pc) (PostOf Qc mc ms free) (vx_Post XC mc ms free) := by
  obtain ⟨hrc, hrs, hfr, hlo, hws, hcw, -, hini, -⟩ := cb
  exact vx_back (bytes := bytes) (maxL := maxL) (ret := ret) hM hbl hrc hrs hfr hlo hws hcw (fun a' U hW => word_at hW (Or.inl (by first | rfl | simp [Cond.onTables, Cond.keeps, Cond.steady])) hini)
theorem vx_runV (S : CallFix p m c cc nL s args Ts own) (hM : vx_Met l y ws rm Pc Qc XC mc ms free) (cw : CallW R s args own C index y bytes maxL ret ws rm mc ms n) (hp : PreV s H C b Pc As)
    (hg : g.method = m) (hn : As.length = n) (hsize : g.locals.size = nL) (hstack : g.stack = As.reverse ++ .ref b :: rest) (hW : 2 * g.monitorRoom + (rest.map fun v => v.category).sum ≤ 8) (hdg : decode cc g.pc = .ok (.invokevirtual index, 3)) (hf : cells + mc ≤ R.cells ∧ slots + ms ≤ R.slots) :
    vx_Run p l e R s m args below meth c H locs cells slots mc ms g rest (Qc (Value.ref b :: As).toArray) XC free := by
  have hK : vx_Back l R p e below s args y 3 8 (PreOf R mc ms Pc) (PostOf Qc mc ms free) (vx_Post XC mc ms free) := vx_callBack cw.1 hM hp.1
  obtain ⟨⟨-, -, -, -, -, -, hcode, -, hy, hlen, hl⟩, hin, hse⟩ := cw
  obtain ⟨hx, hb, hml, ho, -⟩ := S
  obtain ⟨-, ⟨cellB, hcB, hoB, hclB⟩, hPc⟩ := hp
  intro T hT X
  rcases vx_callV X hx (C := C) (bytes := bytes) (maxL := maxL) (ret := ret) ho hl hin hse hcode hy hK (by rw [hT]; exact hcB) hoB hclB hg (hsize.trans hml.symm) (argsL := As) (rest := rest) (fun sig h => hn.trans (hlen sig h)) hstack hW (by rw [hb]; exact hdg)
    (fun vm₁ hW₁ => ⟨hf.1, hf.2, hPc (T.setVm vm₁) hT hW₁⟩) with ⟨v, vm₁, ⟨U', l2, c2, s2⟩, hW₁, X', ⟨g', mk, t, L, e1, e2, hq, h1, hL, h2, h3⟩, st⟩ | ⟨q, vm₁, ⟨U', l2, c2, s2⟩, hW₁, X', ⟨g', mk, t, L, E, ce, e1, e2, hq, hce, hcv, hcl, h1, hL, h2, h3⟩, st⟩
  · dsimp only [Pt.U, Pt.locs, Pt.cells, Pt.slots] at X' e1 e2 h1 h2 h3 st
    subst h1; subst h2; subst h3
    exact Or.inl ⟨v, (T.setVm vm₁).calling g' mk (Value.ref b :: As).toArray, t, U', L, hT, X', hL, e1, e2, hq, st⟩
  · dsimp only [Pt.U, Pt.locs, Pt.cells, Pt.slots] at X' e1 e2 h1 h2 h3 st hcl
    subst h1; subst h2; subst h3
    exact Or.inr ⟨q, (T.setVm vm₁).calling g' mk (Value.ref b :: As).toArray, t, U', L, E, ce, hT, X', hL, e1, e2, hq, hce, hcv, vx_cls hW₁ hcl, st⟩
theorem vx_runS (S : CallFix p m c cc nL s args Ts own) (hM : vx_Met l y ws rm Pc Qc XC mc ms free) (cw : CallB R s args own index y bytes maxL ret ws rm mc ms n ∧ (Cond.static y).before args s = true) (hp : PreS s H Pc As)
    (hg : g.method = m) (hn : As.length = n) (hsize : g.locals.size = nL) (hstack : g.stack = As.reverse ++ rest) (hW : 2 * g.monitorRoom + (rest.map fun v => v.category).sum ≤ 8) (hdg : decode cc g.pc = .ok (.invokestatic index, 3)) (hf : cells + mc ≤ R.cells ∧ slots + ms ≤ R.slots) :
    vx_Run p l e R s m args below meth c H locs cells slots mc ms g rest (Qc As.toArray) XC free := by
  have hK : vx_Back l R p e below s args y 3 8 (PreOf R mc ms Pc) (PostOf Qc mc ms free) (vx_Post XC mc ms free) := vx_callBack cw.1 hM hp.1
  obtain ⟨⟨-, -, -, -, -, -, hcode, hini, hy, hlen, hl⟩, hstt⟩ := cw
  obtain ⟨hx, hb, hml, ho, -⟩ := S
  intro T hT X
  rcases vx_callS X hx (bytes := bytes) (maxL := maxL) (ret := ret) ho hl hstt hini hcode hy hK hg (hsize.trans hml.symm) (argsL := As) (rest := rest) (fun sig h => hn.trans (hlen sig h)) hstack hW (by rw [hb]; exact hdg)
    (fun vm₁ hW₁ => ⟨hf.1, hf.2, hp.2 (T.setVm vm₁) hT hW₁⟩) with ⟨v, vm₁, ⟨U', l2, c2, s2⟩, hW₁, X', ⟨g', mk, t, L, e1, e2, hq, h1, hL, h2, h3⟩, st⟩ | ⟨q, vm₁, ⟨U', l2, c2, s2⟩, hW₁, X', ⟨g', mk, t, L, E, ce, e1, e2, hq, hce, hcv, hcl, h1, hL, h2, h3⟩, st⟩
  · dsimp only [Pt.U, Pt.locs, Pt.cells, Pt.slots] at X' e1 e2 h1 h2 h3 st
    subst h1; subst h2; subst h3
    exact Or.inl ⟨v, (T.setVm vm₁).calling g' mk As.toArray, t, U', L, hT, X', hL, e1, e2, hq, st⟩
  · dsimp only [Pt.U, Pt.locs, Pt.cells, Pt.slots] at X' e1 e2 h1 h2 h3 st hcl
    subst h1; subst h2; subst h3
    exact Or.inr ⟨q, (T.setVm vm₁).calling g' mk As.toArray, t, U', L, E, ce, hT, X', hL, e1, e2, hq, hce, hcv, vx_cls hW₁ hcl, st⟩
end Runs
section Rows
variable {p : Program} {l : Launch} {e : Env} {R : Room} {s : State} {m : MethodId} {args : Array Value} {below : List Frame} {meth : Method} {c : Code} {H : Heap} {locs : List Loc} {cells slots : Nat} {Q : State → Prop}
variable {mc ms : Nat} {free : Addr → Prop} {A0 A1 : Nat → Prop} {H0 : Heap} {a : Array Value} {pc : Nat} {ls : Array Slot} {st0 rest : List Value}
theorem vx_keep {st₀ t T' : State} {L : List Loc} (h0 : st₀.heap = H) (e1 : T'.heap = t.heap) (hS : va_S A0 H0 H locs) (hA : ∀ q, q < H.size → A1 q → A0 q) (hf : ∀ q, free q → A0 q) (hL : ∀ q ∈ L, free q.base) (hF : va_F A1 st₀ t) :
    H.size ≤ T'.heap.size ∧ (∀ q : Nat, q < H.size → ¬ A1 q → T'.heap[q]? = H[q]?) ∧ va_S A0 H0 T'.heap (locs ++ L) := by
  obtain ⟨hz, hk⟩ := hF
  rw [h0] at hz hk
  exact ⟨by rw [e1]; exact hz, fun q h1 h2 => by rw [e1]; exact hk q h1 h2,
    ⟨Nat.le_trans hS.1 (by rw [e1]; exact hz), fun q h1 h2 => by rw [e1, hk q (Nat.lt_of_lt_of_le h1 hS.1) (fun z => h2 (hA q (Nat.lt_of_lt_of_le h1 hS.1) z))]; exact hS.2.1 q h1 h2, fun q hq => by
      rcases List.mem_append.mp hq with h | h
      · exact hS.2.2 q h
      · exact hf _ (hL q h)⟩⟩
theorem vx_calli {S SX : Type} {post : Int32 → S → Prop} {px : SX → Prop} {B : S → State → Prop} {BX : String → SX → State → Prop} {AX : Nat → Prop} (hr : vx_Run p l e R s m args below meth c H locs cells slots mc ms (F0 m pc ls st0) rest (va_Qi post B A1 a) (vx_X px BX AX) free) (hS : va_S A0 H0 H locs) (hA : ∀ q, q < H.size → A1 q → A0 q) (hf : ∀ q, free q → A0 q) (hAX : ∀ q, q < H.size → AX q → A0 q)
    (kx : ∀ (E : String) (ce : Cell) (q9 : Addr) (u : SX) (t : State) (H1 : Heap) (locs1 : List Loc), t.heap = H1 → s.vm.Alike t.vm → px u → BX E u t → H.size ≤ H1.size → (∀ q : Nat, q < H.size → ¬ AX q → H1[q]? = H[q]?) → va_S A0 H0 H1 locs1 → H1[q9]? = some ce → ce.vm = .none → s.vm.findClass E = some ce.cls → vx_W p l e R s m args below meth c H1 locs1 (cells + mc) (slots + ms) Q (F0 m pc ls rest) q9)
    (kk : ∀ (r : Int32) (u : S) (t : State) (H1 : Heap) (locs1 : List Loc), t.heap = H1 → s.vm.Alike t.vm → post r u → B u t → H.size ≤ H1.size → (∀ q : Nat, q < H.size → ¬ A1 q → H1[q]? = H[q]?) → va_S A0 H0 H1 locs1 → W p l e R s m args below meth c H1 locs1 (cells + mc) (slots + ms) Q (F0 m (pc + 3) ls (.int r :: rest))) : W p l e R s m args below meth c H locs cells slots Q (F0 m pc ls st0) := by
  intro T hT X
  rcases hr T hT X with ⟨v, st₀, t, T', L, h0, X', hL, e1, e2, ⟨⟨r, u, hv, hp, hb⟩, hF⟩, st⟩ | ⟨q, st₀, t, T', L, E, ce, h0, X', hL, e1, e2, ⟨u, hp, hb, hF⟩, hce, hcv, hcl, st⟩
  · cases hv
    obtain ⟨k1, k2, k3⟩ := vx_keep h0 e1 hS hA hf hL hF
    obtain ⟨t2, a1, b1⟩ := kk r u t T'.heap (locs ++ L) e1.symm (by rw [← e2]; exact X'.warmed.alike) hp hb k1 k2 k3 T' rfl X'
    exact ⟨t2, st t2 a1, b1⟩
  · obtain ⟨k1, k2, k3⟩ := vx_keep h0 e1 hS hAX hf hL hF
    obtain ⟨t2, a1, b1⟩ := kx E ce q u t T'.heap (locs ++ L) e1.symm (by rw [← e2]; exact X'.warmed.alike) hp hb k1 k2 k3 (by rw [e1]; exact hce) hcv hcl T' rfl X'
    exact ⟨t2, st.trans a1, b1⟩
theorem vx_calll {S SX : Type} {post : Int64 → S → Prop} {px : SX → Prop} {B : S → State → Prop} {BX : String → SX → State → Prop} {AX : Nat → Prop} (hr : vx_Run p l e R s m args below meth c H locs cells slots mc ms (F0 m pc ls st0) rest (va_Ql post B A1 a) (vx_X px BX AX) free) (hS : va_S A0 H0 H locs) (hA : ∀ q, q < H.size → A1 q → A0 q) (hf : ∀ q, free q → A0 q) (hAX : ∀ q, q < H.size → AX q → A0 q)
    (kx : ∀ (E : String) (ce : Cell) (q9 : Addr) (u : SX) (t : State) (H1 : Heap) (locs1 : List Loc), t.heap = H1 → s.vm.Alike t.vm → px u → BX E u t → H.size ≤ H1.size → (∀ q : Nat, q < H.size → ¬ AX q → H1[q]? = H[q]?) → va_S A0 H0 H1 locs1 → H1[q9]? = some ce → ce.vm = .none → s.vm.findClass E = some ce.cls → vx_W p l e R s m args below meth c H1 locs1 (cells + mc) (slots + ms) Q (F0 m pc ls rest) q9)
    (kk : ∀ (r : Int64) (u : S) (t : State) (H1 : Heap) (locs1 : List Loc), t.heap = H1 → s.vm.Alike t.vm → post r u → B u t → H.size ≤ H1.size → (∀ q : Nat, q < H.size → ¬ A1 q → H1[q]? = H[q]?) → va_S A0 H0 H1 locs1 → W p l e R s m args below meth c H1 locs1 (cells + mc) (slots + ms) Q (F0 m (pc + 3) ls (.long r :: rest))) : W p l e R s m args below meth c H locs cells slots Q (F0 m pc ls st0) := by
  intro T hT X
  rcases hr T hT X with ⟨v, st₀, t, T', L, h0, X', hL, e1, e2, ⟨⟨r, u, hv, hp, hb⟩, hF⟩, st⟩ | ⟨q, st₀, t, T', L, E, ce, h0, X', hL, e1, e2, ⟨u, hp, hb, hF⟩, hce, hcv, hcl, st⟩
  · cases hv
    obtain ⟨k1, k2, k3⟩ := vx_keep h0 e1 hS hA hf hL hF
    obtain ⟨t2, a1, b1⟩ := kk r u t T'.heap (locs ++ L) e1.symm (by rw [← e2]; exact X'.warmed.alike) hp hb k1 k2 k3 T' rfl X'
    exact ⟨t2, st t2 a1, b1⟩
  · obtain ⟨k1, k2, k3⟩ := vx_keep h0 e1 hS hAX hf hL hF
    obtain ⟨t2, a1, b1⟩ := kx E ce q u t T'.heap (locs ++ L) e1.symm (by rw [← e2]; exact X'.warmed.alike) hp hb k1 k2 k3 (by rw [e1]; exact hce) hcv hcl T' rfl X'
    exact ⟨t2, st.trans a1, b1⟩
theorem vx_callf {S SX : Type} {post : UInt32 → S → Prop} {px : SX → Prop} {B : S → State → Prop} {BX : String → SX → State → Prop} {AX : Nat → Prop} (hr : vx_Run p l e R s m args below meth c H locs cells slots mc ms (F0 m pc ls st0) rest (va_Qf post B A1 a) (vx_X px BX AX) free) (hS : va_S A0 H0 H locs) (hA : ∀ q, q < H.size → A1 q → A0 q) (hf : ∀ q, free q → A0 q) (hAX : ∀ q, q < H.size → AX q → A0 q)
    (kx : ∀ (E : String) (ce : Cell) (q9 : Addr) (u : SX) (t : State) (H1 : Heap) (locs1 : List Loc), t.heap = H1 → s.vm.Alike t.vm → px u → BX E u t → H.size ≤ H1.size → (∀ q : Nat, q < H.size → ¬ AX q → H1[q]? = H[q]?) → va_S A0 H0 H1 locs1 → H1[q9]? = some ce → ce.vm = .none → s.vm.findClass E = some ce.cls → vx_W p l e R s m args below meth c H1 locs1 (cells + mc) (slots + ms) Q (F0 m pc ls rest) q9)
    (kk : ∀ (r : UInt32) (u : S) (t : State) (H1 : Heap) (locs1 : List Loc), t.heap = H1 → s.vm.Alike t.vm → post r u → B u t → H.size ≤ H1.size → (∀ q : Nat, q < H.size → ¬ A1 q → H1[q]? = H[q]?) → va_S A0 H0 H1 locs1 → W p l e R s m args below meth c H1 locs1 (cells + mc) (slots + ms) Q (F0 m (pc + 3) ls (.float r :: rest))) : W p l e R s m args below meth c H locs cells slots Q (F0 m pc ls st0) := by
  intro T hT X
  rcases hr T hT X with ⟨v, st₀, t, T', L, h0, X', hL, e1, e2, ⟨⟨r, u, hv, hp, hb⟩, hF⟩, st⟩ | ⟨q, st₀, t, T', L, E, ce, h0, X', hL, e1, e2, ⟨u, hp, hb, hF⟩, hce, hcv, hcl, st⟩
  · cases hv
    obtain ⟨k1, k2, k3⟩ := vx_keep h0 e1 hS hA hf hL hF
    obtain ⟨t2, a1, b1⟩ := kk r u t T'.heap (locs ++ L) e1.symm (by rw [← e2]; exact X'.warmed.alike) hp hb k1 k2 k3 T' rfl X'
    exact ⟨t2, st t2 a1, b1⟩
  · obtain ⟨k1, k2, k3⟩ := vx_keep h0 e1 hS hAX hf hL hF
    obtain ⟨t2, a1, b1⟩ := kx E ce q u t T'.heap (locs ++ L) e1.symm (by rw [← e2]; exact X'.warmed.alike) hp hb k1 k2 k3 (by rw [e1]; exact hce) hcv hcl T' rfl X'
    exact ⟨t2, st.trans a1, b1⟩
theorem vx_calld {S SX : Type} {post : UInt64 → S → Prop} {px : SX → Prop} {B : S → State → Prop} {BX : String → SX → State → Prop} {AX : Nat → Prop} (hr : vx_Run p l e R s m args below meth c H locs cells slots mc ms (F0 m pc ls st0) rest (va_Qd post B A1 a) (vx_X px BX AX) free) (hS : va_S A0 H0 H locs) (hA : ∀ q, q < H.size → A1 q → A0 q) (hf : ∀ q, free q → A0 q) (hAX : ∀ q, q < H.size → AX q → A0 q)
    (kx : ∀ (E : String) (ce : Cell) (q9 : Addr) (u : SX) (t : State) (H1 : Heap) (locs1 : List Loc), t.heap = H1 → s.vm.Alike t.vm → px u → BX E u t → H.size ≤ H1.size → (∀ q : Nat, q < H.size → ¬ AX q → H1[q]? = H[q]?) → va_S A0 H0 H1 locs1 → H1[q9]? = some ce → ce.vm = .none → s.vm.findClass E = some ce.cls → vx_W p l e R s m args below meth c H1 locs1 (cells + mc) (slots + ms) Q (F0 m pc ls rest) q9)
    (kk : ∀ (r : UInt64) (u : S) (t : State) (H1 : Heap) (locs1 : List Loc), t.heap = H1 → s.vm.Alike t.vm → post r u → B u t → H.size ≤ H1.size → (∀ q : Nat, q < H.size → ¬ A1 q → H1[q]? = H[q]?) → va_S A0 H0 H1 locs1 → W p l e R s m args below meth c H1 locs1 (cells + mc) (slots + ms) Q (F0 m (pc + 3) ls (.double r :: rest))) : W p l e R s m args below meth c H locs cells slots Q (F0 m pc ls st0) := by
  intro T hT X
  rcases hr T hT X with ⟨v, st₀, t, T', L, h0, X', hL, e1, e2, ⟨⟨r, u, hv, hp, hb⟩, hF⟩, st⟩ | ⟨q, st₀, t, T', L, E, ce, h0, X', hL, e1, e2, ⟨u, hp, hb, hF⟩, hce, hcv, hcl, st⟩
  · cases hv
    obtain ⟨k1, k2, k3⟩ := vx_keep h0 e1 hS hA hf hL hF
    obtain ⟨t2, a1, b1⟩ := kk r u t T'.heap (locs ++ L) e1.symm (by rw [← e2]; exact X'.warmed.alike) hp hb k1 k2 k3 T' rfl X'
    exact ⟨t2, st t2 a1, b1⟩
  · obtain ⟨k1, k2, k3⟩ := vx_keep h0 e1 hS hAX hf hL hF
    obtain ⟨t2, a1, b1⟩ := kx E ce q u t T'.heap (locs ++ L) e1.symm (by rw [← e2]; exact X'.warmed.alike) hp hb k1 k2 k3 (by rw [e1]; exact hce) hcv hcl T' rfl X'
    exact ⟨t2, st.trans a1, b1⟩
theorem vx_callv {S SX : Type} {post : S → Prop} {px : SX → Prop} {B : S → State → Prop} {BX : String → SX → State → Prop} {AX : Nat → Prop} (hr : vx_Run p l e R s m args below meth c H locs cells slots mc ms (F0 m pc ls st0) rest (va_Qv post B A1 a) (vx_X px BX AX) free) (hS : va_S A0 H0 H locs) (hA : ∀ q, q < H.size → A1 q → A0 q) (hf : ∀ q, free q → A0 q) (hAX : ∀ q, q < H.size → AX q → A0 q)
    (kx : ∀ (E : String) (ce : Cell) (q9 : Addr) (u : SX) (t : State) (H1 : Heap) (locs1 : List Loc), t.heap = H1 → s.vm.Alike t.vm → px u → BX E u t → H.size ≤ H1.size → (∀ q : Nat, q < H.size → ¬ AX q → H1[q]? = H[q]?) → va_S A0 H0 H1 locs1 → H1[q9]? = some ce → ce.vm = .none → s.vm.findClass E = some ce.cls → vx_W p l e R s m args below meth c H1 locs1 (cells + mc) (slots + ms) Q (F0 m pc ls rest) q9)
    (kk : ∀ (u : S) (t : State) (H1 : Heap) (locs1 : List Loc), t.heap = H1 → s.vm.Alike t.vm → post u → B u t → H.size ≤ H1.size → (∀ q : Nat, q < H.size → ¬ A1 q → H1[q]? = H[q]?) → va_S A0 H0 H1 locs1 → W p l e R s m args below meth c H1 locs1 (cells + mc) (slots + ms) Q (F0 m (pc + 3) ls (rest))) : W p l e R s m args below meth c H locs cells slots Q (F0 m pc ls st0) := by
  intro T hT X
  rcases hr T hT X with ⟨v, st₀, t, T', L, h0, X', hL, e1, e2, ⟨⟨u, hv, hp, hb⟩, hF⟩, st⟩ | ⟨q, st₀, t, T', L, E, ce, h0, X', hL, e1, e2, ⟨u, hp, hb, hF⟩, hce, hcv, hcl, st⟩
  · cases hv
    obtain ⟨k1, k2, k3⟩ := vx_keep h0 e1 hS hA hf hL hF
    obtain ⟨t2, a1, b1⟩ := kk u t T'.heap (locs ++ L) e1.symm (by rw [← e2]; exact X'.warmed.alike) hp hb k1 k2 k3 T' rfl X'
    exact ⟨t2, st t2 a1, b1⟩
  · obtain ⟨k1, k2, k3⟩ := vx_keep h0 e1 hS hAX hf hL hF
    obtain ⟨t2, a1, b1⟩ := kx E ce q u t T'.heap (locs ++ L) e1.symm (by rw [← e2]; exact X'.warmed.alike) hp hb k1 k2 k3 (by rw [e1]; exact hce) hcv hcl T' rfl X'
    exact ⟨t2, st.trans a1, b1⟩
/-- caught by the row x of this method's table; the rows ahead don't take it -/
theorem vx_catch {own name : String} {E : String} {ce : Cell} {q : Addr} (hown : s.vm.findClass own = some m.cls) (pre : List ExceptionTableEntry) (x : ExceptionTableEntry) (suf : List ExceptionTableEntry) (hsplit : c.exceptionTable.toList = pre ++ x :: suf)
    (hpass : ∀ z ∈ pre, covers z pc = false ∨ (z.catchType ≠ 0 ∧ ∃ nm : String, (Cond.classLink own z.catchType nm).before args s = true ∧ va_Nc E nm s)) (hx : covers x pc = true) (h0 : x.catchType ≠ 0)
    (hlink : (Cond.classLink own x.catchType name).before args s = true) (hcast : (Cond.castable E name).before args s = true) (hcell : H[q]? = some ce) (hv : ce.vm = .none) (hcl : s.vm.findClass E = some ce.cls)
    (kk : W p l e R s m args below meth c H locs cells slots Q (F0 m x.handlerPc ls [.ref q])) : vx_W p l e R s m args below meth c H locs cells slots Q (F0 m pc ls rest) q := by
  intro T hT X
  have hpl : e.platform.magicAccessors = ({} : Platform).magicAccessors := by rw [X.admits.platform]
  obtain ⟨c3, c4, hc3, hc4, hasg⟩ := Cond.castable_spec hcast
  cases Option.some.inj (hc3.symm.trans hcl)
  obtain ⟨c5, hc5, hcl5⟩ := Cond.classLink_spec hown hlink e.platform hpl
  cases Option.some.inj (hc4.symm.trans hc5)
  obtain ⟨vm', X', st⟩ := X.thenCaughtThrough q (g := F0 m pc ls rest) rfl (Steps.refl _) (by rw [hT]; exact hcell) (by rw [hv]; rfl) (by obtain ⟨k9, h9, -⟩ := Vm.findClass_spec hcl; exact ⟨k9, h9⟩) pre x suf hsplit
    (fun z hz => by
      rcases hpass z hz with h | ⟨hz0, nm, hl1, hn1⟩
      · exact Or.inl h
      · obtain ⟨c6, hc6, hcl6⟩ := Cond.classLink_spec hown hl1 e.platform hpl
        obtain ⟨a8, b8, h1, h2, h3⟩ := hn1
        cases Option.some.inj (h1.symm.trans hcl)
        cases Option.some.inj (h2.symm.trans hc6)
        exact Or.inr ⟨hz0, _, hcl6, h3⟩) hx (Or.inr ⟨h0, c4, hcl5, hasg⟩)
  obtain ⟨t, a1, b1⟩ := kk (T.setVm vm') hT X'
  exact ⟨t, st.trans a1, b1⟩
end Rows
section Ends
variable {p : Program} {l : Launch} {e : Env} {R : Room} {s : State} {m : MethodId} {args : Array Value} {below : List Frame} {meth : Method} {c : Code} {H : Heap} {locs : List Loc} {cells slots : Nat} {Q : State → Prop}
variable {mc ms : Nat} {free : Addr → Prop} {A0 A1 : Nat → Prop} {H0 : Heap} {a : Array Value} {ls : Array Slot} {st0 rest : List Value}
variable {Qc : Array Value → State → Outcome → State → Prop} {XC : String → State → State → Prop}
/-- what a body that may throw owes at its end -/
def vx_MQ (below : List Frame) (Qc : Array Value → State → Outcome → State → Prop) (XC : String → State → State → Prop) (a : Array Value) (s : State) (mc ms : Nat) (free : Addr → Prop) : State → Prop := fun t =>
  ∃ o, t.status = .running ∧ Ended t below o ∧ vx_Q Qc XC mc ms free a s o t
theorem vx_ret {g : JFrame} {mc ms : Nat} (k : W p l e R s m args below meth c H locs cells slots (MQ below Qc args s mc ms free) g) : W p l e R s m args below meth c H locs cells slots (vx_MQ below Qc XC args s mc ms free) g := by
  intro T hT X
  obtain ⟨t, a1, o, b1, b2, b3, b4⟩ := k T hT X
  exact ⟨t, a1, o, b1, b2, Or.inl ⟨b3, b4⟩⟩
/-- not caught here: it goes on to the caller -/
theorem vx_widen {g : JFrame} {q : Addr} {k n : Nat} (h1 : cells ≤ k) (h2 : slots ≤ n) (kk : vx_W p l e R s m args below meth c H locs k n Q g q) : vx_W p l e R s m args below meth c H locs cells slots Q g q := fun T hT X => kk T hT (stand_widen X h1 h2)
theorem vx_out {pc : Nat} {E : String} {ce : Cell} {q : Addr} {mc ms : Nat} (hout : ∀ x ∈ c.exceptionTable.toList, covers x pc = false) (hlocks : meth.locks = false) (hcell : H[q]? = some ce) (hv : ce.vm = .none) (hcl : s.vm.findClass E = some ce.cls)
    (hx : ∀ t : State, t.heap = H → s.vm.Alike t.vm → XC E s t) (hf : ∀ z ∈ locs, free z.base) (hc : cells ≤ mc) (hs : slots ≤ ms) :
    vx_W p l e R s m args below meth c H locs cells slots (vx_MQ below Qc XC args s mc ms free) (F0 m pc ls rest) q := by
  intro T hT X
  obtain ⟨st1, hrun, hend, hW, hsm⟩ := X.leaveThrown q (g := F0 m pc ls rest) rfl rfl rfl hout hlocks
  have hcell9 : (T.setFrames (.throwing q :: below)).heap[q]? = some ce := by
    show T.heap[q]? = some ce
    rw [hT]; exact hcell
  exact ⟨_, st1, .threw q, hrun, hend, Or.inr ⟨q, rfl, E, ce, locs, hx _ hT hW.alike, hcell9, hv, hcl, hW, hsm.mono hc hs, hf⟩⟩
theorem vx_frame {U : State} {k n : Nat} (h : s.sameButNew ({ U with vm := s.vm } : State) locs k n) : s.heap.size ≤ U.heap.size ∧ ∀ q : Nat, q < s.heap.size → (∀ z ∈ locs, z.base ≠ q) → U.heap[q]? = s.heap[q]? := by
  obtain ⟨-, h2, -, -, -, h6⟩ := h
  refine ⟨h2, fun q hq hz => ?_⟩
  obtain ⟨c9, e1, e2, e3, e4⟩ := h6 q _ (Array.getElem?_eq_getElem hq)
  have hs : c9.slots = (s.heap[q]).slots := Array.ext_getElem? fun i => e4 i fun hm => hz _ hm rfl
  have h9 : c9 = s.heap[q] := by
    rw [hs] at e2
    exact e2
  have e5 : U.heap[q]? = some c9 := e1
  rw [e5, h9, Array.getElem?_eq_getElem hq]
/-- the words of a throw but the four that speak of the heap -/
def vx_no (w : Cond) : Bool := decide (w ≠ .isRef (.static Bundle.tN "UNASSIGNED_STACK" Bundle.steD)) && decide (w ≠ .isRef (.static Bundle.tN "SUPPRESSED_SENTINEL" Bundle.listD)) && decide (w ≠ .laysStatic Bundle.tN "UNASSIGNED_STACK" Bundle.steD) && decide (w ≠ .laysStatic Bundle.tN "SUPPRESSED_SENTINEL" Bundle.listD)
def vx_at0 (own : String) (ic : Nat) (X : String) (names : List String) : List Cond := (Bundle.ownAtoms0 own ic X names).filter vx_no
def vx_atS (own : String) (ic : Nat) (X : String) (names : List String) : List Cond := (Bundle.ownAtoms own ic X names).filter vx_no
/-- a word that the tables alone decide, or a good one -/
def vx_ot (w : Cond) : Bool := w.onTables || goodWord w
theorem vx_ot_at {args a' : Array Value} {s U : State} {w : Cond} (hW : s.WarmedH U.vm) (hvm : s.vm = U.vm) (hg : vx_ot w = true) (h : w.before args s = true) : w.before a' U = true := by
  simp only [vx_ot, Bool.or_eq_true] at hg
  rcases hg with hg | hg
  · exact va_tabs hg hvm h
  · exact word_at hW (good_of_word hg) h
/-- a list's words: the good ones out of the method's own list, the others by premises of their own -/
theorem vx_hat {args : Array Value} {s : State} {L B : List Cond} (h1 : ∀ w ∈ L.filter goodWord, w.before args s = true) (h2 : ∀ w ∈ L.filter (fun w => !goodWord w), w ∈ B) (h3 : ∀ w ∈ B, w.before args s = true) : ∀ w ∈ L, w.before args s = true := by
  intro w hw
  by_cases g : goodWord w = true
  · exact h1 w (List.mem_filter.mpr ⟨hw, g⟩)
  · refine h3 w (h2 w (List.mem_filter.mpr ⟨hw, ?_⟩))
    show (!goodWord w) = true
    cases hgw : goodWord w
    · rfl
    · exact absurd hgw g
theorem vx_c {args : Array Value} {s : State} {w : Cond} {B : List Cond} (h : w.before args s = true) (t : ∀ w ∈ B, w.before args s = true) : ∀ w' ∈ w :: B, w'.before args s = true := fun w' h' => (List.mem_cons.mp h').elim (fun e => by rw [e]; exact h) (t w')
theorem vx_n {args : Array Value} {s : State} : ∀ w ∈ ([] : List Cond), w.before args s = true := fun _ h => nomatch h
theorem vx_own {args : Array Value} {s : State} {L : List Cond} (h1 : ∀ w ∈ L.filter vx_no, w.before args s = true)
    (hU : (Cond.isRef (.static Bundle.tN "UNASSIGNED_STACK" Bundle.steD)).before args s = true) (hN : (Cond.isRef (.static Bundle.tN "SUPPRESSED_SENTINEL" Bundle.listD)).before args s = true)
    (lU : (Cond.laysStatic Bundle.tN "UNASSIGNED_STACK" Bundle.steD).before args s = true) (lN : (Cond.laysStatic Bundle.tN "SUPPRESSED_SENTINEL" Bundle.listD).before args s = true) : ∀ w ∈ L, w.before args s = true := by
  intro w hw
  by_cases e1 : w = .isRef (.static Bundle.tN "UNASSIGNED_STACK" Bundle.steD)
  · rw [e1]; exact hU
  · by_cases e2 : w = .isRef (.static Bundle.tN "SUPPRESSED_SENTINEL" Bundle.listD)
    · rw [e2]; exact hN
    · by_cases e3 : w = .laysStatic Bundle.tN "UNASSIGNED_STACK" Bundle.steD
      · rw [e3]; exact lU
      · by_cases e4 : w = .laysStatic Bundle.tN "SUPPRESSED_SENTINEL" Bundle.listD
        · rw [e4]; exact lN
        · exact h1 w (List.mem_filter.mpr ⟨hw, by unfold vx_no; rw [decide_eq_true e1, decide_eq_true e2, decide_eq_true e3, decide_eq_true e4]; rfl⟩)
/-- where a static field lies, its class's statics cell in H -/
def vx_L (C n d : String) (A : Nat → Prop) (U : State) (H : Heap) : Prop := ∃ (c : ClassId) (k : Class) (i : Nat) (f : Field) (a : Nat) (cell : Cell), U.vm.findClass C = some c ∧ U.fieldFound? C n d = some (c, k, i, f) ∧ f.isStatic = true ∧ k.statics = some a ∧ H[a]? = some cell ∧ cell.vm.isStatics = true ∧ cell.cls = c ∧ f.slot < cell.slots.size ∧ k.staticTypes[f.slot]? = some f.type ∧ ¬ A a
theorem vx_L.moved {C n d : String} {A : Nat → Prop} {u U : State} {H : Heap} (hvm : u.vm.Alike U.vm) (h : vx_L C n d A u H) : vx_L C n d A U H := by
  obtain ⟨c, k, i, f, a, cell, h1, h2, h3, h4, h5, h6, h7, h8, h9, h10⟩ := h
  obtain ⟨k', hi', he⟩ := State.fieldFound?_setVm hvm h2
  exact ⟨c, k', i, f, a, cell, by rw [hvm.findClass]; exact h1, hi', h3, by rw [he]; exact h4, h5, h6, h7, h8, by rw [he]; exact h9, h10⟩
theorem vx_L.kept {C n d : String} {A : Nat → Prop} {U : State} {H H1 : Heap} (h : vx_L C n d A U H) (hq : ∀ a : Nat, a < H.size → ¬ A a → H1[a]? = H[a]?) : vx_L C n d A U H1 := by
  obtain ⟨c, k, i, f, a, cell, h1, h2, h3, h4, h5, h6, h7, h8, h9, h10⟩ := h
  exact ⟨c, k, i, f, a, cell, h1, h2, h3, h4, by rw [hq a (Array.getElem?_eq_some_iff.mp h5).1 h10]; exact h5, h6, h7, h8, h9, h10⟩
theorem vx_L.narrow {C n d : String} {A B : Nat → Prop} {U : State} {H : Heap} (h : vx_L C n d A U H) (hAB : ∀ q, B q → A q) : vx_L C n d B U H := by
  obtain ⟨c, k, i, f, a, cell, h1, h2, h3, h4, h5, h6, h7, h8, h9, h10⟩ := h
  exact ⟨c, k, i, f, a, cell, h1, h2, h3, h4, h5, h6, h7, h8, h9, fun z => h10 (hAB _ z)⟩
theorem vx_L.word {C n d : String} {A : Nat → Prop} {s : State} {args : Array Value} (h : vx_L C n d A s s.heap) : (Cond.laysStatic C n d).before args s = true := by
  obtain ⟨c, k, i, f, a, cell, h1, h2, h3, h4, h5, h6, h7, h8, h9, -⟩ := h
  show (Cond.laysStatic C n d).holds args s none s [] = true
  exact Cond.laysStatic_of h1 h2 h3 h4 h5 h6 h7 h8 h9
/-- .. and what it holds: null or some reference -/
def vx_Zq (C n d : String) (A : Nat → Prop) (U : State) (H : Heap) : Prop := va_Zq C n d A U H ∧ vx_L C n d A U H
theorem vx_Zq.moved {C n d : String} {A : Nat → Prop} {u U : State} {H : Heap} (hvm : u.vm.Alike U.vm) (h : vx_Zq C n d A u H) : vx_Zq C n d A U H := ⟨va_Zq.moved hvm h.1, vx_L.moved hvm h.2⟩
theorem vx_Zq.kept {C n d : String} {A : Nat → Prop} {U : State} {H H1 : Heap} (h : vx_Zq C n d A U H) (hq : ∀ a : Nat, a < H.size → ¬ A a → H1[a]? = H[a]?) : vx_Zq C n d A U H1 := ⟨va_Zq.kept h.1 hq, vx_L.kept h.2 hq⟩
theorem vx_Zq.narrow {C n d : String} {A B : Nat → Prop} {U : State} {H : Heap} (h : vx_Zq C n d A U H) (hAB : ∀ q, B q → A q) : vx_Zq C n d B U H := ⟨va_Zq.narrow h.1 hAB, vx_L.narrow h.2 hAB⟩
theorem vx_Zqof {args : Array Value} {s : State} {C n d : String} {A : Nat → Prop} (hl : (Cond.laysStatic C n d).before args s = true) (hini : (Cond.initialized C).before args s = true) (h : (Cond.isRef (.static C n d)).before args s = true) (hA : ∀ a : Nat, a < s.heap.size → ¬ A a) : vx_Zq C n d A s s.heap := by
  refine ⟨va_Zqof hl hini h hA, ?_⟩
  obtain ⟨c, k, i, f, a, cell, h1, h2, h3, h4, h5, h6, h7, h8, h9⟩ := Cond.laysStatic_spec hl
  exact ⟨c, k, i, f, a, cell, h1, h2, h3, h4, h5, h6, h7, h8, h9, hA a (Array.getElem?_eq_some_iff.mp h5).1⟩
theorem vx_isRef {C n d : String} {v : Value} {A : Nat → Prop} {s : State} {args : Array Value} (h : va_Z C n d v A s s.heap) (hv : v.isRef = true) : (Cond.isRef (.static C n d)).before args s = true := by
  obtain ⟨cf, kf, fi, f, a, cell, h1, h2, h3, h4, h5, h6, h7, -⟩ := h
  have he : (Term.static C n d).eval args s none [] s = some v := by
    simp [Term.eval, State.fieldNamed?, h1, h2, h4, h5, h6, h7]
  simp only [Cond.before, Cond.holds, Cond.value, he]
  cases v <;> simp_all [Value.isRef]
theorem vx_isRefq {C n d : String} {A : Nat → Prop} {s : State} {args : Array Value} (h : va_Zq C n d A s s.heap) : (Cond.isRef (.static C n d)).before args s = true := by
  rcases h with h | ⟨t, h⟩
  · exact vx_isRef h rfl
  · exact vx_isRef h rfl
/-- the same frame, seen from here: as if the method were called anew in this heap -/
theorem vx_rebase {T : State} (X : Stand p l e R s m args below meth c T locs cells slots) {R' : Room} (hf : R'.frames ≤ R.frames) (hl : R'.locals ≤ R.locals) (hc : cells + R'.cells ≤ R.cells) (hs : slots + R'.slots ≤ R.slots) :
    Stand p l e R' ((T.setVm s.vm).setFrames (.invoking m args :: below)) m args below meth c T [] 0 0 := by
  have htop : (T.setVm s.vm).topJava?.isSome := X.here.top
  have hF : ((T.setVm s.vm).setFrames (.invoking m args :: below)).frames = .invoking m args :: below := State.frames_setFrames _ (State.cur_lt_of_top htop)
  obtain ⟨g₀, hg0⟩ := Option.isSome_iff_exists.mp htop
  obtain ⟨r, hr⟩ := State.topJava?_eq_some.mp hg0
  have hl9 : e.platform.stackLimits (T.setVm s.vm).me = e.platform.stackLimits s.me := X.limits
  have hb9 : (T.setVm s.vm).me.stackBytes = s.me.stackBytes := X.bytes
  refine ⟨X.admits, X.cas, X.clock, hF, ?_, X.hears, X.method, X.code, X.here, X.tail, X.warmed, ?_, ?_, ?_⟩
  · have h := X.room
    have hU : ((T.setVm s.vm).setFrames (.invoking m args :: below)).localsInUse = s.localsInUse := by
      rw [State.localsInUse_invoking hF (meth := meth) (c := c) X.method X.code, State.localsInUse_invoking X.frames X.method X.code]
    simp only [State.hasRoom, Bool.and_eq_true, decide_eq_true_eq] at h ⊢
    obtain ⟨⟨⟨⟨h1, h2, h3, h4, h5, h6⟩, h7⟩, h8⟩, h9⟩ := h
    rw [X.frames, List.length_cons] at h2 h3
    have q1 := X.heapSize
    have q2 := X.used
    simp only [hF, hU, List.length_cons, State.stackLimits_setFrames, State.stackBytes_setFrames, hl9, hb9]
    refine ⟨⟨⟨⟨by omega, by omega, by omega, by omega, by omega, h6⟩, ?_⟩, ?_⟩, X.book⟩
    · show T.heap.size + R'.cells ≤ e.platform.maxCells
      omega
    · show T.slotsUsed + R'.slots ≤ e.platform.maxSlots
      omega
  · rw [State.stackLimits_setFrames]; rfl
  · rw [State.stackBytes_setFrames]; rfl
  · refine ⟨?_, Nat.le_refl _, Nat.le_refl _, ?_, ?_, fun a c9 h9 => ⟨c9, h9, rfl, rfl, fun _ _ => rfl⟩⟩
    · obtain ⟨t, ht, -⟩ := State.frames_cons hr
      show T.setVm s.vm = { ((T.setVm s.vm).setFrames (.invoking m args :: below)).setFrames (T.setVm s.vm).frames with heap := T.heap, slotsUsed := T.slotsUsed }
      rw [State.setFrames_setFrames, State.setFrames_self ht]
      rfl
    · show T.slotsUsed = T.slotsUsed + ((T.heap.toList.drop T.heap.size).map (·.slots.size)).sum
      rw [List.drop_eq_nil_of_le (Nat.le_of_eq Array.length_toList)]
      rfl
    · show ((T.heap.toList.drop T.heap.size).map (·.slots.size)).sum ≤ 0
      rw [List.drop_eq_nil_of_le (Nat.le_of_eq Array.length_toList)]
      exact Nat.le_refl _
/-- 'throw new E()': new; dup; invokespecial; athrow -/
theorem vx_throw0 {cc : ByteArray} {pc : Nat} (hexec : p.tables.exec = Jvm.exec) (hb : c.code = cc) (hl : l.stackTraces = false) {own cls : String} {names : List String} {ik ic mc ms : Nat} {A : Nat → Prop}
    (hown : s.vm.findClass own = some m.cls) (hcls : Bundle.fit cls = true) (hnames : ∀ n ∈ names, Bundle.fit n = true)
    (hk : (Cond.classLink own ik cls).before args s = true) (hini : (Cond.initialized cls).before args s = true) (hat : ∀ w ∈ vx_at0 own ic cls names, w.before args s = true)
    (hgood : ∀ w ∈ Cond.classLink own ik cls :: Cond.initialized cls :: vx_at0 own ic cls names, vx_ot w = true)
    (hU : vx_Zq Bundle.tN "UNASSIGNED_STACK" Bundle.steD A s s.heap) (hN : vx_Zq Bundle.tN "SUPPRESSED_SENTINEL" Bundle.listD A s s.heap) (hS : va_S A s.heap H locs) (hsize : ls.size = c.maxLocals)
    (d0 : decode cc pc = .ok (.new ik, 3)) (d3 : decode cc (pc + 3) = .ok (.dup, 1)) (d4 : decode cc (pc + 4) = .ok (.invokespecial ic, 3)) (d7 : decode cc (pc + 7) = .ok (.athrow, 1))
    (hout : ∀ x ∈ c.exceptionTable.toList, covers x (pc + 7) = false)
    (hRframes : names.length + 3 < R.frames) (hRlocals : (rest.map fun v => v.category).sum + (13 * (names.length + 1) + 42) ≤ R.locals) (hRcells : cells + 1 ≤ R.cells) (hRslots : slots + 6 ≤ R.slots) (hlocks : meth.locks = false)
    (hx : ∀ t : State, s.vm.Alike t.vm → H.size ≤ t.heap.size → (∀ q : Nat, q < H.size → t.heap[q]? = H[q]?) → XC cls s t)
    (hf : ∀ z ∈ locs, free z.base) (hc : cells + 1 ≤ mc) (hs : slots + 6 ≤ ms) :
    W p l e R s m args below meth c H locs cells slots (vx_MQ below Qc XC args s mc ms free) (F0 m pc ls rest) := by
  intro T hT X
  have htr : e.platform.stackTraces = false := (show e.platform.stackTraces = l.stackTraces by rw [X.admits.platform]).trans hl
  have Y := vx_rebase X (R' := { frames := R.frames, locals := R.locals, cells := 1, slots := 6 }) (Nat.le_refl _) (Nat.le_refl _) hRcells hRslots
  obtain ⟨s', hA⟩ : ∃ z, z = (T.setVm s.vm).setFrames (.invoking m args :: below) := ⟨_, rfl⟩
  rw [← hA] at Y
  have hvm : s'.vm = s.vm := by rw [hA]; rfl
  have hhp : s'.heap = H := by rw [hA]; exact hT
  have hW0 : s.WarmedH s'.vm := by rw [hvm]; exact State.WarmedH.refl s
  have hat' : ∀ w ∈ vx_at0 own ic cls names, w.before args s' = true := fun w hw => vx_ot_at hW0 hvm.symm (hgood w (List.mem_cons_of_mem _ (List.mem_cons_of_mem _ hw))) (hat w hw)
  have hk' : (Cond.classLink own ik cls).before args s' = true := vx_ot_at hW0 hvm.symm (hgood _ List.mem_cons_self) hk
  have hini' : (Cond.initialized cls).before args s' = true := vx_ot_at hW0 hvm.symm (hgood _ (List.mem_cons_of_mem _ List.mem_cons_self)) hini
  have hU' : vx_Zq Bundle.tN "UNASSIGNED_STACK" Bundle.steD A s' s'.heap := by rw [hhp]; exact vx_Zq.moved hW0.alike (hU.kept hS.2.1)
  have hN' : vx_Zq Bundle.tN "SUPPRESSED_SENTINEL" Bundle.listD A s' s'.heap := by rw [hhp]; exact vx_Zq.moved hW0.alike (hN.kept hS.2.1)
  have h : ∀ w ∈ Bundle.ownAtoms0 own ic cls names, w.before args s' = true := vx_own hat' (vx_isRefq hU'.1) (vx_isRefq hN'.1) hU'.2.word hN'.2.word
  have hown' : s'.vm.findClass own = some m.cls := by rw [hvm]; exact hown
  have hins : (Cond.instantiable cls 6).before args s' = true := h _ (by simp [Bundle.ownAtoms0])
  obtain ⟨vm₁, cX, kX, hfX, hkX, -, -, X₁, st1⟩ := Y.newCold hexec (own := own) (C := cls) (index := ik) (n := 6) hown' hk' hins hini'
    (g := F0 m pc ls rest) rfl (by rw [hb]; exact d0) (Nat.le_refl _) (Nat.le_refl _)
  generalize hT1 : (T.setVm vm₁).pushCell { cls := cX, slots := kX.instanceTypes.map defaultValue, vm := .none } = T1 at X₁ st1
  have hcat : (Value.ref T.heap.size).category = 1 := rfl
  have hcellA : T1.heap[T.heap.size]? = some (freshCell cX kX) := by rw [← hT1]; exact State.heap_pushCell_size _ _
  have d3' : decode c.code (pc + 3) = .ok (.dup, 1) := by rw [hb]; exact d3
  obtain ⟨U, hsteps, hrun, hend, hW, hsame, ce, hce, hO⟩ := X₁.ctorThrow0 hexec htr (own := own) (cls := cls) (names := names) (ic := ic) hown' hcls hnames h (fun x hx => nomatch hx) hfX hkX hcellA (by rw [hhp, hT]; exact Nat.le_refl _)
    (g := { method := m, pc := pc + 4, locals := ls, stack := .ref T.heap.size :: .ref T.heap.size :: rest, locked := none }) rfl hsize rfl rfl (rest := rest) rfl
    (by rw [hb]; exact d4) (by rw [hb]; exact d7) hout hRframes (by simp only [List.map_cons, List.sum_cons, hcat]; omega) hlocks
  obtain ⟨f1, f2⟩ := vx_frame hsame
  rw [hhp] at f1 f2
  have hWs : s.WarmedH U.vm := State.WarmedH.trans hW0 hW
  have hcl : s.vm.findClass cls = some ce.cls := by
    have h9 := hO.cls
    rw [hvm] at h9
    exact h9
  have hall : s.sameButNew ({ U with vm := s.vm } : State) locs mc ms := by
    subst hA
    obtain ⟨e1, e2⟩ := hsame
    rw [State.setFrames_setFrames] at e1
    have h2 : (T.setVm s.vm).sameButNew ({ U with vm := s.vm } : State) [] (0 + 1) (0 + 6) := ⟨e1, e2⟩
    have h3 := X.same.trans h2
    rw [List.append_nil] at h3
    exact h3.mono hc hs
  refine ⟨U, ?_, .threw T.heap.size, hrun, hend, Or.inr ⟨T.heap.size, rfl, cls, ce, locs, hx U hWs.alike f1 (fun q hq => f2 q hq (fun z hz => nomatch hz)), hce, hO.vm, hcl, hWs, hall, hf⟩⟩
  refine st1 _ ?_
  show Steps p.tables e below (T1.setTop { method := m, pc := pc + 3, locals := ls, stack := .ref T.heap.size :: rest, locked := none }) _
  jvm_step X₁.here [X₁.here.top, hexec, d3', Value.category]
  exact hsteps
/-- 'throw new E("text")': new; dup; ldc; invokespecial; athrow -/
theorem vx_throwS {cc : ByteArray} {pc : Nat} (hexec : p.tables.exec = Jvm.exec) (hb : c.code = cc) (hl : l.stackTraces = false) {own cls text : String} {names : List String} {ik is ic mc ms sa : Nat} {A : Nat → Prop}
    (hown : s.vm.findClass own = some m.cls) (hcls : Bundle.fit cls = true) (hnames : ∀ n ∈ names, Bundle.fit n = true)
    (hk : (Cond.classLink own ik cls).before args s = true) (hini : (Cond.initialized cls).before args s = true) (hstr : vk_R own is text sa s) (hat : ∀ w ∈ vx_atS own ic cls names, w.before args s = true)
    (hgood : ∀ w ∈ Cond.classLink own ik cls :: Cond.initialized cls :: vx_atS own ic cls names, vx_ot w = true)
    (hU : vx_Zq Bundle.tN "UNASSIGNED_STACK" Bundle.steD A s s.heap) (hN : vx_Zq Bundle.tN "SUPPRESSED_SENTINEL" Bundle.listD A s s.heap) (hS : va_S A s.heap H locs) (hsize : ls.size = c.maxLocals)
    (d0 : decode cc pc = .ok (.new ik, 3)) (d3 : decode cc (pc + 3) = .ok (.dup, 1)) (d4 : decode cc (pc + 4) = .ok (.ldc is, 2)) (d6 : decode cc (pc + 6) = .ok (.invokespecial ic, 3)) (d9 : decode cc (pc + 9) = .ok (.athrow, 1))
    (hout : ∀ x ∈ c.exceptionTable.toList, covers x (pc + 9) = false)
    (hRframes : names.length + 3 < R.frames) (hRlocals : (rest.map fun v => v.category).sum + (13 * (names.length + 1) + 43) ≤ R.locals) (hRcells : cells + 1 ≤ R.cells) (hRslots : slots + 6 ≤ R.slots) (hlocks : meth.locks = false)
    (hx : ∀ t : State, s.vm.Alike t.vm → H.size ≤ t.heap.size → (∀ q : Nat, q < H.size → t.heap[q]? = H[q]?) → XC cls s t)
    (hf : ∀ z ∈ locs, free z.base) (hc : cells + 1 ≤ mc) (hs : slots + 6 ≤ ms) :
    W p l e R s m args below meth c H locs cells slots (vx_MQ below Qc XC args s mc ms free) (F0 m pc ls rest) := by
  intro T hT X
  have htr : e.platform.stackTraces = false := (show e.platform.stackTraces = l.stackTraces by rw [X.admits.platform]).trans hl
  have Y := vx_rebase X (R' := { frames := R.frames, locals := R.locals, cells := 1, slots := 6 }) (Nat.le_refl _) (Nat.le_refl _) hRcells hRslots
  obtain ⟨s', hA⟩ : ∃ z, z = (T.setVm s.vm).setFrames (.invoking m args :: below) := ⟨_, rfl⟩
  rw [← hA] at Y
  have hvm : s'.vm = s.vm := by rw [hA]; rfl
  have hhp : s'.heap = H := by rw [hA]; exact hT
  have hW0 : s.WarmedH s'.vm := by rw [hvm]; exact State.WarmedH.refl s
  have hat' : ∀ w ∈ vx_atS own ic cls names, w.before args s' = true := fun w hw => vx_ot_at hW0 hvm.symm (hgood w (List.mem_cons_of_mem _ (List.mem_cons_of_mem _ hw))) (hat w hw)
  have hk' : (Cond.classLink own ik cls).before args s' = true := vx_ot_at hW0 hvm.symm (hgood _ List.mem_cons_self) hk
  have hini' : (Cond.initialized cls).before args s' = true := vx_ot_at hW0 hvm.symm (hgood _ (List.mem_cons_of_mem _ List.mem_cons_self)) hini
  have hU' : vx_Zq Bundle.tN "UNASSIGNED_STACK" Bundle.steD A s' s'.heap := by rw [hhp]; exact vx_Zq.moved hW0.alike (hU.kept hS.2.1)
  have hN' : vx_Zq Bundle.tN "SUPPRESSED_SENTINEL" Bundle.listD A s' s'.heap := by rw [hhp]; exact vx_Zq.moved hW0.alike (hN.kept hS.2.1)
  have h : ∀ w ∈ Bundle.ownAtoms own ic cls names, w.before args s' = true := vx_own hat' (vx_isRefq hU'.1) (vx_isRefq hN'.1) hU'.2.word hN'.2.word
  have hown' : s'.vm.findClass own = some m.cls := by rw [hvm]; exact hown
  have hins : (Cond.instantiable cls 6).before args s' = true := h _ (by simp [Bundle.ownAtoms])
  obtain ⟨vm₁, cX, kX, hfX, hkX, -, -, X₁, st1⟩ := Y.newCold hexec (own := own) (C := cls) (index := ik) (n := 6) hown' hk' hins hini'
    (g := F0 m pc ls rest) rfl (by rw [hb]; exact d0) (Nat.le_refl _) (Nat.le_refl _)
  generalize hT1 : (T.setVm vm₁).pushCell { cls := cX, slots := kX.instanceTypes.map defaultValue, vm := .none } = T1 at X₁ st1
  have hcat : (Value.ref T.heap.size).category = 1 := rfl
  have hcellA : T1.heap[T.heap.size]? = some (freshCell cX kX) := by rw [← hT1]; exact State.heap_pushCell_size _ _
  have d3' : decode c.code (pc + 3) = .ok (.dup, 1) := by rw [hb]; exact d3
  have d4' : decode c.code (pc + 4) = .ok (.ldc is, 2) := by rw [hb]; exact d4
  have hstr' : vk_R own is text sa s' := vk_R.warm hW0 hstr
  obtain ⟨U, hsteps, hrun, hend, hW, hsame, ce, hce, hO⟩ := X₁.ctorThrowS hexec htr (own := own) (cls := cls) (names := names) (ic := ic) hown' hcls hnames h (fun x hx => nomatch hx) hfX hkX hcellA (by rw [hhp, hT]; exact Nat.le_refl _) (msg := .ref sa) rfl
    (g := { method := m, pc := pc + 6, locals := ls, stack := .ref sa :: .ref T.heap.size :: .ref T.heap.size :: rest, locked := none }) rfl hsize rfl rfl (rest := rest) rfl
    (by rw [hb]; exact d6) (by rw [hb]; exact d9) hout hRframes (by simp only [List.map_cons, List.sum_cons, hcat]; omega) hlocks
  obtain ⟨f1, f2⟩ := vx_frame hsame
  rw [hhp] at f1 f2
  have hWs : s.WarmedH U.vm := State.WarmedH.trans hW0 hW
  have hcl : s.vm.findClass cls = some ce.cls := by
    have h9 := hO.cls
    rw [hvm] at h9
    exact h9
  have hall : s.sameButNew ({ U with vm := s.vm } : State) locs mc ms := by
    subst hA
    obtain ⟨e1, e2⟩ := hsame
    rw [State.setFrames_setFrames] at e1
    have h2 : (T.setVm s.vm).sameButNew ({ U with vm := s.vm } : State) [] (0 + 1) (0 + 6) := ⟨e1, e2⟩
    have h3 := X.same.trans h2
    rw [List.append_nil] at h3
    exact h3.mono hc hs
  refine ⟨U, ?_, .threw T.heap.size, hrun, hend, Or.inr ⟨T.heap.size, rfl, cls, ce, locs, hx U hWs.alike f1 (fun q hq => f2 q hq (fun z hz => nomatch hz)), hce, hO.vm, hcl, hWs, hall, hf⟩⟩
  refine st1 _ ?_
  show Steps p.tables e below (T1.setTop { method := m, pc := pc + 3, locals := ls, stack := .ref T.heap.size :: rest, locked := none }) _
  jvm_step X₁.here [X₁.here.top, hexec, d3', Value.category]
  exact X₁.ldcString hexec (own := own) (text := text) (index := is) (a := sa) hown' hstr'.1 hstr'.2
    (g := { method := m, pc := pc + 4, locals := ls, stack := .ref T.heap.size :: .ref T.heap.size :: rest, locked := none }) rfl d4' _ hsteps
/-- 'throw new E("text")', the text by a wide index -/
theorem vx_throwSW {cc : ByteArray} {pc : Nat} (hexec : p.tables.exec = Jvm.exec) (hb : c.code = cc) (hl : l.stackTraces = false) {own cls text : String} {names : List String} {ik is ic mc ms sa : Nat} {A : Nat → Prop}
    (hown : s.vm.findClass own = some m.cls) (hcls : Bundle.fit cls = true) (hnames : ∀ n ∈ names, Bundle.fit n = true)
    (hk : (Cond.classLink own ik cls).before args s = true) (hini : (Cond.initialized cls).before args s = true) (hstr : vk_R own is text sa s) (hat : ∀ w ∈ vx_atS own ic cls names, w.before args s = true)
    (hgood : ∀ w ∈ Cond.classLink own ik cls :: Cond.initialized cls :: vx_atS own ic cls names, vx_ot w = true)
    (hU : vx_Zq Bundle.tN "UNASSIGNED_STACK" Bundle.steD A s s.heap) (hN : vx_Zq Bundle.tN "SUPPRESSED_SENTINEL" Bundle.listD A s s.heap) (hS : va_S A s.heap H locs) (hsize : ls.size = c.maxLocals)
    (d0 : decode cc pc = .ok (.new ik, 3)) (d3 : decode cc (pc + 3) = .ok (.dup, 1)) (d4 : decode cc (pc + 4) = .ok (.ldc_w is, 3)) (d7 : decode cc (pc + 7) = .ok (.invokespecial ic, 3)) (d10 : decode cc (pc + 10) = .ok (.athrow, 1))
    (hout : ∀ x ∈ c.exceptionTable.toList, covers x (pc + 10) = false)
    (hRframes : names.length + 3 < R.frames) (hRlocals : (rest.map fun v => v.category).sum + (13 * (names.length + 1) + 43) ≤ R.locals) (hRcells : cells + 1 ≤ R.cells) (hRslots : slots + 6 ≤ R.slots) (hlocks : meth.locks = false)
    (hx : ∀ t : State, s.vm.Alike t.vm → H.size ≤ t.heap.size → (∀ q : Nat, q < H.size → t.heap[q]? = H[q]?) → XC cls s t)
    (hf : ∀ z ∈ locs, free z.base) (hc : cells + 1 ≤ mc) (hs : slots + 6 ≤ ms) :
    W p l e R s m args below meth c H locs cells slots (vx_MQ below Qc XC args s mc ms free) (F0 m pc ls rest) := by
  intro T hT X
  have htr : e.platform.stackTraces = false := (show e.platform.stackTraces = l.stackTraces by rw [X.admits.platform]).trans hl
  have Y := vx_rebase X (R' := { frames := R.frames, locals := R.locals, cells := 1, slots := 6 }) (Nat.le_refl _) (Nat.le_refl _) hRcells hRslots
  obtain ⟨s', hA⟩ : ∃ z, z = (T.setVm s.vm).setFrames (.invoking m args :: below) := ⟨_, rfl⟩
  rw [← hA] at Y
  have hvm : s'.vm = s.vm := by rw [hA]; rfl
  have hhp : s'.heap = H := by rw [hA]; exact hT
  have hW0 : s.WarmedH s'.vm := by rw [hvm]; exact State.WarmedH.refl s
  have hat' : ∀ w ∈ vx_atS own ic cls names, w.before args s' = true := fun w hw => vx_ot_at hW0 hvm.symm (hgood w (List.mem_cons_of_mem _ (List.mem_cons_of_mem _ hw))) (hat w hw)
  have hk' : (Cond.classLink own ik cls).before args s' = true := vx_ot_at hW0 hvm.symm (hgood _ List.mem_cons_self) hk
  have hini' : (Cond.initialized cls).before args s' = true := vx_ot_at hW0 hvm.symm (hgood _ (List.mem_cons_of_mem _ List.mem_cons_self)) hini
  have hU' : vx_Zq Bundle.tN "UNASSIGNED_STACK" Bundle.steD A s' s'.heap := by rw [hhp]; exact vx_Zq.moved hW0.alike (hU.kept hS.2.1)
  have hN' : vx_Zq Bundle.tN "SUPPRESSED_SENTINEL" Bundle.listD A s' s'.heap := by rw [hhp]; exact vx_Zq.moved hW0.alike (hN.kept hS.2.1)
  have h : ∀ w ∈ Bundle.ownAtoms own ic cls names, w.before args s' = true := vx_own hat' (vx_isRefq hU'.1) (vx_isRefq hN'.1) hU'.2.word hN'.2.word
  have hown' : s'.vm.findClass own = some m.cls := by rw [hvm]; exact hown
  have hins : (Cond.instantiable cls 6).before args s' = true := h _ (by simp [Bundle.ownAtoms])
  obtain ⟨vm₁, cX, kX, hfX, hkX, -, -, X₁, st1⟩ := Y.newCold hexec (own := own) (C := cls) (index := ik) (n := 6) hown' hk' hins hini'
    (g := F0 m pc ls rest) rfl (by rw [hb]; exact d0) (Nat.le_refl _) (Nat.le_refl _)
  generalize hT1 : (T.setVm vm₁).pushCell { cls := cX, slots := kX.instanceTypes.map defaultValue, vm := .none } = T1 at X₁ st1
  have hcat : (Value.ref T.heap.size).category = 1 := rfl
  have hcellA : T1.heap[T.heap.size]? = some (freshCell cX kX) := by rw [← hT1]; exact State.heap_pushCell_size _ _
  have d3' : decode c.code (pc + 3) = .ok (.dup, 1) := by rw [hb]; exact d3
  have d4' : decode c.code (pc + 4) = .ok (.ldc_w is, 3) := by rw [hb]; exact d4
  have hstr' : vk_R own is text sa s' := vk_R.warm hW0 hstr
  obtain ⟨U, hsteps, hrun, hend, hW, hsame, ce, hce, hO⟩ := X₁.ctorThrowS hexec htr (own := own) (cls := cls) (names := names) (ic := ic) hown' hcls hnames h (fun x hx => nomatch hx) hfX hkX hcellA (by rw [hhp, hT]; exact Nat.le_refl _) (msg := .ref sa) rfl
    (g := { method := m, pc := pc + 7, locals := ls, stack := .ref sa :: .ref T.heap.size :: .ref T.heap.size :: rest, locked := none }) rfl hsize rfl rfl (rest := rest) rfl
    (by rw [hb]; exact d7) (by rw [hb]; exact d10) hout hRframes (by simp only [List.map_cons, List.sum_cons, hcat]; omega) hlocks
  obtain ⟨f1, f2⟩ := vx_frame hsame
  rw [hhp] at f1 f2
  have hWs : s.WarmedH U.vm := State.WarmedH.trans hW0 hW
  have hcl : s.vm.findClass cls = some ce.cls := by
    have h9 := hO.cls
    rw [hvm] at h9
    exact h9
  have hall : s.sameButNew ({ U with vm := s.vm } : State) locs mc ms := by
    subst hA
    obtain ⟨e1, e2⟩ := hsame
    rw [State.setFrames_setFrames] at e1
    have h2 : (T.setVm s.vm).sameButNew ({ U with vm := s.vm } : State) [] (0 + 1) (0 + 6) := ⟨e1, e2⟩
    have h3 := X.same.trans h2
    rw [List.append_nil] at h3
    exact h3.mono hc hs
  refine ⟨U, ?_, .threw T.heap.size, hrun, hend, Or.inr ⟨T.heap.size, rfl, cls, ce, locs, hx U hWs.alike f1 (fun q hq => f2 q hq (fun z hz => nomatch hz)), hce, hO.vm, hcl, hWs, hall, hf⟩⟩
  refine st1 _ ?_
  show Steps p.tables e below (T1.setTop { method := m, pc := pc + 3, locals := ls, stack := .ref T.heap.size :: rest, locked := none }) _
  jvm_step X₁.here [X₁.here.top, hexec, d3', Value.category]
  exact X₁.ldcStringW hexec (own := own) (text := text) (index := is) (a := sa) hown' hstr'.1 hstr'.2
    (g := { method := m, pc := pc + 4, locals := ls, stack := .ref T.heap.size :: .ref T.heap.size :: rest, locked := none }) rfl d4' _ hsteps
end Ends
section Bodies
variable {l : Launch}
theorem vx_ofW {y : MethodName} {ws ws' : List Cond} {rm : Room} {Pc : Array Value → State → Prop} {Qc : Array Value → State → Outcome → State → Prop} {XC : String → State → State → Prop} {mc ms : Nat} {free : Addr → Prop} {cc : ByteArray} {maxL : Nat} {ret : Option FieldType}
    (hy : plainName y.cls = true) (hw : ws = Cond.code y cc maxL ret :: ws')
    (body : ∀ p e s m args below meth c s₁, BodyLoose p l y (headSpec ws rm) cc maxL ret e s m args below meth c s₁ → c.maxLocals = maxL → (∀ x ∈ c.exceptionTable.toList, False) → Pc args s →
      W p l e (headSpec ws rm).room s m args below meth c s.heap [] 0 0 (vx_MQ below Qc XC args s mc ms free) (entryFrame m args maxL)) : vx_Met l y ws rm Pc Qc XC mc ms free := by
  refine MetFree.of_bodyS (code := cc) (maxLocals := maxL) (ret := ret) hy ?_ ?_
  · intro args s m h hn
    obtain ⟨meth, c, h1, h2, h3, h4, h5, h6, -, -⟩ := Cond.code_spec hn (atoms_spec (ws := ws) h _ (by rw [hw]; exact List.mem_cons_self))
    exact ⟨meth, c, h1, h2, h3, h4, h5, h6⟩
  · intro p e s m args below meth c s₁ B hml hP _
    have hh0 : s₁.heap = s.heap := by rw [B.state]; rfl
    have ht : ∀ x ∈ c.exceptionTable.toList, False := by
      obtain ⟨meth9, c9, h1, h2, -, -, -, -, h7, -⟩ := Cond.code_spec B.named (atoms_spec (ws := ws) B.pre _ (by rw [hw]; exact List.mem_cons_self))
      cases Option.some.inj (h1.symm.trans B.method)
      cases Option.some.inj (h2.symm.trans (Stand.of_body B).code)
      intro x hx
      rw [Array.isEmpty_iff.mp h7] at hx
      cases hx
    obtain ⟨t, a1, o, b1, b2, b3⟩ := body p e s m args below meth c s₁ B hml ht hP s₁ hh0 (Stand.of_body B)
    exact ⟨t, o, a1, b1, b2, b3⟩
/-- the table of a body with handlers -/
theorem vx_table {p : Program} {x y : MethodName} {S : Spec} {cc bytes : ByteArray} {maxL maxL' : Nat} {ret ret' : Option FieldType} {e : Env} {s s₁ : State} {m : MethodId} {args : Array Value} {below : List Frame} {meth : Method} {c : Code} {hh : List (Nat × Nat × Nat × Nat)}
    (B : BodyLoose p l y S cc maxL ret e s m args below meth c s₁) (h : (Cond.codeWith y bytes maxL' ret' hh).before args s = true) : c.exceptionTable.toList = tableOf hh := by
  obtain ⟨m9, meth9, c9, hn9, h1, h2, -, -, h6, -⟩ := Cond.codeWith_spec h
  cases Option.some.inj (hn9.symm.trans B.named)
  cases Option.some.inj (h1.symm.trans B.method)
  cases Option.some.inj (h2.symm.trans (Stand.of_body B).code)
  rw [← h6, table_eq]
end Bodies
end VXA
/-! ===== END ===== -/
/-! ===== BEGIN a static call of a method with an exception table ===== -/
section VXS
variable {p : Program} {l : Launch} {e : Env} {R : Room} {s : State} {m : MethodId} {args : Array Value} {below : List Frame} {meth : Method} {c : Code} {T : State} {H : Heap} {locs : List Loc} {cells slots : Nat}
abbrev vx_CSW (R : Room) (s : State) (args : Array Value) (own : String) (index : Nat) (y : MethodName) (bytes : ByteArray) (maxL : Nat) (ret : Option FieldType) (hh : List (Nat × Nat × Nat × Nat)) (ws : List Cond) (rm : Room) (mc ms n : Nat) : Prop :=
  (rm.cells = mc ∧ rm.slots = ms ∧ rm.frames + 1 ≤ R.frames ∧ 8 + (maxL + 11) + rm.locals ≤ R.locals ∧ (∀ w ∈ ws, ∀ (a' : Array Value) (U : State), s.WarmedH U.vm → w.before a' U = true) ∧ Cond.codeWith y bytes maxL ret hh ∈ ws) ∧
  (Cond.codeWith y bytes maxL ret hh).before args s = true ∧ (Cond.initialized y.cls).before args s = true ∧ (y.cls ≠ "java/lang/invoke/MethodHandle" ∧ y.cls ≠ "java/lang/invoke/VarHandle") ∧
  (∀ sig, parseMethodDescriptor y.desc = some sig → n = sig.parameters.length) ∧ (Cond.methodLink own index y).before args s = true ∧ (Cond.static y).before args s = true
theorem vx_cwSW {own : String} {index maxL mc ms : Nat} {y : MethodName} {bytes : ByteArray} {ret : Option FieldType} {hh : List (Nat × Nat × Nat × Nat)} {Ts ws ws' : List Cond} {rm : Room} (n : Nat) (ht : ∀ w ∈ Ts, w.before args s = true) (hT : GoodIn Ts (va_wsS own index y ws)) (hw : ws = Cond.codeWith y bytes maxL ret hh :: ws') (hrc : rm.cells = mc) (hrs : rm.slots = ms)
    (hd : y.cls ≠ "java/lang/invoke/MethodHandle" ∧ y.cls ≠ "java/lang/invoke/VarHandle" ∧ (parseMethodDescriptor y.desc).map (fun d => d.parameters.length) = some n) (hR : rm.frames + 1 ≤ R.frames ∧ 8 + (maxL + 11) + rm.locals ≤ R.locals) :
    vx_CSW R s args own index y bytes maxL ret hh ws rm mc ms n := by
  have ok : ∀ w ∈ va_wsS own index y ws, w.before args s = true := fun w h => ht w (hT w h).1
  have hG : GoodIn Ts ws := fun w h => hT w (by unfold va_wsS; exact List.mem_append_right _ h)
  have hc : Cond.codeWith y bytes maxL ret hh ∈ ws := by rw [hw]; exact List.mem_cons_self
  refine ⟨⟨hrc, hrs, hR.1, hR.2, pay_in ht hG, hc⟩, ht _ (hG _ hc).1, ok _ (by simp [va_wsS]), ⟨hd.1, hd.2.1⟩, fun sig h => ?_, ok _ (by simp [va_wsS]), ok _ (by simp [va_wsS])⟩
  have h2 := hd.2.2
  rw [h] at h2
  exact (Option.some.inj h2).symm
theorem vx_callSW (X : Stand p l e R s m args below meth c T locs cells slots) (hexec : p.tables.exec = Jvm.exec) {own : String} {index : Nat} {y : MethodName} {bytes : ByteArray} {maxL : Nat} {ret : Option FieldType} {hh : List (Nat × Nat × Nat × Nat)}
    (hown : s.vm.findClass own = some m.cls) (hlink : (Cond.methodLink own index y).before args s = true) (hstat : (Cond.static y).before args s = true) (hinit : (Cond.initialized y.cls).before args s = true)
    (hcode : (Cond.codeWith y bytes maxL ret hh).before args s = true) (hy : y.cls ≠ "java/lang/invoke/MethodHandle" ∧ y.cls ≠ "java/lang/invoke/VarHandle")
    {W9 : Nat} {Pre : Pt → Array Value → Prop} {Post : Pt → Array Value → Option Value → Pt → Prop} (hK : Back l R p e below s args y 3 W9 Pre Post)
    {g : JFrame} (hg : g.method = m) (hsize : g.locals.size = c.maxLocals) {argsL rest : List Value} (hlen : ∀ sig, parseMethodDescriptor y.desc = some sig → argsL.length = sig.parameters.length)
    (hstack : g.stack = argsL.reverse ++ rest) (hW : 2 * g.monitorRoom + (rest.map fun v => v.category).sum ≤ W9) (hdg : decode c.code g.pc = .ok (.invokestatic index, 3))
    (hpre : ∀ vm₁, s.WarmedH vm₁ → Pre ⟨T.setVm vm₁, locs, cells, slots⟩ argsL.toArray) :
    ∃ (v : Option Value) (vm₁ : Vm) (B : Pt), s.WarmedH vm₁ ∧ Stand p l e R s m args below meth c B.U B.locs B.cells B.slots ∧ Post ⟨T.setVm vm₁, locs, cells, slots⟩ argsL.toArray v B ∧
      ∀ target, Steps p.tables e below (B.U.setTop { g with pc := g.pc + 3, stack := v.toList ++ rest }) target → Steps p.tables e below (T.setTop g) target := by
  obtain ⟨mk, methM, cM, hnamed, hmethM, -, -, -, -, -, -, hsigM⟩ := Cond.codeWith_spec hcode
  have hstatic : methM.isStatic = true := Cond.static_spec hnamed hmethM hstat
  obtain ⟨kP, hkP, -⟩ := className_of_methodNamed hnamed
  have hinitP : kP.init = .initialized := Cond.initialized_spec (findClass_of_methodNamed hnamed) hkP hinit
  obtain ⟨vm₁, X₁, hstep₁⟩ := X.invokestatic hexec hown hlink hnamed hmethM hstatic hkP hinitP hy (g := g) hg (argsL := argsL) (rest := rest) (hlen _ hsigM) hstack hdg
  obtain ⟨v, B, X', hpost, hsteps⟩ := hK m meth c ⟨T.setVm vm₁, locs, cells, slots⟩ { g with stack := rest } (.invokestatic index) mk argsL.toArray X₁ hg hsize hdg hW (X₁.named hnamed) (hpre vm₁ X₁.warmed)
  exact ⟨v, vm₁, B, X₁.warmed, X', hpost, fun target h => hstep₁ _ fun acts => by rw [doInvoke_state]; exact hsteps.trans h⟩
theorem vx_runSW {y : MethodName} {bytes cc : ByteArray} {maxL nL mc ms n index : Nat} {ret : Option FieldType} {hh : List (Nat × Nat × Nat × Nat)} {ws : List Cond} {rm : Room} {Pc : Array Value → State → Prop} {Qc : Array Value → State → Outcome → State → Prop} {free : Addr → Prop} {Ts : List Cond} {own : String} {As rest : List Value} {g : JFrame}
    (S : CallFix p m c cc nL s args Ts own) (hM : Met l y ws rm Pc Qc mc ms free) (cw : vx_CSW R s args own index y bytes maxL ret hh ws rm mc ms n) (hp : PreS s H Pc As)
    (hg : g.method = m) (hn : As.length = n) (hsize : g.locals.size = nL) (hstack : g.stack = As.reverse ++ rest) (hW : 2 * g.monitorRoom + (rest.map fun v => v.category).sum ≤ 8) (hdg : decode cc g.pc = .ok (.invokestatic index, 3)) (hf : cells + mc ≤ R.cells ∧ slots + ms ≤ R.slots) :
    va_Run p l e R s m args below meth c H locs cells slots mc ms g rest (Qc As.toArray) (free) := by
  obtain ⟨⟨hrc, hrs, hfr, hlo, hws, hcw⟩, hcode, hini, hy, hlen, hl, hstt⟩ := cw
  have hK : Back l R p e below s args y 3 8 (PreOf R mc ms Pc) (PostOf Qc mc ms free) := va_backW (hh := hh) (bytes := bytes) (maxL := maxL) (ret := ret) hM hp.1 hrc hrs hfr hlo hws hcw (fun a' U hW => word_at hW (Or.inl (by first | rfl | simp [Cond.onTables, Cond.keeps, Cond.steady])) hini)
  obtain ⟨hx, hb, hml, ho, -⟩ := S
  intro T hT X
  obtain ⟨v, vm₁, ⟨U', l2, c2, s2⟩, hW₁, X', ⟨g', mk, t, L, e1, e2, hq, h1, hL, h2, h3⟩, st⟩ := vx_callSW X hx (hh := hh) (bytes := bytes) (maxL := maxL) (ret := ret) ho hl hstt hini hcode hy hK hg (hsize.trans hml.symm) (argsL := As) (rest := rest) (fun sig h => hn.trans (hlen sig h)) hstack hW (by rw [hb]; exact hdg)
    (fun vm₁ hW₁ => ⟨hf.1, hf.2, hp.2 (T.setVm vm₁) hT hW₁⟩)
  dsimp only [Pt.U, Pt.locs, Pt.cells, Pt.slots] at X' e1 e2 h1 h2 h3 st
  subst h1; subst h2; subst h3
  exact ⟨v, (T.setVm vm₁).calling g' mk As.toArray, t, U', L, hT, X', hL, e1, e2, hq, st⟩
/-- not caught here, past rows that name other classes: it goes on to the caller -/
theorem vx_outP {p : Program} {l : Launch} {e : Env} {R : Room} {s : State} {m : MethodId} {args : Array Value} {below : List Frame} {meth : Method} {c : Code} {H : Heap} {locs : List Loc} {cells slots : Nat} {free : Addr → Prop} {ls : Array Slot} {rest : List Value} {Qc : Array Value → State → Outcome → State → Prop} {XC : String → State → State → Prop}
    {pc : Nat} {own E : String} {ce : Cell} {q : Addr} {mc ms : Nat} (hown : s.vm.findClass own = some m.cls) (hlocks : meth.locks = false)
    (hpass : ∀ z ∈ c.exceptionTable.toList, covers z pc = false ∨ (z.catchType ≠ 0 ∧ ∃ nm : String, (Cond.classLink own z.catchType nm).before args s = true ∧ va_Nc E nm s)) (hcell : H[q]? = some ce) (hv : ce.vm = .none) (hcl : s.vm.findClass E = some ce.cls)
    (hx : ∀ t : State, t.heap = H → s.vm.Alike t.vm → XC E s t) (hf : ∀ z ∈ locs, free z.base) (hc : cells ≤ mc) (hs : slots ≤ ms) :
    vx_W p l e R s m args below meth c H locs cells slots (vx_MQ below Qc XC args s mc ms free) (F0 m pc ls rest) q := by
  intro T hT X
  have hpl : e.platform.magicAccessors = ({} : Platform).magicAccessors := by rw [X.admits.platform]
  obtain ⟨vm', hW', X', st⟩ := X.outThrough hlocks q (g := F0 m pc ls rest) rfl rfl rfl (cell := ce) (by rw [hT]; exact hcell) (by rw [hv]; rfl)
    (by obtain ⟨k9, h9, -⟩ := Vm.findClass_spec hcl; exact ⟨k9, h9⟩) (fun z hz => by
      rcases hpass z hz with h | ⟨hz0, nm, hl1, hn1⟩
      · exact Or.inl h
      · obtain ⟨c6, hc6, hcl6⟩ := Cond.classLink_spec hown hl1 e.platform hpl
        obtain ⟨a8, b8, h1, h2, h3⟩ := hn1
        cases Option.some.inj (h1.symm.trans hcl)
        cases Option.some.inj (h2.symm.trans hc6)
        exact Or.inr ⟨hz0, _, hcl6, h3⟩)
  obtain ⟨g₀, hfr⟩ := X'.frames_eq
  have hcell9 : ((T.setVm vm').setFrames (.throwing q :: below)).heap[q]? = some ce := by
    show T.heap[q]? = some ce
    rw [hT]; exact hcell
  have hend : Ended ((T.setVm vm').setFrames (.throwing q :: below)) below (.threw q) := State.frames_setFrames _ (State.cur_lt_of_frames hfr)
  refine ⟨(T.setVm vm').setFrames (.throwing q :: below), ?_, .threw q, X'.here.running, hend, Or.inr ⟨q, rfl, E, ce, locs, hx _ hT (X'.ends _).1.alike, hcell9, hv, hcl, (X'.ends _).1, (X'.ends _).2.mono hc hs, hf⟩⟩
  rw [X.pushThrowing_eq]
  exact st
/-- a thing of a world lies in the heap -/
theorem vx_lt {D : va_G} {cl : List vw_C} {ws : va_W} {H1 : Heap} (h : va_P D cl ws H1) {k : Nat} {q : Nat × va_E} (hk : ws[k]? = some q) : q.1 < H1.size := (h k q hk).lt
end VXS
/-! ===== END ===== -/
/-! ===== BEGIN methods with a table of their own: called by a name, returning or throwing ===== -/
section VXH
/-! vx_backW, vx_callVX, vx_callSX, vx_callVW, vx_runVW, vx_runVX, vx_runSX, vx_ofWH follow the same proofs as their sisters above (Free/Laws.lean, Shelf42/LK1.lean); vx_outP calls Shelf42/NT130.lean (outThrough). -/
section
variable {l : Launch} {R : Room} {p : Program} {e : Env} {below : List Frame} {s : State} {sargs : Array Value} {y : MethodName} {len W9 : Nat}
theorem vx_backW {ws : List Cond} {rm : Room} {Pc : Array Value → State → Prop} {Qc : Array Value → State → Outcome → State → Prop} {XC : String → State → State → Prop} {mc ms : Nat} {free : Addr → Prop} {bytes : ByteArray} {maxL : Nat} {ret : Option FieldType} {hh : List (Nat × Nat × Nat × Nat)}
    (hM : vx_Met l y ws rm Pc Qc XC mc ms free) (hblind : FrameBlind Pc) (hrc : rm.cells = mc) (hrs : rm.slots = ms)
    (hframes : rm.frames + 1 ≤ R.frames) (hlocals : W9 + (maxL + 11) + rm.locals ≤ R.locals)
    (hws : ∀ w ∈ ws, ∀ a' U, s.WarmedH U.vm → w.before a' U = true) (hcode : Cond.codeWith y bytes maxL ret hh ∈ ws) (hinit : ∀ a' U, s.WarmedH U.vm → (Cond.initialized y.cls).before a' U = true) :
    vx_Back l R p e below s sargs y len W9 (PreOf R mc ms Pc) (PostOf Qc mc ms free) (vx_Post XC mc ms free) := by
  intro m meth c A g ig mk a X hg hsize hdg hW hn hp
  have h1 : (headSpec ws rm).pre.before a A.U = true := atoms_intro fun w hw => hws w hw _ _ X.warmed
  have h2 : (Cond.codeWith y bytes maxL ret hh).before a A.U = true := hws _ hcode _ _ X.warmed
  have h3 : (Cond.initialized y.cls).before a A.U = true := hinit _ _ X.warmed
  have h4 : A.cells + (headSpec ws rm).room.cells ≤ R.cells := by rw [show (headSpec ws rm).room.cells = mc from hrc]; exact hp.1
  have h5 : A.slots + (headSpec ws rm).room.slots ≤ R.slots := by rw [show (headSpec ws rm).room.slots = ms from hrs]; exact hp.2.1
  have hPc : Pc a (A.U.calling g mk a) := hblind _ _ _ _ hp.2.2
  obtain ⟨U, Ls, c0, s0⟩ := A
  dsimp only [Pt.U, Pt.locs, Pt.cells, Pt.slots] at h1 h2 h3 h4 h5 X hn hPc ⊢
  obtain ⟨m9, methY, cY, hn9, hmY, hcY, -, hlY, -⟩ := Cond.codeWith_spec h2
  cases Option.some.inj (hn9.symm.trans hn)
  obtain ⟨kY, hkY, -⟩ := className_of_methodNamed hn
  have hinitY : kY.init = .initialized := Cond.initialized_spec (findClass_of_methodNamed hn) hkY h3
  have h : At U g.method c below := by rw [hg]; exact X.here
  have hlocals9 : W9 + (maxL + 11) + (headSpec ws rm).room.locals ≤ R.locals := hlocals
  have happ : (headSpec ws rm).appliesLoose y e.platform (U.calling g mk a) = true :=
    Spec.appliesLoose_calling (g := g) h hdg hn hkY hinitY
      (X.room_calling (g := g) (R' := (headSpec ws rm).room) hsize hmY hcY hframes (by rw [hlY]; omega) h4 h5) h1
  obtain ⟨mid, hmid⟩ := h.above
  have hfr : (U.setTop g).frames = (.java g :: mid) ++ below := by rw [State.frames_setTop' g h.top, hmid]; rfl
  obtain ⟨o, s₂, hsteps, -, hend, hq⟩ := Steps.callFree hM p X.admits X.cas X.clock (acts := []) hfr happ hPc trivial
  have hq' : vx_Q Qc XC mc ms free a (U.calling g mk a) o s₂ := hq
  rw [State.frames_setTop' g h.top] at hend
  obtain ⟨g₀, hg0⟩ := Option.isSome_iff_exists.mp h.top
  obtain ⟨r, hr⟩ := State.topJava?_eq_some.mp hg0
  have hr' : (({ U with heap := s₂.heap, slotsUsed := s₂.slotsUsed } : State).setVm s₂.vm).frames = .java g₀ :: r := hr
  rcases hq' with ⟨hqc, L, hfe, hL⟩ | ⟨q, rfl, E, ce, L, hx, hce, hcv, hcl, hW₂, hsm, hL⟩
  · obtain ⟨⟨v, rfl⟩, hW₂, e2, q2, q3, q4, q5, q6⟩ := id hfe
    have e3 : s₂ = ({ (U.calling g mk a).setFrames s₂.frames with heap := s₂.heap, slotsUsed := s₂.slotsUsed } : State).setVm s₂.vm := by
      have : s₂ = ({ s₂ with vm := (U.calling g mk a).vm } : State).setVm s₂.vm := rfl
      rw [e2] at this
      exact this
    obtain ⟨c₂, i₂, len₂, hc₂, hd₂, hf₂⟩ := hend
    have hW' : U.WarmedH s₂.vm := hW₂
    have hcc : c₂ = c := by
      have h1 : s₂.code? g.method = U.code? g.method := by
        rw [State.code?_eq, State.code?_eq, hW'.alike.method?]
      exact Option.some.inj (hc₂.symm.trans (h1.trans h.code))
    subst hcc
    have hlen : len₂ = len := by rw [hdg] at hd₂; cases hd₂; rfl
    subst hlen
    have hs₂ : s₂ = (({ U with heap := s₂.heap, slotsUsed := s₂.slotsUsed } : State).setVm s₂.vm).setTop { g with pc := g.pc + len₂, stack := v.toList ++ g.stack } := by
      refine e3.trans ?_
      rw [hf₂, State.calling_eq h.top, State.setFrames_setFrames, State.setTop_of_frames _ hr', hr]
      rfl
    have hsame : U.sameButNew ({ U with heap := s₂.heap, slotsUsed := s₂.slotsUsed } : State) L mc ms := by
      refine ⟨?_, q2, q3, q4, q5, q6⟩
      obtain ⟨t, ht, -⟩ := State.frames_cons hr
      show ({ U with heap := s₂.heap, slotsUsed := s₂.slotsUsed } : State) = { U.setFrames U.frames with heap := s₂.heap, slotsUsed := s₂.slotsUsed }
      rw [State.setFrames_self ht]
    subst hg
    refine Or.inl ⟨v, ⟨(({ U with heap := s₂.heap, slotsUsed := s₂.slotsUsed } : State).setVm s₂.vm), Ls ++ L, c0 + mc, s0 + ms⟩,
      ⟨X.admits, X.cas, X.clock, X.frames, X.room, X.hears, X.method, X.code, (X.here.setHeapUsed s₂.heap s₂.slotsUsed).setVm hW'.alike, X.tail, State.WarmedH.trans X.warmed hW', X.limits, X.bytes, X.same.trans (hsame.setVm s.vm)⟩,
      ⟨g, mk, s₂, L, rfl, rfl, hqc, rfl, hL, rfl, rfl⟩, ?_⟩
    show Steps p.tables e below _ ((({ U with heap := s₂.heap, slotsUsed := s₂.slotsUsed } : State).setVm s₂.vm).setTop { g with pc := g.pc + len₂, stack := v.toList ++ g.stack })
    rw [← hs₂]
    exact hsteps
  · obtain ⟨e2, q2, q3, q4, q5, q6⟩ := id hsm
    have e3 : s₂ = ({ (U.calling g mk a).setFrames s₂.frames with heap := s₂.heap, slotsUsed := s₂.slotsUsed } : State).setVm s₂.vm := by
      have : s₂ = ({ s₂ with vm := (U.calling g mk a).vm } : State).setVm s₂.vm := rfl
      rw [e2] at this
      exact this
    have hf₂ : s₂.frames = .throwing q :: .java g :: U.frames.tail := hend
    have hW' : U.WarmedH s₂.vm := hW₂
    have hs₂ : s₂ = ((({ U with heap := s₂.heap, slotsUsed := s₂.slotsUsed } : State).setVm s₂.vm).setTop g).pushFrame (.throwing q) := by
      refine e3.trans ?_
      rw [hf₂, State.calling_eq h.top, State.setFrames_setFrames, State.pushFrame, State.frames_setTop _ hr', State.setTop_of_frames _ hr', State.setFrames_setFrames, hr]
      rfl
    have hsame : U.sameButNew ({ U with heap := s₂.heap, slotsUsed := s₂.slotsUsed } : State) L mc ms := by
      refine ⟨?_, q2, q3, q4, q5, q6⟩
      obtain ⟨t, ht, -⟩ := State.frames_cons hr
      show ({ U with heap := s₂.heap, slotsUsed := s₂.slotsUsed } : State) = { U.setFrames U.frames with heap := s₂.heap, slotsUsed := s₂.slotsUsed }
      rw [State.setFrames_self ht]
    subst hg
    refine Or.inr ⟨q, ⟨(({ U with heap := s₂.heap, slotsUsed := s₂.slotsUsed } : State).setVm s₂.vm), Ls ++ L, c0 + mc, s0 + ms⟩,
      ⟨X.admits, X.cas, X.clock, X.frames, X.room, X.hears, X.method, X.code, (X.here.setHeapUsed s₂.heap s₂.slotsUsed).setVm hW'.alike, X.tail, State.WarmedH.trans X.warmed hW', X.limits, X.bytes, X.same.trans (hsame.setVm s.vm)⟩,
      ⟨g, mk, s₂, L, E, ce, rfl, rfl, hx, hce, hcv, hcl, rfl, hL, rfl, rfl⟩, ?_⟩
    show Steps p.tables e below _ (((({ U with heap := s₂.heap, slotsUsed := s₂.slotsUsed } : State).setVm s₂.vm).setTop g).pushFrame (.throwing q))
    rw [← hs₂]
    exact hsteps
end
variable {p : Program} {l : Launch} {e : Env} {R : Room} {s : State} {m : MethodId} {args : Array Value} {below : List Frame} {meth : Method} {c : Code} {T : State} {H : Heap} {locs : List Loc} {cells slots : Nat}
theorem vx_callVX (X : Stand p l e R s m args below meth c T locs cells slots) (hexec : p.tables.exec = Jvm.exec) {own C : String} {index : Nat} {y : MethodName} {bytes : ByteArray} {maxL : Nat} {ret : Option FieldType} {hh : List (Nat × Nat × Nat × Nat)}
    (hown : s.vm.findClass own = some m.cls) (hlink : (Cond.methodLink own index y).before args s = true) (hinst : (Cond.instanceMethod y).before args s = true) (hsel : (Cond.selects C y y).before args s = true)
    (hcode : (Cond.codeWith y bytes maxL ret hh).before args s = true) (hy : y.cls ≠ "java/lang/invoke/MethodHandle" ∧ y.cls ≠ "java/lang/invoke/VarHandle")
    {W9 : Nat} {Pre : Pt → Array Value → Prop} {Post : Pt → Array Value → Option Value → Pt → Prop} {PostX : Pt → Array Value → Addr → Pt → Prop} (hK : vx_Back l R p e below s args y 3 W9 Pre Post PostX)
    {b : Addr} {cellB : Cell} (hcell : T.heap[b]? = some cellB) (hobj : cellB.vm.isStatics = false) (hcls : s.vm.findClass C = some cellB.cls)
    {g : JFrame} (hg : g.method = m) (hsize : g.locals.size = c.maxLocals) {argsL rest : List Value} (hlen : ∀ sig, parseMethodDescriptor y.desc = some sig → argsL.length = sig.parameters.length)
    (hstack : g.stack = argsL.reverse ++ .ref b :: rest) (hW : 2 * g.monitorRoom + (rest.map fun v => v.category).sum ≤ W9) (hdg : decode c.code g.pc = .ok (.invokevirtual index, 3))
    (hpre : ∀ vm₁, s.WarmedH vm₁ → Pre ⟨T.setVm vm₁, locs, cells, slots⟩ (Value.ref b :: argsL).toArray) :
    (∃ (v : Option Value) (vm₁ : Vm) (B : Pt), s.WarmedH vm₁ ∧ Stand p l e R s m args below meth c B.U B.locs B.cells B.slots ∧ Post ⟨T.setVm vm₁, locs, cells, slots⟩ (Value.ref b :: argsL).toArray v B ∧
      ∀ target, Steps p.tables e below (B.U.setTop { g with pc := g.pc + 3, stack := v.toList ++ rest }) target → Steps p.tables e below (T.setTop g) target) ∨
    (∃ (q : Addr) (vm₁ : Vm) (B : Pt), s.WarmedH vm₁ ∧ Stand p l e R s m args below meth c B.U B.locs B.cells B.slots ∧ PostX ⟨T.setVm vm₁, locs, cells, slots⟩ (Value.ref b :: argsL).toArray q B ∧
      Steps p.tables e below (T.setTop g) ((B.U.setTop { g with stack := rest }).pushFrame (.throwing q))) := by
  obtain ⟨mk, methM, hnamed, hmethM, hstM, habM⟩ := Cond.instanceMethod_spec hinst
  obtain ⟨m8, methM', cM, hn8, hmethM', -, -, -, -, -, -, hsigM⟩ := Cond.codeWith_spec hcode
  cases Option.some.inj (hn8.symm.trans hnamed)
  cases hmethM.symm.trans hmethM'
  obtain ⟨c2, r2, m2, q1, q2, q3, q4, kP, hkP, hkPi⟩ := Cond.selects_spec hsel
  cases hcls.symm.trans q1
  cases (State.methodFound?_of_named hnamed hy).symm.trans q2
  cases hnamed.symm.trans q3
  have hselP : selectMethod e.platform s.vm cellB.cls mk = .method mk := by rw [Launch.admits_selectMethod X.admits]; exact q4
  obtain ⟨vm₁, X₁, hstep₁⟩ := X.invokevirtual hexec hown hlink hnamed hmethM hstM hkP hkPi hy (a := b) (cell := cellB) hcell
    (fun z h => by rw [h] at hobj; cases hobj) hselP hmethM habM hkP hkPi (g := g) hg (argsL := argsL) (rest := rest) (hlen _ hsigM) hstack hdg
  rcases hK m meth c ⟨T.setVm vm₁, locs, cells, slots⟩ { g with stack := rest } (.invokevirtual index) mk (Value.ref b :: argsL).toArray X₁ hg hsize hdg hW (X₁.named hnamed) (hpre vm₁ X₁.warmed) with ⟨v, B, X', hpost, hsteps⟩ | ⟨q, B, X', hpost, hsteps⟩
  · exact Or.inl ⟨v, vm₁, B, X₁.warmed, X', hpost, fun target h => hstep₁ _ fun acts => by rw [doInvoke_state]; exact hsteps.trans h⟩
  · exact Or.inr ⟨q, vm₁, B, X₁.warmed, X', hpost, hstep₁ _ fun acts => by rw [doInvoke_state]; exact hsteps⟩
theorem vx_callSX (X : Stand p l e R s m args below meth c T locs cells slots) (hexec : p.tables.exec = Jvm.exec) {own : String} {index : Nat} {y : MethodName} {bytes : ByteArray} {maxL : Nat} {ret : Option FieldType} {hh : List (Nat × Nat × Nat × Nat)}
    (hown : s.vm.findClass own = some m.cls) (hlink : (Cond.methodLink own index y).before args s = true) (hstat : (Cond.static y).before args s = true) (hinit : (Cond.initialized y.cls).before args s = true)
    (hcode : (Cond.codeWith y bytes maxL ret hh).before args s = true) (hy : y.cls ≠ "java/lang/invoke/MethodHandle" ∧ y.cls ≠ "java/lang/invoke/VarHandle")
    {W9 : Nat} {Pre : Pt → Array Value → Prop} {Post : Pt → Array Value → Option Value → Pt → Prop} {PostX : Pt → Array Value → Addr → Pt → Prop} (hK : vx_Back l R p e below s args y 3 W9 Pre Post PostX)
    {g : JFrame} (hg : g.method = m) (hsize : g.locals.size = c.maxLocals) {argsL rest : List Value} (hlen : ∀ sig, parseMethodDescriptor y.desc = some sig → argsL.length = sig.parameters.length)
    (hstack : g.stack = argsL.reverse ++ rest) (hW : 2 * g.monitorRoom + (rest.map fun v => v.category).sum ≤ W9) (hdg : decode c.code g.pc = .ok (.invokestatic index, 3))
    (hpre : ∀ vm₁, s.WarmedH vm₁ → Pre ⟨T.setVm vm₁, locs, cells, slots⟩ argsL.toArray) :
    (∃ (v : Option Value) (vm₁ : Vm) (B : Pt), s.WarmedH vm₁ ∧ Stand p l e R s m args below meth c B.U B.locs B.cells B.slots ∧ Post ⟨T.setVm vm₁, locs, cells, slots⟩ argsL.toArray v B ∧
      ∀ target, Steps p.tables e below (B.U.setTop { g with pc := g.pc + 3, stack := v.toList ++ rest }) target → Steps p.tables e below (T.setTop g) target) ∨
    (∃ (q : Addr) (vm₁ : Vm) (B : Pt), s.WarmedH vm₁ ∧ Stand p l e R s m args below meth c B.U B.locs B.cells B.slots ∧ PostX ⟨T.setVm vm₁, locs, cells, slots⟩ argsL.toArray q B ∧
      Steps p.tables e below (T.setTop g) ((B.U.setTop { g with stack := rest }).pushFrame (.throwing q))) := by
  obtain ⟨mk, methM, cM, hnamed, hmethM, -, -, -, -, -, -, hsigM⟩ := Cond.codeWith_spec hcode
  have hstatic : methM.isStatic = true := Cond.static_spec hnamed hmethM hstat
  obtain ⟨kP, hkP, -⟩ := className_of_methodNamed hnamed
  have hinitP : kP.init = .initialized := Cond.initialized_spec (findClass_of_methodNamed hnamed) hkP hinit
  obtain ⟨vm₁, X₁, hstep₁⟩ := X.invokestatic hexec hown hlink hnamed hmethM hstatic hkP hinitP hy (g := g) hg (argsL := argsL) (rest := rest) (hlen _ hsigM) hstack hdg
  rcases hK m meth c ⟨T.setVm vm₁, locs, cells, slots⟩ { g with stack := rest } (.invokestatic index) mk argsL.toArray X₁ hg hsize hdg hW (X₁.named hnamed) (hpre vm₁ X₁.warmed) with ⟨v, B, X', hpost, hsteps⟩ | ⟨q, B, X', hpost, hsteps⟩
  · exact Or.inl ⟨v, vm₁, B, X₁.warmed, X', hpost, fun target h => hstep₁ _ fun acts => by rw [doInvoke_state]; exact hsteps.trans h⟩
  · exact Or.inr ⟨q, vm₁, B, X₁.warmed, X', hpost, hstep₁ _ fun acts => by rw [doInvoke_state]; exact hsteps⟩
theorem vx_callVW (X : Stand p l e R s m args below meth c T locs cells slots) (hexec : p.tables.exec = Jvm.exec) {own C : String} {index : Nat} {y : MethodName} {bytes : ByteArray} {maxL : Nat} {ret : Option FieldType} {hh : List (Nat × Nat × Nat × Nat)}
    (hown : s.vm.findClass own = some m.cls) (hlink : (Cond.methodLink own index y).before args s = true) (hinst : (Cond.instanceMethod y).before args s = true) (hsel : (Cond.selects C y y).before args s = true)
    (hcode : (Cond.codeWith y bytes maxL ret hh).before args s = true) (hy : y.cls ≠ "java/lang/invoke/MethodHandle" ∧ y.cls ≠ "java/lang/invoke/VarHandle")
    {W9 : Nat} {Pre : Pt → Array Value → Prop} {Post : Pt → Array Value → Option Value → Pt → Prop} (hK : Back l R p e below s args y 3 W9 Pre Post)
    {b : Addr} {cellB : Cell} (hcell : T.heap[b]? = some cellB) (hobj : cellB.vm.isStatics = false) (hcls : s.vm.findClass C = some cellB.cls)
    {g : JFrame} (hg : g.method = m) (hsize : g.locals.size = c.maxLocals) {argsL rest : List Value} (hlen : ∀ sig, parseMethodDescriptor y.desc = some sig → argsL.length = sig.parameters.length)
    (hstack : g.stack = argsL.reverse ++ .ref b :: rest) (hW : 2 * g.monitorRoom + (rest.map fun v => v.category).sum ≤ W9) (hdg : decode c.code g.pc = .ok (.invokevirtual index, 3))
    (hpre : ∀ vm₁, s.WarmedH vm₁ → Pre ⟨T.setVm vm₁, locs, cells, slots⟩ (Value.ref b :: argsL).toArray) :
    ∃ (v : Option Value) (vm₁ : Vm) (B : Pt), s.WarmedH vm₁ ∧ Stand p l e R s m args below meth c B.U B.locs B.cells B.slots ∧ Post ⟨T.setVm vm₁, locs, cells, slots⟩ (Value.ref b :: argsL).toArray v B ∧
      ∀ target, Steps p.tables e below (B.U.setTop { g with pc := g.pc + 3, stack := v.toList ++ rest }) target → Steps p.tables e below (T.setTop g) target := by
  obtain ⟨mk, methM, hnamed, hmethM, hstM, habM⟩ := Cond.instanceMethod_spec hinst
  obtain ⟨m8, methM', cM, hn8, hmethM', -, -, -, -, -, -, hsigM⟩ := Cond.codeWith_spec hcode
  cases Option.some.inj (hn8.symm.trans hnamed)
  cases hmethM.symm.trans hmethM'
  obtain ⟨c2, r2, m2, q1, q2, q3, q4, kP, hkP, hkPi⟩ := Cond.selects_spec hsel
  cases hcls.symm.trans q1
  cases (State.methodFound?_of_named hnamed hy).symm.trans q2
  cases hnamed.symm.trans q3
  have hselP : selectMethod e.platform s.vm cellB.cls mk = .method mk := by rw [Launch.admits_selectMethod X.admits]; exact q4
  obtain ⟨vm₁, X₁, hstep₁⟩ := X.invokevirtual hexec hown hlink hnamed hmethM hstM hkP hkPi hy (a := b) (cell := cellB) hcell
    (fun z h => by rw [h] at hobj; cases hobj) hselP hmethM habM hkP hkPi (g := g) hg (argsL := argsL) (rest := rest) (hlen _ hsigM) hstack hdg
  obtain ⟨v, B, X', hpost, hsteps⟩ := hK m meth c ⟨T.setVm vm₁, locs, cells, slots⟩ { g with stack := rest } (.invokevirtual index) mk (Value.ref b :: argsL).toArray X₁ hg hsize hdg hW (X₁.named hnamed) (hpre vm₁ X₁.warmed)
  exact ⟨v, vm₁, B, X₁.warmed, X', hpost, fun target h => hstep₁ _ fun acts => by rw [doInvoke_state]; exact hsteps.trans h⟩
abbrev vx_CVW (R : Room) (s : State) (args : Array Value) (own C : String) (index : Nat) (y : MethodName) (bytes : ByteArray) (maxL : Nat) (ret : Option FieldType) (hh : List (Nat × Nat × Nat × Nat)) (ws : List Cond) (rm : Room) (mc ms n : Nat) : Prop :=
  (rm.cells = mc ∧ rm.slots = ms ∧ rm.frames + 1 ≤ R.frames ∧ 8 + (maxL + 11) + rm.locals ≤ R.locals ∧ (∀ w ∈ ws, ∀ (a' : Array Value) (U : State), s.WarmedH U.vm → w.before a' U = true) ∧ Cond.codeWith y bytes maxL ret hh ∈ ws) ∧
  (Cond.codeWith y bytes maxL ret hh).before args s = true ∧ (Cond.initialized y.cls).before args s = true ∧ (y.cls ≠ "java/lang/invoke/MethodHandle" ∧ y.cls ≠ "java/lang/invoke/VarHandle") ∧
  (∀ sig, parseMethodDescriptor y.desc = some sig → n = sig.parameters.length) ∧ (Cond.methodLink own index y).before args s = true ∧ (Cond.instanceMethod y).before args s = true ∧ (Cond.selects C y y).before args s = true
theorem vx_cwVW {own C : String} {index maxL mc ms : Nat} {y : MethodName} {bytes : ByteArray} {ret : Option FieldType} {hh : List (Nat × Nat × Nat × Nat)} {Ts ws ws' : List Cond} {rm : Room} (n : Nat) (ht : ∀ w ∈ Ts, w.before args s = true) (hT : GoodIn Ts (wsV own index C y ws)) (hw : ws = Cond.codeWith y bytes maxL ret hh :: ws') (hrc : rm.cells = mc) (hrs : rm.slots = ms)
    (hd : y.cls = C ∧ y.cls ≠ "java/lang/invoke/MethodHandle" ∧ y.cls ≠ "java/lang/invoke/VarHandle" ∧ (parseMethodDescriptor y.desc).map (fun d => d.parameters.length) = some n) (hR : rm.frames + 1 ≤ R.frames ∧ 8 + (maxL + 11) + rm.locals ≤ R.locals) :
    vx_CVW R s args own C index y bytes maxL ret hh ws rm mc ms n := by
  obtain ⟨hC, hd⟩ := hd
  subst hC
  have ok : ∀ w ∈ wsV own index y.cls y ws, w.before args s = true := fun w h => ht w (hT w h).1
  have hG : GoodIn Ts ws := fun w h => hT w (by unfold wsV; exact List.mem_append_right _ h)
  have hc : Cond.codeWith y bytes maxL ret hh ∈ ws := by rw [hw]; exact List.mem_cons_self
  refine ⟨⟨hrc, hrs, hR.1, hR.2, pay_in ht hG, hc⟩, ht _ (hG _ hc).1, ok _ (by simp [wsV]), ⟨hd.1, hd.2.1⟩, fun sig h => ?_, ok _ (by simp [wsV]), ok _ (by simp [wsV]), ok _ (by simp [wsV])⟩
  have h2 := hd.2.2
  rw [h] at h2
  exact (Option.some.inj h2).symm
theorem vx_runVW {y : MethodName} {bytes cc : ByteArray} {maxL nL mc ms n index : Nat} {ret : Option FieldType} {hh : List (Nat × Nat × Nat × Nat)} {ws : List Cond} {rm : Room} {Pc : Array Value → State → Prop} {Qc : Array Value → State → Outcome → State → Prop} {free : Addr → Prop} {Ts : List Cond} {own C : String} {b : Addr} {As rest : List Value} {g : JFrame}
    (S : CallFix p m c cc nL s args Ts own) (hM : Met l y ws rm Pc Qc mc ms free) (cw : vx_CVW R s args own C index y bytes maxL ret hh ws rm mc ms n) (hp : PreV s H C b Pc As)
    (hg : g.method = m) (hn : As.length = n) (hsize : g.locals.size = nL) (hstack : g.stack = As.reverse ++ .ref b :: rest) (hW : 2 * g.monitorRoom + (rest.map fun v => v.category).sum ≤ 8) (hdg : decode cc g.pc = .ok (.invokevirtual index, 3)) (hf : cells + mc ≤ R.cells ∧ slots + ms ≤ R.slots) :
    va_Run p l e R s m args below meth c H locs cells slots mc ms g rest (Qc (Value.ref b :: As).toArray) free := by
  obtain ⟨⟨hrc, hrs, hfr, hlo, hws, hcw⟩, hcode, hini, hy, hlen, hl, hin, hse⟩ := cw
  have hK : Back l R p e below s args y 3 8 (PreOf R mc ms Pc) (PostOf Qc mc ms free) := va_backW (hh := hh) (bytes := bytes) (maxL := maxL) (ret := ret) hM hp.1 hrc hrs hfr hlo hws hcw (fun a' U hW => word_at hW (Or.inl (by first | rfl | simp [Cond.onTables, Cond.keeps, Cond.steady])) hini)
  obtain ⟨hx, hb, hml, ho, -⟩ := S
  obtain ⟨-, ⟨cellB, hcB, hoB, hclB⟩, hPc⟩ := hp
  intro T hT X
  obtain ⟨v, vm₁, ⟨U', l2, c2, s2⟩, hW₁, X', ⟨g', mk, t, L, e1, e2, hq, h1, hL, h2, h3⟩, st⟩ := vx_callVW X hx (C := C) (hh := hh) (bytes := bytes) (maxL := maxL) (ret := ret) ho hl hin hse hcode hy hK (by rw [hT]; exact hcB) hoB hclB hg (hsize.trans hml.symm) (argsL := As) (rest := rest) (fun sig h => hn.trans (hlen sig h)) hstack hW (by rw [hb]; exact hdg)
    (fun vm₁ hW₁ => ⟨hf.1, hf.2, hPc (T.setVm vm₁) hT hW₁⟩)
  dsimp only [Pt.U, Pt.locs, Pt.cells, Pt.slots] at X' e1 e2 h1 h2 h3 st
  subst h1; subst h2; subst h3
  exact ⟨v, (T.setVm vm₁).calling g' mk (Value.ref b :: As).toArray, t, U', L, hT, X', hL, e1, e2, hq, st⟩
section
variable {y : MethodName} {bytes cc : ByteArray} {maxL nL mc ms n index : Nat} {ret : Option FieldType} {ws : List Cond} {rm : Room} {Pc : Array Value → State → Prop} {Qc : Array Value → State → Outcome → State → Prop} {XC : String → State → State → Prop} {free : Addr → Prop} {Ts : List Cond} {own C : String} {b : Addr} {As rest : List Value} {g : JFrame}
theorem vx_runVX {hh : List (Nat × Nat × Nat × Nat)} (S : CallFix p m c cc nL s args Ts own) (hM : vx_Met l y ws rm Pc Qc XC mc ms free) (cw : vx_CVW R s args own C index y bytes maxL ret hh ws rm mc ms n) (hp : PreV s H C b Pc As)
    (hg : g.method = m) (hn : As.length = n) (hsize : g.locals.size = nL) (hstack : g.stack = As.reverse ++ .ref b :: rest) (hW : 2 * g.monitorRoom + (rest.map fun v => v.category).sum ≤ 8) (hdg : decode cc g.pc = .ok (.invokevirtual index, 3)) (hf : cells + mc ≤ R.cells ∧ slots + ms ≤ R.slots) :
    vx_Run p l e R s m args below meth c H locs cells slots mc ms g rest (Qc (Value.ref b :: As).toArray) XC free := by
  obtain ⟨⟨hrc, hrs, hfr, hlo, hws, hcw⟩, hcode, hini, hy, hlen, hl, hin, hse⟩ := cw
  have hK : vx_Back l R p e below s args y 3 8 (PreOf R mc ms Pc) (PostOf Qc mc ms free) (vx_Post XC mc ms free) := vx_backW (hh := hh) (bytes := bytes) (maxL := maxL) (ret := ret) hM hp.1 hrc hrs hfr hlo hws hcw (fun a' U hW => word_at hW (Or.inl (by first | rfl | simp [Cond.onTables, Cond.keeps, Cond.steady])) hini)
  obtain ⟨hx, hb, hml, ho, -⟩ := S
  obtain ⟨-, ⟨cellB, hcB, hoB, hclB⟩, hPc⟩ := hp
  intro T hT X
  rcases vx_callVX X hx (C := C) (hh := hh) (bytes := bytes) (maxL := maxL) (ret := ret) ho hl hin hse hcode hy hK (by rw [hT]; exact hcB) hoB hclB hg (hsize.trans hml.symm) (argsL := As) (rest := rest) (fun sig h => hn.trans (hlen sig h)) hstack hW (by rw [hb]; exact hdg)
    (fun vm₁ hW₁ => ⟨hf.1, hf.2, hPc (T.setVm vm₁) hT hW₁⟩) with ⟨v, vm₁, ⟨U', l2, c2, s2⟩, hW₁, X', ⟨g', mk, t, L, e1, e2, hq, h1, hL, h2, h3⟩, st⟩ | ⟨q, vm₁, ⟨U', l2, c2, s2⟩, hW₁, X', ⟨g', mk, t, L, E, ce, e1, e2, hq, hce, hcv, hcl, h1, hL, h2, h3⟩, st⟩
  · dsimp only [Pt.U, Pt.locs, Pt.cells, Pt.slots] at X' e1 e2 h1 h2 h3 st
    subst h1; subst h2; subst h3
    exact Or.inl ⟨v, (T.setVm vm₁).calling g' mk (Value.ref b :: As).toArray, t, U', L, hT, X', hL, e1, e2, hq, st⟩
  · dsimp only [Pt.U, Pt.locs, Pt.cells, Pt.slots] at X' e1 e2 h1 h2 h3 st hcl
    subst h1; subst h2; subst h3
    exact Or.inr ⟨q, (T.setVm vm₁).calling g' mk (Value.ref b :: As).toArray, t, U', L, E, ce, hT, X', hL, e1, e2, hq, hce, hcv, vx_cls hW₁ hcl, st⟩
theorem vx_runSX {hh : List (Nat × Nat × Nat × Nat)} (S : CallFix p m c cc nL s args Ts own) (hM : vx_Met l y ws rm Pc Qc XC mc ms free) (cw : vx_CSW R s args own index y bytes maxL ret hh ws rm mc ms n) (hp : PreS s H Pc As)
    (hg : g.method = m) (hn : As.length = n) (hsize : g.locals.size = nL) (hstack : g.stack = As.reverse ++ rest) (hW : 2 * g.monitorRoom + (rest.map fun v => v.category).sum ≤ 8) (hdg : decode cc g.pc = .ok (.invokestatic index, 3)) (hf : cells + mc ≤ R.cells ∧ slots + ms ≤ R.slots) :
    vx_Run p l e R s m args below meth c H locs cells slots mc ms g rest (Qc As.toArray) XC free := by
  obtain ⟨⟨hrc, hrs, hfr, hlo, hws, hcw⟩, hcode, hini, hy, hlen, hl, hstt⟩ := cw
  have hK : vx_Back l R p e below s args y 3 8 (PreOf R mc ms Pc) (PostOf Qc mc ms free) (vx_Post XC mc ms free) := vx_backW (hh := hh) (bytes := bytes) (maxL := maxL) (ret := ret) hM hp.1 hrc hrs hfr hlo hws hcw (fun a' U hW => word_at hW (Or.inl (by first | rfl | simp [Cond.onTables, Cond.keeps, Cond.steady])) hini)
  obtain ⟨hx, hb, hml, ho, -⟩ := S
  intro T hT X
  rcases vx_callSX X hx (hh := hh) (bytes := bytes) (maxL := maxL) (ret := ret) ho hl hstt hini hcode hy hK hg (hsize.trans hml.symm) (argsL := As) (rest := rest) (fun sig h => hn.trans (hlen sig h)) hstack hW (by rw [hb]; exact hdg)
    (fun vm₁ hW₁ => ⟨hf.1, hf.2, hp.2 (T.setVm vm₁) hT hW₁⟩) with ⟨v, vm₁, ⟨U', l2, c2, s2⟩, hW₁, X', ⟨g', mk, t, L, e1, e2, hq, h1, hL, h2, h3⟩, st⟩ | ⟨q, vm₁, ⟨U', l2, c2, s2⟩, hW₁, X', ⟨g', mk, t, L, E, ce, e1, e2, hq, hce, hcv, hcl, h1, hL, h2, h3⟩, st⟩
  · dsimp only [Pt.U, Pt.locs, Pt.cells, Pt.slots] at X' e1 e2 h1 h2 h3 st
    subst h1; subst h2; subst h3
    exact Or.inl ⟨v, (T.setVm vm₁).calling g' mk As.toArray, t, U', L, hT, X', hL, e1, e2, hq, st⟩
  · dsimp only [Pt.U, Pt.locs, Pt.cells, Pt.slots] at X' e1 e2 h1 h2 h3 st hcl
    subst h1; subst h2; subst h3
    exact Or.inr ⟨q, (T.setVm vm₁).calling g' mk As.toArray, t, U', L, E, ce, hT, X', hL, e1, e2, hq, hce, hcv, vx_cls hW₁ hcl, st⟩
end
end VXH
theorem vx_ofWH {l : Launch} {y : MethodName} {ws ws' : List Cond} {rm : Room} {Pc : Array Value → State → Prop} {Qc : Array Value → State → Outcome → State → Prop} {XC : String → State → State → Prop} {mc ms : Nat} {free : Addr → Prop} {cc : ByteArray} {maxL : Nat} {ret : Option FieldType} {hh : List (Nat × Nat × Nat × Nat)}
    (hy : plainName y.cls = true) (hw : ws = Cond.codeWith y cc maxL ret hh :: ws')
    (body : ∀ p e s m args below meth c s₁, BodyLoose p l y (headSpec ws rm) cc maxL ret e s m args below meth c s₁ → c.maxLocals = maxL → Pc args s →
      W p l e (headSpec ws rm).room s m args below meth c s.heap [] 0 0 (vx_MQ below Qc XC args s mc ms free) (entryFrame m args maxL)) : vx_Met l y ws rm Pc Qc XC mc ms free := by
  refine MetFree.of_bodyS (code := cc) (maxLocals := maxL) (ret := ret) hy ?_ ?_
  · intro args s m h hn
    obtain ⟨m9, meth, c, hn9, h1, h2, h3, h4, -, h5, h6, -⟩ := Cond.codeWith_spec (atoms_spec (ws := ws) h _ (by rw [hw]; exact List.mem_cons_self))
    cases hn.symm.trans hn9
    exact ⟨meth, c, h1, h2, h3, h4, h5, h6⟩
  · intro p e s m args below meth c s₁ B hml hP _
    have hh0 : s₁.heap = s.heap := by rw [B.state]; rfl
    obtain ⟨t, a1, o, b1, b2, b3⟩ := body p e s m args below meth c s₁ B hml hP s₁ hh0 (Stand.of_body B)
    exact ⟨t, o, a1, b1, b2, b3⟩
/-! ===== END ===== -/
end
section
/-! ===== BEGIN printed: names, fields, word lists, decode rows ===== -/
def RX0 : String := "HeatGuild$Boiler"
def TX0 : u_T := fun k => match k with
  | 0 => ("HeatGuild$Boiler", "number", "I", true)
  | 1 => ("HeatGuild$Boiler", "steps", "I", true)
  | 2 => ("HeatGuild$Boiler", "power", "I", true)
  | 3 => ("HeatGuild$Boiler", "price", "I", true)
  | 4 => ("HeatGuild$Boiler", "firedSteps", "I", false)
  | _ => ("HeatGuild$Boiler", "next", "LHeatGuild$Boiler;", false)
def tyX0 : Nat → FieldType := fun k => match k with
  | 0 => .int
  | 1 => .int
  | 2 => .int
  | 3 => .int
  | 4 => .int
  | _ => .object "HeatGuild$Boiler"
abbrev wsX00 : List Cond := u_ws RX0 TX0 6
theorem nmX0 : ∀ a, a < 6 → ∀ b, b < 6 → a ≠ b → (TX0 a).2.1 ≠ (TX0 b).2.1 := by decide +kernel
theorem tyX0_ok : ∀ k, k < 6 → parseFieldDescriptor (TX0 k).2.2.1 = some (tyX0 k) := by decide +kernel
abbrev cX0_init : ByteArray := prog_2_method_1_code
def yX0_init : MethodName := ⟨RX0, "<init>", "(IIII)V"⟩
abbrev cX0_fireFor : ByteArray := prog_2_method_2_code
def yX0_fireFor : MethodName := ⟨RX0, "fireFor", "(I)I"⟩
def RX1 : String := "HeatGuild$Meters"
def TX1 : u_T := fun k => match k with
  | 0 => ("HeatGuild$Meters", "error", "[I", true)
  | 1 => ("HeatGuild$Meters", "told", "[I", true)
  | 2 => ("HeatGuild$Meters", "suspected", "[Z", true)
  | 3 => ("HeatGuild$Meters", "flow", "[I", true)
  | _ => ("HeatGuild$Meters", "accounted", "[I", true)
def tyX1 : Nat → FieldType := fun k => match k with
  | 0 => .array .int
  | 1 => .array .int
  | 2 => .array .boolean
  | 3 => .array .int
  | _ => .array .int
abbrev wsX10 : List Cond := u_ws RX1 TX1 5
theorem nmX1 : ∀ a, a < 5 → ∀ b, b < 5 → a ≠ b → (TX1 a).2.1 ≠ (TX1 b).2.1 := by decide +kernel
theorem tyX1_ok : ∀ k, k < 5 → parseFieldDescriptor (TX1 k).2.2.1 = some (tyX1 k) := by decide +kernel
abbrev cX1_init : ByteArray := prog_3_method_1_code
def yX1_init : MethodName := ⟨RX1, "<init>", "()V"⟩
abbrev cX1_read : ByteArray := prog_3_method_2_code
def yX1_read : MethodName := ⟨RX1, "read", "(LHeatGuild$Net;)V"⟩
def RX2 : String := "HeatGuild$Net"
def TX2 : u_T := fun k => match k with
  | 0 => ("HeatGuild$Net", "source", "[I", true)
  | 1 => ("HeatGuild$Net", "loss", "[I", true)
  | 2 => ("HeatGuild$Net", "area", "[I", true)
  | 3 => ("HeatGuild$Net", "shutHours", "[I", true)
  | 4 => ("HeatGuild$Net", "served", "[I", true)
  | 5 => ("HeatGuild$Net", "heated", "[Z", true)
  | 6 => ("HeatGuild$Net", "carries", "[Z", true)
  | 7 => ("HeatGuild$Net", "demand", "[I", true)
  | _ => ("HeatGuild$Net", "surveyedLosses", "I", false)
def tyX2 : Nat → FieldType := fun k => match k with
  | 0 => .array .int
  | 1 => .array .int
  | 2 => .array .int
  | 3 => .array .int
  | 4 => .array .int
  | 5 => .array .boolean
  | 6 => .array .boolean
  | 7 => .array .int
  | _ => .int
abbrev wsX20 : List Cond := u_ws RX2 TX2 9
theorem nmX2 : ∀ a, a < 9 → ∀ b, b < 9 → a ≠ b → (TX2 a).2.1 ≠ (TX2 b).2.1 := by decide +kernel
theorem tyX2_ok : ∀ k, k < 9 → parseFieldDescriptor (TX2 k).2.2.1 = some (tyX2 k) := by decide +kernel
abbrev cX2_init : ByteArray := prog_4_method_1_code
def yX2_init : MethodName := ⟨RX2, "<init>", "()V"⟩
abbrev cX2_survey : ByteArray := prog_4_method_2_code
def yX2_survey : MethodName := ⟨RX2, "survey", "(I)I"⟩
abbrev cX2_markHeated : ByteArray := prog_4_method_3_code
def yX2_markHeated : MethodName := ⟨RX2, "markHeated", "()V"⟩
abbrev cX2_markCarries : ByteArray := prog_4_method_4_code
def yX2_markCarries : MethodName := ⟨RX2, "markCarries", "()V"⟩
abbrev cX2_carriedLoss : ByteArray := prog_4_method_5_code
def yX2_carriedLoss : MethodName := ⟨RX2, "carriedLoss", "(I)I"⟩
abbrev cX2_serve : ByteArray := prog_4_method_6_code
def yX2_serve : MethodName := ⟨RX2, "serve", "(I)V"⟩
abbrev cX2_countHousesWithoutHeat : ByteArray := prog_4_method_7_code
def yX2_countHousesWithoutHeat : MethodName := ⟨RX2, "countHousesWithoutHeat", "()I"⟩
abbrev cX2_endHourOfRepairs : ByteArray := prog_4_method_8_code
def yX2_endHourOfRepairs : MethodName := ⟨RX2, "endHourOfRepairs", "()V"⟩
def RX3 : String := "HeatGuild$Plant"
def TX3 : u_T := fun k => match k with
  | 0 => ("HeatGuild$Plant", "first", "LHeatGuild$Boiler;", false)
  | 1 => ("HeatGuild$Plant", "count", "I", false)
  | 2 => ("HeatGuild$Plant", "allPower", "I", false)
  | _ => ("HeatGuild$Plant", "spent", "I", false)
def tyX3 : Nat → FieldType := fun k => match k with
  | 0 => .object "HeatGuild$Boiler"
  | 1 => .int
  | 2 => .int
  | _ => .int
abbrev wsX30 : List Cond := u_ws RX3 TX3 4
theorem nmX3 : ∀ a, a < 4 → ∀ b, b < 4 → a ≠ b → (TX3 a).2.1 ≠ (TX3 b).2.1 := by decide +kernel
theorem tyX3_ok : ∀ k, k < 4 → parseFieldDescriptor (TX3 k).2.2.1 = some (tyX3 k) := by decide +kernel
abbrev cX3_init : ByteArray := prog_5_method_1_code
def yX3_init : MethodName := ⟨RX3, "<init>", "()V"⟩
abbrev cX3_add : ByteArray := prog_5_method_2_code
def yX3_add : MethodName := ⟨RX3, "add", "(III)I"⟩
abbrev cX3_lastFiredBefore : ByteArray := prog_5_method_3_code
def yX3_lastFiredBefore : MethodName := ⟨RX3, "lastFiredBefore", "(I)LHeatGuild$Boiler;"⟩
abbrev cX3_find : ByteArray := prog_5_method_4_code
def yX3_find : MethodName := ⟨RX3, "find", "(I)LHeatGuild$Boiler;"⟩
abbrev cX3_fire : ByteArray := prog_5_method_5_code
def yX3_fire : MethodName := ⟨RX3, "fire", "(I)V"⟩
def RX4 : String := "HeatGuild"
def TX4 : u_T := fun k => match k with
  | 0 => ("HeatGuild", "net", "LHeatGuild$Net;", true)
  | 1 => ("HeatGuild", "plant", "LHeatGuild$Plant;", true)
  | 2 => ("HeatGuild", "meters", "LHeatGuild$Meters;", true)
  | 3 => ("HeatGuild", "billed", "[I", true)
  | 4 => ("HeatGuild", "passedHours", "I", false)
  | 5 => ("HeatGuild", "lastTemperature", "I", false)
  | _ => ("HeatGuild", "lastLosses", "I", false)
def tyX4 : Nat → FieldType := fun k => match k with
  | 0 => .object "HeatGuild$Net"
  | 1 => .object "HeatGuild$Plant"
  | 2 => .object "HeatGuild$Meters"
  | 3 => .array .int
  | 4 => .int
  | 5 => .int
  | _ => .int
abbrev wsX40 : List Cond := u_ws RX4 TX4 7
theorem nmX4 : ∀ a, a < 7 → ∀ b, b < 7 → a ≠ b → (TX4 a).2.1 ≠ (TX4 b).2.1 := by decide +kernel
theorem tyX4_ok : ∀ k, k < 7 → parseFieldDescriptor (TX4 k).2.2.1 = some (tyX4 k) := by decide +kernel
abbrev cX4_init : ByteArray := prog_1_method_1_code
def yX4_init : MethodName := ⟨RX4, "<init>", "()V"⟩
abbrev cX4_feed : ByteArray := prog_1_method_2_code
def yX4_feed : MethodName := ⟨RX4, "feed", "(III)I"⟩
abbrev cX4_setArea : ByteArray := prog_1_method_3_code
def yX4_setArea : MethodName := ⟨RX4, "setArea", "(II)I"⟩
abbrev cX4_addBoiler : ByteArray := prog_1_method_4_code
def yX4_addBoiler : MethodName := ⟨RX4, "addBoiler", "(III)I"⟩
abbrev cX4_setError : ByteArray := prog_1_method_5_code
def yX4_setError : MethodName := ⟨RX4, "setError", "(II)I"⟩
abbrev cX4_repair : ByteArray := prog_1_method_6_code
def yX4_repair : MethodName := ⟨RX4, "repair", "(II)I"⟩
abbrev cX4_hour : ByteArray := prog_1_method_7_code
def yX4_hour : MethodName := ⟨RX4, "hour", "(I)I"⟩
abbrev cX4_hours : ByteArray := prog_1_method_8_code
def yX4_hours : MethodName := ⟨RX4, "hours", "()I"⟩
abbrev cX4_load : ByteArray := prog_1_method_9_code
def yX4_load : MethodName := ⟨RX4, "load", "(I)I"⟩
abbrev cX4_fired : ByteArray := prog_1_method_10_code
def yX4_fired : MethodName := ⟨RX4, "fired", "(I)I"⟩
abbrev cX4_got : ByteArray := prog_1_method_11_code
def yX4_got : MethodName := ⟨RX4, "got", "(I)I"⟩
abbrev cX4_meter : ByteArray := prog_1_method_12_code
def yX4_meter : MethodName := ⟨RX4, "meter", "(I)I"⟩
abbrev cX4_isSuspected : ByteArray := prog_1_method_13_code
def yX4_isSuspected : MethodName := ⟨RX4, "isSuspected", "(I)Z"⟩
abbrev cX4_losses : ByteArray := prog_1_method_14_code
def yX4_losses : MethodName := ⟨RX4, "losses", "()I"⟩
abbrev cX4_bill : ByteArray := prog_1_method_15_code
def yX4_bill : MethodName := ⟨RX4, "bill", "(I)I"⟩
abbrev cX4_cost : ByteArray := prog_1_method_16_code
def yX4_cost : MethodName := ⟨RX4, "cost", "()I"⟩
abbrev cX4_isOpen : ByteArray := prog_1_method_17_code
def yX4_isOpen : MethodName := ⟨RX4, "isOpen", "(I)Z"⟩
abbrev cX4_isPeak : ByteArray := prog_1_method_18_code
def yX4_isPeak : MethodName := ⟨RX4, "isPeak", "(I)Z"⟩
abbrev cX4_charge : ByteArray := prog_1_method_19_code
def yX4_charge : MethodName := ⟨RX4, "charge", "(IZ)V"⟩
abbrev cX4_requireTemperature : ByteArray := prog_1_method_20_code
def yX4_requireTemperature : MethodName := ⟨RX4, "requireTemperature", "(I)V"⟩
abbrev cX4_isHouse : ByteArray := prog_1_method_21_code
def yX4_isHouse : MethodName := ⟨RX4, "isHouse", "(I)Z"⟩
abbrev cX4_isWithin : ByteArray := prog_1_method_22_code
def yX4_isWithin : MethodName := ⟨RX4, "isWithin", "(III)Z"⟩
abbrev cX4_wantedHeat : ByteArray := prog_1_method_23_code
def yX4_wantedHeat : MethodName := ⟨RX4, "wantedHeat", "(II)I"⟩
def RX5 : String := "HeatGuildModel"
def TX5 : u_T := fun k => match k with
  | _ => ("", "", "", false)
def tyX5 : Nat → FieldType := fun k => match k with
  | _ => .int
abbrev wsX50 : List Cond := u_ws RX5 TX5 0
theorem nmX5 : ∀ a, a < 0 → ∀ b, b < 0 → a ≠ b → (TX5 a).2.1 ≠ (TX5 b).2.1 := by decide +kernel
theorem tyX5_ok : ∀ k, k < 0 → parseFieldDescriptor (TX5 k).2.2.1 = some (tyX5 k) := by decide +kernel
def RJ9 : String := "java/lang/Math"
def TJ9 : u_T := fun k => match k with
  | _ => ("", "", "", false)
def tyJ9 : Nat → FieldType := fun k => match k with
  | _ => .int
abbrev wsJ90 : List Cond := u_ws RJ9 TJ9 0
theorem nmJ9 : ∀ a, a < 0 → ∀ b, b < 0 → a ≠ b → (TJ9 a).2.1 ≠ (TJ9 b).2.1 := by decide +kernel
theorem tyJ9_ok : ∀ k, k < 0 → parseFieldDescriptor (TJ9 k).2.2.1 = some (tyJ9 k) := by decide +kernel
abbrev cJ9_max_7cf53 : ByteArray := prog_12_method_65_code
def yJ9_max_7cf53 : MethodName := ⟨RJ9, "max", "(II)I"⟩
abbrev cJ9_min_7cf53 : ByteArray := prog_12_method_69_code
def yJ9_min_7cf53 : MethodName := ⟨RJ9, "min", "(II)I"⟩
def RJ0 : String := "java/lang/String"
def TJ0 : u_T := fun k => match k with
  | _ => ("", "", "", false)
def tyJ0 : Nat → FieldType := fun k => match k with
  | _ => .int
abbrev wsJ00 : List Cond := u_ws RJ0 TJ0 0
theorem nmJ0 : ∀ a, a < 0 → ∀ b, b < 0 → a ≠ b → (TJ0 a).2.1 ≠ (TJ0 b).2.1 := by decide +kernel
theorem tyJ0_ok : ∀ k, k < 0 → parseFieldDescriptor (TJ0 k).2.2.1 = some (tyJ0 k) := by decide +kernel
def RL : String := "HeatGuildLaw"
abbrev cL_draw : ByteArray := method_2_code
def yL_draw : MethodName := ⟨RL, "draw", "([II)I"⟩
abbrev cL_step : ByteArray := method_3_code
def yL_step : MethodName := ⟨RL, "step", "(LHeatGuild;[I[I[IIII)Z"⟩
abbrev cL_hasHeat : ByteArray := method_4_code
def yL_hasHeat : MethodName := ⟨RL, "hasHeat", "(LHeatGuild;[II)Z"⟩
abbrev cL_demand : ByteArray := method_5_code
def yL_demand : MethodName := ⟨RL, "demand", "(LHeatGuild;[III)I"⟩
abbrev cL_repairs : ByteArray := method_6_code
def yL_repairs : MethodName := ⟨RL, "repairs", "(LHeatGuild;[III)Z"⟩
abbrev cL_isOnWay : ByteArray := method_7_code
def yL_isOnWay : MethodName := ⟨RL, "isOnWay", "([III)Z"⟩
abbrev cL_hours : ByteArray := method_8_code
def yL_hours : MethodName := ⟨RL, "hours", "(LHeatGuild;[I[I[II)Z"⟩
abbrev cL_areMetered : ByteArray := method_9_code
def yL_areMetered : MethodName := ⟨RL, "areMetered", "(LHeatGuild;[I[II)Z"⟩
abbrev cL_areFired : ByteArray := method_10_code
def yL_areFired : MethodName := ⟨RL, "areFired", "(LHeatGuild;[I[II)Z"⟩
abbrev cL_areBills : ByteArray := method_11_code
def yL_areBills : MethodName := ⟨RL, "areBills", "(LHeatGuild;[I)Z"⟩
abbrev cL_law : ByteArray := code
def yL_law : MethodName := ⟨RL, "law", "([I)Z"⟩
def wsX0_init : List Cond := .code yX0_init cX0_init 5 none :: ([.methodLink RX0 1 objectInit, .instanceMethod objectInit, .code objectInit ⟨#[0xb1]⟩ 1 none, .fieldLink RX0 7 "HeatGuild$Boiler" "number" "I", .fieldLink RX0 13 "HeatGuild$Boiler" "steps" "I", .fieldLink RX0 16 "HeatGuild$Boiler" "power" "I", .fieldLink RX0 19 "HeatGuild$Boiler" "price" "I"] ++ wsX00)
def wsX0_fireFor : List Cond := .code yX0_fireFor cX0_fireFor 2 (some .int) :: ([.fieldLink RX0 22 "HeatGuild$Boiler" "firedSteps" "I", .fieldLink RX0 13 "HeatGuild$Boiler" "steps" "I", .fieldLink RX0 16 "HeatGuild$Boiler" "power" "I", .methodLink RX0 25 Lib.Math.min.name, .static Lib.Math.min.name, .initialized "java/lang/Math", .code Lib.Math.min.name Lib.Math.min.code 2 (some .int)] ++ wsX00)
def wsX1_init : List Cond := .code yX1_init cX1_init 1 none :: ([.methodLink RX1 3 objectInit, .instanceMethod objectInit, .code objectInit ⟨#[0xb1]⟩ 1 none, .arrayClass .int, .fieldLink RX1 9 "HeatGuild$Meters" "error" "[I", .fieldLink RX1 15 "HeatGuild$Meters" "told" "[I", .arrayClass .boolean, .fieldLink RX1 18 "HeatGuild$Meters" "suspected" "[Z", .fieldLink RX1 22 "HeatGuild$Meters" "flow" "[I", .fieldLink RX1 25 "HeatGuild$Meters" "accounted" "[I"] ++ wsX10)
def wsX4_isHouse : List Cond := .code yX4_isHouse cX4_isHouse 1 (some .boolean) :: ([])
def wsX2_carriedLoss : List Cond := .code yX2_carriedLoss cX2_carriedLoss 2 (some .int) :: ([.fieldLink RX2 31 "HeatGuild$Net" "carries" "[Z", .fieldLink RX2 15 "HeatGuild$Net" "loss" "[I", .static yX4_isHouse, .initialized RX4, .code yX4_isHouse cX4_isHouse 1 (some .boolean)] ++ wsX20)
def wsX1_read : List Cond := .code yX1_read cX1_read 5 none :: ([.fieldLink RX1 22 "HeatGuild$Meters" "flow" "[I", .fieldLink RX1 25 "HeatGuild$Meters" "accounted" "[I", .fieldLink RX1 15 "HeatGuild$Meters" "told" "[I", .fieldLink RX1 9 "HeatGuild$Meters" "error" "[I", .fieldLink RX1 18 "HeatGuild$Meters" "suspected" "[Z", .static yX4_isHouse, .initialized RX4, .code yX4_isHouse cX4_isHouse 1 (some .boolean), .instanceMethod yX2_carriedLoss, .initialized RX2, .selects RX2 yX2_carriedLoss yX2_carriedLoss, .code yX2_carriedLoss cX2_carriedLoss 2 (some .int), .fieldLink RX2 31 "HeatGuild$Net" "carries" "[Z", .fieldLink RX2 15 "HeatGuild$Net" "loss" "[I"] ++ wsX10 ++ wsX20)
def wsX2_init : List Cond := .code yX2_init cX2_init 2 none :: ([.methodLink RX2 3 objectInit, .instanceMethod objectInit, .code objectInit ⟨#[0xb1]⟩ 1 none, .arrayClass .int, .fieldLink RX2 9 "HeatGuild$Net" "source" "[I", .fieldLink RX2 15 "HeatGuild$Net" "loss" "[I", .fieldLink RX2 18 "HeatGuild$Net" "area" "[I", .fieldLink RX2 21 "HeatGuild$Net" "shutHours" "[I", .fieldLink RX2 24 "HeatGuild$Net" "served" "[I", .arrayClass .boolean, .fieldLink RX2 27 "HeatGuild$Net" "heated" "[Z", .fieldLink RX2 31 "HeatGuild$Net" "carries" "[Z", .fieldLink RX2 34 "HeatGuild$Net" "demand" "[I"] ++ wsX20)
def wsX2_markHeated : List Cond := .code yX2_markHeated cX2_markHeated 4 none :: ([.fieldLink RX2 9 "HeatGuild$Net" "source" "[I", .fieldLink RX2 27 "HeatGuild$Net" "heated" "[Z", .fieldLink RX2 21 "HeatGuild$Net" "shutHours" "[I", .static yX4_isHouse, .initialized RX4, .code yX4_isHouse cX4_isHouse 1 (some .boolean)] ++ wsX20)
def wsX4_wantedHeat : List Cond := .code yX4_wantedHeat cX4_wantedHeat 2 (some .int) :: ([])
def wsX2_markCarries : List Cond := .code yX2_markCarries cX2_markCarries 3 none :: ([.fieldLink RX2 31 "HeatGuild$Net" "carries" "[Z", .fieldLink RX2 34 "HeatGuild$Net" "demand" "[I", .fieldLink RX2 9 "HeatGuild$Net" "source" "[I", .static yX4_isHouse, .initialized RX4, .code yX4_isHouse cX4_isHouse 1 (some .boolean)] ++ wsX20)
def wsX2_survey_r1 : List Cond := [Cond.fieldLink RX2 34 "HeatGuild$Net" "demand" "[I", Cond.fieldLink RX2 27 "HeatGuild$Net" "heated" "[Z", Cond.fieldLink RX2 18 "HeatGuild$Net" "area" "[I", Cond.fieldLink RX2 47 "HeatGuild$Net" "surveyedLosses" "I", Cond.methodLink RX2 37 yX2_markHeated, Cond.instanceMethod yX2_markHeated, Cond.selects RX2 yX2_markHeated yX2_markHeated, Cond.initialized RX2, Cond.code yX2_markHeated cX2_markHeated 4 none, Cond.fieldLink RX2 9 "HeatGuild$Net" "source" "[I", Cond.fieldLink RX2 21 "HeatGuild$Net" "shutHours" "[I", Cond.static yX4_isHouse, Cond.initialized RX4, Cond.code yX4_isHouse cX4_isHouse 1 (some .boolean), Cond.static yX4_wantedHeat, Cond.code yX4_wantedHeat cX4_wantedHeat 2 (some .int), Cond.methodLink RX2 44 yX2_markCarries, Cond.instanceMethod yX2_markCarries, Cond.selects RX2 yX2_markCarries yX2_markCarries, Cond.code yX2_markCarries cX2_markCarries 3 none, Cond.fieldLink RX2 31 "HeatGuild$Net" "carries" "[Z", Cond.methodLink RX2 51 yX2_carriedLoss, Cond.instanceMethod yX2_carriedLoss, Cond.selects RX2 yX2_carriedLoss yX2_carriedLoss]
def wsX2_survey_r2 : List Cond := [Cond.code yX2_carriedLoss cX2_carriedLoss 2 (some .int), Cond.fieldLink RX2 15 "HeatGuild$Net" "loss" "[I"]
def wsX2_survey : List Cond := .code yX2_survey cX2_survey 4 (some .int) :: ((wsX2_survey_r1 ++ wsX2_survey_r2) ++ wsX20)
def wsX2_serve : List Cond := .code yX2_serve cX2_serve 4 none :: ([.fieldLink RX2 47 "HeatGuild$Net" "surveyedLosses" "I", .methodLink RX2 59 Lib.Math.max.name, .static Lib.Math.max.name, .initialized "java/lang/Math", .code Lib.Math.max.name Lib.Math.max.code 2 (some .int), .fieldLink RX2 24 "HeatGuild$Net" "served" "[I", .fieldLink RX2 34 "HeatGuild$Net" "demand" "[I", .methodLink RX2 64 Lib.Math.min.name, .static Lib.Math.min.name, .code Lib.Math.min.name Lib.Math.min.code 2 (some .int)] ++ wsX20)
def wsX2_countHousesWithoutHeat : List Cond := .code yX2_countHousesWithoutHeat cX2_countHousesWithoutHeat 3 (some .int) :: ([.fieldLink RX2 18 "HeatGuild$Net" "area" "[I", .fieldLink RX2 27 "HeatGuild$Net" "heated" "[Z", .methodLink RX2 37 yX2_markHeated, .instanceMethod yX2_markHeated, .selects RX2 yX2_markHeated yX2_markHeated, .initialized RX2, .code yX2_markHeated cX2_markHeated 4 none, .fieldLink RX2 9 "HeatGuild$Net" "source" "[I", .fieldLink RX2 21 "HeatGuild$Net" "shutHours" "[I", .static yX4_isHouse, .initialized RX4, .code yX4_isHouse cX4_isHouse 1 (some .boolean)] ++ wsX20)
def wsX2_endHourOfRepairs : List Cond := .code yX2_endHourOfRepairs cX2_endHourOfRepairs 2 none :: ([.fieldLink RX2 21 "HeatGuild$Net" "shutHours" "[I"] ++ wsX20)
def wsX3_init : List Cond := .code yX3_init cX3_init 1 none :: ([.methodLink RX3 1 objectInit, .instanceMethod objectInit, .code objectInit ⟨#[0xb1]⟩ 1 none])
def wsX3_lastFiredBefore : List Cond := .code yX3_lastFiredBefore cX3_lastFiredBefore 4 (some (.object "HeatGuild$Boiler")) :: ([.fieldLink RX3 22 "HeatGuild$Plant" "first" "LHeatGuild$Boiler;"] ++ wsX30 ++ wsX00)
def wsX3_add : List Cond := .code yX3_add cX3_add 6 (some .int) :: ([.classLink RX3 7 RX0, .instantiable RX0 6, .initialized RX0, .fieldLink RX3 9 "HeatGuild$Plant" "count" "I", .fieldLink RX3 22 "HeatGuild$Plant" "first" "LHeatGuild$Boiler;", .fieldLink RX3 29 "HeatGuild$Plant" "allPower" "I", .instanceMethod yX0_init, .code yX0_init cX0_init 5 none, .methodLink RX0 1 objectInit, .instanceMethod objectInit, .code objectInit ⟨#[0xb1]⟩ 1 none, .fieldLink RX0 7 "HeatGuild$Boiler" "number" "I", .fieldLink RX0 13 "HeatGuild$Boiler" "steps" "I", .fieldLink RX0 16 "HeatGuild$Boiler" "power" "I", .fieldLink RX0 19 "HeatGuild$Boiler" "price" "I", .methodLink RX3 18 yX3_lastFiredBefore, .instanceMethod yX3_lastFiredBefore, .selects RX3 yX3_lastFiredBefore yX3_lastFiredBefore, .initialized RX3, .code yX3_lastFiredBefore cX3_lastFiredBefore 4 (some (.object "HeatGuild$Boiler"))] ++ wsX00 ++ wsX30)
def wsX3_find : List Cond := .code yX3_find cX3_find 3 (some (.object "HeatGuild$Boiler")) :: ([.fieldLink RX3 22 "HeatGuild$Plant" "first" "LHeatGuild$Boiler;"] ++ wsX30 ++ wsX00)
def wsX3_fire : List Cond := .code yX3_fire cX3_fire 5 none :: ([.fieldLink RX3 22 "HeatGuild$Plant" "first" "LHeatGuild$Boiler;", .fieldLink RX3 42 "HeatGuild$Plant" "spent" "I", .instanceMethod yX0_fireFor, .initialized RX0, .selects RX0 yX0_fireFor yX0_fireFor, .code yX0_fireFor cX0_fireFor 2 (some .int), .fieldLink RX0 22 "HeatGuild$Boiler" "firedSteps" "I", .fieldLink RX0 13 "HeatGuild$Boiler" "steps" "I", .fieldLink RX0 16 "HeatGuild$Boiler" "power" "I", .methodLink RX0 25 Lib.Math.min.name, .static Lib.Math.min.name, .initialized "java/lang/Math", .code Lib.Math.min.name Lib.Math.min.code 2 (some .int)] ++ wsX30 ++ wsX00)
def wsX4_init_r1 : List Cond := [Cond.methodLink RX4 1 objectInit, Cond.instanceMethod objectInit, Cond.code objectInit ⟨#[0xb1]⟩ 1 none, Cond.classLink RX4 7 RX2, Cond.instantiable RX2 9, Cond.initialized RX2, Cond.fieldLink RX4 10 "HeatGuild" "net" "LHeatGuild$Net;", Cond.classLink RX4 16 RX3, Cond.instantiable RX3 4, Cond.initialized RX3, Cond.fieldLink RX4 19 "HeatGuild" "plant" "LHeatGuild$Plant;", Cond.classLink RX4 23 RX1, Cond.instantiable RX1 5, Cond.initialized RX1, Cond.fieldLink RX4 26 "HeatGuild" "meters" "LHeatGuild$Meters;", Cond.arrayClass .int, Cond.fieldLink RX4 30 "HeatGuild" "billed" "[I", Cond.instanceMethod yX2_init, Cond.code yX2_init cX2_init 2 none, Cond.methodLink RX2 3 objectInit, Cond.fieldLink RX2 9 "HeatGuild$Net" "source" "[I", Cond.fieldLink RX2 15 "HeatGuild$Net" "loss" "[I", Cond.fieldLink RX2 18 "HeatGuild$Net" "area" "[I", Cond.fieldLink RX2 21 "HeatGuild$Net" "shutHours" "[I"]
def wsX4_init_r2 : List Cond := [Cond.fieldLink RX2 24 "HeatGuild$Net" "served" "[I", Cond.arrayClass .boolean, Cond.fieldLink RX2 27 "HeatGuild$Net" "heated" "[Z", Cond.fieldLink RX2 31 "HeatGuild$Net" "carries" "[Z", Cond.fieldLink RX2 34 "HeatGuild$Net" "demand" "[I", Cond.instanceMethod yX3_init, Cond.code yX3_init cX3_init 1 none, Cond.methodLink RX3 1 objectInit, Cond.instanceMethod yX1_init, Cond.code yX1_init cX1_init 1 none, Cond.methodLink RX1 3 objectInit, Cond.fieldLink RX1 9 "HeatGuild$Meters" "error" "[I", Cond.fieldLink RX1 15 "HeatGuild$Meters" "told" "[I", Cond.fieldLink RX1 18 "HeatGuild$Meters" "suspected" "[Z", Cond.fieldLink RX1 22 "HeatGuild$Meters" "flow" "[I", Cond.fieldLink RX1 25 "HeatGuild$Meters" "accounted" "[I"]
def wsX4_init : List Cond := .code yX4_init cX4_init 1 none :: ((wsX4_init_r1 ++ wsX4_init_r2) ++ wsX20 ++ wsX40 ++ wsX30 ++ wsX10)
def wsX4_isWithin : List Cond := .code yX4_isWithin cX4_isWithin 3 (some .boolean) :: ([])
def wsX4_feed : List Cond := .code yX4_feed cX4_feed 5 (some .int) :: ([.classLink RX4 42 "java/lang/IllegalArgumentException", .initialized "java/lang/IllegalArgumentException", .classLink RX4 53 "java/lang/IllegalStateException", .initialized "java/lang/IllegalStateException", .fieldLink RX4 49 "HeatGuild" "passedHours" "I", .fieldLink RX4 10 "HeatGuild" "net" "LHeatGuild$Net;", .methodLink RX4 34 yX4_isHouse, .static yX4_isHouse, .initialized RX4, .code yX4_isHouse cX4_isHouse 1 (some .boolean), .methodLink RX4 38 yX4_isWithin, .static yX4_isWithin, .code yX4_isWithin cX4_isWithin 3 (some .boolean)] ++ wsX40 ++ wsX20 ++ (vx_atS RX4 46 "java/lang/IllegalArgumentException" ["java/lang/RuntimeException", "java/lang/Exception"]).filter goodWord ++ (vx_atS RX4 57 "java/lang/IllegalStateException" ["java/lang/RuntimeException", "java/lang/Exception"]).filter goodWord)
def wsX4_setArea : List Cond := .code yX4_setArea cX4_setArea 4 (some .int) :: ([.classLink RX4 42 "java/lang/IllegalArgumentException", .initialized "java/lang/IllegalArgumentException", .fieldLink RX4 10 "HeatGuild" "net" "LHeatGuild$Net;", .methodLink RX4 34 yX4_isHouse, .static yX4_isHouse, .initialized RX4, .code yX4_isHouse cX4_isHouse 1 (some .boolean), .methodLink RX4 38 yX4_isWithin, .static yX4_isWithin, .code yX4_isWithin cX4_isWithin 3 (some .boolean)] ++ wsX40 ++ wsX20 ++ (vx_atS RX4 46 "java/lang/IllegalArgumentException" ["java/lang/RuntimeException", "java/lang/Exception"]).filter goodWord)
def wsX4_addBoiler_r1 : List Cond := [Cond.classLink RX4 42 "java/lang/IllegalArgumentException", Cond.initialized "java/lang/IllegalArgumentException", Cond.classLink RX4 53 "java/lang/IllegalStateException", Cond.initialized "java/lang/IllegalStateException", Cond.fieldLink RX4 19 "HeatGuild" "plant" "LHeatGuild$Plant;", Cond.methodLink RX4 38 yX4_isWithin, Cond.static yX4_isWithin, Cond.initialized RX4, Cond.code yX4_isWithin cX4_isWithin 3 (some .boolean), Cond.instanceMethod yX3_add, Cond.initialized RX3, Cond.selects RX3 yX3_add yX3_add, Cond.code yX3_add cX3_add 6 (some .int), Cond.classLink RX3 7 RX0, Cond.instantiable RX0 6, Cond.initialized RX0, Cond.fieldLink RX3 9 "HeatGuild$Plant" "count" "I", Cond.fieldLink RX3 22 "HeatGuild$Plant" "first" "LHeatGuild$Boiler;", Cond.fieldLink RX3 29 "HeatGuild$Plant" "allPower" "I", Cond.instanceMethod yX0_init, Cond.code yX0_init cX0_init 5 none, Cond.methodLink RX0 1 objectInit, Cond.instanceMethod objectInit, Cond.code objectInit ⟨#[0xb1]⟩ 1 none]
def wsX4_addBoiler_r2 : List Cond := [Cond.fieldLink RX0 7 "HeatGuild$Boiler" "number" "I", Cond.fieldLink RX0 13 "HeatGuild$Boiler" "steps" "I", Cond.fieldLink RX0 16 "HeatGuild$Boiler" "power" "I", Cond.fieldLink RX0 19 "HeatGuild$Boiler" "price" "I", Cond.methodLink RX3 18 yX3_lastFiredBefore, Cond.instanceMethod yX3_lastFiredBefore, Cond.selects RX3 yX3_lastFiredBefore yX3_lastFiredBefore, Cond.code yX3_lastFiredBefore cX3_lastFiredBefore 4 (some (.object "HeatGuild$Boiler"))]
def wsX4_addBoiler : List Cond := .code yX4_addBoiler cX4_addBoiler 4 (some .int) :: ((wsX4_addBoiler_r1 ++ wsX4_addBoiler_r2) ++ wsX40 ++ wsX30 ++ wsX00 ++ (vx_atS RX4 46 "java/lang/IllegalArgumentException" ["java/lang/RuntimeException", "java/lang/Exception"]).filter goodWord ++ (vx_atS RX4 57 "java/lang/IllegalStateException" ["java/lang/RuntimeException", "java/lang/Exception"]).filter goodWord)
def wsX4_setError : List Cond := .code yX4_setError cX4_setError 4 (some .int) :: ([.classLink RX4 42 "java/lang/IllegalArgumentException", .initialized "java/lang/IllegalArgumentException", .fieldLink RX4 26 "HeatGuild" "meters" "LHeatGuild$Meters;", .methodLink RX4 34 yX4_isHouse, .static yX4_isHouse, .initialized RX4, .code yX4_isHouse cX4_isHouse 1 (some .boolean), .methodLink RX4 38 yX4_isWithin, .static yX4_isWithin, .code yX4_isWithin cX4_isWithin 3 (some .boolean)] ++ wsX40 ++ wsX10 ++ (vx_atS RX4 46 "java/lang/IllegalArgumentException" ["java/lang/RuntimeException", "java/lang/Exception"]).filter goodWord)
def wsX4_repair_r1 : List Cond := [Cond.classLink RX4 42 "java/lang/IllegalArgumentException", Cond.initialized "java/lang/IllegalArgumentException", Cond.classLink RX4 53 "java/lang/IllegalStateException", Cond.initialized "java/lang/IllegalStateException", Cond.fieldLink RX4 10 "HeatGuild" "net" "LHeatGuild$Net;", Cond.fieldLink RX4 49 "HeatGuild" "passedHours" "I", Cond.fieldLink RX4 92 "HeatGuild" "lastTemperature" "I", Cond.methodLink RX4 34 yX4_isHouse, Cond.static yX4_isHouse, Cond.initialized RX4, Cond.code yX4_isHouse cX4_isHouse 1 (some .boolean), Cond.methodLink RX4 38 yX4_isWithin, Cond.static yX4_isWithin, Cond.code yX4_isWithin cX4_isWithin 3 (some .boolean), Cond.instanceMethod yX2_countHousesWithoutHeat, Cond.initialized RX2, Cond.selects RX2 yX2_countHousesWithoutHeat yX2_countHousesWithoutHeat, Cond.code yX2_countHousesWithoutHeat cX2_countHousesWithoutHeat 3 (some .int), Cond.fieldLink RX2 18 "HeatGuild$Net" "area" "[I", Cond.fieldLink RX2 27 "HeatGuild$Net" "heated" "[Z", Cond.methodLink RX2 37 yX2_markHeated, Cond.instanceMethod yX2_markHeated, Cond.selects RX2 yX2_markHeated yX2_markHeated, Cond.code yX2_markHeated cX2_markHeated 4 none]
def wsX4_repair_r2 : List Cond := [Cond.fieldLink RX2 9 "HeatGuild$Net" "source" "[I", Cond.fieldLink RX2 21 "HeatGuild$Net" "shutHours" "[I"]
def wsX4_repair : List Cond := .code yX4_repair cX4_repair 3 (some .int) :: ((wsX4_repair_r1 ++ wsX4_repair_r2) ++ wsX40 ++ wsX20 ++ (vx_atS RX4 46 "java/lang/IllegalArgumentException" ["java/lang/RuntimeException", "java/lang/Exception"]).filter goodWord ++ (vx_atS RX4 57 "java/lang/IllegalStateException" ["java/lang/RuntimeException", "java/lang/Exception"]).filter goodWord)
def wsX4_requireTemperature : List Cond := .code yX4_requireTemperature cX4_requireTemperature 1 none :: ([.classLink RX4 42 "java/lang/IllegalArgumentException", .initialized "java/lang/IllegalArgumentException", .methodLink RX4 38 yX4_isWithin, .static yX4_isWithin, .initialized RX4, .code yX4_isWithin cX4_isWithin 3 (some .boolean)] ++ (vx_atS RX4 46 "java/lang/IllegalArgumentException" ["java/lang/RuntimeException", "java/lang/Exception"]).filter goodWord)
def wsX4_isPeak : List Cond := .code yX4_isPeak cX4_isPeak 2 (some .boolean) :: ([.fieldLink RX4 19 "HeatGuild" "plant" "LHeatGuild$Plant;"] ++ wsX40 ++ wsX30)
def wsX4_charge : List Cond := .code yX4_charge cX4_charge 5 none :: ([.fieldLink RX4 10 "HeatGuild" "net" "LHeatGuild$Net;", .fieldLink RX4 30 "HeatGuild" "billed" "[I", .methodLink RX4 170 yX4_wantedHeat, .static yX4_wantedHeat, .initialized RX4, .code yX4_wantedHeat cX4_wantedHeat 2 (some .int)] ++ wsX40 ++ wsX20)
def wsX4_hour_r1 : List Cond := [Cond.fieldLink RX4 10 "HeatGuild" "net" "LHeatGuild$Net;", Cond.fieldLink RX4 19 "HeatGuild" "plant" "LHeatGuild$Plant;", Cond.fieldLink RX4 26 "HeatGuild" "meters" "LHeatGuild$Meters;", Cond.fieldLink RX4 135 "HeatGuild" "lastLosses" "I", Cond.fieldLink RX4 92 "HeatGuild" "lastTemperature" "I", Cond.fieldLink RX4 49 "HeatGuild" "passedHours" "I", Cond.methodLink RX4 101 yX4_requireTemperature, Cond.static yX4_requireTemperature, Cond.initialized RX4, Cond.code yX4_requireTemperature cX4_requireTemperature 1 none, Cond.classLink RX4 42 "java/lang/IllegalArgumentException", Cond.initialized "java/lang/IllegalArgumentException", Cond.methodLink RX4 38 yX4_isWithin, Cond.static yX4_isWithin, Cond.code yX4_isWithin cX4_isWithin 3 (some .boolean), Cond.instanceMethod yX2_survey, Cond.initialized RX2, Cond.selects RX2 yX2_survey yX2_survey, Cond.code yX2_survey cX2_survey 4 (some .int), Cond.fieldLink RX2 34 "HeatGuild$Net" "demand" "[I", Cond.fieldLink RX2 27 "HeatGuild$Net" "heated" "[Z", Cond.fieldLink RX2 18 "HeatGuild$Net" "area" "[I", Cond.fieldLink RX2 47 "HeatGuild$Net" "surveyedLosses" "I", Cond.methodLink RX2 37 yX2_markHeated]
def wsX4_hour_r2 : List Cond := [Cond.instanceMethod yX2_markHeated, Cond.selects RX2 yX2_markHeated yX2_markHeated, Cond.code yX2_markHeated cX2_markHeated 4 none, Cond.fieldLink RX2 9 "HeatGuild$Net" "source" "[I", Cond.fieldLink RX2 21 "HeatGuild$Net" "shutHours" "[I", Cond.static yX4_isHouse, Cond.code yX4_isHouse cX4_isHouse 1 (some .boolean), Cond.static yX4_wantedHeat, Cond.code yX4_wantedHeat cX4_wantedHeat 2 (some .int), Cond.methodLink RX2 44 yX2_markCarries, Cond.instanceMethod yX2_markCarries, Cond.selects RX2 yX2_markCarries yX2_markCarries, Cond.code yX2_markCarries cX2_markCarries 3 none, Cond.fieldLink RX2 31 "HeatGuild$Net" "carries" "[Z", Cond.methodLink RX2 51 yX2_carriedLoss, Cond.instanceMethod yX2_carriedLoss, Cond.selects RX2 yX2_carriedLoss yX2_carriedLoss, Cond.code yX2_carriedLoss cX2_carriedLoss 2 (some .int), Cond.fieldLink RX2 15 "HeatGuild$Net" "loss" "[I", Cond.instanceMethod yX2_serve, Cond.selects RX2 yX2_serve yX2_serve, Cond.code yX2_serve cX2_serve 4 none, Cond.methodLink RX2 59 Lib.Math.max.name, Cond.static Lib.Math.max.name]
def wsX4_hour_r3 : List Cond := [Cond.initialized "java/lang/Math", Cond.code Lib.Math.max.name Lib.Math.max.code 2 (some .int), Cond.fieldLink RX2 24 "HeatGuild$Net" "served" "[I", Cond.methodLink RX2 64 Lib.Math.min.name, Cond.static Lib.Math.min.name, Cond.code Lib.Math.min.name Lib.Math.min.code 2 (some .int), Cond.instanceMethod yX3_fire, Cond.initialized RX3, Cond.selects RX3 yX3_fire yX3_fire, Cond.code yX3_fire cX3_fire 5 none, Cond.fieldLink RX3 22 "HeatGuild$Plant" "first" "LHeatGuild$Boiler;", Cond.fieldLink RX3 42 "HeatGuild$Plant" "spent" "I", Cond.instanceMethod yX0_fireFor, Cond.initialized RX0, Cond.selects RX0 yX0_fireFor yX0_fireFor, Cond.code yX0_fireFor cX0_fireFor 2 (some .int), Cond.fieldLink RX0 22 "HeatGuild$Boiler" "firedSteps" "I", Cond.fieldLink RX0 13 "HeatGuild$Boiler" "steps" "I", Cond.fieldLink RX0 16 "HeatGuild$Boiler" "power" "I", Cond.methodLink RX0 25 Lib.Math.min.name, Cond.instanceMethod yX1_read, Cond.initialized RX1, Cond.selects RX1 yX1_read yX1_read, Cond.code yX1_read cX1_read 5 none]
def wsX4_hour_r4 : List Cond := [Cond.fieldLink RX1 22 "HeatGuild$Meters" "flow" "[I", Cond.fieldLink RX1 25 "HeatGuild$Meters" "accounted" "[I", Cond.fieldLink RX1 15 "HeatGuild$Meters" "told" "[I", Cond.fieldLink RX1 9 "HeatGuild$Meters" "error" "[I", Cond.fieldLink RX1 18 "HeatGuild$Meters" "suspected" "[Z", Cond.methodLink RX4 122 yX4_isPeak, Cond.instanceMethod yX4_isPeak, Cond.selects RX4 yX4_isPeak yX4_isPeak, Cond.code yX4_isPeak cX4_isPeak 2 (some .boolean), Cond.methodLink RX4 125 yX4_charge, Cond.instanceMethod yX4_charge, Cond.selects RX4 yX4_charge yX4_charge, Cond.code yX4_charge cX4_charge 5 none, Cond.fieldLink RX4 30 "HeatGuild" "billed" "[I", Cond.methodLink RX4 170 yX4_wantedHeat, Cond.instanceMethod yX2_endHourOfRepairs, Cond.selects RX2 yX2_endHourOfRepairs yX2_endHourOfRepairs, Cond.code yX2_endHourOfRepairs cX2_endHourOfRepairs 2 none]
def wsX4_hour : List Cond := .code yX4_hour cX4_hour 3 (some .int) :: ((wsX4_hour_r1 ++ (wsX4_hour_r2 ++ (wsX4_hour_r3 ++ wsX4_hour_r4))) ++ wsX40 ++ wsX30 ++ wsX20 ++ wsX00 ++ wsX10 ++ (vx_atS RX4 46 "java/lang/IllegalArgumentException" ["java/lang/RuntimeException", "java/lang/Exception"]).filter goodWord)
def wsX4_hours : List Cond := .code yX4_hours cX4_hours 1 (some .int) :: ([.fieldLink RX4 49 "HeatGuild" "passedHours" "I"] ++ wsX40)
def wsX4_load_r1 : List Cond := [Cond.fieldLink RX4 10 "HeatGuild" "net" "LHeatGuild$Net;", Cond.methodLink RX4 101 yX4_requireTemperature, Cond.static yX4_requireTemperature, Cond.initialized RX4, Cond.code yX4_requireTemperature cX4_requireTemperature 1 none, Cond.classLink RX4 42 "java/lang/IllegalArgumentException", Cond.initialized "java/lang/IllegalArgumentException", Cond.methodLink RX4 38 yX4_isWithin, Cond.static yX4_isWithin, Cond.code yX4_isWithin cX4_isWithin 3 (some .boolean), Cond.instanceMethod yX2_survey, Cond.initialized RX2, Cond.selects RX2 yX2_survey yX2_survey, Cond.code yX2_survey cX2_survey 4 (some .int), Cond.fieldLink RX2 34 "HeatGuild$Net" "demand" "[I", Cond.fieldLink RX2 27 "HeatGuild$Net" "heated" "[Z", Cond.fieldLink RX2 18 "HeatGuild$Net" "area" "[I", Cond.fieldLink RX2 47 "HeatGuild$Net" "surveyedLosses" "I", Cond.methodLink RX2 37 yX2_markHeated, Cond.instanceMethod yX2_markHeated, Cond.selects RX2 yX2_markHeated yX2_markHeated, Cond.code yX2_markHeated cX2_markHeated 4 none, Cond.fieldLink RX2 9 "HeatGuild$Net" "source" "[I", Cond.fieldLink RX2 21 "HeatGuild$Net" "shutHours" "[I"]
def wsX4_load_r2 : List Cond := [Cond.static yX4_isHouse, Cond.code yX4_isHouse cX4_isHouse 1 (some .boolean), Cond.static yX4_wantedHeat, Cond.code yX4_wantedHeat cX4_wantedHeat 2 (some .int), Cond.methodLink RX2 44 yX2_markCarries, Cond.instanceMethod yX2_markCarries, Cond.selects RX2 yX2_markCarries yX2_markCarries, Cond.code yX2_markCarries cX2_markCarries 3 none, Cond.fieldLink RX2 31 "HeatGuild$Net" "carries" "[Z", Cond.methodLink RX2 51 yX2_carriedLoss, Cond.instanceMethod yX2_carriedLoss, Cond.selects RX2 yX2_carriedLoss yX2_carriedLoss, Cond.code yX2_carriedLoss cX2_carriedLoss 2 (some .int), Cond.fieldLink RX2 15 "HeatGuild$Net" "loss" "[I"]
def wsX4_load : List Cond := .code yX4_load cX4_load 2 (some .int) :: ((wsX4_load_r1 ++ wsX4_load_r2) ++ wsX40 ++ wsX20 ++ (vx_atS RX4 46 "java/lang/IllegalArgumentException" ["java/lang/RuntimeException", "java/lang/Exception"]).filter goodWord)
def wsX4_fired : List Cond := .code yX4_fired cX4_fired 3 (some .int) :: ([.classLink RX4 142 "java/lang/IndexOutOfBoundsException", .initialized "java/lang/IndexOutOfBoundsException", .fieldLink RX4 19 "HeatGuild" "plant" "LHeatGuild$Plant;", .instanceMethod yX3_find, .initialized RX3, .selects RX3 yX3_find yX3_find, .code yX3_find cX3_find 3 (some (.object "HeatGuild$Boiler")), .fieldLink RX3 22 "HeatGuild$Plant" "first" "LHeatGuild$Boiler;"] ++ wsX40 ++ wsX00 ++ wsX30 ++ (vx_atS RX4 146 "java/lang/IndexOutOfBoundsException" ["java/lang/RuntimeException", "java/lang/Exception"]).filter goodWord)
def wsX4_got : List Cond := .code yX4_got cX4_got 2 (some .int) :: ([.classLink RX4 42 "java/lang/IllegalArgumentException", .initialized "java/lang/IllegalArgumentException", .fieldLink RX4 10 "HeatGuild" "net" "LHeatGuild$Net;", .methodLink RX4 34 yX4_isHouse, .static yX4_isHouse, .initialized RX4, .code yX4_isHouse cX4_isHouse 1 (some .boolean)] ++ wsX40 ++ wsX20 ++ (vx_atS RX4 46 "java/lang/IllegalArgumentException" ["java/lang/RuntimeException", "java/lang/Exception"]).filter goodWord)
def wsX4_meter : List Cond := .code yX4_meter cX4_meter 2 (some .int) :: ([.classLink RX4 42 "java/lang/IllegalArgumentException", .initialized "java/lang/IllegalArgumentException", .fieldLink RX4 26 "HeatGuild" "meters" "LHeatGuild$Meters;", .methodLink RX4 34 yX4_isHouse, .static yX4_isHouse, .initialized RX4, .code yX4_isHouse cX4_isHouse 1 (some .boolean)] ++ wsX40 ++ wsX10 ++ (vx_atS RX4 46 "java/lang/IllegalArgumentException" ["java/lang/RuntimeException", "java/lang/Exception"]).filter goodWord)
def wsX4_isSuspected : List Cond := .code yX4_isSuspected cX4_isSuspected 2 (some .boolean) :: ([.classLink RX4 42 "java/lang/IllegalArgumentException", .initialized "java/lang/IllegalArgumentException", .fieldLink RX4 26 "HeatGuild" "meters" "LHeatGuild$Meters;", .methodLink RX4 34 yX4_isHouse, .static yX4_isHouse, .initialized RX4, .code yX4_isHouse cX4_isHouse 1 (some .boolean)] ++ wsX40 ++ wsX10 ++ (vx_atS RX4 46 "java/lang/IllegalArgumentException" ["java/lang/RuntimeException", "java/lang/Exception"]).filter goodWord)
def wsX4_losses : List Cond := .code yX4_losses cX4_losses 1 (some .int) :: ([.fieldLink RX4 135 "HeatGuild" "lastLosses" "I"] ++ wsX40)
def wsX4_bill : List Cond := .code yX4_bill cX4_bill 2 (some .int) :: ([.classLink RX4 42 "java/lang/IllegalArgumentException", .initialized "java/lang/IllegalArgumentException", .fieldLink RX4 30 "HeatGuild" "billed" "[I", .methodLink RX4 34 yX4_isHouse, .static yX4_isHouse, .initialized RX4, .code yX4_isHouse cX4_isHouse 1 (some .boolean)] ++ wsX40 ++ (vx_atS RX4 46 "java/lang/IllegalArgumentException" ["java/lang/RuntimeException", "java/lang/Exception"]).filter goodWord)
def wsX4_cost : List Cond := .code yX4_cost cX4_cost 1 (some .int) :: ([.fieldLink RX4 19 "HeatGuild" "plant" "LHeatGuild$Plant;"] ++ wsX40 ++ wsX30)
def wsX4_isOpen : List Cond := .code yX4_isOpen cX4_isOpen 2 (some .boolean) :: ([.classLink RX4 42 "java/lang/IllegalArgumentException", .initialized "java/lang/IllegalArgumentException", .fieldLink RX4 10 "HeatGuild" "net" "LHeatGuild$Net;", .methodLink RX4 34 yX4_isHouse, .static yX4_isHouse, .initialized RX4, .code yX4_isHouse cX4_isHouse 1 (some .boolean)] ++ wsX40 ++ wsX20 ++ (vx_atS RX4 46 "java/lang/IllegalArgumentException" ["java/lang/RuntimeException", "java/lang/Exception"]).filter goodWord)
def wsJ9_max_7cf53 : List Cond := .code yJ9_max_7cf53 cJ9_max_7cf53 2 (some .int) :: ([])
def wsJ9_min_7cf53 : List Cond := .code yJ9_min_7cf53 cJ9_min_7cf53 2 (some .int) :: ([])
def wsL_draw : List Cond := .code yL_draw cL_draw 2 (some .int) :: ([.constant RL 7 (2147483647), .constant RL 8 (104729), .constant RL 9 (65521)])
def wsL_hasHeat : List Cond := .code yL_hasHeat cL_hasHeat 5 (some .boolean) :: ([.methodLink RL 34 yX4_isOpen, .instanceMethod yX4_isOpen, .selects RX4 yX4_isOpen yX4_isOpen, .initialized RX4, .code yX4_isOpen cX4_isOpen 2 (some .boolean), .classLink RX4 42 "java/lang/IllegalArgumentException", .initialized "java/lang/IllegalArgumentException", .fieldLink RX4 10 "HeatGuild" "net" "LHeatGuild$Net;", .methodLink RX4 34 yX4_isHouse, .static yX4_isHouse, .code yX4_isHouse cX4_isHouse 1 (some .boolean)] ++ wsX40 ++ wsX20 ++ (vx_atS RX4 46 "java/lang/IllegalArgumentException" ["java/lang/RuntimeException", "java/lang/Exception"]).filter goodWord)
def wsL_repairs_r1 : List Cond := [Cond.methodLink RL 51 yX4_repair, Cond.instanceMethod yX4_repair, Cond.selects RX4 yX4_repair yX4_repair, Cond.initialized RX4, Cond.code yX4_repair cX4_repair 3 (some .int), Cond.classLink RX4 42 "java/lang/IllegalArgumentException", Cond.initialized "java/lang/IllegalArgumentException", Cond.classLink RX4 53 "java/lang/IllegalStateException", Cond.initialized "java/lang/IllegalStateException", Cond.fieldLink RX4 10 "HeatGuild" "net" "LHeatGuild$Net;", Cond.fieldLink RX4 49 "HeatGuild" "passedHours" "I", Cond.fieldLink RX4 92 "HeatGuild" "lastTemperature" "I", Cond.methodLink RX4 34 yX4_isHouse, Cond.static yX4_isHouse, Cond.code yX4_isHouse cX4_isHouse 1 (some .boolean), Cond.methodLink RX4 38 yX4_isWithin, Cond.static yX4_isWithin, Cond.code yX4_isWithin cX4_isWithin 3 (some .boolean), Cond.instanceMethod yX2_countHousesWithoutHeat, Cond.initialized RX2, Cond.selects RX2 yX2_countHousesWithoutHeat yX2_countHousesWithoutHeat, Cond.code yX2_countHousesWithoutHeat cX2_countHousesWithoutHeat 3 (some .int), Cond.fieldLink RX2 18 "HeatGuild$Net" "area" "[I", Cond.fieldLink RX2 27 "HeatGuild$Net" "heated" "[Z"]
def wsL_repairs_r2 : List Cond := [Cond.methodLink RX2 37 yX2_markHeated, Cond.instanceMethod yX2_markHeated, Cond.selects RX2 yX2_markHeated yX2_markHeated, Cond.code yX2_markHeated cX2_markHeated 4 none, Cond.fieldLink RX2 9 "HeatGuild$Net" "source" "[I", Cond.fieldLink RX2 21 "HeatGuild$Net" "shutHours" "[I", Cond.methodLink RL 47 yL_hasHeat, Cond.static yL_hasHeat, Cond.initialized RL, Cond.code yL_hasHeat cL_hasHeat 5 (some .boolean), Cond.methodLink RL 34 yX4_isOpen, Cond.instanceMethod yX4_isOpen, Cond.selects RX4 yX4_isOpen yX4_isOpen, Cond.code yX4_isOpen cX4_isOpen 2 (some .boolean)]
def wsL_repairs : List Cond := .code yL_repairs cL_repairs 7 (some .boolean) :: ((wsL_repairs_r1 ++ wsL_repairs_r2) ++ wsX40 ++ wsX20 ++ (vx_atS RX4 46 "java/lang/IllegalArgumentException" ["java/lang/RuntimeException", "java/lang/Exception"]).filter goodWord ++ (vx_atS RX4 57 "java/lang/IllegalStateException" ["java/lang/RuntimeException", "java/lang/Exception"]).filter goodWord)
def wsL_demand : List Cond := .code yL_demand cL_demand 5 (some .int) :: ([.methodLink RL 47 yL_hasHeat, .static yL_hasHeat, .initialized RL, .code yL_hasHeat cL_hasHeat 5 (some .boolean), .methodLink RL 34 yX4_isOpen, .instanceMethod yX4_isOpen, .selects RX4 yX4_isOpen yX4_isOpen, .initialized RX4, .code yX4_isOpen cX4_isOpen 2 (some .boolean), .classLink RX4 42 "java/lang/IllegalArgumentException", .initialized "java/lang/IllegalArgumentException", .fieldLink RX4 10 "HeatGuild" "net" "LHeatGuild$Net;", .methodLink RX4 34 yX4_isHouse, .static yX4_isHouse, .code yX4_isHouse cX4_isHouse 1 (some .boolean)] ++ wsX40 ++ wsX20 ++ (vx_atS RX4 46 "java/lang/IllegalArgumentException" ["java/lang/RuntimeException", "java/lang/Exception"]).filter goodWord)
def wsL_isOnWay : List Cond := .code yL_isOnWay cL_isOnWay 4 (some .boolean) :: ([])
def wsL_areMetered : List Cond := .code yL_areMetered cL_areMetered 11 (some .boolean) :: ([.methodLink RL 74 yL_isOnWay, .static yL_isOnWay, .initialized RL, .code yL_isOnWay cL_isOnWay 4 (some .boolean), .methodLink RL 78 yX4_got, .instanceMethod yX4_got, .selects RX4 yX4_got yX4_got, .initialized RX4, .code yX4_got cX4_got 2 (some .int), .classLink RX4 42 "java/lang/IllegalArgumentException", .initialized "java/lang/IllegalArgumentException", .fieldLink RX4 10 "HeatGuild" "net" "LHeatGuild$Net;", .methodLink RX4 34 yX4_isHouse, .static yX4_isHouse, .code yX4_isHouse cX4_isHouse 1 (some .boolean), .methodLink RL 81 yX4_meter, .instanceMethod yX4_meter, .selects RX4 yX4_meter yX4_meter, .code yX4_meter cX4_meter 2 (some .int), .fieldLink RX4 26 "HeatGuild" "meters" "LHeatGuild$Meters;", .methodLink RL 84 yX4_isSuspected, .instanceMethod yX4_isSuspected, .selects RX4 yX4_isSuspected yX4_isSuspected, .code yX4_isSuspected cX4_isSuspected 2 (some .boolean)] ++ wsX40 ++ wsX20 ++ wsX10 ++ (vx_atS RX4 46 "java/lang/IllegalArgumentException" ["java/lang/RuntimeException", "java/lang/Exception"]).filter goodWord)
def wsL_areFired : List Cond := .code yL_areFired cL_areFired 11 (some .boolean) :: ([.methodLink RL 24 yX4_fired, .instanceMethod yX4_fired, .selects RX4 yX4_fired yX4_fired, .initialized RX4, .code yX4_fired cX4_fired 3 (some .int), .classLink RX4 142 "java/lang/IndexOutOfBoundsException", .initialized "java/lang/IndexOutOfBoundsException", .fieldLink RX4 19 "HeatGuild" "plant" "LHeatGuild$Plant;", .instanceMethod yX3_find, .initialized RX3, .selects RX3 yX3_find yX3_find, .code yX3_find cX3_find 3 (some (.object "HeatGuild$Boiler")), .fieldLink RX3 22 "HeatGuild$Plant" "first" "LHeatGuild$Boiler;", .methodLink RL 87 yX4_cost, .instanceMethod yX4_cost, .selects RX4 yX4_cost yX4_cost, .code yX4_cost cX4_cost 1 (some .int)] ++ wsX40 ++ wsX00 ++ wsX30 ++ (vx_atS RX4 146 "java/lang/IndexOutOfBoundsException" ["java/lang/RuntimeException", "java/lang/Exception"]).filter goodWord)
def wsL_hours_r1 : List Cond := [Cond.arrayClass .int, Cond.methodLink RL 54 yL_demand, Cond.static yL_demand, Cond.initialized RL, Cond.code yL_demand cL_demand 5 (some .int), Cond.methodLink RL 47 yL_hasHeat, Cond.static yL_hasHeat, Cond.code yL_hasHeat cL_hasHeat 5 (some .boolean), Cond.methodLink RL 34 yX4_isOpen, Cond.instanceMethod yX4_isOpen, Cond.selects RX4 yX4_isOpen yX4_isOpen, Cond.initialized RX4, Cond.code yX4_isOpen cX4_isOpen 2 (some .boolean), Cond.classLink RX4 42 "java/lang/IllegalArgumentException", Cond.initialized "java/lang/IllegalArgumentException", Cond.fieldLink RX4 10 "HeatGuild" "net" "LHeatGuild$Net;", Cond.methodLink RX4 34 yX4_isHouse, Cond.static yX4_isHouse, Cond.code yX4_isHouse cX4_isHouse 1 (some .boolean), Cond.methodLink RL 58 yX4_load, Cond.instanceMethod yX4_load, Cond.selects RX4 yX4_load yX4_load, Cond.code yX4_load cX4_load 2 (some .int), Cond.methodLink RX4 101 yX4_requireTemperature]
def wsL_hours_r2 : List Cond := [Cond.static yX4_requireTemperature, Cond.code yX4_requireTemperature cX4_requireTemperature 1 none, Cond.methodLink RX4 38 yX4_isWithin, Cond.static yX4_isWithin, Cond.code yX4_isWithin cX4_isWithin 3 (some .boolean), Cond.instanceMethod yX2_survey, Cond.initialized RX2, Cond.selects RX2 yX2_survey yX2_survey, Cond.code yX2_survey cX2_survey 4 (some .int), Cond.fieldLink RX2 34 "HeatGuild$Net" "demand" "[I", Cond.fieldLink RX2 27 "HeatGuild$Net" "heated" "[Z", Cond.fieldLink RX2 18 "HeatGuild$Net" "area" "[I", Cond.fieldLink RX2 47 "HeatGuild$Net" "surveyedLosses" "I", Cond.methodLink RX2 37 yX2_markHeated, Cond.instanceMethod yX2_markHeated, Cond.selects RX2 yX2_markHeated yX2_markHeated, Cond.code yX2_markHeated cX2_markHeated 4 none, Cond.fieldLink RX2 9 "HeatGuild$Net" "source" "[I", Cond.fieldLink RX2 21 "HeatGuild$Net" "shutHours" "[I", Cond.static yX4_wantedHeat, Cond.code yX4_wantedHeat cX4_wantedHeat 2 (some .int), Cond.methodLink RX2 44 yX2_markCarries, Cond.instanceMethod yX2_markCarries, Cond.selects RX2 yX2_markCarries yX2_markCarries]
def wsL_hours_r3 : List Cond := [Cond.code yX2_markCarries cX2_markCarries 3 none, Cond.fieldLink RX2 31 "HeatGuild$Net" "carries" "[Z", Cond.methodLink RX2 51 yX2_carriedLoss, Cond.instanceMethod yX2_carriedLoss, Cond.selects RX2 yX2_carriedLoss yX2_carriedLoss, Cond.code yX2_carriedLoss cX2_carriedLoss 2 (some .int), Cond.fieldLink RX2 15 "HeatGuild$Net" "loss" "[I", Cond.methodLink RL 61 yX4_hour, Cond.instanceMethod yX4_hour, Cond.selects RX4 yX4_hour yX4_hour, Cond.code yX4_hour cX4_hour 3 (some .int), Cond.fieldLink RX4 19 "HeatGuild" "plant" "LHeatGuild$Plant;", Cond.fieldLink RX4 26 "HeatGuild" "meters" "LHeatGuild$Meters;", Cond.fieldLink RX4 135 "HeatGuild" "lastLosses" "I", Cond.fieldLink RX4 92 "HeatGuild" "lastTemperature" "I", Cond.fieldLink RX4 49 "HeatGuild" "passedHours" "I", Cond.instanceMethod yX2_serve, Cond.selects RX2 yX2_serve yX2_serve, Cond.code yX2_serve cX2_serve 4 none, Cond.methodLink RX2 59 Lib.Math.max.name, Cond.static Lib.Math.max.name, Cond.initialized "java/lang/Math", Cond.code Lib.Math.max.name Lib.Math.max.code 2 (some .int), Cond.fieldLink RX2 24 "HeatGuild$Net" "served" "[I"]
def wsL_hours_r4 : List Cond := [Cond.methodLink RX2 64 Lib.Math.min.name, Cond.static Lib.Math.min.name, Cond.code Lib.Math.min.name Lib.Math.min.code 2 (some .int), Cond.instanceMethod yX3_fire, Cond.initialized RX3, Cond.selects RX3 yX3_fire yX3_fire, Cond.code yX3_fire cX3_fire 5 none, Cond.fieldLink RX3 22 "HeatGuild$Plant" "first" "LHeatGuild$Boiler;", Cond.fieldLink RX3 42 "HeatGuild$Plant" "spent" "I", Cond.instanceMethod yX0_fireFor, Cond.initialized RX0, Cond.selects RX0 yX0_fireFor yX0_fireFor, Cond.code yX0_fireFor cX0_fireFor 2 (some .int), Cond.fieldLink RX0 22 "HeatGuild$Boiler" "firedSteps" "I", Cond.fieldLink RX0 13 "HeatGuild$Boiler" "steps" "I", Cond.fieldLink RX0 16 "HeatGuild$Boiler" "power" "I", Cond.methodLink RX0 25 Lib.Math.min.name, Cond.instanceMethod yX1_read, Cond.initialized RX1, Cond.selects RX1 yX1_read yX1_read, Cond.code yX1_read cX1_read 5 none, Cond.fieldLink RX1 22 "HeatGuild$Meters" "flow" "[I", Cond.fieldLink RX1 25 "HeatGuild$Meters" "accounted" "[I", Cond.fieldLink RX1 15 "HeatGuild$Meters" "told" "[I"]
def wsL_hours_r5 : List Cond := [Cond.fieldLink RX1 9 "HeatGuild$Meters" "error" "[I", Cond.fieldLink RX1 18 "HeatGuild$Meters" "suspected" "[Z", Cond.methodLink RX4 122 yX4_isPeak, Cond.instanceMethod yX4_isPeak, Cond.selects RX4 yX4_isPeak yX4_isPeak, Cond.code yX4_isPeak cX4_isPeak 2 (some .boolean), Cond.methodLink RX4 125 yX4_charge, Cond.instanceMethod yX4_charge, Cond.selects RX4 yX4_charge yX4_charge, Cond.code yX4_charge cX4_charge 5 none, Cond.fieldLink RX4 30 "HeatGuild" "billed" "[I", Cond.methodLink RX4 170 yX4_wantedHeat, Cond.instanceMethod yX2_endHourOfRepairs, Cond.selects RX2 yX2_endHourOfRepairs yX2_endHourOfRepairs, Cond.code yX2_endHourOfRepairs cX2_endHourOfRepairs 2 none, Cond.methodLink RL 64 yX4_losses, Cond.instanceMethod yX4_losses, Cond.selects RX4 yX4_losses yX4_losses, Cond.code yX4_losses cX4_losses 1 (some .int), Cond.methodLink RL 67 yL_areMetered, Cond.static yL_areMetered, Cond.code yL_areMetered cL_areMetered 11 (some .boolean), Cond.methodLink RL 74 yL_isOnWay, Cond.static yL_isOnWay]
def wsL_hours_r6 : List Cond := [Cond.code yL_isOnWay cL_isOnWay 4 (some .boolean), Cond.methodLink RL 78 yX4_got, Cond.instanceMethod yX4_got, Cond.selects RX4 yX4_got yX4_got, Cond.code yX4_got cX4_got 2 (some .int), Cond.methodLink RL 81 yX4_meter, Cond.instanceMethod yX4_meter, Cond.selects RX4 yX4_meter yX4_meter, Cond.code yX4_meter cX4_meter 2 (some .int), Cond.methodLink RL 84 yX4_isSuspected, Cond.instanceMethod yX4_isSuspected, Cond.selects RX4 yX4_isSuspected yX4_isSuspected, Cond.code yX4_isSuspected cX4_isSuspected 2 (some .boolean), Cond.methodLink RL 71 yL_areFired, Cond.static yL_areFired, Cond.code yL_areFired cL_areFired 11 (some .boolean), Cond.methodLink RL 24 yX4_fired, Cond.instanceMethod yX4_fired, Cond.selects RX4 yX4_fired yX4_fired, Cond.code yX4_fired cX4_fired 3 (some .int), Cond.classLink RX4 142 "java/lang/IndexOutOfBoundsException", Cond.initialized "java/lang/IndexOutOfBoundsException", Cond.instanceMethod yX3_find, Cond.selects RX3 yX3_find yX3_find]
def wsL_hours_r7 : List Cond := [Cond.code yX3_find cX3_find 3 (some (.object "HeatGuild$Boiler")), Cond.methodLink RL 87 yX4_cost, Cond.instanceMethod yX4_cost, Cond.selects RX4 yX4_cost yX4_cost, Cond.code yX4_cost cX4_cost 1 (some .int)]
def wsL_hours : List Cond := .code yL_hours cL_hours 14 (some .boolean) :: ((wsL_hours_r1 ++ (wsL_hours_r2 ++ (wsL_hours_r3 ++ (wsL_hours_r4 ++ (wsL_hours_r5 ++ (wsL_hours_r6 ++ wsL_hours_r7)))))) ++ wsX40 ++ wsX20 ++ wsX30 ++ wsX00 ++ wsX10 ++ (vx_atS RX4 46 "java/lang/IllegalArgumentException" ["java/lang/RuntimeException", "java/lang/Exception"]).filter goodWord ++ (vx_atS RX4 146 "java/lang/IndexOutOfBoundsException" ["java/lang/RuntimeException", "java/lang/Exception"]).filter goodWord)
def wsL_step_r1 : List Cond := [Cond.methodLink RL 10 yX4_hours, Cond.instanceMethod yX4_hours, Cond.selects RX4 yX4_hours yX4_hours, Cond.initialized RX4, Cond.code yX4_hours cX4_hours 1 (some .int), Cond.fieldLink RX4 49 "HeatGuild" "passedHours" "I", Cond.methodLink RL 16 yX4_feed, Cond.instanceMethod yX4_feed, Cond.selects RX4 yX4_feed yX4_feed, Cond.code yX4_feed cX4_feed 5 (some .int), Cond.classLink RX4 42 "java/lang/IllegalArgumentException", Cond.initialized "java/lang/IllegalArgumentException", Cond.classLink RX4 53 "java/lang/IllegalStateException", Cond.initialized "java/lang/IllegalStateException", Cond.fieldLink RX4 10 "HeatGuild" "net" "LHeatGuild$Net;", Cond.methodLink RX4 34 yX4_isHouse, Cond.static yX4_isHouse, Cond.code yX4_isHouse cX4_isHouse 1 (some .boolean), Cond.methodLink RX4 38 yX4_isWithin, Cond.static yX4_isWithin, Cond.code yX4_isWithin cX4_isWithin 3 (some .boolean), Cond.methodLink RL 20 yX4_setArea, Cond.instanceMethod yX4_setArea, Cond.selects RX4 yX4_setArea yX4_setArea]
def wsL_step_r2 : List Cond := [Cond.code yX4_setArea cX4_setArea 4 (some .int), Cond.methodLink RL 24 yX4_fired, Cond.instanceMethod yX4_fired, Cond.selects RX4 yX4_fired yX4_fired, Cond.code yX4_fired cX4_fired 3 (some .int), Cond.classLink RX4 142 "java/lang/IndexOutOfBoundsException", Cond.initialized "java/lang/IndexOutOfBoundsException", Cond.fieldLink RX4 19 "HeatGuild" "plant" "LHeatGuild$Plant;", Cond.instanceMethod yX3_find, Cond.initialized RX3, Cond.selects RX3 yX3_find yX3_find, Cond.code yX3_find cX3_find 3 (some (.object "HeatGuild$Boiler")), Cond.fieldLink RX3 22 "HeatGuild$Plant" "first" "LHeatGuild$Boiler;", Cond.methodLink RL 28 yX4_addBoiler, Cond.instanceMethod yX4_addBoiler, Cond.selects RX4 yX4_addBoiler yX4_addBoiler, Cond.code yX4_addBoiler cX4_addBoiler 4 (some .int), Cond.instanceMethod yX3_add, Cond.selects RX3 yX3_add yX3_add, Cond.code yX3_add cX3_add 6 (some .int), Cond.classLink RX3 7 RX0, Cond.instantiable RX0 6, Cond.initialized RX0, Cond.fieldLink RX3 9 "HeatGuild$Plant" "count" "I"]
def wsL_step_r3 : List Cond := [Cond.fieldLink RX3 29 "HeatGuild$Plant" "allPower" "I", Cond.instanceMethod yX0_init, Cond.code yX0_init cX0_init 5 none, Cond.methodLink RX0 1 objectInit, Cond.instanceMethod objectInit, Cond.code objectInit ⟨#[0xb1]⟩ 1 none, Cond.fieldLink RX0 7 "HeatGuild$Boiler" "number" "I", Cond.fieldLink RX0 13 "HeatGuild$Boiler" "steps" "I", Cond.fieldLink RX0 16 "HeatGuild$Boiler" "power" "I", Cond.fieldLink RX0 19 "HeatGuild$Boiler" "price" "I", Cond.methodLink RX3 18 yX3_lastFiredBefore, Cond.instanceMethod yX3_lastFiredBefore, Cond.selects RX3 yX3_lastFiredBefore yX3_lastFiredBefore, Cond.code yX3_lastFiredBefore cX3_lastFiredBefore 4 (some (.object "HeatGuild$Boiler")), Cond.methodLink RL 31 yX4_setError, Cond.instanceMethod yX4_setError, Cond.selects RX4 yX4_setError yX4_setError, Cond.code yX4_setError cX4_setError 4 (some .int), Cond.fieldLink RX4 26 "HeatGuild" "meters" "LHeatGuild$Meters;", Cond.methodLink RL 34 yX4_isOpen, Cond.instanceMethod yX4_isOpen, Cond.selects RX4 yX4_isOpen yX4_isOpen, Cond.code yX4_isOpen cX4_isOpen 2 (some .boolean), Cond.methodLink RL 38 yL_repairs]
def wsL_step_r4 : List Cond := [Cond.static yL_repairs, Cond.initialized RL, Cond.code yL_repairs cL_repairs 7 (some .boolean), Cond.methodLink RL 51 yX4_repair, Cond.instanceMethod yX4_repair, Cond.selects RX4 yX4_repair yX4_repair, Cond.code yX4_repair cX4_repair 3 (some .int), Cond.fieldLink RX4 92 "HeatGuild" "lastTemperature" "I", Cond.instanceMethod yX2_countHousesWithoutHeat, Cond.initialized RX2, Cond.selects RX2 yX2_countHousesWithoutHeat yX2_countHousesWithoutHeat, Cond.code yX2_countHousesWithoutHeat cX2_countHousesWithoutHeat 3 (some .int), Cond.fieldLink RX2 18 "HeatGuild$Net" "area" "[I", Cond.fieldLink RX2 27 "HeatGuild$Net" "heated" "[Z", Cond.methodLink RX2 37 yX2_markHeated, Cond.instanceMethod yX2_markHeated, Cond.selects RX2 yX2_markHeated yX2_markHeated, Cond.code yX2_markHeated cX2_markHeated 4 none, Cond.fieldLink RX2 9 "HeatGuild$Net" "source" "[I", Cond.fieldLink RX2 21 "HeatGuild$Net" "shutHours" "[I", Cond.methodLink RL 47 yL_hasHeat, Cond.static yL_hasHeat, Cond.code yL_hasHeat cL_hasHeat 5 (some .boolean), Cond.methodLink RL 44 yL_hours]
def wsL_step_r5 : List Cond := [Cond.static yL_hours, Cond.code yL_hours cL_hours 14 (some .boolean), Cond.arrayClass .int, Cond.methodLink RL 54 yL_demand, Cond.static yL_demand, Cond.code yL_demand cL_demand 5 (some .int), Cond.methodLink RL 58 yX4_load, Cond.instanceMethod yX4_load, Cond.selects RX4 yX4_load yX4_load, Cond.code yX4_load cX4_load 2 (some .int), Cond.methodLink RX4 101 yX4_requireTemperature, Cond.static yX4_requireTemperature, Cond.code yX4_requireTemperature cX4_requireTemperature 1 none, Cond.instanceMethod yX2_survey, Cond.selects RX2 yX2_survey yX2_survey, Cond.code yX2_survey cX2_survey 4 (some .int), Cond.fieldLink RX2 34 "HeatGuild$Net" "demand" "[I", Cond.fieldLink RX2 47 "HeatGuild$Net" "surveyedLosses" "I", Cond.static yX4_wantedHeat, Cond.code yX4_wantedHeat cX4_wantedHeat 2 (some .int), Cond.methodLink RX2 44 yX2_markCarries, Cond.instanceMethod yX2_markCarries, Cond.selects RX2 yX2_markCarries yX2_markCarries, Cond.code yX2_markCarries cX2_markCarries 3 none]
def wsL_step_r6 : List Cond := [Cond.fieldLink RX2 31 "HeatGuild$Net" "carries" "[Z", Cond.methodLink RX2 51 yX2_carriedLoss, Cond.instanceMethod yX2_carriedLoss, Cond.selects RX2 yX2_carriedLoss yX2_carriedLoss, Cond.code yX2_carriedLoss cX2_carriedLoss 2 (some .int), Cond.fieldLink RX2 15 "HeatGuild$Net" "loss" "[I", Cond.methodLink RL 61 yX4_hour, Cond.instanceMethod yX4_hour, Cond.selects RX4 yX4_hour yX4_hour, Cond.code yX4_hour cX4_hour 3 (some .int), Cond.fieldLink RX4 135 "HeatGuild" "lastLosses" "I", Cond.instanceMethod yX2_serve, Cond.selects RX2 yX2_serve yX2_serve, Cond.code yX2_serve cX2_serve 4 none, Cond.methodLink RX2 59 Lib.Math.max.name, Cond.static Lib.Math.max.name, Cond.initialized "java/lang/Math", Cond.code Lib.Math.max.name Lib.Math.max.code 2 (some .int), Cond.fieldLink RX2 24 "HeatGuild$Net" "served" "[I", Cond.methodLink RX2 64 Lib.Math.min.name, Cond.static Lib.Math.min.name, Cond.code Lib.Math.min.name Lib.Math.min.code 2 (some .int), Cond.instanceMethod yX3_fire, Cond.selects RX3 yX3_fire yX3_fire]
def wsL_step_r7 : List Cond := [Cond.code yX3_fire cX3_fire 5 none, Cond.fieldLink RX3 42 "HeatGuild$Plant" "spent" "I", Cond.instanceMethod yX0_fireFor, Cond.selects RX0 yX0_fireFor yX0_fireFor, Cond.code yX0_fireFor cX0_fireFor 2 (some .int), Cond.fieldLink RX0 22 "HeatGuild$Boiler" "firedSteps" "I", Cond.methodLink RX0 25 Lib.Math.min.name, Cond.instanceMethod yX1_read, Cond.initialized RX1, Cond.selects RX1 yX1_read yX1_read, Cond.code yX1_read cX1_read 5 none, Cond.fieldLink RX1 22 "HeatGuild$Meters" "flow" "[I", Cond.fieldLink RX1 25 "HeatGuild$Meters" "accounted" "[I", Cond.fieldLink RX1 15 "HeatGuild$Meters" "told" "[I", Cond.fieldLink RX1 9 "HeatGuild$Meters" "error" "[I", Cond.fieldLink RX1 18 "HeatGuild$Meters" "suspected" "[Z", Cond.methodLink RX4 122 yX4_isPeak, Cond.instanceMethod yX4_isPeak, Cond.selects RX4 yX4_isPeak yX4_isPeak, Cond.code yX4_isPeak cX4_isPeak 2 (some .boolean), Cond.methodLink RX4 125 yX4_charge, Cond.instanceMethod yX4_charge, Cond.selects RX4 yX4_charge yX4_charge, Cond.code yX4_charge cX4_charge 5 none]
def wsL_step_r8 : List Cond := [Cond.fieldLink RX4 30 "HeatGuild" "billed" "[I", Cond.methodLink RX4 170 yX4_wantedHeat, Cond.instanceMethod yX2_endHourOfRepairs, Cond.selects RX2 yX2_endHourOfRepairs yX2_endHourOfRepairs, Cond.code yX2_endHourOfRepairs cX2_endHourOfRepairs 2 none, Cond.methodLink RL 64 yX4_losses, Cond.instanceMethod yX4_losses, Cond.selects RX4 yX4_losses yX4_losses, Cond.code yX4_losses cX4_losses 1 (some .int), Cond.methodLink RL 67 yL_areMetered, Cond.static yL_areMetered, Cond.code yL_areMetered cL_areMetered 11 (some .boolean), Cond.methodLink RL 74 yL_isOnWay, Cond.static yL_isOnWay, Cond.code yL_isOnWay cL_isOnWay 4 (some .boolean), Cond.methodLink RL 78 yX4_got, Cond.instanceMethod yX4_got, Cond.selects RX4 yX4_got yX4_got, Cond.code yX4_got cX4_got 2 (some .int), Cond.methodLink RL 81 yX4_meter, Cond.instanceMethod yX4_meter, Cond.selects RX4 yX4_meter yX4_meter, Cond.code yX4_meter cX4_meter 2 (some .int), Cond.methodLink RL 84 yX4_isSuspected]
def wsL_step_r9 : List Cond := [Cond.instanceMethod yX4_isSuspected, Cond.selects RX4 yX4_isSuspected yX4_isSuspected, Cond.code yX4_isSuspected cX4_isSuspected 2 (some .boolean), Cond.methodLink RL 71 yL_areFired, Cond.static yL_areFired, Cond.code yL_areFired cL_areFired 11 (some .boolean), Cond.methodLink RL 87 yX4_cost, Cond.instanceMethod yX4_cost, Cond.selects RX4 yX4_cost yX4_cost, Cond.code yX4_cost cX4_cost 1 (some .int)]
def wsL_step : List Cond := .code yL_step cL_step 11 (some .boolean) :: ((wsL_step_r1 ++ (wsL_step_r2 ++ (wsL_step_r3 ++ (wsL_step_r4 ++ (wsL_step_r5 ++ (wsL_step_r6 ++ (wsL_step_r7 ++ (wsL_step_r8 ++ wsL_step_r9)))))))) ++ wsX40 ++ wsX20 ++ wsX00 ++ wsX30 ++ wsX10 ++ (vx_atS RX4 46 "java/lang/IllegalArgumentException" ["java/lang/RuntimeException", "java/lang/Exception"]).filter goodWord ++ (vx_atS RX4 57 "java/lang/IllegalStateException" ["java/lang/RuntimeException", "java/lang/Exception"]).filter goodWord ++ (vx_atS RX4 146 "java/lang/IndexOutOfBoundsException" ["java/lang/RuntimeException", "java/lang/Exception"]).filter goodWord)
def wsL_areBills : List Cond := .code yL_areBills cL_areBills 4 (some .boolean) :: ([.methodLink RL 90 yX4_bill, .instanceMethod yX4_bill, .selects RX4 yX4_bill yX4_bill, .initialized RX4, .code yX4_bill cX4_bill 2 (some .int), .classLink RX4 42 "java/lang/IllegalArgumentException", .initialized "java/lang/IllegalArgumentException", .fieldLink RX4 30 "HeatGuild" "billed" "[I", .methodLink RX4 34 yX4_isHouse, .static yX4_isHouse, .code yX4_isHouse cX4_isHouse 1 (some .boolean)] ++ wsX40 ++ (vx_atS RX4 46 "java/lang/IllegalArgumentException" ["java/lang/RuntimeException", "java/lang/Exception"]).filter goodWord)
def wsL_law0_r1 : List Cond := [Cond.classLink RL 11 RX4, Cond.instantiable RX4 7, Cond.initialized RX4, Cond.arrayClass .int, Cond.methodLink RL 93 yX4_init, Cond.instanceMethod yX4_init, Cond.code yX4_init cX4_init 1 none, Cond.methodLink RX4 1 objectInit, Cond.instanceMethod objectInit, Cond.code objectInit ⟨#[0xb1]⟩ 1 none, Cond.classLink RX4 7 RX2, Cond.instantiable RX2 9, Cond.initialized RX2, Cond.fieldLink RX4 10 "HeatGuild" "net" "LHeatGuild$Net;", Cond.classLink RX4 16 RX3, Cond.instantiable RX3 4, Cond.initialized RX3, Cond.fieldLink RX4 19 "HeatGuild" "plant" "LHeatGuild$Plant;", Cond.classLink RX4 23 RX1, Cond.instantiable RX1 5, Cond.initialized RX1, Cond.fieldLink RX4 26 "HeatGuild" "meters" "LHeatGuild$Meters;", Cond.fieldLink RX4 30 "HeatGuild" "billed" "[I", Cond.instanceMethod yX2_init]
def wsL_law0_r2 : List Cond := [Cond.code yX2_init cX2_init 2 none, Cond.methodLink RX2 3 objectInit, Cond.fieldLink RX2 9 "HeatGuild$Net" "source" "[I", Cond.fieldLink RX2 15 "HeatGuild$Net" "loss" "[I", Cond.fieldLink RX2 18 "HeatGuild$Net" "area" "[I", Cond.fieldLink RX2 21 "HeatGuild$Net" "shutHours" "[I", Cond.fieldLink RX2 24 "HeatGuild$Net" "served" "[I", Cond.arrayClass .boolean, Cond.fieldLink RX2 27 "HeatGuild$Net" "heated" "[Z", Cond.fieldLink RX2 31 "HeatGuild$Net" "carries" "[Z", Cond.fieldLink RX2 34 "HeatGuild$Net" "demand" "[I", Cond.instanceMethod yX3_init, Cond.code yX3_init cX3_init 1 none, Cond.methodLink RX3 1 objectInit, Cond.instanceMethod yX1_init, Cond.code yX1_init cX1_init 1 none, Cond.methodLink RX1 3 objectInit, Cond.fieldLink RX1 9 "HeatGuild$Meters" "error" "[I", Cond.fieldLink RX1 15 "HeatGuild$Meters" "told" "[I", Cond.fieldLink RX1 18 "HeatGuild$Meters" "suspected" "[Z", Cond.fieldLink RX1 22 "HeatGuild$Meters" "flow" "[I", Cond.fieldLink RX1 25 "HeatGuild$Meters" "accounted" "[I", Cond.methodLink RL 10 yX4_hours, Cond.instanceMethod yX4_hours]
def wsL_law0_r3 : List Cond := [Cond.selects RX4 yX4_hours yX4_hours, Cond.code yX4_hours cX4_hours 1 (some .int), Cond.fieldLink RX4 49 "HeatGuild" "passedHours" "I", Cond.methodLink RL 87 yX4_cost, Cond.instanceMethod yX4_cost, Cond.selects RX4 yX4_cost yX4_cost, Cond.code yX4_cost cX4_cost 1 (some .int), Cond.methodLink RL 64 yX4_losses, Cond.instanceMethod yX4_losses, Cond.selects RX4 yX4_losses yX4_losses, Cond.code yX4_losses cX4_losses 1 (some .int), Cond.fieldLink RX4 135 "HeatGuild" "lastLosses" "I", Cond.methodLink RL 58 yX4_load, Cond.instanceMethod yX4_load, Cond.selects RX4 yX4_load yX4_load, Cond.code yX4_load cX4_load 2 (some .int), Cond.methodLink RX4 101 yX4_requireTemperature, Cond.static yX4_requireTemperature, Cond.code yX4_requireTemperature cX4_requireTemperature 1 none, Cond.classLink RX4 42 "java/lang/IllegalArgumentException", Cond.initialized "java/lang/IllegalArgumentException", Cond.methodLink RX4 38 yX4_isWithin, Cond.static yX4_isWithin, Cond.code yX4_isWithin cX4_isWithin 3 (some .boolean)]
def wsL_law0_r4 : List Cond := [Cond.instanceMethod yX2_survey, Cond.selects RX2 yX2_survey yX2_survey, Cond.code yX2_survey cX2_survey 4 (some .int), Cond.fieldLink RX2 47 "HeatGuild$Net" "surveyedLosses" "I", Cond.methodLink RX2 37 yX2_markHeated, Cond.instanceMethod yX2_markHeated, Cond.selects RX2 yX2_markHeated yX2_markHeated, Cond.code yX2_markHeated cX2_markHeated 4 none, Cond.static yX4_isHouse, Cond.code yX4_isHouse cX4_isHouse 1 (some .boolean), Cond.static yX4_wantedHeat, Cond.code yX4_wantedHeat cX4_wantedHeat 2 (some .int), Cond.methodLink RX2 44 yX2_markCarries, Cond.instanceMethod yX2_markCarries, Cond.selects RX2 yX2_markCarries yX2_markCarries, Cond.code yX2_markCarries cX2_markCarries 3 none, Cond.methodLink RX2 51 yX2_carriedLoss, Cond.instanceMethod yX2_carriedLoss, Cond.selects RX2 yX2_carriedLoss yX2_carriedLoss, Cond.code yX2_carriedLoss cX2_carriedLoss 2 (some .int), Cond.methodLink RL 94 yL_draw, Cond.static yL_draw, Cond.initialized RL, Cond.code yL_draw cL_draw 2 (some .int)]
def wsL_law0_r5 : List Cond := [Cond.constant RL 7 (2147483647), Cond.constant RL 8 (104729), Cond.constant RL 9 (65521), Cond.methodLink RL 98 yL_step, Cond.static yL_step, Cond.code yL_step cL_step 11 (some .boolean), Cond.methodLink RL 16 yX4_feed, Cond.instanceMethod yX4_feed, Cond.selects RX4 yX4_feed yX4_feed, Cond.code yX4_feed cX4_feed 5 (some .int), Cond.classLink RX4 53 "java/lang/IllegalStateException", Cond.initialized "java/lang/IllegalStateException", Cond.methodLink RX4 34 yX4_isHouse, Cond.methodLink RL 20 yX4_setArea, Cond.instanceMethod yX4_setArea, Cond.selects RX4 yX4_setArea yX4_setArea, Cond.code yX4_setArea cX4_setArea 4 (some .int), Cond.methodLink RL 24 yX4_fired, Cond.instanceMethod yX4_fired, Cond.selects RX4 yX4_fired yX4_fired, Cond.code yX4_fired cX4_fired 3 (some .int), Cond.classLink RX4 142 "java/lang/IndexOutOfBoundsException", Cond.initialized "java/lang/IndexOutOfBoundsException", Cond.instanceMethod yX3_find]
def wsL_law0_r6 : List Cond := [Cond.selects RX3 yX3_find yX3_find, Cond.code yX3_find cX3_find 3 (some (.object "HeatGuild$Boiler")), Cond.fieldLink RX3 22 "HeatGuild$Plant" "first" "LHeatGuild$Boiler;", Cond.methodLink RL 28 yX4_addBoiler, Cond.instanceMethod yX4_addBoiler, Cond.selects RX4 yX4_addBoiler yX4_addBoiler, Cond.code yX4_addBoiler cX4_addBoiler 4 (some .int), Cond.instanceMethod yX3_add, Cond.selects RX3 yX3_add yX3_add, Cond.code yX3_add cX3_add 6 (some .int), Cond.classLink RX3 7 RX0, Cond.instantiable RX0 6, Cond.initialized RX0, Cond.fieldLink RX3 9 "HeatGuild$Plant" "count" "I", Cond.fieldLink RX3 29 "HeatGuild$Plant" "allPower" "I", Cond.instanceMethod yX0_init, Cond.code yX0_init cX0_init 5 none, Cond.methodLink RX0 1 objectInit, Cond.fieldLink RX0 7 "HeatGuild$Boiler" "number" "I", Cond.fieldLink RX0 13 "HeatGuild$Boiler" "steps" "I", Cond.fieldLink RX0 16 "HeatGuild$Boiler" "power" "I", Cond.fieldLink RX0 19 "HeatGuild$Boiler" "price" "I", Cond.methodLink RX3 18 yX3_lastFiredBefore, Cond.instanceMethod yX3_lastFiredBefore]
def wsL_law0_r7 : List Cond := [Cond.selects RX3 yX3_lastFiredBefore yX3_lastFiredBefore, Cond.code yX3_lastFiredBefore cX3_lastFiredBefore 4 (some (.object "HeatGuild$Boiler")), Cond.methodLink RL 31 yX4_setError, Cond.instanceMethod yX4_setError, Cond.selects RX4 yX4_setError yX4_setError, Cond.code yX4_setError cX4_setError 4 (some .int), Cond.methodLink RL 34 yX4_isOpen, Cond.instanceMethod yX4_isOpen, Cond.selects RX4 yX4_isOpen yX4_isOpen, Cond.code yX4_isOpen cX4_isOpen 2 (some .boolean), Cond.methodLink RL 38 yL_repairs, Cond.static yL_repairs, Cond.code yL_repairs cL_repairs 7 (some .boolean), Cond.methodLink RL 51 yX4_repair, Cond.instanceMethod yX4_repair, Cond.selects RX4 yX4_repair yX4_repair, Cond.code yX4_repair cX4_repair 3 (some .int), Cond.fieldLink RX4 92 "HeatGuild" "lastTemperature" "I", Cond.instanceMethod yX2_countHousesWithoutHeat, Cond.selects RX2 yX2_countHousesWithoutHeat yX2_countHousesWithoutHeat, Cond.code yX2_countHousesWithoutHeat cX2_countHousesWithoutHeat 3 (some .int), Cond.methodLink RL 47 yL_hasHeat, Cond.static yL_hasHeat, Cond.code yL_hasHeat cL_hasHeat 5 (some .boolean)]
def wsL_law0_r8 : List Cond := [Cond.methodLink RL 44 yL_hours, Cond.static yL_hours, Cond.code yL_hours cL_hours 14 (some .boolean), Cond.methodLink RL 54 yL_demand, Cond.static yL_demand, Cond.code yL_demand cL_demand 5 (some .int), Cond.methodLink RL 61 yX4_hour, Cond.instanceMethod yX4_hour, Cond.selects RX4 yX4_hour yX4_hour, Cond.code yX4_hour cX4_hour 3 (some .int), Cond.instanceMethod yX2_serve, Cond.selects RX2 yX2_serve yX2_serve, Cond.code yX2_serve cX2_serve 4 none, Cond.methodLink RX2 59 Lib.Math.max.name, Cond.static Lib.Math.max.name, Cond.initialized "java/lang/Math", Cond.code Lib.Math.max.name Lib.Math.max.code 2 (some .int), Cond.methodLink RX2 64 Lib.Math.min.name, Cond.static Lib.Math.min.name, Cond.code Lib.Math.min.name Lib.Math.min.code 2 (some .int), Cond.instanceMethod yX3_fire, Cond.selects RX3 yX3_fire yX3_fire, Cond.code yX3_fire cX3_fire 5 none, Cond.fieldLink RX3 42 "HeatGuild$Plant" "spent" "I"]
def wsL_law0_r9 : List Cond := [Cond.instanceMethod yX0_fireFor, Cond.selects RX0 yX0_fireFor yX0_fireFor, Cond.code yX0_fireFor cX0_fireFor 2 (some .int), Cond.fieldLink RX0 22 "HeatGuild$Boiler" "firedSteps" "I", Cond.methodLink RX0 25 Lib.Math.min.name, Cond.instanceMethod yX1_read, Cond.selects RX1 yX1_read yX1_read, Cond.code yX1_read cX1_read 5 none, Cond.methodLink RX4 122 yX4_isPeak, Cond.instanceMethod yX4_isPeak, Cond.selects RX4 yX4_isPeak yX4_isPeak, Cond.code yX4_isPeak cX4_isPeak 2 (some .boolean), Cond.methodLink RX4 125 yX4_charge, Cond.instanceMethod yX4_charge, Cond.selects RX4 yX4_charge yX4_charge, Cond.code yX4_charge cX4_charge 5 none, Cond.methodLink RX4 170 yX4_wantedHeat, Cond.instanceMethod yX2_endHourOfRepairs, Cond.selects RX2 yX2_endHourOfRepairs yX2_endHourOfRepairs, Cond.code yX2_endHourOfRepairs cX2_endHourOfRepairs 2 none, Cond.methodLink RL 67 yL_areMetered, Cond.static yL_areMetered, Cond.code yL_areMetered cL_areMetered 11 (some .boolean), Cond.methodLink RL 74 yL_isOnWay]
def wsL_law0_r10 : List Cond := [Cond.static yL_isOnWay, Cond.code yL_isOnWay cL_isOnWay 4 (some .boolean), Cond.methodLink RL 78 yX4_got, Cond.instanceMethod yX4_got, Cond.selects RX4 yX4_got yX4_got, Cond.code yX4_got cX4_got 2 (some .int), Cond.methodLink RL 81 yX4_meter, Cond.instanceMethod yX4_meter, Cond.selects RX4 yX4_meter yX4_meter, Cond.code yX4_meter cX4_meter 2 (some .int), Cond.methodLink RL 84 yX4_isSuspected, Cond.instanceMethod yX4_isSuspected, Cond.selects RX4 yX4_isSuspected yX4_isSuspected, Cond.code yX4_isSuspected cX4_isSuspected 2 (some .boolean), Cond.methodLink RL 71 yL_areFired, Cond.static yL_areFired, Cond.code yL_areFired cL_areFired 11 (some .boolean), Cond.methodLink RL 102 yL_areBills, Cond.static yL_areBills, Cond.code yL_areBills cL_areBills 4 (some .boolean), Cond.methodLink RL 90 yX4_bill, Cond.instanceMethod yX4_bill, Cond.selects RX4 yX4_bill yX4_bill, Cond.code yX4_bill cX4_bill 2 (some .int)]
def wsL_law0 : List Cond := (wsL_law0_r1 ++ (wsL_law0_r2 ++ (wsL_law0_r3 ++ (wsL_law0_r4 ++ (wsL_law0_r5 ++ (wsL_law0_r6 ++ (wsL_law0_r7 ++ (wsL_law0_r8 ++ (wsL_law0_r9 ++ wsL_law0_r10))))))))) ++ wsX40 ++ wsX20 ++ wsX30 ++ wsX10 ++ wsX00 ++ ([] : List Cond)
def wsL_law : List Cond := wsL_law0 ++ (vx_atS RX4 46 "java/lang/IllegalArgumentException" ["java/lang/RuntimeException", "java/lang/Exception"]).filter goodWord ++ (vx_atS RX4 57 "java/lang/IllegalStateException" ["java/lang/RuntimeException", "java/lang/Exception"]).filter goodWord ++ (vx_atS RX4 146 "java/lang/IndexOutOfBoundsException" ["java/lang/RuntimeException", "java/lang/Exception"]).filter goodWord
set_option maxRecDepth 20000 in
theorem wsL_law0_r1_in : ∀ w ∈ wsL_law0_r1, w ∈ lw_tbl := fun w h => (goodIn_p wsL_law0_r1 [33, 36] (by decide +kernel) (by decide +kernel) w h).1
set_option maxRecDepth 20000 in
theorem wsL_law0_r2_in : ∀ w ∈ wsL_law0_r2, w ∈ lw_tbl := fun w h => (goodIn_p wsL_law0_r2 [41, 87, 109] (by decide +kernel) (by decide +kernel) w h).1
set_option maxRecDepth 20000 in
theorem wsL_law0_r3_in : ∀ w ∈ wsL_law0_r3, w ∈ lw_tbl := fun w h => (goodIn_p wsL_law0_r3 [155, 263, 259, 159, 162, 165] (by decide +kernel) (by decide +kernel) w h).1
set_option maxRecDepth 20000 in
theorem wsL_law0_r4_in : ∀ w ∈ wsL_law0_r4, w ∈ lw_tbl := fun w h => (goodIn_p wsL_law0_r4 [237, 241, 244, 247, 251, 255, 266] (by decide +kernel) (by decide +kernel) w h).1
set_option maxRecDepth 20000 in
theorem wsL_law0_r5_in : ∀ w ∈ wsL_law0_r5, w ∈ lw_tbl := fun w h => (goodIn_p wsL_law0_r5 [272, 276, 298, 303] (by decide +kernel) (by decide +kernel) w h).1
set_option maxRecDepth 20000 in
theorem wsL_law0_r6_in : ∀ w ∈ wsL_law0_r6, w ∈ lw_tbl := fun w h => (goodIn_p wsL_law0_r6 [307, 327, 333, 338] (by decide +kernel) (by decide +kernel) w h).1
set_option maxRecDepth 20000 in
theorem wsL_law0_r7_in : ∀ w ∈ wsL_law0_r7, w ∈ lw_tbl := fun w h => (goodIn_p wsL_law0_r7 [365, 369, 374, 378, 382, 389, 392] (by decide +kernel) (by decide +kernel) w h).1
set_option maxRecDepth 20000 in
theorem wsL_law0_r8_in : ∀ w ∈ wsL_law0_r8, w ∈ lw_tbl := fun w h => (goodIn_p wsL_law0_r8 [395, 398, 402, 406, 409, 412, 416] (by decide +kernel) (by decide +kernel) w h).1
set_option maxRecDepth 20000 in
theorem wsL_law0_r9_in : ∀ w ∈ wsL_law0_r9, w ∈ lw_tbl := fun w h => (goodIn_p wsL_law0_r9 [420, 425, 431, 435, 440, 443] (by decide +kernel) (by decide +kernel) w h).1
set_option maxRecDepth 20000 in
theorem wsL_law0_r10_in : ∀ w ∈ wsL_law0_r10, w ∈ lw_tbl := fun w h => (goodIn_p wsL_law0_r10 [446, 450, 454, 458, 461, 464, 468] (by decide +kernel) (by decide +kernel) w h).1
theorem wsX40_in0 : ∀ w ∈ wsX40, w ∈ lw_tbl := by decide +kernel
theorem wsX20_in0 : ∀ w ∈ wsX20, w ∈ lw_tbl := by decide +kernel
theorem wsX30_in0 : ∀ w ∈ wsX30, w ∈ lw_tbl := by decide +kernel
theorem wsX10_in0 : ∀ w ∈ wsX10, w ∈ lw_tbl := by decide +kernel
theorem wsX00_in0 : ∀ w ∈ wsX00, w ∈ lw_tbl := by decide +kernel
theorem wsL_law_in0 : ∀ w ∈ wsL_law0, w ∈ lw_tbl := fun w h => (List.mem_append.mp h).elim (fun h => (List.mem_append.mp h).elim (fun h => (List.mem_append.mp h).elim (fun h => (List.mem_append.mp h).elim (fun h => (List.mem_append.mp h).elim (fun h => (List.mem_append.mp h).elim (fun h => (List.mem_append.mp h).elim (fun h => wsL_law0_r1_in w h) (fun h => (List.mem_append.mp h).elim (fun h => wsL_law0_r2_in w h) (fun h => (List.mem_append.mp h).elim (fun h => wsL_law0_r3_in w h) (fun h => (List.mem_append.mp h).elim (fun h => wsL_law0_r4_in w h) (fun h => (List.mem_append.mp h).elim (fun h => wsL_law0_r5_in w h) (fun h => (List.mem_append.mp h).elim (fun h => wsL_law0_r6_in w h) (fun h => (List.mem_append.mp h).elim (fun h => wsL_law0_r7_in w h) (fun h => (List.mem_append.mp h).elim (fun h => wsL_law0_r8_in w h) (fun h => (List.mem_append.mp h).elim (fun h => wsL_law0_r9_in w h) (fun h => wsL_law0_r10_in w h)))))))))) (fun h => wsX40_in0 w h)) (fun h => wsX20_in0 w h)) (fun h => wsX30_in0 w h)) (fun h => wsX10_in0 w h)) (fun h => wsX00_in0 w h)) (fun h => absurd h List.not_mem_nil)
theorem wsL_law_x0 : ∀ w ∈ (vx_atS RX4 46 "java/lang/IllegalArgumentException" ["java/lang/RuntimeException", "java/lang/Exception"]).filter goodWord, w ∈ lw_tbl := by decide +kernel
theorem wsL_law_x1 : ∀ w ∈ (vx_atS RX4 57 "java/lang/IllegalStateException" ["java/lang/RuntimeException", "java/lang/Exception"]).filter goodWord, w ∈ lw_tbl := by decide +kernel
theorem wsL_law_x2 : ∀ w ∈ (vx_atS RX4 146 "java/lang/IndexOutOfBoundsException" ["java/lang/RuntimeException", "java/lang/Exception"]).filter goodWord, w ∈ lw_tbl := by decide +kernel
theorem wsL_law_in : ∀ w ∈ wsL_law, w ∈ lw_tbl := fun w h => (List.mem_append.mp h).elim (fun h => (List.mem_append.mp h).elim (fun h => (List.mem_append.mp h).elim (fun h => wsL_law_in0 w h) (fun h => wsL_law_x0 w h)) (fun h => wsL_law_x1 w h)) (fun h => wsL_law_x2 w h)
theorem inlX0 : ∀ w ∈ wsX00, w ∈ wsL_law := fun _ h => List.mem_append_left _ (List.mem_append_left _ (List.mem_append_left _ (List.mem_append_left _ (List.mem_append_right _ h))))
theorem inX0 : ∀ w ∈ wsX00, w ∈ lw_tbl := fun w h => wsL_law_in w (inlX0 w h)
theorem inlX1 : ∀ w ∈ wsX10, w ∈ wsL_law := fun _ h => List.mem_append_left _ (List.mem_append_left _ (List.mem_append_left _ (List.mem_append_left _ (List.mem_append_left _ (List.mem_append_right _ h)))))
theorem inX1 : ∀ w ∈ wsX10, w ∈ lw_tbl := fun w h => wsL_law_in w (inlX1 w h)
theorem inlX2 : ∀ w ∈ wsX20, w ∈ wsL_law := fun _ h => List.mem_append_left _ (List.mem_append_left _ (List.mem_append_left _ (List.mem_append_left _ (List.mem_append_left _ (List.mem_append_left _ (List.mem_append_left _ (List.mem_append_right _ h)))))))
theorem inX2 : ∀ w ∈ wsX20, w ∈ lw_tbl := fun w h => wsL_law_in w (inlX2 w h)
theorem inlX3 : ∀ w ∈ wsX30, w ∈ wsL_law := fun _ h => List.mem_append_left _ (List.mem_append_left _ (List.mem_append_left _ (List.mem_append_left _ (List.mem_append_left _ (List.mem_append_left _ (List.mem_append_right _ h))))))
theorem inX3 : ∀ w ∈ wsX30, w ∈ lw_tbl := fun w h => wsL_law_in w (inlX3 w h)
theorem inlX4 : ∀ w ∈ wsX40, w ∈ wsL_law := fun _ h => List.mem_append_left _ (List.mem_append_left _ (List.mem_append_left _ (List.mem_append_left _ (List.mem_append_left _ (List.mem_append_left _ (List.mem_append_left _ (List.mem_append_left _ (List.mem_append_right _ h))))))))
theorem inX4 : ∀ w ∈ wsX40, w ∈ lw_tbl := fun w h => wsL_law_in w (inlX4 w h)
theorem inX5 : ∀ w ∈ wsX50, w ∈ lw_tbl := by decide +kernel
theorem inJ9 : ∀ w ∈ wsJ90, w ∈ lw_tbl := by decide +kernel
theorem inJ0 : ∀ w ∈ wsJ00, w ∈ lw_tbl := by decide +kernel
end
section
theorem dX0_init_0 : decode cX0_init 0 = .ok (.aload_n 0, 1) := by decide +kernel
theorem dX0_init_1 : decode cX0_init 1 = .ok (.invokespecial 1, 3) := by decide +kernel
theorem dX0_init_4 : decode cX0_init 4 = .ok (.aload_n 0, 1) := by decide +kernel
theorem dX0_init_5 : decode cX0_init 5 = .ok (.iload_n 1, 1) := by decide +kernel
theorem dX0_init_6 : decode cX0_init 6 = .ok (.putfield 7, 3) := by decide +kernel
theorem dX0_init_9 : decode cX0_init 9 = .ok (.aload_n 0, 1) := by decide +kernel
theorem dX0_init_10 : decode cX0_init 10 = .ok (.iload_n 2, 1) := by decide +kernel
theorem dX0_init_11 : decode cX0_init 11 = .ok (.putfield 13, 3) := by decide +kernel
theorem dX0_init_14 : decode cX0_init 14 = .ok (.aload_n 0, 1) := by decide +kernel
theorem dX0_init_15 : decode cX0_init 15 = .ok (.iload_n 3, 1) := by decide +kernel
theorem dX0_init_16 : decode cX0_init 16 = .ok (.putfield 16, 3) := by decide +kernel
theorem dX0_init_19 : decode cX0_init 19 = .ok (.aload_n 0, 1) := by decide +kernel
theorem dX0_init_20 : decode cX0_init 20 = .ok (.iload 4, 2) := by decide +kernel
theorem dX0_init_22 : decode cX0_init 22 = .ok (.putfield 19, 3) := by decide +kernel
theorem dX0_init_25 : decode cX0_init 25 = .ok (.return_, 1) := by decide +kernel
theorem dX0_fireFor_0 : decode cX0_fireFor 0 = .ok (.aload_n 0, 1) := by decide +kernel
theorem dX0_fireFor_1 : decode cX0_fireFor 1 = .ok (.iconst 0, 1) := by decide +kernel
theorem dX0_fireFor_2 : decode cX0_fireFor 2 = .ok (.putfield 22, 3) := by decide +kernel
theorem dX0_fireFor_5 : decode cX0_fireFor 5 = .ok (.aload_n 0, 1) := by decide +kernel
theorem dX0_fireFor_6 : decode cX0_fireFor 6 = .ok (.getfield 22, 3) := by decide +kernel
theorem dX0_fireFor_9 : decode cX0_fireFor 9 = .ok (.aload_n 0, 1) := by decide +kernel
theorem dX0_fireFor_10 : decode cX0_fireFor 10 = .ok (.getfield 13, 3) := by decide +kernel
theorem dX0_fireFor_13 : decode cX0_fireFor 13 = .ok (.if_icmp .ge 29, 3) := by decide +kernel
theorem dX0_fireFor_16 : decode cX0_fireFor 16 = .ok (.aload_n 0, 1) := by decide +kernel
theorem dX0_fireFor_17 : decode cX0_fireFor 17 = .ok (.getfield 22, 3) := by decide +kernel
theorem dX0_fireFor_20 : decode cX0_fireFor 20 = .ok (.aload_n 0, 1) := by decide +kernel
theorem dX0_fireFor_21 : decode cX0_fireFor 21 = .ok (.getfield 16, 3) := by decide +kernel
theorem dX0_fireFor_24 : decode cX0_fireFor 24 = .ok (.imul, 1) := by decide +kernel
theorem dX0_fireFor_25 : decode cX0_fireFor 25 = .ok (.iload_n 1, 1) := by decide +kernel
theorem dX0_fireFor_26 : decode cX0_fireFor 26 = .ok (.if_icmp .ge 16, 3) := by decide +kernel
theorem dX0_fireFor_29 : decode cX0_fireFor 29 = .ok (.aload_n 0, 1) := by decide +kernel
theorem dX0_fireFor_30 : decode cX0_fireFor 30 = .ok (.dup, 1) := by decide +kernel
theorem dX0_fireFor_31 : decode cX0_fireFor 31 = .ok (.getfield 22, 3) := by decide +kernel
theorem dX0_fireFor_34 : decode cX0_fireFor 34 = .ok (.iconst 1, 1) := by decide +kernel
theorem dX0_fireFor_35 : decode cX0_fireFor 35 = .ok (.iadd, 1) := by decide +kernel
theorem dX0_fireFor_36 : decode cX0_fireFor 36 = .ok (.putfield 22, 3) := by decide +kernel
theorem dX0_fireFor_39 : decode cX0_fireFor 39 = .ok (.goto (-34), 3) := by decide +kernel
theorem dX0_fireFor_42 : decode cX0_fireFor 42 = .ok (.iload_n 1, 1) := by decide +kernel
theorem dX0_fireFor_43 : decode cX0_fireFor 43 = .ok (.aload_n 0, 1) := by decide +kernel
theorem dX0_fireFor_44 : decode cX0_fireFor 44 = .ok (.getfield 22, 3) := by decide +kernel
theorem dX0_fireFor_47 : decode cX0_fireFor 47 = .ok (.aload_n 0, 1) := by decide +kernel
theorem dX0_fireFor_48 : decode cX0_fireFor 48 = .ok (.getfield 16, 3) := by decide +kernel
theorem dX0_fireFor_51 : decode cX0_fireFor 51 = .ok (.imul, 1) := by decide +kernel
theorem dX0_fireFor_52 : decode cX0_fireFor 52 = .ok (.invokestatic 25, 3) := by decide +kernel
theorem dX0_fireFor_55 : decode cX0_fireFor 55 = .ok (.ireturn, 1) := by decide +kernel
theorem dX1_init_0 : decode cX1_init 0 = .ok (.aload_n 0, 1) := by decide +kernel
theorem dX1_init_1 : decode cX1_init 1 = .ok (.invokespecial 3, 3) := by decide +kernel
theorem dX1_init_4 : decode cX1_init 4 = .ok (.aload_n 0, 1) := by decide +kernel
theorem dX1_init_5 : decode cX1_init 5 = .ok (.bipush 12, 2) := by decide +kernel
theorem dX1_init_7 : decode cX1_init 7 = .ok (.newarray .int, 2) := by decide +kernel
theorem dX1_init_9 : decode cX1_init 9 = .ok (.putfield 9, 3) := by decide +kernel
theorem dX1_init_12 : decode cX1_init 12 = .ok (.aload_n 0, 1) := by decide +kernel
theorem dX1_init_13 : decode cX1_init 13 = .ok (.bipush 12, 2) := by decide +kernel
theorem dX1_init_15 : decode cX1_init 15 = .ok (.newarray .int, 2) := by decide +kernel
theorem dX1_init_17 : decode cX1_init 17 = .ok (.putfield 15, 3) := by decide +kernel
theorem dX1_init_20 : decode cX1_init 20 = .ok (.aload_n 0, 1) := by decide +kernel
theorem dX1_init_21 : decode cX1_init 21 = .ok (.bipush 12, 2) := by decide +kernel
theorem dX1_init_23 : decode cX1_init 23 = .ok (.newarray .boolean, 2) := by decide +kernel
theorem dX1_init_25 : decode cX1_init 25 = .ok (.putfield 18, 3) := by decide +kernel
theorem dX1_init_28 : decode cX1_init 28 = .ok (.aload_n 0, 1) := by decide +kernel
theorem dX1_init_29 : decode cX1_init 29 = .ok (.bipush 12, 2) := by decide +kernel
theorem dX1_init_31 : decode cX1_init 31 = .ok (.newarray .int, 2) := by decide +kernel
theorem dX1_init_33 : decode cX1_init 33 = .ok (.putfield 22, 3) := by decide +kernel
theorem dX1_init_36 : decode cX1_init 36 = .ok (.aload_n 0, 1) := by decide +kernel
theorem dX1_init_37 : decode cX1_init 37 = .ok (.bipush 12, 2) := by decide +kernel
theorem dX1_init_39 : decode cX1_init 39 = .ok (.newarray .int, 2) := by decide +kernel
theorem dX1_init_41 : decode cX1_init 41 = .ok (.putfield 25, 3) := by decide +kernel
theorem dX1_init_44 : decode cX1_init 44 = .ok (.return_, 1) := by decide +kernel
set_option maxRecDepth 20000 in
theorem ggX1_read_X4_isHouse : GoodIn wsX1_read wsX4_isHouse := goodIn_r _ [8] (by decide +kernel) (by decide +kernel)
set_option maxRecDepth 20000 in
theorem gX1_read_X4_isHouse_n39 : GoodIn wsX1_read (wsX4_isHouse) := ggX1_read_X4_isHouse
set_option maxRecDepth 20000 in
theorem ggX1_read_X2_carriedLoss : GoodIn wsX1_read wsX2_carriedLoss := goodIn_r _ [12, 13, 14, 6, 7, 8, 20, 21, 22, 23, 24, 25, 26, 27, 28] (by decide +kernel) (by decide +kernel)
set_option maxRecDepth 20000 in
theorem gX1_read_X2_carriedLoss_n43 : GoodIn wsX1_read (wsX2_carriedLoss) := ggX1_read_X2_carriedLoss
theorem dX1_read_0 : decode cX1_read 0 = .ok (.iconst 1, 1) := by decide +kernel
theorem dX1_read_1 : decode cX1_read 1 = .ok (.istore_n 2, 1) := by decide +kernel
theorem dX1_read_2 : decode cX1_read 2 = .ok (.iload_n 2, 1) := by decide +kernel
theorem dX1_read_3 : decode cX1_read 3 = .ok (.bipush 12, 2) := by decide +kernel
theorem dX1_read_5 : decode cX1_read 5 = .ok (.if_icmp .ge 33, 3) := by decide +kernel
theorem dX1_read_8 : decode cX1_read 8 = .ok (.aload_n 0, 1) := by decide +kernel
theorem dX1_read_9 : decode cX1_read 9 = .ok (.getfield 22, 3) := by decide +kernel
theorem dX1_read_12 : decode cX1_read 12 = .ok (.iload_n 2, 1) := by decide +kernel
theorem dX1_read_13 : decode cX1_read 13 = .ok (.aload_n 1, 1) := by decide +kernel
theorem dX1_read_14 : decode cX1_read 14 = .ok (.getfield 28, 3) := by decide +kernel
theorem dX1_read_17 : decode cX1_read 17 = .ok (.iload_n 2, 1) := by decide +kernel
theorem dX1_read_18 : decode cX1_read 18 = .ok (.iaload, 1) := by decide +kernel
theorem dX1_read_19 : decode cX1_read 19 = .ok (.iastore, 1) := by decide +kernel
theorem dX1_read_20 : decode cX1_read 20 = .ok (.aload_n 0, 1) := by decide +kernel
theorem dX1_read_21 : decode cX1_read 21 = .ok (.getfield 25, 3) := by decide +kernel
theorem dX1_read_24 : decode cX1_read 24 = .ok (.iload_n 2, 1) := by decide +kernel
theorem dX1_read_25 : decode cX1_read 25 = .ok (.aload_n 1, 1) := by decide +kernel
theorem dX1_read_26 : decode cX1_read 26 = .ok (.getfield 28, 3) := by decide +kernel
theorem dX1_read_29 : decode cX1_read 29 = .ok (.iload_n 2, 1) := by decide +kernel
theorem dX1_read_30 : decode cX1_read 30 = .ok (.iaload, 1) := by decide +kernel
theorem dX1_read_31 : decode cX1_read 31 = .ok (.iastore, 1) := by decide +kernel
theorem dX1_read_32 : decode cX1_read 32 = .ok (.iinc 2 1, 3) := by decide +kernel
theorem dX1_read_35 : decode cX1_read 35 = .ok (.goto (-33), 3) := by decide +kernel
theorem dX1_read_38 : decode cX1_read 38 = .ok (.bipush 11, 2) := by decide +kernel
theorem dX1_read_40 : decode cX1_read 40 = .ok (.istore_n 2, 1) := by decide +kernel
theorem dX1_read_41 : decode cX1_read 41 = .ok (.iload_n 2, 1) := by decide +kernel
theorem dX1_read_42 : decode cX1_read 42 = .ok (.iconst 1, 1) := by decide +kernel
theorem dX1_read_43 : decode cX1_read 43 = .ok (.if_icmp .lt 124, 3) := by decide +kernel
theorem dX1_read_46 : decode cX1_read 46 = .ok (.aload_n 0, 1) := by decide +kernel
theorem dX1_read_47 : decode cX1_read 47 = .ok (.getfield 15, 3) := by decide +kernel
theorem dX1_read_50 : decode cX1_read 50 = .ok (.iload_n 2, 1) := by decide +kernel
theorem dX1_read_51 : decode cX1_read 51 = .ok (.aload_n 1, 1) := by decide +kernel
theorem dX1_read_52 : decode cX1_read 52 = .ok (.getfield 33, 3) := by decide +kernel
theorem dX1_read_55 : decode cX1_read 55 = .ok (.iload_n 2, 1) := by decide +kernel
theorem dX1_read_56 : decode cX1_read 56 = .ok (.baload, 1) := by decide +kernel
theorem dX1_read_57 : decode cX1_read 57 = .ok (.ifCond .eq 19, 3) := by decide +kernel
theorem dX1_read_60 : decode cX1_read 60 = .ok (.aload_n 0, 1) := by decide +kernel
theorem dX1_read_61 : decode cX1_read 61 = .ok (.getfield 22, 3) := by decide +kernel
theorem dX1_read_64 : decode cX1_read 64 = .ok (.iload_n 2, 1) := by decide +kernel
theorem dX1_read_65 : decode cX1_read 65 = .ok (.iaload, 1) := by decide +kernel
theorem dX1_read_66 : decode cX1_read 66 = .ok (.aload_n 0, 1) := by decide +kernel
theorem dX1_read_67 : decode cX1_read 67 = .ok (.getfield 9, 3) := by decide +kernel
theorem dX1_read_70 : decode cX1_read 70 = .ok (.iload_n 2, 1) := by decide +kernel
theorem dX1_read_71 : decode cX1_read 71 = .ok (.iaload, 1) := by decide +kernel
theorem dX1_read_72 : decode cX1_read 72 = .ok (.iadd, 1) := by decide +kernel
theorem dX1_read_73 : decode cX1_read 73 = .ok (.goto 4, 3) := by decide +kernel
theorem dX1_read_76 : decode cX1_read 76 = .ok (.iconst 0, 1) := by decide +kernel
theorem dX1_read_77 : decode cX1_read 77 = .ok (.iastore, 1) := by decide +kernel
theorem dX1_read_78 : decode cX1_read 78 = .ok (.aload_n 0, 1) := by decide +kernel
theorem dX1_read_79 : decode cX1_read 79 = .ok (.getfield 18, 3) := by decide +kernel
theorem dX1_read_82 : decode cX1_read 82 = .ok (.iload_n 2, 1) := by decide +kernel
theorem dX1_read_83 : decode cX1_read 83 = .ok (.aload_n 0, 1) := by decide +kernel
theorem dX1_read_84 : decode cX1_read 84 = .ok (.getfield 15, 3) := by decide +kernel
theorem dX1_read_87 : decode cX1_read 87 = .ok (.iload_n 2, 1) := by decide +kernel
theorem dX1_read_88 : decode cX1_read 88 = .ok (.iaload, 1) := by decide +kernel
theorem dX1_read_89 : decode cX1_read 89 = .ok (.aload_n 0, 1) := by decide +kernel
theorem dX1_read_90 : decode cX1_read 90 = .ok (.getfield 25, 3) := by decide +kernel
theorem dX1_read_93 : decode cX1_read 93 = .ok (.iload_n 2, 1) := by decide +kernel
theorem dX1_read_94 : decode cX1_read 94 = .ok (.iaload, 1) := by decide +kernel
theorem dX1_read_95 : decode cX1_read 95 = .ok (.if_icmp .eq 7, 3) := by decide +kernel
theorem dX1_read_98 : decode cX1_read 98 = .ok (.iconst 1, 1) := by decide +kernel
theorem dX1_read_99 : decode cX1_read 99 = .ok (.goto 4, 3) := by decide +kernel
theorem dX1_read_102 : decode cX1_read 102 = .ok (.iconst 0, 1) := by decide +kernel
theorem dX1_read_103 : decode cX1_read 103 = .ok (.bastore, 1) := by decide +kernel
theorem dX1_read_104 : decode cX1_read 104 = .ok (.aload_n 1, 1) := by decide +kernel
theorem dX1_read_105 : decode cX1_read 105 = .ok (.getfield 36, 3) := by decide +kernel
theorem dX1_read_108 : decode cX1_read 108 = .ok (.iload_n 2, 1) := by decide +kernel
theorem dX1_read_109 : decode cX1_read 109 = .ok (.iaload, 1) := by decide +kernel
theorem dX1_read_110 : decode cX1_read 110 = .ok (.istore_n 3, 1) := by decide +kernel
theorem dX1_read_111 : decode cX1_read 111 = .ok (.iload_n 3, 1) := by decide +kernel
theorem dX1_read_112 : decode cX1_read 112 = .ok (.invokestatic 39, 3) := by decide +kernel
theorem dX1_read_115 : decode cX1_read 115 = .ok (.ifCond .eq 46, 3) := by decide +kernel
theorem dX1_read_118 : decode cX1_read 118 = .ok (.aload_n 1, 1) := by decide +kernel
theorem dX1_read_119 : decode cX1_read 119 = .ok (.iload_n 2, 1) := by decide +kernel
theorem dX1_read_120 : decode cX1_read 120 = .ok (.invokevirtual 43, 3) := by decide +kernel
theorem dX1_read_123 : decode cX1_read 123 = .ok (.istore 4, 2) := by decide +kernel
theorem dX1_read_125 : decode cX1_read 125 = .ok (.aload_n 0, 1) := by decide +kernel
theorem dX1_read_126 : decode cX1_read 126 = .ok (.getfield 22, 3) := by decide +kernel
theorem dX1_read_129 : decode cX1_read 129 = .ok (.iload_n 3, 1) := by decide +kernel
theorem dX1_read_130 : decode cX1_read 130 = .ok (.dup2, 1) := by decide +kernel
theorem dX1_read_131 : decode cX1_read 131 = .ok (.iaload, 1) := by decide +kernel
theorem dX1_read_132 : decode cX1_read 132 = .ok (.aload_n 0, 1) := by decide +kernel
theorem dX1_read_133 : decode cX1_read 133 = .ok (.getfield 22, 3) := by decide +kernel
theorem dX1_read_136 : decode cX1_read 136 = .ok (.iload_n 2, 1) := by decide +kernel
theorem dX1_read_137 : decode cX1_read 137 = .ok (.iaload, 1) := by decide +kernel
theorem dX1_read_138 : decode cX1_read 138 = .ok (.iload 4, 2) := by decide +kernel
theorem dX1_read_140 : decode cX1_read 140 = .ok (.iadd, 1) := by decide +kernel
theorem dX1_read_141 : decode cX1_read 141 = .ok (.iadd, 1) := by decide +kernel
theorem dX1_read_142 : decode cX1_read 142 = .ok (.iastore, 1) := by decide +kernel
theorem dX1_read_143 : decode cX1_read 143 = .ok (.aload_n 0, 1) := by decide +kernel
theorem dX1_read_144 : decode cX1_read 144 = .ok (.getfield 25, 3) := by decide +kernel
theorem dX1_read_147 : decode cX1_read 147 = .ok (.iload_n 3, 1) := by decide +kernel
theorem dX1_read_148 : decode cX1_read 148 = .ok (.dup2, 1) := by decide +kernel
theorem dX1_read_149 : decode cX1_read 149 = .ok (.iaload, 1) := by decide +kernel
theorem dX1_read_150 : decode cX1_read 150 = .ok (.aload_n 0, 1) := by decide +kernel
theorem dX1_read_151 : decode cX1_read 151 = .ok (.getfield 15, 3) := by decide +kernel
theorem dX1_read_154 : decode cX1_read 154 = .ok (.iload_n 2, 1) := by decide +kernel
theorem dX1_read_155 : decode cX1_read 155 = .ok (.iaload, 1) := by decide +kernel
theorem dX1_read_156 : decode cX1_read 156 = .ok (.iload 4, 2) := by decide +kernel
theorem dX1_read_158 : decode cX1_read 158 = .ok (.iadd, 1) := by decide +kernel
theorem dX1_read_159 : decode cX1_read 159 = .ok (.iadd, 1) := by decide +kernel
theorem dX1_read_160 : decode cX1_read 160 = .ok (.iastore, 1) := by decide +kernel
theorem dX1_read_161 : decode cX1_read 161 = .ok (.iinc 2 (-1), 3) := by decide +kernel
theorem dX1_read_164 : decode cX1_read 164 = .ok (.goto (-123), 3) := by decide +kernel
theorem dX1_read_167 : decode cX1_read 167 = .ok (.return_, 1) := by decide +kernel
theorem dX2_init_0 : decode cX2_init 0 = .ok (.aload_n 0, 1) := by decide +kernel
theorem dX2_init_1 : decode cX2_init 1 = .ok (.invokespecial 3, 3) := by decide +kernel
theorem dX2_init_4 : decode cX2_init 4 = .ok (.aload_n 0, 1) := by decide +kernel
theorem dX2_init_5 : decode cX2_init 5 = .ok (.bipush 12, 2) := by decide +kernel
theorem dX2_init_7 : decode cX2_init 7 = .ok (.newarray .int, 2) := by decide +kernel
theorem dX2_init_9 : decode cX2_init 9 = .ok (.putfield 9, 3) := by decide +kernel
theorem dX2_init_12 : decode cX2_init 12 = .ok (.aload_n 0, 1) := by decide +kernel
theorem dX2_init_13 : decode cX2_init 13 = .ok (.bipush 12, 2) := by decide +kernel
theorem dX2_init_15 : decode cX2_init 15 = .ok (.newarray .int, 2) := by decide +kernel
theorem dX2_init_17 : decode cX2_init 17 = .ok (.putfield 15, 3) := by decide +kernel
theorem dX2_init_20 : decode cX2_init 20 = .ok (.aload_n 0, 1) := by decide +kernel
theorem dX2_init_21 : decode cX2_init 21 = .ok (.bipush 12, 2) := by decide +kernel
theorem dX2_init_23 : decode cX2_init 23 = .ok (.newarray .int, 2) := by decide +kernel
theorem dX2_init_25 : decode cX2_init 25 = .ok (.putfield 18, 3) := by decide +kernel
theorem dX2_init_28 : decode cX2_init 28 = .ok (.aload_n 0, 1) := by decide +kernel
theorem dX2_init_29 : decode cX2_init 29 = .ok (.bipush 12, 2) := by decide +kernel
theorem dX2_init_31 : decode cX2_init 31 = .ok (.newarray .int, 2) := by decide +kernel
theorem dX2_init_33 : decode cX2_init 33 = .ok (.putfield 21, 3) := by decide +kernel
theorem dX2_init_36 : decode cX2_init 36 = .ok (.aload_n 0, 1) := by decide +kernel
theorem dX2_init_37 : decode cX2_init 37 = .ok (.bipush 12, 2) := by decide +kernel
theorem dX2_init_39 : decode cX2_init 39 = .ok (.newarray .int, 2) := by decide +kernel
theorem dX2_init_41 : decode cX2_init 41 = .ok (.putfield 24, 3) := by decide +kernel
theorem dX2_init_44 : decode cX2_init 44 = .ok (.aload_n 0, 1) := by decide +kernel
theorem dX2_init_45 : decode cX2_init 45 = .ok (.bipush 12, 2) := by decide +kernel
theorem dX2_init_47 : decode cX2_init 47 = .ok (.newarray .boolean, 2) := by decide +kernel
theorem dX2_init_49 : decode cX2_init 49 = .ok (.putfield 27, 3) := by decide +kernel
theorem dX2_init_52 : decode cX2_init 52 = .ok (.aload_n 0, 1) := by decide +kernel
theorem dX2_init_53 : decode cX2_init 53 = .ok (.bipush 12, 2) := by decide +kernel
theorem dX2_init_55 : decode cX2_init 55 = .ok (.newarray .boolean, 2) := by decide +kernel
theorem dX2_init_57 : decode cX2_init 57 = .ok (.putfield 31, 3) := by decide +kernel
theorem dX2_init_60 : decode cX2_init 60 = .ok (.aload_n 0, 1) := by decide +kernel
theorem dX2_init_61 : decode cX2_init 61 = .ok (.bipush 12, 2) := by decide +kernel
theorem dX2_init_63 : decode cX2_init 63 = .ok (.newarray .int, 2) := by decide +kernel
theorem dX2_init_65 : decode cX2_init 65 = .ok (.putfield 34, 3) := by decide +kernel
theorem dX2_init_68 : decode cX2_init 68 = .ok (.iconst 1, 1) := by decide +kernel
theorem dX2_init_69 : decode cX2_init 69 = .ok (.istore_n 1, 1) := by decide +kernel
theorem dX2_init_70 : decode cX2_init 70 = .ok (.iload_n 1, 1) := by decide +kernel
theorem dX2_init_71 : decode cX2_init 71 = .ok (.bipush 12, 2) := by decide +kernel
theorem dX2_init_73 : decode cX2_init 73 = .ok (.if_icmp .ge 16, 3) := by decide +kernel
theorem dX2_init_76 : decode cX2_init 76 = .ok (.aload_n 0, 1) := by decide +kernel
theorem dX2_init_77 : decode cX2_init 77 = .ok (.getfield 15, 3) := by decide +kernel
theorem dX2_init_80 : decode cX2_init 80 = .ok (.iload_n 1, 1) := by decide +kernel
theorem dX2_init_81 : decode cX2_init 81 = .ok (.iconst 1, 1) := by decide +kernel
theorem dX2_init_82 : decode cX2_init 82 = .ok (.iastore, 1) := by decide +kernel
theorem dX2_init_83 : decode cX2_init 83 = .ok (.iinc 1 1, 3) := by decide +kernel
theorem dX2_init_86 : decode cX2_init 86 = .ok (.goto (-16), 3) := by decide +kernel
theorem dX2_init_89 : decode cX2_init 89 = .ok (.return_, 1) := by decide +kernel
set_option maxRecDepth 20000 in
theorem ggX2_survey_X2_markHeated : GoodIn wsX2_survey wsX2_markHeated := goodIn_r _ [9, 10, 2, 11, 12, 13, 14, 27, 28, 29, 30, 31, 32, 33, 34, 35] (by decide +kernel) (by decide +kernel)
set_option maxRecDepth 20000 in
theorem gX2_survey_X2_markHeated : GoodIn wsX2_survey (wsV RX2 37 RX2 yX2_markHeated wsX2_markHeated) := goodIn_app (goodIn_of _ (by decide +kernel)) ggX2_survey_X2_markHeated
set_option maxRecDepth 20000 in
theorem ggX2_survey_X4_wantedHeat : GoodIn wsX2_survey wsX4_wantedHeat := goodIn_r _ [16] (by decide +kernel) (by decide +kernel)
set_option maxRecDepth 20000 in
theorem gX2_survey_X4_wantedHeat_n40 : GoodIn wsX2_survey (wsX4_wantedHeat) := ggX2_survey_X4_wantedHeat
set_option maxRecDepth 20000 in
theorem ggX2_survey_X2_markCarries : GoodIn wsX2_survey wsX2_markCarries := goodIn_r _ [20, 21, 1, 10, 12, 13, 14, 27, 28, 29, 30, 31, 32, 33, 34, 35] (by decide +kernel) (by decide +kernel)
set_option maxRecDepth 20000 in
theorem gX2_survey_X2_markCarries : GoodIn wsX2_survey (wsV RX2 44 RX2 yX2_markCarries wsX2_markCarries) := goodIn_app (goodIn_of _ (by decide +kernel)) ggX2_survey_X2_markCarries
set_option maxRecDepth 20000 in
theorem ggX2_survey_X2_carriedLoss : GoodIn wsX2_survey wsX2_carriedLoss := goodIn_r _ [25, 21, 26, 12, 13, 14, 27, 28, 29, 30, 31, 32, 33, 34, 35] (by decide +kernel) (by decide +kernel)
set_option maxRecDepth 20000 in
theorem gX2_survey_X2_carriedLoss : GoodIn wsX2_survey (wsV RX2 51 RX2 yX2_carriedLoss wsX2_carriedLoss) := goodIn_app (goodIn_of _ (by decide +kernel)) ggX2_survey_X2_carriedLoss
theorem dX2_survey_0 : decode cX2_survey 0 = .ok (.aload_n 0, 1) := by decide +kernel
theorem dX2_survey_1 : decode cX2_survey 1 = .ok (.invokevirtual 37, 3) := by decide +kernel
theorem dX2_survey_4 : decode cX2_survey 4 = .ok (.iconst 0, 1) := by decide +kernel
theorem dX2_survey_5 : decode cX2_survey 5 = .ok (.istore_n 2, 1) := by decide +kernel
theorem dX2_survey_6 : decode cX2_survey 6 = .ok (.iconst 1, 1) := by decide +kernel
theorem dX2_survey_7 : decode cX2_survey 7 = .ok (.istore_n 3, 1) := by decide +kernel
theorem dX2_survey_8 : decode cX2_survey 8 = .ok (.iload_n 3, 1) := by decide +kernel
theorem dX2_survey_9 : decode cX2_survey 9 = .ok (.bipush 12, 2) := by decide +kernel
theorem dX2_survey_11 : decode cX2_survey 11 = .ok (.if_icmp .ge 47, 3) := by decide +kernel
theorem dX2_survey_14 : decode cX2_survey 14 = .ok (.aload_n 0, 1) := by decide +kernel
theorem dX2_survey_15 : decode cX2_survey 15 = .ok (.getfield 34, 3) := by decide +kernel
theorem dX2_survey_18 : decode cX2_survey 18 = .ok (.iload_n 3, 1) := by decide +kernel
theorem dX2_survey_19 : decode cX2_survey 19 = .ok (.aload_n 0, 1) := by decide +kernel
theorem dX2_survey_20 : decode cX2_survey 20 = .ok (.getfield 27, 3) := by decide +kernel
theorem dX2_survey_23 : decode cX2_survey 23 = .ok (.iload_n 3, 1) := by decide +kernel
theorem dX2_survey_24 : decode cX2_survey 24 = .ok (.baload, 1) := by decide +kernel
theorem dX2_survey_25 : decode cX2_survey 25 = .ok (.ifCond .eq 16, 3) := by decide +kernel
theorem dX2_survey_28 : decode cX2_survey 28 = .ok (.aload_n 0, 1) := by decide +kernel
theorem dX2_survey_29 : decode cX2_survey 29 = .ok (.getfield 18, 3) := by decide +kernel
theorem dX2_survey_32 : decode cX2_survey 32 = .ok (.iload_n 3, 1) := by decide +kernel
theorem dX2_survey_33 : decode cX2_survey 33 = .ok (.iaload, 1) := by decide +kernel
theorem dX2_survey_34 : decode cX2_survey 34 = .ok (.iload_n 1, 1) := by decide +kernel
theorem dX2_survey_35 : decode cX2_survey 35 = .ok (.invokestatic 40, 3) := by decide +kernel
theorem dX2_survey_38 : decode cX2_survey 38 = .ok (.goto 4, 3) := by decide +kernel
theorem dX2_survey_41 : decode cX2_survey 41 = .ok (.iconst 0, 1) := by decide +kernel
theorem dX2_survey_42 : decode cX2_survey 42 = .ok (.iastore, 1) := by decide +kernel
theorem dX2_survey_43 : decode cX2_survey 43 = .ok (.iload_n 2, 1) := by decide +kernel
theorem dX2_survey_44 : decode cX2_survey 44 = .ok (.aload_n 0, 1) := by decide +kernel
theorem dX2_survey_45 : decode cX2_survey 45 = .ok (.getfield 34, 3) := by decide +kernel
theorem dX2_survey_48 : decode cX2_survey 48 = .ok (.iload_n 3, 1) := by decide +kernel
theorem dX2_survey_49 : decode cX2_survey 49 = .ok (.iaload, 1) := by decide +kernel
theorem dX2_survey_50 : decode cX2_survey 50 = .ok (.iadd, 1) := by decide +kernel
theorem dX2_survey_51 : decode cX2_survey 51 = .ok (.istore_n 2, 1) := by decide +kernel
theorem dX2_survey_52 : decode cX2_survey 52 = .ok (.iinc 3 1, 3) := by decide +kernel
theorem dX2_survey_55 : decode cX2_survey 55 = .ok (.goto (-47), 3) := by decide +kernel
theorem dX2_survey_58 : decode cX2_survey 58 = .ok (.aload_n 0, 1) := by decide +kernel
theorem dX2_survey_59 : decode cX2_survey 59 = .ok (.invokevirtual 44, 3) := by decide +kernel
theorem dX2_survey_62 : decode cX2_survey 62 = .ok (.aload_n 0, 1) := by decide +kernel
theorem dX2_survey_63 : decode cX2_survey 63 = .ok (.iconst 0, 1) := by decide +kernel
theorem dX2_survey_64 : decode cX2_survey 64 = .ok (.putfield 47, 3) := by decide +kernel
theorem dX2_survey_67 : decode cX2_survey 67 = .ok (.iconst 1, 1) := by decide +kernel
theorem dX2_survey_68 : decode cX2_survey 68 = .ok (.istore_n 3, 1) := by decide +kernel
theorem dX2_survey_69 : decode cX2_survey 69 = .ok (.iload_n 3, 1) := by decide +kernel
theorem dX2_survey_70 : decode cX2_survey 70 = .ok (.bipush 12, 2) := by decide +kernel
theorem dX2_survey_72 : decode cX2_survey 72 = .ok (.if_icmp .ge 23, 3) := by decide +kernel
theorem dX2_survey_75 : decode cX2_survey 75 = .ok (.aload_n 0, 1) := by decide +kernel
theorem dX2_survey_76 : decode cX2_survey 76 = .ok (.dup, 1) := by decide +kernel
theorem dX2_survey_77 : decode cX2_survey 77 = .ok (.getfield 47, 3) := by decide +kernel
theorem dX2_survey_80 : decode cX2_survey 80 = .ok (.aload_n 0, 1) := by decide +kernel
theorem dX2_survey_81 : decode cX2_survey 81 = .ok (.iload_n 3, 1) := by decide +kernel
theorem dX2_survey_82 : decode cX2_survey 82 = .ok (.invokevirtual 51, 3) := by decide +kernel
theorem dX2_survey_85 : decode cX2_survey 85 = .ok (.iadd, 1) := by decide +kernel
theorem dX2_survey_86 : decode cX2_survey 86 = .ok (.putfield 47, 3) := by decide +kernel
theorem dX2_survey_89 : decode cX2_survey 89 = .ok (.iinc 3 1, 3) := by decide +kernel
theorem dX2_survey_92 : decode cX2_survey 92 = .ok (.goto (-23), 3) := by decide +kernel
theorem dX2_survey_95 : decode cX2_survey 95 = .ok (.iload_n 2, 1) := by decide +kernel
theorem dX2_survey_96 : decode cX2_survey 96 = .ok (.aload_n 0, 1) := by decide +kernel
theorem dX2_survey_97 : decode cX2_survey 97 = .ok (.getfield 47, 3) := by decide +kernel
theorem dX2_survey_100 : decode cX2_survey 100 = .ok (.iadd, 1) := by decide +kernel
theorem dX2_survey_101 : decode cX2_survey 101 = .ok (.ireturn, 1) := by decide +kernel
set_option maxRecDepth 20000 in
theorem ggX2_markHeated_X4_isHouse : GoodIn wsX2_markHeated wsX4_isHouse := goodIn_r _ [6] (by decide +kernel) (by decide +kernel)
set_option maxRecDepth 20000 in
theorem gX2_markHeated_X4_isHouse_n55 : GoodIn wsX2_markHeated (wsX4_isHouse) := ggX2_markHeated_X4_isHouse
theorem dX2_markHeated_0 : decode cX2_markHeated 0 = .ok (.iconst 1, 1) := by decide +kernel
theorem dX2_markHeated_1 : decode cX2_markHeated 1 = .ok (.istore_n 1, 1) := by decide +kernel
theorem dX2_markHeated_2 : decode cX2_markHeated 2 = .ok (.iload_n 1, 1) := by decide +kernel
theorem dX2_markHeated_3 : decode cX2_markHeated 3 = .ok (.bipush 12, 2) := by decide +kernel
theorem dX2_markHeated_5 : decode cX2_markHeated 5 = .ok (.if_icmp .ge 62, 3) := by decide +kernel
theorem dX2_markHeated_8 : decode cX2_markHeated 8 = .ok (.aload_n 0, 1) := by decide +kernel
theorem dX2_markHeated_9 : decode cX2_markHeated 9 = .ok (.getfield 9, 3) := by decide +kernel
theorem dX2_markHeated_12 : decode cX2_markHeated 12 = .ok (.iload_n 1, 1) := by decide +kernel
theorem dX2_markHeated_13 : decode cX2_markHeated 13 = .ok (.iaload, 1) := by decide +kernel
theorem dX2_markHeated_14 : decode cX2_markHeated 14 = .ok (.istore_n 2, 1) := by decide +kernel
theorem dX2_markHeated_15 : decode cX2_markHeated 15 = .ok (.iload_n 2, 1) := by decide +kernel
theorem dX2_markHeated_16 : decode cX2_markHeated 16 = .ok (.invokestatic 55, 3) := by decide +kernel
theorem dX2_markHeated_19 : decode cX2_markHeated 19 = .ok (.ifCond .eq 12, 3) := by decide +kernel
theorem dX2_markHeated_22 : decode cX2_markHeated 22 = .ok (.aload_n 0, 1) := by decide +kernel
theorem dX2_markHeated_23 : decode cX2_markHeated 23 = .ok (.getfield 27, 3) := by decide +kernel
theorem dX2_markHeated_26 : decode cX2_markHeated 26 = .ok (.iload_n 2, 1) := by decide +kernel
theorem dX2_markHeated_27 : decode cX2_markHeated 27 = .ok (.baload, 1) := by decide +kernel
theorem dX2_markHeated_28 : decode cX2_markHeated 28 = .ok (.ifCond .eq 7, 3) := by decide +kernel
theorem dX2_markHeated_31 : decode cX2_markHeated 31 = .ok (.iconst 1, 1) := by decide +kernel
theorem dX2_markHeated_32 : decode cX2_markHeated 32 = .ok (.goto 4, 3) := by decide +kernel
theorem dX2_markHeated_35 : decode cX2_markHeated 35 = .ok (.iconst 0, 1) := by decide +kernel
theorem dX2_markHeated_36 : decode cX2_markHeated 36 = .ok (.istore_n 3, 1) := by decide +kernel
theorem dX2_markHeated_37 : decode cX2_markHeated 37 = .ok (.aload_n 0, 1) := by decide +kernel
theorem dX2_markHeated_38 : decode cX2_markHeated 38 = .ok (.getfield 27, 3) := by decide +kernel
theorem dX2_markHeated_41 : decode cX2_markHeated 41 = .ok (.iload_n 1, 1) := by decide +kernel
theorem dX2_markHeated_42 : decode cX2_markHeated 42 = .ok (.iload_n 3, 1) := by decide +kernel
theorem dX2_markHeated_43 : decode cX2_markHeated 43 = .ok (.ifCond .eq 16, 3) := by decide +kernel
theorem dX2_markHeated_46 : decode cX2_markHeated 46 = .ok (.aload_n 0, 1) := by decide +kernel
theorem dX2_markHeated_47 : decode cX2_markHeated 47 = .ok (.getfield 21, 3) := by decide +kernel
theorem dX2_markHeated_50 : decode cX2_markHeated 50 = .ok (.iload_n 1, 1) := by decide +kernel
theorem dX2_markHeated_51 : decode cX2_markHeated 51 = .ok (.iaload, 1) := by decide +kernel
theorem dX2_markHeated_52 : decode cX2_markHeated 52 = .ok (.ifCond .ne 7, 3) := by decide +kernel
theorem dX2_markHeated_55 : decode cX2_markHeated 55 = .ok (.iconst 1, 1) := by decide +kernel
theorem dX2_markHeated_56 : decode cX2_markHeated 56 = .ok (.goto 4, 3) := by decide +kernel
theorem dX2_markHeated_59 : decode cX2_markHeated 59 = .ok (.iconst 0, 1) := by decide +kernel
theorem dX2_markHeated_60 : decode cX2_markHeated 60 = .ok (.bastore, 1) := by decide +kernel
theorem dX2_markHeated_61 : decode cX2_markHeated 61 = .ok (.iinc 1 1, 3) := by decide +kernel
theorem dX2_markHeated_64 : decode cX2_markHeated 64 = .ok (.goto (-62), 3) := by decide +kernel
theorem dX2_markHeated_67 : decode cX2_markHeated 67 = .ok (.return_, 1) := by decide +kernel
set_option maxRecDepth 20000 in
theorem ggX2_markCarries_X4_isHouse : GoodIn wsX2_markCarries wsX4_isHouse := goodIn_r _ [6] (by decide +kernel) (by decide +kernel)
set_option maxRecDepth 20000 in
theorem gX2_markCarries_X4_isHouse_n55 : GoodIn wsX2_markCarries (wsX4_isHouse) := ggX2_markCarries_X4_isHouse
theorem dX2_markCarries_0 : decode cX2_markCarries 0 = .ok (.iconst 1, 1) := by decide +kernel
theorem dX2_markCarries_1 : decode cX2_markCarries 1 = .ok (.istore_n 1, 1) := by decide +kernel
theorem dX2_markCarries_2 : decode cX2_markCarries 2 = .ok (.iload_n 1, 1) := by decide +kernel
theorem dX2_markCarries_3 : decode cX2_markCarries 3 = .ok (.bipush 12, 2) := by decide +kernel
theorem dX2_markCarries_5 : decode cX2_markCarries 5 = .ok (.if_icmp .ge 29, 3) := by decide +kernel
theorem dX2_markCarries_8 : decode cX2_markCarries 8 = .ok (.aload_n 0, 1) := by decide +kernel
theorem dX2_markCarries_9 : decode cX2_markCarries 9 = .ok (.getfield 31, 3) := by decide +kernel
theorem dX2_markCarries_12 : decode cX2_markCarries 12 = .ok (.iload_n 1, 1) := by decide +kernel
theorem dX2_markCarries_13 : decode cX2_markCarries 13 = .ok (.aload_n 0, 1) := by decide +kernel
theorem dX2_markCarries_14 : decode cX2_markCarries 14 = .ok (.getfield 34, 3) := by decide +kernel
theorem dX2_markCarries_17 : decode cX2_markCarries 17 = .ok (.iload_n 1, 1) := by decide +kernel
theorem dX2_markCarries_18 : decode cX2_markCarries 18 = .ok (.iaload, 1) := by decide +kernel
theorem dX2_markCarries_19 : decode cX2_markCarries 19 = .ok (.ifCond .le 7, 3) := by decide +kernel
theorem dX2_markCarries_22 : decode cX2_markCarries 22 = .ok (.iconst 1, 1) := by decide +kernel
theorem dX2_markCarries_23 : decode cX2_markCarries 23 = .ok (.goto 4, 3) := by decide +kernel
theorem dX2_markCarries_26 : decode cX2_markCarries 26 = .ok (.iconst 0, 1) := by decide +kernel
theorem dX2_markCarries_27 : decode cX2_markCarries 27 = .ok (.bastore, 1) := by decide +kernel
theorem dX2_markCarries_28 : decode cX2_markCarries 28 = .ok (.iinc 1 1, 3) := by decide +kernel
theorem dX2_markCarries_31 : decode cX2_markCarries 31 = .ok (.goto (-29), 3) := by decide +kernel
theorem dX2_markCarries_34 : decode cX2_markCarries 34 = .ok (.bipush 11, 2) := by decide +kernel
theorem dX2_markCarries_36 : decode cX2_markCarries 36 = .ok (.istore_n 1, 1) := by decide +kernel
theorem dX2_markCarries_37 : decode cX2_markCarries 37 = .ok (.iload_n 1, 1) := by decide +kernel
theorem dX2_markCarries_38 : decode cX2_markCarries 38 = .ok (.iconst 1, 1) := by decide +kernel
theorem dX2_markCarries_39 : decode cX2_markCarries 39 = .ok (.if_icmp .lt 39, 3) := by decide +kernel
theorem dX2_markCarries_42 : decode cX2_markCarries 42 = .ok (.aload_n 0, 1) := by decide +kernel
theorem dX2_markCarries_43 : decode cX2_markCarries 43 = .ok (.getfield 9, 3) := by decide +kernel
theorem dX2_markCarries_46 : decode cX2_markCarries 46 = .ok (.iload_n 1, 1) := by decide +kernel
theorem dX2_markCarries_47 : decode cX2_markCarries 47 = .ok (.iaload, 1) := by decide +kernel
theorem dX2_markCarries_48 : decode cX2_markCarries 48 = .ok (.istore_n 2, 1) := by decide +kernel
theorem dX2_markCarries_49 : decode cX2_markCarries 49 = .ok (.aload_n 0, 1) := by decide +kernel
theorem dX2_markCarries_50 : decode cX2_markCarries 50 = .ok (.getfield 31, 3) := by decide +kernel
theorem dX2_markCarries_53 : decode cX2_markCarries 53 = .ok (.iload_n 1, 1) := by decide +kernel
theorem dX2_markCarries_54 : decode cX2_markCarries 54 = .ok (.baload, 1) := by decide +kernel
theorem dX2_markCarries_55 : decode cX2_markCarries 55 = .ok (.ifCond .eq 17, 3) := by decide +kernel
theorem dX2_markCarries_58 : decode cX2_markCarries 58 = .ok (.iload_n 2, 1) := by decide +kernel
theorem dX2_markCarries_59 : decode cX2_markCarries 59 = .ok (.invokestatic 55, 3) := by decide +kernel
theorem dX2_markCarries_62 : decode cX2_markCarries 62 = .ok (.ifCond .eq 10, 3) := by decide +kernel
theorem dX2_markCarries_65 : decode cX2_markCarries 65 = .ok (.aload_n 0, 1) := by decide +kernel
theorem dX2_markCarries_66 : decode cX2_markCarries 66 = .ok (.getfield 31, 3) := by decide +kernel
theorem dX2_markCarries_69 : decode cX2_markCarries 69 = .ok (.iload_n 2, 1) := by decide +kernel
theorem dX2_markCarries_70 : decode cX2_markCarries 70 = .ok (.iconst 1, 1) := by decide +kernel
theorem dX2_markCarries_71 : decode cX2_markCarries 71 = .ok (.bastore, 1) := by decide +kernel
theorem dX2_markCarries_72 : decode cX2_markCarries 72 = .ok (.iinc 1 (-1), 3) := by decide +kernel
theorem dX2_markCarries_75 : decode cX2_markCarries 75 = .ok (.goto (-38), 3) := by decide +kernel
theorem dX2_markCarries_78 : decode cX2_markCarries 78 = .ok (.return_, 1) := by decide +kernel
set_option maxRecDepth 20000 in
theorem ggX2_carriedLoss_X4_isHouse : GoodIn wsX2_carriedLoss wsX4_isHouse := goodIn_r _ [5] (by decide +kernel) (by decide +kernel)
set_option maxRecDepth 20000 in
theorem gX2_carriedLoss_X4_isHouse_n55 : GoodIn wsX2_carriedLoss (wsX4_isHouse) := ggX2_carriedLoss_X4_isHouse
theorem dX2_carriedLoss_0 : decode cX2_carriedLoss 0 = .ok (.iload_n 1, 1) := by decide +kernel
theorem dX2_carriedLoss_1 : decode cX2_carriedLoss 1 = .ok (.invokestatic 55, 3) := by decide +kernel
theorem dX2_carriedLoss_4 : decode cX2_carriedLoss 4 = .ok (.ifCond .eq 21, 3) := by decide +kernel
theorem dX2_carriedLoss_7 : decode cX2_carriedLoss 7 = .ok (.aload_n 0, 1) := by decide +kernel
theorem dX2_carriedLoss_8 : decode cX2_carriedLoss 8 = .ok (.getfield 31, 3) := by decide +kernel
theorem dX2_carriedLoss_11 : decode cX2_carriedLoss 11 = .ok (.iload_n 1, 1) := by decide +kernel
theorem dX2_carriedLoss_12 : decode cX2_carriedLoss 12 = .ok (.baload, 1) := by decide +kernel
theorem dX2_carriedLoss_13 : decode cX2_carriedLoss 13 = .ok (.ifCond .eq 12, 3) := by decide +kernel
theorem dX2_carriedLoss_16 : decode cX2_carriedLoss 16 = .ok (.aload_n 0, 1) := by decide +kernel
theorem dX2_carriedLoss_17 : decode cX2_carriedLoss 17 = .ok (.getfield 15, 3) := by decide +kernel
theorem dX2_carriedLoss_20 : decode cX2_carriedLoss 20 = .ok (.iload_n 1, 1) := by decide +kernel
theorem dX2_carriedLoss_21 : decode cX2_carriedLoss 21 = .ok (.iaload, 1) := by decide +kernel
theorem dX2_carriedLoss_22 : decode cX2_carriedLoss 22 = .ok (.goto 4, 3) := by decide +kernel
theorem dX2_carriedLoss_25 : decode cX2_carriedLoss 25 = .ok (.iconst 0, 1) := by decide +kernel
theorem dX2_carriedLoss_26 : decode cX2_carriedLoss 26 = .ok (.ireturn, 1) := by decide +kernel
theorem dX2_serve_0 : decode cX2_serve 0 = .ok (.iconst 0, 1) := by decide +kernel
theorem dX2_serve_1 : decode cX2_serve 1 = .ok (.iload_n 1, 1) := by decide +kernel
theorem dX2_serve_2 : decode cX2_serve 2 = .ok (.aload_n 0, 1) := by decide +kernel
theorem dX2_serve_3 : decode cX2_serve 3 = .ok (.getfield 47, 3) := by decide +kernel
theorem dX2_serve_6 : decode cX2_serve 6 = .ok (.isub, 1) := by decide +kernel
theorem dX2_serve_7 : decode cX2_serve 7 = .ok (.invokestatic 59, 3) := by decide +kernel
theorem dX2_serve_10 : decode cX2_serve 10 = .ok (.istore_n 2, 1) := by decide +kernel
theorem dX2_serve_11 : decode cX2_serve 11 = .ok (.iconst 1, 1) := by decide +kernel
theorem dX2_serve_12 : decode cX2_serve 12 = .ok (.istore_n 3, 1) := by decide +kernel
theorem dX2_serve_13 : decode cX2_serve 13 = .ok (.iload_n 3, 1) := by decide +kernel
theorem dX2_serve_14 : decode cX2_serve 14 = .ok (.bipush 12, 2) := by decide +kernel
theorem dX2_serve_16 : decode cX2_serve 16 = .ok (.if_icmp .ge 34, 3) := by decide +kernel
theorem dX2_serve_19 : decode cX2_serve 19 = .ok (.aload_n 0, 1) := by decide +kernel
theorem dX2_serve_20 : decode cX2_serve 20 = .ok (.getfield 24, 3) := by decide +kernel
theorem dX2_serve_23 : decode cX2_serve 23 = .ok (.iload_n 3, 1) := by decide +kernel
theorem dX2_serve_24 : decode cX2_serve 24 = .ok (.aload_n 0, 1) := by decide +kernel
theorem dX2_serve_25 : decode cX2_serve 25 = .ok (.getfield 34, 3) := by decide +kernel
theorem dX2_serve_28 : decode cX2_serve 28 = .ok (.iload_n 3, 1) := by decide +kernel
theorem dX2_serve_29 : decode cX2_serve 29 = .ok (.iaload, 1) := by decide +kernel
theorem dX2_serve_30 : decode cX2_serve 30 = .ok (.iload_n 2, 1) := by decide +kernel
theorem dX2_serve_31 : decode cX2_serve 31 = .ok (.invokestatic 64, 3) := by decide +kernel
theorem dX2_serve_34 : decode cX2_serve 34 = .ok (.iastore, 1) := by decide +kernel
theorem dX2_serve_35 : decode cX2_serve 35 = .ok (.iload_n 2, 1) := by decide +kernel
theorem dX2_serve_36 : decode cX2_serve 36 = .ok (.aload_n 0, 1) := by decide +kernel
theorem dX2_serve_37 : decode cX2_serve 37 = .ok (.getfield 24, 3) := by decide +kernel
theorem dX2_serve_40 : decode cX2_serve 40 = .ok (.iload_n 3, 1) := by decide +kernel
theorem dX2_serve_41 : decode cX2_serve 41 = .ok (.iaload, 1) := by decide +kernel
theorem dX2_serve_42 : decode cX2_serve 42 = .ok (.isub, 1) := by decide +kernel
theorem dX2_serve_43 : decode cX2_serve 43 = .ok (.istore_n 2, 1) := by decide +kernel
theorem dX2_serve_44 : decode cX2_serve 44 = .ok (.iinc 3 1, 3) := by decide +kernel
theorem dX2_serve_47 : decode cX2_serve 47 = .ok (.goto (-34), 3) := by decide +kernel
theorem dX2_serve_50 : decode cX2_serve 50 = .ok (.return_, 1) := by decide +kernel
set_option maxRecDepth 20000 in
theorem ggX2_countHousesWithoutHeat_X2_markHeated : GoodIn wsX2_countHousesWithoutHeat wsX2_markHeated := goodIn_r _ [7, 8, 2, 9, 10, 11, 12, 13, 14, 15, 16, 17, 18, 19, 20, 21] (by decide +kernel) (by decide +kernel)
set_option maxRecDepth 20000 in
theorem gX2_countHousesWithoutHeat_X2_markHeated : GoodIn wsX2_countHousesWithoutHeat (wsV RX2 37 RX2 yX2_markHeated wsX2_markHeated) := goodIn_app (goodIn_of _ (by decide +kernel)) ggX2_countHousesWithoutHeat_X2_markHeated
theorem dX2_countHousesWithoutHeat_0 : decode cX2_countHousesWithoutHeat 0 = .ok (.aload_n 0, 1) := by decide +kernel
theorem dX2_countHousesWithoutHeat_1 : decode cX2_countHousesWithoutHeat 1 = .ok (.invokevirtual 37, 3) := by decide +kernel
theorem dX2_countHousesWithoutHeat_4 : decode cX2_countHousesWithoutHeat 4 = .ok (.iconst 0, 1) := by decide +kernel
theorem dX2_countHousesWithoutHeat_5 : decode cX2_countHousesWithoutHeat 5 = .ok (.istore_n 1, 1) := by decide +kernel
theorem dX2_countHousesWithoutHeat_6 : decode cX2_countHousesWithoutHeat 6 = .ok (.iconst 1, 1) := by decide +kernel
theorem dX2_countHousesWithoutHeat_7 : decode cX2_countHousesWithoutHeat 7 = .ok (.istore_n 2, 1) := by decide +kernel
theorem dX2_countHousesWithoutHeat_8 : decode cX2_countHousesWithoutHeat 8 = .ok (.iload_n 2, 1) := by decide +kernel
theorem dX2_countHousesWithoutHeat_9 : decode cX2_countHousesWithoutHeat 9 = .ok (.bipush 12, 2) := by decide +kernel
theorem dX2_countHousesWithoutHeat_11 : decode cX2_countHousesWithoutHeat 11 = .ok (.if_icmp .ge 30, 3) := by decide +kernel
theorem dX2_countHousesWithoutHeat_14 : decode cX2_countHousesWithoutHeat 14 = .ok (.aload_n 0, 1) := by decide +kernel
theorem dX2_countHousesWithoutHeat_15 : decode cX2_countHousesWithoutHeat 15 = .ok (.getfield 18, 3) := by decide +kernel
theorem dX2_countHousesWithoutHeat_18 : decode cX2_countHousesWithoutHeat 18 = .ok (.iload_n 2, 1) := by decide +kernel
theorem dX2_countHousesWithoutHeat_19 : decode cX2_countHousesWithoutHeat 19 = .ok (.iaload, 1) := by decide +kernel
theorem dX2_countHousesWithoutHeat_20 : decode cX2_countHousesWithoutHeat 20 = .ok (.ifCond .le 15, 3) := by decide +kernel
theorem dX2_countHousesWithoutHeat_23 : decode cX2_countHousesWithoutHeat 23 = .ok (.aload_n 0, 1) := by decide +kernel
theorem dX2_countHousesWithoutHeat_24 : decode cX2_countHousesWithoutHeat 24 = .ok (.getfield 27, 3) := by decide +kernel
theorem dX2_countHousesWithoutHeat_27 : decode cX2_countHousesWithoutHeat 27 = .ok (.iload_n 2, 1) := by decide +kernel
theorem dX2_countHousesWithoutHeat_28 : decode cX2_countHousesWithoutHeat 28 = .ok (.baload, 1) := by decide +kernel
theorem dX2_countHousesWithoutHeat_29 : decode cX2_countHousesWithoutHeat 29 = .ok (.ifCond .ne 6, 3) := by decide +kernel
theorem dX2_countHousesWithoutHeat_32 : decode cX2_countHousesWithoutHeat 32 = .ok (.iinc 1 1, 3) := by decide +kernel
theorem dX2_countHousesWithoutHeat_35 : decode cX2_countHousesWithoutHeat 35 = .ok (.iinc 2 1, 3) := by decide +kernel
theorem dX2_countHousesWithoutHeat_38 : decode cX2_countHousesWithoutHeat 38 = .ok (.goto (-30), 3) := by decide +kernel
theorem dX2_countHousesWithoutHeat_41 : decode cX2_countHousesWithoutHeat 41 = .ok (.iload_n 1, 1) := by decide +kernel
theorem dX2_countHousesWithoutHeat_42 : decode cX2_countHousesWithoutHeat 42 = .ok (.ireturn, 1) := by decide +kernel
theorem dX2_endHourOfRepairs_0 : decode cX2_endHourOfRepairs 0 = .ok (.iconst 1, 1) := by decide +kernel
theorem dX2_endHourOfRepairs_1 : decode cX2_endHourOfRepairs 1 = .ok (.istore_n 1, 1) := by decide +kernel
theorem dX2_endHourOfRepairs_2 : decode cX2_endHourOfRepairs 2 = .ok (.iload_n 1, 1) := by decide +kernel
theorem dX2_endHourOfRepairs_3 : decode cX2_endHourOfRepairs 3 = .ok (.bipush 12, 2) := by decide +kernel
theorem dX2_endHourOfRepairs_5 : decode cX2_endHourOfRepairs 5 = .ok (.if_icmp .ge 28, 3) := by decide +kernel
theorem dX2_endHourOfRepairs_8 : decode cX2_endHourOfRepairs 8 = .ok (.aload_n 0, 1) := by decide +kernel
theorem dX2_endHourOfRepairs_9 : decode cX2_endHourOfRepairs 9 = .ok (.getfield 21, 3) := by decide +kernel
theorem dX2_endHourOfRepairs_12 : decode cX2_endHourOfRepairs 12 = .ok (.iload_n 1, 1) := by decide +kernel
theorem dX2_endHourOfRepairs_13 : decode cX2_endHourOfRepairs 13 = .ok (.iaload, 1) := by decide +kernel
theorem dX2_endHourOfRepairs_14 : decode cX2_endHourOfRepairs 14 = .ok (.ifCond .le 13, 3) := by decide +kernel
theorem dX2_endHourOfRepairs_17 : decode cX2_endHourOfRepairs 17 = .ok (.aload_n 0, 1) := by decide +kernel
theorem dX2_endHourOfRepairs_18 : decode cX2_endHourOfRepairs 18 = .ok (.getfield 21, 3) := by decide +kernel
theorem dX2_endHourOfRepairs_21 : decode cX2_endHourOfRepairs 21 = .ok (.iload_n 1, 1) := by decide +kernel
theorem dX2_endHourOfRepairs_22 : decode cX2_endHourOfRepairs 22 = .ok (.dup2, 1) := by decide +kernel
theorem dX2_endHourOfRepairs_23 : decode cX2_endHourOfRepairs 23 = .ok (.iaload, 1) := by decide +kernel
theorem dX2_endHourOfRepairs_24 : decode cX2_endHourOfRepairs 24 = .ok (.iconst 1, 1) := by decide +kernel
theorem dX2_endHourOfRepairs_25 : decode cX2_endHourOfRepairs 25 = .ok (.isub, 1) := by decide +kernel
theorem dX2_endHourOfRepairs_26 : decode cX2_endHourOfRepairs 26 = .ok (.iastore, 1) := by decide +kernel
theorem dX2_endHourOfRepairs_27 : decode cX2_endHourOfRepairs 27 = .ok (.iinc 1 1, 3) := by decide +kernel
theorem dX2_endHourOfRepairs_30 : decode cX2_endHourOfRepairs 30 = .ok (.goto (-28), 3) := by decide +kernel
theorem dX2_endHourOfRepairs_33 : decode cX2_endHourOfRepairs 33 = .ok (.return_, 1) := by decide +kernel
theorem dX3_init_0 : decode cX3_init 0 = .ok (.aload_n 0, 1) := by decide +kernel
theorem dX3_init_1 : decode cX3_init 1 = .ok (.invokespecial 1, 3) := by decide +kernel
theorem dX3_init_4 : decode cX3_init 4 = .ok (.return_, 1) := by decide +kernel
set_option maxRecDepth 20000 in
theorem ggX3_add_X0_init : GoodIn wsX3_add wsX0_init := goodIn_r _ [8, 9, 10, 11, 12, 13, 14, 15, 21, 22, 23, 24, 25, 26] (by decide +kernel) (by decide +kernel)
set_option maxRecDepth 20000 in
theorem gX3_add_X0_init_n15 : GoodIn wsX3_add (wsX0_init) := ggX3_add_X0_init
set_option maxRecDepth 20000 in
theorem ggX3_add_X3_lastFiredBefore : GoodIn wsX3_add wsX3_lastFiredBefore := goodIn_r _ [20, 5, 27, 28, 29, 30, 21, 22, 23, 24, 25, 26] (by decide +kernel) (by decide +kernel)
set_option maxRecDepth 20000 in
theorem gX3_add_X3_lastFiredBefore : GoodIn wsX3_add (wsV RX3 18 RX3 yX3_lastFiredBefore wsX3_lastFiredBefore) := goodIn_app (goodIn_of _ (by decide +kernel)) ggX3_add_X3_lastFiredBefore
theorem dX3_add_0 : decode cX3_add 0 = .ok (.new 7, 3) := by decide +kernel
theorem dX3_add_3 : decode cX3_add 3 = .ok (.dup, 1) := by decide +kernel
theorem dX3_add_4 : decode cX3_add 4 = .ok (.aload_n 0, 1) := by decide +kernel
theorem dX3_add_5 : decode cX3_add 5 = .ok (.getfield 9, 3) := by decide +kernel
theorem dX3_add_8 : decode cX3_add 8 = .ok (.iload_n 1, 1) := by decide +kernel
theorem dX3_add_9 : decode cX3_add 9 = .ok (.iload_n 2, 1) := by decide +kernel
theorem dX3_add_10 : decode cX3_add 10 = .ok (.iload_n 3, 1) := by decide +kernel
theorem dX3_add_11 : decode cX3_add 11 = .ok (.invokespecial 15, 3) := by decide +kernel
theorem dX3_add_14 : decode cX3_add 14 = .ok (.astore 4, 2) := by decide +kernel
theorem dX3_add_16 : decode cX3_add 16 = .ok (.aload_n 0, 1) := by decide +kernel
theorem dX3_add_17 : decode cX3_add 17 = .ok (.iload_n 3, 1) := by decide +kernel
theorem dX3_add_18 : decode cX3_add 18 = .ok (.invokevirtual 18, 3) := by decide +kernel
theorem dX3_add_21 : decode cX3_add 21 = .ok (.astore 5, 2) := by decide +kernel
theorem dX3_add_23 : decode cX3_add 23 = .ok (.aload 5, 2) := by decide +kernel
theorem dX3_add_25 : decode cX3_add 25 = .ok (.ifnonnull 21, 3) := by decide +kernel
theorem dX3_add_28 : decode cX3_add 28 = .ok (.aload 4, 2) := by decide +kernel
theorem dX3_add_30 : decode cX3_add 30 = .ok (.aload_n 0, 1) := by decide +kernel
theorem dX3_add_31 : decode cX3_add 31 = .ok (.getfield 22, 3) := by decide +kernel
theorem dX3_add_34 : decode cX3_add 34 = .ok (.putfield 26, 3) := by decide +kernel
theorem dX3_add_37 : decode cX3_add 37 = .ok (.aload_n 0, 1) := by decide +kernel
theorem dX3_add_38 : decode cX3_add 38 = .ok (.aload 4, 2) := by decide +kernel
theorem dX3_add_40 : decode cX3_add 40 = .ok (.putfield 22, 3) := by decide +kernel
theorem dX3_add_43 : decode cX3_add 43 = .ok (.goto 20, 3) := by decide +kernel
theorem dX3_add_46 : decode cX3_add 46 = .ok (.aload 4, 2) := by decide +kernel
theorem dX3_add_48 : decode cX3_add 48 = .ok (.aload 5, 2) := by decide +kernel
theorem dX3_add_50 : decode cX3_add 50 = .ok (.getfield 26, 3) := by decide +kernel
theorem dX3_add_53 : decode cX3_add 53 = .ok (.putfield 26, 3) := by decide +kernel
theorem dX3_add_56 : decode cX3_add 56 = .ok (.aload 5, 2) := by decide +kernel
theorem dX3_add_58 : decode cX3_add 58 = .ok (.aload 4, 2) := by decide +kernel
theorem dX3_add_60 : decode cX3_add 60 = .ok (.putfield 26, 3) := by decide +kernel
theorem dX3_add_63 : decode cX3_add 63 = .ok (.aload_n 0, 1) := by decide +kernel
theorem dX3_add_64 : decode cX3_add 64 = .ok (.dup, 1) := by decide +kernel
theorem dX3_add_65 : decode cX3_add 65 = .ok (.getfield 9, 3) := by decide +kernel
theorem dX3_add_68 : decode cX3_add 68 = .ok (.iconst 1, 1) := by decide +kernel
theorem dX3_add_69 : decode cX3_add 69 = .ok (.iadd, 1) := by decide +kernel
theorem dX3_add_70 : decode cX3_add 70 = .ok (.putfield 9, 3) := by decide +kernel
theorem dX3_add_73 : decode cX3_add 73 = .ok (.aload_n 0, 1) := by decide +kernel
theorem dX3_add_74 : decode cX3_add 74 = .ok (.dup, 1) := by decide +kernel
theorem dX3_add_75 : decode cX3_add 75 = .ok (.getfield 29, 3) := by decide +kernel
theorem dX3_add_78 : decode cX3_add 78 = .ok (.iload_n 1, 1) := by decide +kernel
theorem dX3_add_79 : decode cX3_add 79 = .ok (.iload_n 2, 1) := by decide +kernel
theorem dX3_add_80 : decode cX3_add 80 = .ok (.imul, 1) := by decide +kernel
theorem dX3_add_81 : decode cX3_add 81 = .ok (.iadd, 1) := by decide +kernel
theorem dX3_add_82 : decode cX3_add 82 = .ok (.putfield 29, 3) := by decide +kernel
theorem dX3_add_85 : decode cX3_add 85 = .ok (.aload 4, 2) := by decide +kernel
theorem dX3_add_87 : decode cX3_add 87 = .ok (.getfield 32, 3) := by decide +kernel
theorem dX3_add_90 : decode cX3_add 90 = .ok (.ireturn, 1) := by decide +kernel
theorem dX3_lastFiredBefore_0 : decode cX3_lastFiredBefore 0 = .ok (.aconst_null, 1) := by decide +kernel
theorem dX3_lastFiredBefore_1 : decode cX3_lastFiredBefore 1 = .ok (.astore_n 2, 1) := by decide +kernel
theorem dX3_lastFiredBefore_2 : decode cX3_lastFiredBefore 2 = .ok (.aload_n 0, 1) := by decide +kernel
theorem dX3_lastFiredBefore_3 : decode cX3_lastFiredBefore 3 = .ok (.getfield 22, 3) := by decide +kernel
theorem dX3_lastFiredBefore_6 : decode cX3_lastFiredBefore 6 = .ok (.astore_n 3, 1) := by decide +kernel
theorem dX3_lastFiredBefore_7 : decode cX3_lastFiredBefore 7 = .ok (.aload_n 3, 1) := by decide +kernel
theorem dX3_lastFiredBefore_8 : decode cX3_lastFiredBefore 8 = .ok (.ifnull 21, 3) := by decide +kernel
theorem dX3_lastFiredBefore_11 : decode cX3_lastFiredBefore 11 = .ok (.aload_n 3, 1) := by decide +kernel
theorem dX3_lastFiredBefore_12 : decode cX3_lastFiredBefore 12 = .ok (.getfield 35, 3) := by decide +kernel
theorem dX3_lastFiredBefore_15 : decode cX3_lastFiredBefore 15 = .ok (.iload_n 1, 1) := by decide +kernel
theorem dX3_lastFiredBefore_16 : decode cX3_lastFiredBefore 16 = .ok (.if_icmp .gt 13, 3) := by decide +kernel
theorem dX3_lastFiredBefore_19 : decode cX3_lastFiredBefore 19 = .ok (.aload_n 3, 1) := by decide +kernel
theorem dX3_lastFiredBefore_20 : decode cX3_lastFiredBefore 20 = .ok (.astore_n 2, 1) := by decide +kernel
theorem dX3_lastFiredBefore_21 : decode cX3_lastFiredBefore 21 = .ok (.aload_n 3, 1) := by decide +kernel
theorem dX3_lastFiredBefore_22 : decode cX3_lastFiredBefore 22 = .ok (.getfield 26, 3) := by decide +kernel
theorem dX3_lastFiredBefore_25 : decode cX3_lastFiredBefore 25 = .ok (.astore_n 3, 1) := by decide +kernel
theorem dX3_lastFiredBefore_26 : decode cX3_lastFiredBefore 26 = .ok (.goto (-19), 3) := by decide +kernel
theorem dX3_lastFiredBefore_29 : decode cX3_lastFiredBefore 29 = .ok (.aload_n 2, 1) := by decide +kernel
theorem dX3_lastFiredBefore_30 : decode cX3_lastFiredBefore 30 = .ok (.areturn, 1) := by decide +kernel
theorem dX3_find_0 : decode cX3_find 0 = .ok (.aload_n 0, 1) := by decide +kernel
theorem dX3_find_1 : decode cX3_find 1 = .ok (.getfield 22, 3) := by decide +kernel
theorem dX3_find_4 : decode cX3_find 4 = .ok (.astore_n 2, 1) := by decide +kernel
theorem dX3_find_5 : decode cX3_find 5 = .ok (.aload_n 2, 1) := by decide +kernel
theorem dX3_find_6 : decode cX3_find 6 = .ok (.ifnull 21, 3) := by decide +kernel
theorem dX3_find_9 : decode cX3_find 9 = .ok (.aload_n 2, 1) := by decide +kernel
theorem dX3_find_10 : decode cX3_find 10 = .ok (.getfield 32, 3) := by decide +kernel
theorem dX3_find_13 : decode cX3_find 13 = .ok (.iload_n 1, 1) := by decide +kernel
theorem dX3_find_14 : decode cX3_find 14 = .ok (.if_icmp .ne 5, 3) := by decide +kernel
theorem dX3_find_17 : decode cX3_find 17 = .ok (.aload_n 2, 1) := by decide +kernel
theorem dX3_find_18 : decode cX3_find 18 = .ok (.areturn, 1) := by decide +kernel
theorem dX3_find_19 : decode cX3_find 19 = .ok (.aload_n 2, 1) := by decide +kernel
theorem dX3_find_20 : decode cX3_find 20 = .ok (.getfield 26, 3) := by decide +kernel
theorem dX3_find_23 : decode cX3_find 23 = .ok (.astore_n 2, 1) := by decide +kernel
theorem dX3_find_24 : decode cX3_find 24 = .ok (.goto (-19), 3) := by decide +kernel
theorem dX3_find_27 : decode cX3_find 27 = .ok (.aconst_null, 1) := by decide +kernel
theorem dX3_find_28 : decode cX3_find 28 = .ok (.areturn, 1) := by decide +kernel
set_option maxRecDepth 20000 in
theorem ggX3_fire_X0_fireFor : GoodIn wsX3_fire wsX0_fireFor := goodIn_r _ [6, 7, 8, 9, 10, 11, 12, 13, 18, 19, 20, 21, 22, 23] (by decide +kernel) (by decide +kernel)
set_option maxRecDepth 20000 in
theorem gX3_fire_X0_fireFor_n38 : GoodIn wsX3_fire (wsX0_fireFor) := ggX3_fire_X0_fireFor
theorem dX3_fire_0 : decode cX3_fire 0 = .ok (.iload_n 1, 1) := by decide +kernel
theorem dX3_fire_1 : decode cX3_fire 1 = .ok (.istore_n 2, 1) := by decide +kernel
theorem dX3_fire_2 : decode cX3_fire 2 = .ok (.aload_n 0, 1) := by decide +kernel
theorem dX3_fire_3 : decode cX3_fire 3 = .ok (.getfield 22, 3) := by decide +kernel
theorem dX3_fire_6 : decode cX3_fire 6 = .ok (.astore_n 3, 1) := by decide +kernel
theorem dX3_fire_7 : decode cX3_fire 7 = .ok (.aload_n 3, 1) := by decide +kernel
theorem dX3_fire_8 : decode cX3_fire 8 = .ok (.ifnull 39, 3) := by decide +kernel
theorem dX3_fire_11 : decode cX3_fire 11 = .ok (.aload_n 3, 1) := by decide +kernel
theorem dX3_fire_12 : decode cX3_fire 12 = .ok (.iload_n 2, 1) := by decide +kernel
theorem dX3_fire_13 : decode cX3_fire 13 = .ok (.invokevirtual 38, 3) := by decide +kernel
theorem dX3_fire_16 : decode cX3_fire 16 = .ok (.istore 4, 2) := by decide +kernel
theorem dX3_fire_18 : decode cX3_fire 18 = .ok (.aload_n 0, 1) := by decide +kernel
theorem dX3_fire_19 : decode cX3_fire 19 = .ok (.dup, 1) := by decide +kernel
theorem dX3_fire_20 : decode cX3_fire 20 = .ok (.getfield 42, 3) := by decide +kernel
theorem dX3_fire_23 : decode cX3_fire 23 = .ok (.iload 4, 2) := by decide +kernel
theorem dX3_fire_25 : decode cX3_fire 25 = .ok (.aload_n 3, 1) := by decide +kernel
theorem dX3_fire_26 : decode cX3_fire 26 = .ok (.getfield 35, 3) := by decide +kernel
theorem dX3_fire_29 : decode cX3_fire 29 = .ok (.imul, 1) := by decide +kernel
theorem dX3_fire_30 : decode cX3_fire 30 = .ok (.iadd, 1) := by decide +kernel
theorem dX3_fire_31 : decode cX3_fire 31 = .ok (.putfield 42, 3) := by decide +kernel
theorem dX3_fire_34 : decode cX3_fire 34 = .ok (.iload_n 2, 1) := by decide +kernel
theorem dX3_fire_35 : decode cX3_fire 35 = .ok (.iload 4, 2) := by decide +kernel
theorem dX3_fire_37 : decode cX3_fire 37 = .ok (.isub, 1) := by decide +kernel
theorem dX3_fire_38 : decode cX3_fire 38 = .ok (.istore_n 2, 1) := by decide +kernel
theorem dX3_fire_39 : decode cX3_fire 39 = .ok (.aload_n 3, 1) := by decide +kernel
theorem dX3_fire_40 : decode cX3_fire 40 = .ok (.getfield 26, 3) := by decide +kernel
theorem dX3_fire_43 : decode cX3_fire 43 = .ok (.astore_n 3, 1) := by decide +kernel
theorem dX3_fire_44 : decode cX3_fire 44 = .ok (.goto (-37), 3) := by decide +kernel
theorem dX3_fire_47 : decode cX3_fire 47 = .ok (.return_, 1) := by decide +kernel
set_option maxRecDepth 20000 in
theorem ggX4_init_X2_init : GoodIn wsX4_init wsX2_init := goodIn_r _ [19, 20, 2, 3, 16, 21, 22, 23, 24, 25, 26, 27, 28, 29, 41, 42, 43, 44, 45, 46, 47, 48, 49] (by decide +kernel) (by decide +kernel)
set_option maxRecDepth 20000 in
theorem gX4_init_X2_init_n9 : GoodIn wsX4_init (wsX2_init) := ggX4_init_X2_init
set_option maxRecDepth 20000 in
theorem ggX4_init_X3_init : GoodIn wsX4_init wsX3_init := goodIn_r _ [31, 32, 2, 3] (by decide +kernel) (by decide +kernel)
set_option maxRecDepth 20000 in
theorem gX4_init_X3_init_n18 : GoodIn wsX4_init (wsX3_init) := ggX4_init_X3_init
set_option maxRecDepth 20000 in
theorem ggX4_init_X1_init : GoodIn wsX4_init wsX1_init := goodIn_r _ [34, 35, 2, 3, 16, 36, 37, 26, 38, 39, 40, 61, 62, 63, 64, 65] (by decide +kernel) (by decide +kernel)
set_option maxRecDepth 20000 in
theorem gX4_init_X1_init_n25 : GoodIn wsX4_init (wsX1_init) := ggX4_init_X1_init
theorem dX4_init_0 : decode cX4_init 0 = .ok (.aload_n 0, 1) := by decide +kernel
theorem dX4_init_1 : decode cX4_init 1 = .ok (.invokespecial 1, 3) := by decide +kernel
theorem dX4_init_4 : decode cX4_init 4 = .ok (.aload_n 0, 1) := by decide +kernel
theorem dX4_init_5 : decode cX4_init 5 = .ok (.new 7, 3) := by decide +kernel
theorem dX4_init_8 : decode cX4_init 8 = .ok (.dup, 1) := by decide +kernel
theorem dX4_init_9 : decode cX4_init 9 = .ok (.invokespecial 9, 3) := by decide +kernel
theorem dX4_init_12 : decode cX4_init 12 = .ok (.putfield 10, 3) := by decide +kernel
theorem dX4_init_15 : decode cX4_init 15 = .ok (.aload_n 0, 1) := by decide +kernel
theorem dX4_init_16 : decode cX4_init 16 = .ok (.new 16, 3) := by decide +kernel
theorem dX4_init_19 : decode cX4_init 19 = .ok (.dup, 1) := by decide +kernel
theorem dX4_init_20 : decode cX4_init 20 = .ok (.invokespecial 18, 3) := by decide +kernel
theorem dX4_init_23 : decode cX4_init 23 = .ok (.putfield 19, 3) := by decide +kernel
theorem dX4_init_26 : decode cX4_init 26 = .ok (.aload_n 0, 1) := by decide +kernel
theorem dX4_init_27 : decode cX4_init 27 = .ok (.new 23, 3) := by decide +kernel
theorem dX4_init_30 : decode cX4_init 30 = .ok (.dup, 1) := by decide +kernel
theorem dX4_init_31 : decode cX4_init 31 = .ok (.invokespecial 25, 3) := by decide +kernel
theorem dX4_init_34 : decode cX4_init 34 = .ok (.putfield 26, 3) := by decide +kernel
theorem dX4_init_37 : decode cX4_init 37 = .ok (.aload_n 0, 1) := by decide +kernel
theorem dX4_init_38 : decode cX4_init 38 = .ok (.bipush 12, 2) := by decide +kernel
theorem dX4_init_40 : decode cX4_init 40 = .ok (.newarray .int, 2) := by decide +kernel
theorem dX4_init_42 : decode cX4_init 42 = .ok (.putfield 30, 3) := by decide +kernel
theorem dX4_init_45 : decode cX4_init 45 = .ok (.return_, 1) := by decide +kernel
set_option maxRecDepth 20000 in
theorem ggX4_feed_X4_isHouse : GoodIn wsX4_feed wsX4_isHouse := goodIn_r _ [10] (by decide +kernel) (by decide +kernel)
set_option maxRecDepth 20000 in
theorem gX4_feed_X4_isHouse : GoodIn wsX4_feed (va_wsS RX4 34 yX4_isHouse wsX4_isHouse) := goodIn_app (goodIn_of _ (by decide +kernel)) ggX4_feed_X4_isHouse
set_option maxRecDepth 20000 in
theorem ggX4_feed_X4_isWithin : GoodIn wsX4_feed wsX4_isWithin := goodIn_r _ [13] (by decide +kernel) (by decide +kernel)
set_option maxRecDepth 20000 in
theorem gX4_feed_X4_isWithin : GoodIn wsX4_feed (va_wsS RX4 38 yX4_isWithin wsX4_isWithin) := goodIn_app (goodIn_of _ (by decide +kernel)) ggX4_feed_X4_isWithin
theorem dX4_feed_0 : decode cX4_feed 0 = .ok (.iload_n 1, 1) := by decide +kernel
theorem dX4_feed_1 : decode cX4_feed 1 = .ok (.invokestatic 34, 3) := by decide +kernel
theorem dX4_feed_4 : decode cX4_feed 4 = .ok (.ifCond .eq 24, 3) := by decide +kernel
theorem dX4_feed_7 : decode cX4_feed 7 = .ok (.iload_n 2, 1) := by decide +kernel
theorem dX4_feed_8 : decode cX4_feed 8 = .ok (.iconst 0, 1) := by decide +kernel
theorem dX4_feed_9 : decode cX4_feed 9 = .ok (.iload_n 1, 1) := by decide +kernel
theorem dX4_feed_10 : decode cX4_feed 10 = .ok (.iconst 1, 1) := by decide +kernel
theorem dX4_feed_11 : decode cX4_feed 11 = .ok (.isub, 1) := by decide +kernel
theorem dX4_feed_12 : decode cX4_feed 12 = .ok (.invokestatic 38, 3) := by decide +kernel
theorem dX4_feed_15 : decode cX4_feed 15 = .ok (.ifCond .eq 13, 3) := by decide +kernel
theorem dX4_feed_18 : decode cX4_feed 18 = .ok (.iload_n 3, 1) := by decide +kernel
theorem dX4_feed_19 : decode cX4_feed 19 = .ok (.iconst 0, 1) := by decide +kernel
theorem dX4_feed_20 : decode cX4_feed 20 = .ok (.bipush 20, 2) := by decide +kernel
theorem dX4_feed_22 : decode cX4_feed 22 = .ok (.invokestatic 38, 3) := by decide +kernel
theorem dX4_feed_25 : decode cX4_feed 25 = .ok (.ifCond .ne 13, 3) := by decide +kernel
theorem dX4_feed_28 : decode cX4_feed 28 = .ok (.new 42, 3) := by decide +kernel
theorem dX4_feed_31 : decode cX4_feed 31 = .ok (.dup, 1) := by decide +kernel
theorem dX4_feed_32 : decode cX4_feed 32 = .ok (.ldc 44, 2) := by decide +kernel
theorem dX4_feed_34 : decode cX4_feed 34 = .ok (.invokespecial 46, 3) := by decide +kernel
theorem dX4_feed_37 : decode cX4_feed 37 = .ok (.athrow, 1) := by decide +kernel
theorem dX4_feed_38 : decode cX4_feed 38 = .ok (.aload_n 0, 1) := by decide +kernel
theorem dX4_feed_39 : decode cX4_feed 39 = .ok (.getfield 49, 3) := by decide +kernel
theorem dX4_feed_42 : decode cX4_feed 42 = .ok (.ifCond .le 13, 3) := by decide +kernel
theorem dX4_feed_45 : decode cX4_feed 45 = .ok (.new 53, 3) := by decide +kernel
theorem dX4_feed_48 : decode cX4_feed 48 = .ok (.dup, 1) := by decide +kernel
theorem dX4_feed_49 : decode cX4_feed 49 = .ok (.ldc 55, 2) := by decide +kernel
theorem dX4_feed_51 : decode cX4_feed 51 = .ok (.invokespecial 57, 3) := by decide +kernel
theorem dX4_feed_54 : decode cX4_feed 54 = .ok (.athrow, 1) := by decide +kernel
theorem dX4_feed_55 : decode cX4_feed 55 = .ok (.aload_n 0, 1) := by decide +kernel
theorem dX4_feed_56 : decode cX4_feed 56 = .ok (.getfield 10, 3) := by decide +kernel
theorem dX4_feed_59 : decode cX4_feed 59 = .ok (.getfield 58, 3) := by decide +kernel
theorem dX4_feed_62 : decode cX4_feed 62 = .ok (.iload_n 1, 1) := by decide +kernel
theorem dX4_feed_63 : decode cX4_feed 63 = .ok (.iaload, 1) := by decide +kernel
theorem dX4_feed_64 : decode cX4_feed 64 = .ok (.istore 4, 2) := by decide +kernel
theorem dX4_feed_66 : decode cX4_feed 66 = .ok (.aload_n 0, 1) := by decide +kernel
theorem dX4_feed_67 : decode cX4_feed 67 = .ok (.getfield 10, 3) := by decide +kernel
theorem dX4_feed_70 : decode cX4_feed 70 = .ok (.getfield 58, 3) := by decide +kernel
theorem dX4_feed_73 : decode cX4_feed 73 = .ok (.iload_n 1, 1) := by decide +kernel
theorem dX4_feed_74 : decode cX4_feed 74 = .ok (.iload_n 2, 1) := by decide +kernel
theorem dX4_feed_75 : decode cX4_feed 75 = .ok (.iastore, 1) := by decide +kernel
theorem dX4_feed_76 : decode cX4_feed 76 = .ok (.aload_n 0, 1) := by decide +kernel
theorem dX4_feed_77 : decode cX4_feed 77 = .ok (.getfield 10, 3) := by decide +kernel
theorem dX4_feed_80 : decode cX4_feed 80 = .ok (.getfield 61, 3) := by decide +kernel
theorem dX4_feed_83 : decode cX4_feed 83 = .ok (.iload_n 1, 1) := by decide +kernel
theorem dX4_feed_84 : decode cX4_feed 84 = .ok (.iload_n 3, 1) := by decide +kernel
theorem dX4_feed_85 : decode cX4_feed 85 = .ok (.iastore, 1) := by decide +kernel
theorem dX4_feed_86 : decode cX4_feed 86 = .ok (.iload 4, 2) := by decide +kernel
theorem dX4_feed_88 : decode cX4_feed 88 = .ok (.ireturn, 1) := by decide +kernel
set_option maxRecDepth 20000 in
theorem ggX4_setArea_X4_isHouse : GoodIn wsX4_setArea wsX4_isHouse := goodIn_r _ [7] (by decide +kernel) (by decide +kernel)
set_option maxRecDepth 20000 in
theorem gX4_setArea_X4_isHouse : GoodIn wsX4_setArea (va_wsS RX4 34 yX4_isHouse wsX4_isHouse) := goodIn_app (goodIn_of _ (by decide +kernel)) ggX4_setArea_X4_isHouse
set_option maxRecDepth 20000 in
theorem ggX4_setArea_X4_isWithin : GoodIn wsX4_setArea wsX4_isWithin := goodIn_r _ [10] (by decide +kernel) (by decide +kernel)
set_option maxRecDepth 20000 in
theorem gX4_setArea_X4_isWithin : GoodIn wsX4_setArea (va_wsS RX4 38 yX4_isWithin wsX4_isWithin) := goodIn_app (goodIn_of _ (by decide +kernel)) ggX4_setArea_X4_isWithin
theorem dX4_setArea_0 : decode cX4_setArea 0 = .ok (.iload_n 1, 1) := by decide +kernel
theorem dX4_setArea_1 : decode cX4_setArea 1 = .ok (.invokestatic 34, 3) := by decide +kernel
theorem dX4_setArea_4 : decode cX4_setArea 4 = .ok (.ifCond .eq 13, 3) := by decide +kernel
theorem dX4_setArea_7 : decode cX4_setArea 7 = .ok (.iload_n 2, 1) := by decide +kernel
theorem dX4_setArea_8 : decode cX4_setArea 8 = .ok (.iconst 0, 1) := by decide +kernel
theorem dX4_setArea_9 : decode cX4_setArea 9 = .ok (.bipush 50, 2) := by decide +kernel
theorem dX4_setArea_11 : decode cX4_setArea 11 = .ok (.invokestatic 38, 3) := by decide +kernel
theorem dX4_setArea_14 : decode cX4_setArea 14 = .ok (.ifCond .ne 13, 3) := by decide +kernel
theorem dX4_setArea_17 : decode cX4_setArea 17 = .ok (.new 42, 3) := by decide +kernel
theorem dX4_setArea_20 : decode cX4_setArea 20 = .ok (.dup, 1) := by decide +kernel
theorem dX4_setArea_21 : decode cX4_setArea 21 = .ok (.ldc 64, 2) := by decide +kernel
theorem dX4_setArea_23 : decode cX4_setArea 23 = .ok (.invokespecial 46, 3) := by decide +kernel
theorem dX4_setArea_26 : decode cX4_setArea 26 = .ok (.athrow, 1) := by decide +kernel
theorem dX4_setArea_27 : decode cX4_setArea 27 = .ok (.aload_n 0, 1) := by decide +kernel
theorem dX4_setArea_28 : decode cX4_setArea 28 = .ok (.getfield 10, 3) := by decide +kernel
theorem dX4_setArea_31 : decode cX4_setArea 31 = .ok (.getfield 66, 3) := by decide +kernel
theorem dX4_setArea_34 : decode cX4_setArea 34 = .ok (.iload_n 1, 1) := by decide +kernel
theorem dX4_setArea_35 : decode cX4_setArea 35 = .ok (.iaload, 1) := by decide +kernel
theorem dX4_setArea_36 : decode cX4_setArea 36 = .ok (.istore_n 3, 1) := by decide +kernel
theorem dX4_setArea_37 : decode cX4_setArea 37 = .ok (.aload_n 0, 1) := by decide +kernel
theorem dX4_setArea_38 : decode cX4_setArea 38 = .ok (.getfield 10, 3) := by decide +kernel
theorem dX4_setArea_41 : decode cX4_setArea 41 = .ok (.getfield 66, 3) := by decide +kernel
theorem dX4_setArea_44 : decode cX4_setArea 44 = .ok (.iload_n 1, 1) := by decide +kernel
theorem dX4_setArea_45 : decode cX4_setArea 45 = .ok (.iload_n 2, 1) := by decide +kernel
theorem dX4_setArea_46 : decode cX4_setArea 46 = .ok (.iastore, 1) := by decide +kernel
theorem dX4_setArea_47 : decode cX4_setArea 47 = .ok (.iload_n 3, 1) := by decide +kernel
theorem dX4_setArea_48 : decode cX4_setArea 48 = .ok (.ireturn, 1) := by decide +kernel
set_option maxRecDepth 20000 in
theorem ggX4_addBoiler_X4_isWithin : GoodIn wsX4_addBoiler wsX4_isWithin := goodIn_r _ [9] (by decide +kernel) (by decide +kernel)
set_option maxRecDepth 20000 in
theorem gX4_addBoiler_X4_isWithin : GoodIn wsX4_addBoiler (va_wsS RX4 38 yX4_isWithin wsX4_isWithin) := goodIn_app (goodIn_of _ (by decide +kernel)) ggX4_addBoiler_X4_isWithin
set_option maxRecDepth 20000 in
theorem ggX4_addBoiler_X3_add : GoodIn wsX4_addBoiler wsX3_add := goodIn_r _ [13, 14, 15, 16, 17, 18, 19, 20, 21, 22, 23, 24, 25, 26, 27, 28, 29, 30, 31, 11, 32, 44, 45, 46, 47, 48, 49, 40, 41, 42, 43] (by decide +kernel) (by decide +kernel)
set_option maxRecDepth 20000 in
theorem gX4_addBoiler_X3_add_n76 : GoodIn wsX4_addBoiler (wsX3_add) := ggX4_addBoiler_X3_add
theorem dX4_addBoiler_0 : decode cX4_addBoiler 0 = .ok (.iload_n 1, 1) := by decide +kernel
theorem dX4_addBoiler_1 : decode cX4_addBoiler 1 = .ok (.iconst 1, 1) := by decide +kernel
theorem dX4_addBoiler_2 : decode cX4_addBoiler 2 = .ok (.iconst 5, 1) := by decide +kernel
theorem dX4_addBoiler_3 : decode cX4_addBoiler 3 = .ok (.invokestatic 38, 3) := by decide +kernel
theorem dX4_addBoiler_6 : decode cX4_addBoiler 6 = .ok (.ifCond .eq 23, 3) := by decide +kernel
theorem dX4_addBoiler_9 : decode cX4_addBoiler 9 = .ok (.iload_n 2, 1) := by decide +kernel
theorem dX4_addBoiler_10 : decode cX4_addBoiler 10 = .ok (.iconst 1, 1) := by decide +kernel
theorem dX4_addBoiler_11 : decode cX4_addBoiler 11 = .ok (.bipush 100, 2) := by decide +kernel
theorem dX4_addBoiler_13 : decode cX4_addBoiler 13 = .ok (.invokestatic 38, 3) := by decide +kernel
theorem dX4_addBoiler_16 : decode cX4_addBoiler 16 = .ok (.ifCond .eq 13, 3) := by decide +kernel
theorem dX4_addBoiler_19 : decode cX4_addBoiler 19 = .ok (.iload_n 3, 1) := by decide +kernel
theorem dX4_addBoiler_20 : decode cX4_addBoiler 20 = .ok (.iconst 1, 1) := by decide +kernel
theorem dX4_addBoiler_21 : decode cX4_addBoiler 21 = .ok (.bipush 100, 2) := by decide +kernel
theorem dX4_addBoiler_23 : decode cX4_addBoiler 23 = .ok (.invokestatic 38, 3) := by decide +kernel
theorem dX4_addBoiler_26 : decode cX4_addBoiler 26 = .ok (.ifCond .ne 13, 3) := by decide +kernel
theorem dX4_addBoiler_29 : decode cX4_addBoiler 29 = .ok (.new 42, 3) := by decide +kernel
theorem dX4_addBoiler_32 : decode cX4_addBoiler 32 = .ok (.dup, 1) := by decide +kernel
theorem dX4_addBoiler_33 : decode cX4_addBoiler 33 = .ok (.ldc 69, 2) := by decide +kernel
theorem dX4_addBoiler_35 : decode cX4_addBoiler 35 = .ok (.invokespecial 46, 3) := by decide +kernel
theorem dX4_addBoiler_38 : decode cX4_addBoiler 38 = .ok (.athrow, 1) := by decide +kernel
theorem dX4_addBoiler_39 : decode cX4_addBoiler 39 = .ok (.aload_n 0, 1) := by decide +kernel
theorem dX4_addBoiler_40 : decode cX4_addBoiler 40 = .ok (.getfield 19, 3) := by decide +kernel
theorem dX4_addBoiler_43 : decode cX4_addBoiler 43 = .ok (.getfield 71, 3) := by decide +kernel
theorem dX4_addBoiler_46 : decode cX4_addBoiler 46 = .ok (.iconst 4, 1) := by decide +kernel
theorem dX4_addBoiler_47 : decode cX4_addBoiler 47 = .ok (.if_icmp .lt 13, 3) := by decide +kernel
theorem dX4_addBoiler_50 : decode cX4_addBoiler 50 = .ok (.new 53, 3) := by decide +kernel
theorem dX4_addBoiler_53 : decode cX4_addBoiler 53 = .ok (.dup, 1) := by decide +kernel
theorem dX4_addBoiler_54 : decode cX4_addBoiler 54 = .ok (.ldc 74, 2) := by decide +kernel
theorem dX4_addBoiler_56 : decode cX4_addBoiler 56 = .ok (.invokespecial 57, 3) := by decide +kernel
theorem dX4_addBoiler_59 : decode cX4_addBoiler 59 = .ok (.athrow, 1) := by decide +kernel
theorem dX4_addBoiler_60 : decode cX4_addBoiler 60 = .ok (.aload_n 0, 1) := by decide +kernel
theorem dX4_addBoiler_61 : decode cX4_addBoiler 61 = .ok (.getfield 19, 3) := by decide +kernel
theorem dX4_addBoiler_64 : decode cX4_addBoiler 64 = .ok (.iload_n 1, 1) := by decide +kernel
theorem dX4_addBoiler_65 : decode cX4_addBoiler 65 = .ok (.iload_n 2, 1) := by decide +kernel
theorem dX4_addBoiler_66 : decode cX4_addBoiler 66 = .ok (.iload_n 3, 1) := by decide +kernel
theorem dX4_addBoiler_67 : decode cX4_addBoiler 67 = .ok (.invokevirtual 76, 3) := by decide +kernel
theorem dX4_addBoiler_70 : decode cX4_addBoiler 70 = .ok (.ireturn, 1) := by decide +kernel
set_option maxRecDepth 20000 in
theorem ggX4_setError_X4_isHouse : GoodIn wsX4_setError wsX4_isHouse := goodIn_r _ [7] (by decide +kernel) (by decide +kernel)
set_option maxRecDepth 20000 in
theorem gX4_setError_X4_isHouse : GoodIn wsX4_setError (va_wsS RX4 34 yX4_isHouse wsX4_isHouse) := goodIn_app (goodIn_of _ (by decide +kernel)) ggX4_setError_X4_isHouse
set_option maxRecDepth 20000 in
theorem ggX4_setError_X4_isWithin : GoodIn wsX4_setError wsX4_isWithin := goodIn_r _ [10] (by decide +kernel) (by decide +kernel)
set_option maxRecDepth 20000 in
theorem gX4_setError_X4_isWithin : GoodIn wsX4_setError (va_wsS RX4 38 yX4_isWithin wsX4_isWithin) := goodIn_app (goodIn_of _ (by decide +kernel)) ggX4_setError_X4_isWithin
theorem dX4_setError_0 : decode cX4_setError 0 = .ok (.iload_n 1, 1) := by decide +kernel
theorem dX4_setError_1 : decode cX4_setError 1 = .ok (.invokestatic 34, 3) := by decide +kernel
theorem dX4_setError_4 : decode cX4_setError 4 = .ok (.ifCond .eq 14, 3) := by decide +kernel
theorem dX4_setError_7 : decode cX4_setError 7 = .ok (.iload_n 2, 1) := by decide +kernel
theorem dX4_setError_8 : decode cX4_setError 8 = .ok (.bipush (-20), 2) := by decide +kernel
theorem dX4_setError_10 : decode cX4_setError 10 = .ok (.bipush 20, 2) := by decide +kernel
theorem dX4_setError_12 : decode cX4_setError 12 = .ok (.invokestatic 38, 3) := by decide +kernel
theorem dX4_setError_15 : decode cX4_setError 15 = .ok (.ifCond .ne 13, 3) := by decide +kernel
theorem dX4_setError_18 : decode cX4_setError 18 = .ok (.new 42, 3) := by decide +kernel
theorem dX4_setError_21 : decode cX4_setError 21 = .ok (.dup, 1) := by decide +kernel
theorem dX4_setError_22 : decode cX4_setError 22 = .ok (.ldc 80, 2) := by decide +kernel
theorem dX4_setError_24 : decode cX4_setError 24 = .ok (.invokespecial 46, 3) := by decide +kernel
theorem dX4_setError_27 : decode cX4_setError 27 = .ok (.athrow, 1) := by decide +kernel
theorem dX4_setError_28 : decode cX4_setError 28 = .ok (.aload_n 0, 1) := by decide +kernel
theorem dX4_setError_29 : decode cX4_setError 29 = .ok (.getfield 26, 3) := by decide +kernel
theorem dX4_setError_32 : decode cX4_setError 32 = .ok (.getfield 82, 3) := by decide +kernel
theorem dX4_setError_35 : decode cX4_setError 35 = .ok (.iload_n 1, 1) := by decide +kernel
theorem dX4_setError_36 : decode cX4_setError 36 = .ok (.iaload, 1) := by decide +kernel
theorem dX4_setError_37 : decode cX4_setError 37 = .ok (.istore_n 3, 1) := by decide +kernel
theorem dX4_setError_38 : decode cX4_setError 38 = .ok (.aload_n 0, 1) := by decide +kernel
theorem dX4_setError_39 : decode cX4_setError 39 = .ok (.getfield 26, 3) := by decide +kernel
theorem dX4_setError_42 : decode cX4_setError 42 = .ok (.getfield 82, 3) := by decide +kernel
theorem dX4_setError_45 : decode cX4_setError 45 = .ok (.iload_n 1, 1) := by decide +kernel
theorem dX4_setError_46 : decode cX4_setError 46 = .ok (.iload_n 2, 1) := by decide +kernel
theorem dX4_setError_47 : decode cX4_setError 47 = .ok (.iastore, 1) := by decide +kernel
theorem dX4_setError_48 : decode cX4_setError 48 = .ok (.iload_n 3, 1) := by decide +kernel
theorem dX4_setError_49 : decode cX4_setError 49 = .ok (.ireturn, 1) := by decide +kernel
set_option maxRecDepth 20000 in
theorem ggX4_repair_X4_isHouse : GoodIn wsX4_repair wsX4_isHouse := goodIn_r _ [11] (by decide +kernel) (by decide +kernel)
set_option maxRecDepth 20000 in
theorem gX4_repair_X4_isHouse : GoodIn wsX4_repair (va_wsS RX4 34 yX4_isHouse wsX4_isHouse) := goodIn_app (goodIn_of _ (by decide +kernel)) ggX4_repair_X4_isHouse
set_option maxRecDepth 20000 in
theorem ggX4_repair_X4_isWithin : GoodIn wsX4_repair wsX4_isWithin := goodIn_r _ [14] (by decide +kernel) (by decide +kernel)
set_option maxRecDepth 20000 in
theorem gX4_repair_X4_isWithin : GoodIn wsX4_repair (va_wsS RX4 38 yX4_isWithin wsX4_isWithin) := goodIn_app (goodIn_of _ (by decide +kernel)) ggX4_repair_X4_isWithin
set_option maxRecDepth 20000 in
theorem ggX4_repair_X2_countHousesWithoutHeat : GoodIn wsX4_repair wsX2_countHousesWithoutHeat := goodIn_r _ [18, 19, 20, 21, 22, 23, 16, 24, 25, 26, 9, 10, 11, 34, 35, 36, 37, 38, 39, 40, 41, 42] (by decide +kernel) (by decide +kernel)
set_option maxRecDepth 20000 in
theorem gX4_repair_X2_countHousesWithoutHeat_n97 : GoodIn wsX4_repair (wsX2_countHousesWithoutHeat) := ggX4_repair_X2_countHousesWithoutHeat
theorem dX4_repair_0 : decode cX4_repair 0 = .ok (.iload_n 1, 1) := by decide +kernel
theorem dX4_repair_1 : decode cX4_repair 1 = .ok (.invokestatic 34, 3) := by decide +kernel
theorem dX4_repair_4 : decode cX4_repair 4 = .ok (.ifCond .eq 13, 3) := by decide +kernel
theorem dX4_repair_7 : decode cX4_repair 7 = .ok (.iload_n 2, 1) := by decide +kernel
theorem dX4_repair_8 : decode cX4_repair 8 = .ok (.iconst 1, 1) := by decide +kernel
theorem dX4_repair_9 : decode cX4_repair 9 = .ok (.bipush 20, 2) := by decide +kernel
theorem dX4_repair_11 : decode cX4_repair 11 = .ok (.invokestatic 38, 3) := by decide +kernel
theorem dX4_repair_14 : decode cX4_repair 14 = .ok (.ifCond .ne 13, 3) := by decide +kernel
theorem dX4_repair_17 : decode cX4_repair 17 = .ok (.new 42, 3) := by decide +kernel
theorem dX4_repair_20 : decode cX4_repair 20 = .ok (.dup, 1) := by decide +kernel
theorem dX4_repair_21 : decode cX4_repair 21 = .ok (.ldc 85, 2) := by decide +kernel
theorem dX4_repair_23 : decode cX4_repair 23 = .ok (.invokespecial 46, 3) := by decide +kernel
theorem dX4_repair_26 : decode cX4_repair 26 = .ok (.athrow, 1) := by decide +kernel
theorem dX4_repair_27 : decode cX4_repair 27 = .ok (.aload_n 0, 1) := by decide +kernel
theorem dX4_repair_28 : decode cX4_repair 28 = .ok (.getfield 10, 3) := by decide +kernel
theorem dX4_repair_31 : decode cX4_repair 31 = .ok (.getfield 87, 3) := by decide +kernel
theorem dX4_repair_34 : decode cX4_repair 34 = .ok (.iload_n 1, 1) := by decide +kernel
theorem dX4_repair_35 : decode cX4_repair 35 = .ok (.iaload, 1) := by decide +kernel
theorem dX4_repair_36 : decode cX4_repair 36 = .ok (.ifCond .le 13, 3) := by decide +kernel
theorem dX4_repair_39 : decode cX4_repair 39 = .ok (.new 53, 3) := by decide +kernel
theorem dX4_repair_42 : decode cX4_repair 42 = .ok (.dup, 1) := by decide +kernel
theorem dX4_repair_43 : decode cX4_repair 43 = .ok (.ldc 90, 2) := by decide +kernel
theorem dX4_repair_45 : decode cX4_repair 45 = .ok (.invokespecial 57, 3) := by decide +kernel
theorem dX4_repair_48 : decode cX4_repair 48 = .ok (.athrow, 1) := by decide +kernel
theorem dX4_repair_49 : decode cX4_repair 49 = .ok (.aload_n 0, 1) := by decide +kernel
theorem dX4_repair_50 : decode cX4_repair 50 = .ok (.getfield 49, 3) := by decide +kernel
theorem dX4_repair_53 : decode cX4_repair 53 = .ok (.ifCond .le 22, 3) := by decide +kernel
theorem dX4_repair_56 : decode cX4_repair 56 = .ok (.aload_n 0, 1) := by decide +kernel
theorem dX4_repair_57 : decode cX4_repair 57 = .ok (.getfield 92, 3) := by decide +kernel
theorem dX4_repair_60 : decode cX4_repair 60 = .ok (.bipush 10, 2) := by decide +kernel
theorem dX4_repair_62 : decode cX4_repair 62 = .ok (.if_icmp .ge 13, 3) := by decide +kernel
theorem dX4_repair_65 : decode cX4_repair 65 = .ok (.new 53, 3) := by decide +kernel
theorem dX4_repair_68 : decode cX4_repair 68 = .ok (.dup, 1) := by decide +kernel
theorem dX4_repair_69 : decode cX4_repair 69 = .ok (.ldc 95, 2) := by decide +kernel
theorem dX4_repair_71 : decode cX4_repair 71 = .ok (.invokespecial 57, 3) := by decide +kernel
theorem dX4_repair_74 : decode cX4_repair 74 = .ok (.athrow, 1) := by decide +kernel
theorem dX4_repair_75 : decode cX4_repair 75 = .ok (.aload_n 0, 1) := by decide +kernel
theorem dX4_repair_76 : decode cX4_repair 76 = .ok (.getfield 10, 3) := by decide +kernel
theorem dX4_repair_79 : decode cX4_repair 79 = .ok (.getfield 87, 3) := by decide +kernel
theorem dX4_repair_82 : decode cX4_repair 82 = .ok (.iload_n 1, 1) := by decide +kernel
theorem dX4_repair_83 : decode cX4_repair 83 = .ok (.iload_n 2, 1) := by decide +kernel
theorem dX4_repair_84 : decode cX4_repair 84 = .ok (.iastore, 1) := by decide +kernel
theorem dX4_repair_85 : decode cX4_repair 85 = .ok (.aload_n 0, 1) := by decide +kernel
theorem dX4_repair_86 : decode cX4_repair 86 = .ok (.getfield 10, 3) := by decide +kernel
theorem dX4_repair_89 : decode cX4_repair 89 = .ok (.invokevirtual 97, 3) := by decide +kernel
theorem dX4_repair_92 : decode cX4_repair 92 = .ok (.ireturn, 1) := by decide +kernel
set_option maxRecDepth 20000 in
theorem ggX4_hour_X4_requireTemperature : GoodIn wsX4_hour wsX4_requireTemperature := goodIn_ca (goodIn_r _ [10, 11, 12, 13, 14, 9, 15] (by decide +kernel) (by decide +kernel)) (goodIn_sub (fun _ h => List.mem_cons_of_mem _ (List.mem_append_right _ h)) (by decide +kernel))
set_option maxRecDepth 20000 in
theorem gX4_hour_X4_requireTemperature : GoodIn wsX4_hour (va_wsS RX4 101 yX4_requireTemperature wsX4_requireTemperature) := goodIn_app (goodIn_of _ (by decide +kernel)) ggX4_hour_X4_requireTemperature
set_option maxRecDepth 20000 in
theorem ggX4_hour_X2_survey : GoodIn wsX4_hour wsX2_survey := goodIn_r _ [19, 20, 21, 22, 23, 24, 25, 26, 17, 27, 28, 29, 30, 9, 31, 32, 33, 34, 35, 36, 37, 38, 39, 40, 41, 42, 43, 102, 103, 104, 105, 106, 107, 108, 109, 110] (by decide +kernel) (by decide +kernel)
set_option maxRecDepth 20000 in
theorem gX4_hour_X2_survey_n105 : GoodIn wsX4_hour (wsX2_survey) := ggX4_hour_X2_survey
set_option maxRecDepth 20000 in
theorem ggX4_hour_X2_serve : GoodIn wsX4_hour wsX2_serve := goodIn_r _ [46, 23, 47, 48, 49, 50, 51, 20, 52, 53, 54, 102, 103, 104, 105, 106, 107, 108, 109, 110] (by decide +kernel) (by decide +kernel)
set_option maxRecDepth 20000 in
theorem gX4_hour_X2_serve_n112 : GoodIn wsX4_hour (wsX2_serve) := ggX4_hour_X2_serve
set_option maxRecDepth 20000 in
theorem ggX4_hour_X3_fire : GoodIn wsX4_hour wsX3_fire := goodIn_r _ [58, 59, 60, 61, 62, 63, 64, 65, 66, 67, 68, 53, 49, 54, 98, 99, 100, 101, 111, 112, 113, 114, 115, 116] (by decide +kernel) (by decide +kernel)
set_option maxRecDepth 20000 in
theorem gX4_hour_X3_fire_n115 : GoodIn wsX4_hour (wsX3_fire) := ggX4_hour_X3_fire
set_option maxRecDepth 20000 in
theorem ggX4_hour_X1_read : GoodIn wsX4_hour wsX1_read := goodIn_r _ [72, 73, 74, 75, 76, 77, 30, 9, 31, 40, 17, 41, 42, 38, 43, 117, 118, 119, 120, 121, 102, 103, 104, 105, 106, 107, 108, 109, 110] (by decide +kernel) (by decide +kernel)
set_option maxRecDepth 20000 in
theorem gX4_hour_X1_read_n118 : GoodIn wsX4_hour (wsX1_read) := ggX4_hour_X1_read
set_option maxRecDepth 20000 in
theorem ggX4_hour_X4_isPeak : GoodIn wsX4_hour wsX4_isPeak := goodIn_r _ [81, 2, 91, 92, 93, 94, 95, 96, 97, 98, 99, 100, 101] (by decide +kernel) (by decide +kernel)
set_option maxRecDepth 20000 in
theorem gX4_hour_X4_isPeak : GoodIn wsX4_hour (wsV RX4 122 RX4 yX4_isPeak wsX4_isPeak) := goodIn_app (goodIn_of _ (by decide +kernel)) ggX4_hour_X4_isPeak
set_option maxRecDepth 20000 in
theorem ggX4_hour_X4_charge : GoodIn wsX4_hour wsX4_charge := goodIn_r _ [85, 1, 86, 87, 32, 9, 33, 91, 92, 93, 94, 95, 96, 97, 102, 103, 104, 105, 106, 107, 108, 109, 110] (by decide +kernel) (by decide +kernel)
set_option maxRecDepth 20000 in
theorem gX4_hour_X4_charge : GoodIn wsX4_hour (wsV RX4 125 RX4 yX4_charge wsX4_charge) := goodIn_app (goodIn_of _ (by decide +kernel)) ggX4_hour_X4_charge
set_option maxRecDepth 20000 in
theorem ggX4_hour_X2_endHourOfRepairs : GoodIn wsX4_hour wsX2_endHourOfRepairs := goodIn_r _ [90, 29, 102, 103, 104, 105, 106, 107, 108, 109, 110] (by decide +kernel) (by decide +kernel)
set_option maxRecDepth 20000 in
theorem gX4_hour_X2_endHourOfRepairs_n129 : GoodIn wsX4_hour (wsX2_endHourOfRepairs) := ggX4_hour_X2_endHourOfRepairs
theorem dX4_hour_0 : decode cX4_hour 0 = .ok (.iload_n 1, 1) := by decide +kernel
theorem dX4_hour_1 : decode cX4_hour 1 = .ok (.invokestatic 101, 3) := by decide +kernel
theorem dX4_hour_4 : decode cX4_hour 4 = .ok (.aload_n 0, 1) := by decide +kernel
theorem dX4_hour_5 : decode cX4_hour 5 = .ok (.getfield 10, 3) := by decide +kernel
theorem dX4_hour_8 : decode cX4_hour 8 = .ok (.iload_n 1, 1) := by decide +kernel
theorem dX4_hour_9 : decode cX4_hour 9 = .ok (.invokevirtual 105, 3) := by decide +kernel
theorem dX4_hour_12 : decode cX4_hour 12 = .ok (.istore_n 2, 1) := by decide +kernel
theorem dX4_hour_13 : decode cX4_hour 13 = .ok (.aload_n 0, 1) := by decide +kernel
theorem dX4_hour_14 : decode cX4_hour 14 = .ok (.getfield 10, 3) := by decide +kernel
theorem dX4_hour_17 : decode cX4_hour 17 = .ok (.aload_n 0, 1) := by decide +kernel
theorem dX4_hour_18 : decode cX4_hour 18 = .ok (.getfield 19, 3) := by decide +kernel
theorem dX4_hour_21 : decode cX4_hour 21 = .ok (.getfield 109, 3) := by decide +kernel
theorem dX4_hour_24 : decode cX4_hour 24 = .ok (.invokevirtual 112, 3) := by decide +kernel
theorem dX4_hour_27 : decode cX4_hour 27 = .ok (.aload_n 0, 1) := by decide +kernel
theorem dX4_hour_28 : decode cX4_hour 28 = .ok (.getfield 19, 3) := by decide +kernel
theorem dX4_hour_31 : decode cX4_hour 31 = .ok (.iload_n 2, 1) := by decide +kernel
theorem dX4_hour_32 : decode cX4_hour 32 = .ok (.invokevirtual 115, 3) := by decide +kernel
theorem dX4_hour_35 : decode cX4_hour 35 = .ok (.aload_n 0, 1) := by decide +kernel
theorem dX4_hour_36 : decode cX4_hour 36 = .ok (.getfield 26, 3) := by decide +kernel
theorem dX4_hour_39 : decode cX4_hour 39 = .ok (.aload_n 0, 1) := by decide +kernel
theorem dX4_hour_40 : decode cX4_hour 40 = .ok (.getfield 10, 3) := by decide +kernel
theorem dX4_hour_43 : decode cX4_hour 43 = .ok (.invokevirtual 118, 3) := by decide +kernel
theorem dX4_hour_46 : decode cX4_hour 46 = .ok (.aload_n 0, 1) := by decide +kernel
theorem dX4_hour_47 : decode cX4_hour 47 = .ok (.iload_n 1, 1) := by decide +kernel
theorem dX4_hour_48 : decode cX4_hour 48 = .ok (.aload_n 0, 1) := by decide +kernel
theorem dX4_hour_49 : decode cX4_hour 49 = .ok (.iload_n 2, 1) := by decide +kernel
theorem dX4_hour_50 : decode cX4_hour 50 = .ok (.invokevirtual 122, 3) := by decide +kernel
theorem dX4_hour_53 : decode cX4_hour 53 = .ok (.invokevirtual 125, 3) := by decide +kernel
theorem dX4_hour_56 : decode cX4_hour 56 = .ok (.aload_n 0, 1) := by decide +kernel
theorem dX4_hour_57 : decode cX4_hour 57 = .ok (.getfield 10, 3) := by decide +kernel
theorem dX4_hour_60 : decode cX4_hour 60 = .ok (.invokevirtual 129, 3) := by decide +kernel
theorem dX4_hour_63 : decode cX4_hour 63 = .ok (.aload_n 0, 1) := by decide +kernel
theorem dX4_hour_64 : decode cX4_hour 64 = .ok (.aload_n 0, 1) := by decide +kernel
theorem dX4_hour_65 : decode cX4_hour 65 = .ok (.getfield 10, 3) := by decide +kernel
theorem dX4_hour_68 : decode cX4_hour 68 = .ok (.getfield 132, 3) := by decide +kernel
theorem dX4_hour_71 : decode cX4_hour 71 = .ok (.putfield 135, 3) := by decide +kernel
theorem dX4_hour_74 : decode cX4_hour 74 = .ok (.aload_n 0, 1) := by decide +kernel
theorem dX4_hour_75 : decode cX4_hour 75 = .ok (.iload_n 1, 1) := by decide +kernel
theorem dX4_hour_76 : decode cX4_hour 76 = .ok (.putfield 92, 3) := by decide +kernel
theorem dX4_hour_79 : decode cX4_hour 79 = .ok (.aload_n 0, 1) := by decide +kernel
theorem dX4_hour_80 : decode cX4_hour 80 = .ok (.dup, 1) := by decide +kernel
theorem dX4_hour_81 : decode cX4_hour 81 = .ok (.getfield 49, 3) := by decide +kernel
theorem dX4_hour_84 : decode cX4_hour 84 = .ok (.iconst 1, 1) := by decide +kernel
theorem dX4_hour_85 : decode cX4_hour 85 = .ok (.iadd, 1) := by decide +kernel
theorem dX4_hour_86 : decode cX4_hour 86 = .ok (.putfield 49, 3) := by decide +kernel
theorem dX4_hour_89 : decode cX4_hour 89 = .ok (.iload_n 2, 1) := by decide +kernel
theorem dX4_hour_90 : decode cX4_hour 90 = .ok (.ireturn, 1) := by decide +kernel
theorem dX4_hours_0 : decode cX4_hours 0 = .ok (.aload_n 0, 1) := by decide +kernel
theorem dX4_hours_1 : decode cX4_hours 1 = .ok (.getfield 49, 3) := by decide +kernel
theorem dX4_hours_4 : decode cX4_hours 4 = .ok (.ireturn, 1) := by decide +kernel
set_option maxRecDepth 20000 in
theorem ggX4_load_X4_requireTemperature : GoodIn wsX4_load wsX4_requireTemperature := goodIn_ca (goodIn_r _ [5, 6, 7, 8, 9, 4, 10] (by decide +kernel) (by decide +kernel)) (goodIn_sub (fun _ h => List.mem_cons_of_mem _ (List.mem_append_right _ h)) (by decide +kernel))
set_option maxRecDepth 20000 in
theorem gX4_load_X4_requireTemperature : GoodIn wsX4_load (va_wsS RX4 101 yX4_requireTemperature wsX4_requireTemperature) := goodIn_app (goodIn_of _ (by decide +kernel)) ggX4_load_X4_requireTemperature
set_option maxRecDepth 20000 in
theorem ggX4_load_X2_survey : GoodIn wsX4_load wsX2_survey := goodIn_r _ [14, 15, 16, 17, 18, 19, 20, 21, 12, 22, 23, 24, 25, 4, 26, 27, 28, 29, 30, 31, 32, 33, 34, 35, 36, 37, 38, 46, 47, 48, 49, 50, 51, 52, 53, 54] (by decide +kernel) (by decide +kernel)
set_option maxRecDepth 20000 in
theorem gX4_load_X2_survey_n105 : GoodIn wsX4_load (wsX2_survey) := ggX4_load_X2_survey
theorem dX4_load_0 : decode cX4_load 0 = .ok (.iload_n 1, 1) := by decide +kernel
theorem dX4_load_1 : decode cX4_load 1 = .ok (.invokestatic 101, 3) := by decide +kernel
theorem dX4_load_4 : decode cX4_load 4 = .ok (.aload_n 0, 1) := by decide +kernel
theorem dX4_load_5 : decode cX4_load 5 = .ok (.getfield 10, 3) := by decide +kernel
theorem dX4_load_8 : decode cX4_load 8 = .ok (.iload_n 1, 1) := by decide +kernel
theorem dX4_load_9 : decode cX4_load 9 = .ok (.invokevirtual 105, 3) := by decide +kernel
theorem dX4_load_12 : decode cX4_load 12 = .ok (.ireturn, 1) := by decide +kernel
set_option maxRecDepth 20000 in
theorem ggX4_fired_X3_find : GoodIn wsX4_fired wsX3_find := goodIn_r _ [7, 8, 22, 23, 24, 25, 16, 17, 18, 19, 20, 21] (by decide +kernel) (by decide +kernel)
set_option maxRecDepth 20000 in
theorem gX4_fired_X3_find_n138 : GoodIn wsX4_fired (wsX3_find) := ggX4_fired_X3_find
theorem dX4_fired_0 : decode cX4_fired 0 = .ok (.aload_n 0, 1) := by decide +kernel
theorem dX4_fired_1 : decode cX4_fired 1 = .ok (.getfield 19, 3) := by decide +kernel
theorem dX4_fired_4 : decode cX4_fired 4 = .ok (.iload_n 1, 1) := by decide +kernel
theorem dX4_fired_5 : decode cX4_fired 5 = .ok (.invokevirtual 138, 3) := by decide +kernel
theorem dX4_fired_8 : decode cX4_fired 8 = .ok (.astore_n 2, 1) := by decide +kernel
theorem dX4_fired_9 : decode cX4_fired 9 = .ok (.aload_n 2, 1) := by decide +kernel
theorem dX4_fired_10 : decode cX4_fired 10 = .ok (.ifnonnull 13, 3) := by decide +kernel
theorem dX4_fired_13 : decode cX4_fired 13 = .ok (.new 142, 3) := by decide +kernel
theorem dX4_fired_16 : decode cX4_fired 16 = .ok (.dup, 1) := by decide +kernel
theorem dX4_fired_17 : decode cX4_fired 17 = .ok (.ldc 144, 2) := by decide +kernel
theorem dX4_fired_19 : decode cX4_fired 19 = .ok (.invokespecial 146, 3) := by decide +kernel
theorem dX4_fired_22 : decode cX4_fired 22 = .ok (.athrow, 1) := by decide +kernel
theorem dX4_fired_23 : decode cX4_fired 23 = .ok (.aload_n 2, 1) := by decide +kernel
theorem dX4_fired_24 : decode cX4_fired 24 = .ok (.getfield 147, 3) := by decide +kernel
theorem dX4_fired_27 : decode cX4_fired 27 = .ok (.ireturn, 1) := by decide +kernel
set_option maxRecDepth 20000 in
theorem ggX4_got_X4_isHouse : GoodIn wsX4_got wsX4_isHouse := goodIn_r _ [7] (by decide +kernel) (by decide +kernel)
set_option maxRecDepth 20000 in
theorem gX4_got_X4_isHouse : GoodIn wsX4_got (va_wsS RX4 34 yX4_isHouse wsX4_isHouse) := goodIn_app (goodIn_of _ (by decide +kernel)) ggX4_got_X4_isHouse
theorem dX4_got_0 : decode cX4_got 0 = .ok (.iload_n 1, 1) := by decide +kernel
theorem dX4_got_1 : decode cX4_got 1 = .ok (.invokestatic 34, 3) := by decide +kernel
theorem dX4_got_4 : decode cX4_got 4 = .ok (.ifCond .ne 13, 3) := by decide +kernel
theorem dX4_got_7 : decode cX4_got 7 = .ok (.new 42, 3) := by decide +kernel
theorem dX4_got_10 : decode cX4_got 10 = .ok (.dup, 1) := by decide +kernel
theorem dX4_got_11 : decode cX4_got 11 = .ok (.ldc 152, 2) := by decide +kernel
theorem dX4_got_13 : decode cX4_got 13 = .ok (.invokespecial 46, 3) := by decide +kernel
theorem dX4_got_16 : decode cX4_got 16 = .ok (.athrow, 1) := by decide +kernel
theorem dX4_got_17 : decode cX4_got 17 = .ok (.aload_n 0, 1) := by decide +kernel
theorem dX4_got_18 : decode cX4_got 18 = .ok (.getfield 10, 3) := by decide +kernel
theorem dX4_got_21 : decode cX4_got 21 = .ok (.getfield 154, 3) := by decide +kernel
theorem dX4_got_24 : decode cX4_got 24 = .ok (.iload_n 1, 1) := by decide +kernel
theorem dX4_got_25 : decode cX4_got 25 = .ok (.iaload, 1) := by decide +kernel
theorem dX4_got_26 : decode cX4_got 26 = .ok (.ireturn, 1) := by decide +kernel
set_option maxRecDepth 20000 in
theorem ggX4_meter_X4_isHouse : GoodIn wsX4_meter wsX4_isHouse := goodIn_r _ [7] (by decide +kernel) (by decide +kernel)
set_option maxRecDepth 20000 in
theorem gX4_meter_X4_isHouse : GoodIn wsX4_meter (va_wsS RX4 34 yX4_isHouse wsX4_isHouse) := goodIn_app (goodIn_of _ (by decide +kernel)) ggX4_meter_X4_isHouse
theorem dX4_meter_0 : decode cX4_meter 0 = .ok (.iload_n 1, 1) := by decide +kernel
theorem dX4_meter_1 : decode cX4_meter 1 = .ok (.invokestatic 34, 3) := by decide +kernel
theorem dX4_meter_4 : decode cX4_meter 4 = .ok (.ifCond .ne 13, 3) := by decide +kernel
theorem dX4_meter_7 : decode cX4_meter 7 = .ok (.new 42, 3) := by decide +kernel
theorem dX4_meter_10 : decode cX4_meter 10 = .ok (.dup, 1) := by decide +kernel
theorem dX4_meter_11 : decode cX4_meter 11 = .ok (.ldc 152, 2) := by decide +kernel
theorem dX4_meter_13 : decode cX4_meter 13 = .ok (.invokespecial 46, 3) := by decide +kernel
theorem dX4_meter_16 : decode cX4_meter 16 = .ok (.athrow, 1) := by decide +kernel
theorem dX4_meter_17 : decode cX4_meter 17 = .ok (.aload_n 0, 1) := by decide +kernel
theorem dX4_meter_18 : decode cX4_meter 18 = .ok (.getfield 26, 3) := by decide +kernel
theorem dX4_meter_21 : decode cX4_meter 21 = .ok (.getfield 157, 3) := by decide +kernel
theorem dX4_meter_24 : decode cX4_meter 24 = .ok (.iload_n 1, 1) := by decide +kernel
theorem dX4_meter_25 : decode cX4_meter 25 = .ok (.iaload, 1) := by decide +kernel
theorem dX4_meter_26 : decode cX4_meter 26 = .ok (.ireturn, 1) := by decide +kernel
set_option maxRecDepth 20000 in
theorem ggX4_isSuspected_X4_isHouse : GoodIn wsX4_isSuspected wsX4_isHouse := goodIn_r _ [7] (by decide +kernel) (by decide +kernel)
set_option maxRecDepth 20000 in
theorem gX4_isSuspected_X4_isHouse : GoodIn wsX4_isSuspected (va_wsS RX4 34 yX4_isHouse wsX4_isHouse) := goodIn_app (goodIn_of _ (by decide +kernel)) ggX4_isSuspected_X4_isHouse
theorem dX4_isSuspected_0 : decode cX4_isSuspected 0 = .ok (.iload_n 1, 1) := by decide +kernel
theorem dX4_isSuspected_1 : decode cX4_isSuspected 1 = .ok (.invokestatic 34, 3) := by decide +kernel
theorem dX4_isSuspected_4 : decode cX4_isSuspected 4 = .ok (.ifCond .ne 13, 3) := by decide +kernel
theorem dX4_isSuspected_7 : decode cX4_isSuspected 7 = .ok (.new 42, 3) := by decide +kernel
theorem dX4_isSuspected_10 : decode cX4_isSuspected 10 = .ok (.dup, 1) := by decide +kernel
theorem dX4_isSuspected_11 : decode cX4_isSuspected 11 = .ok (.ldc 152, 2) := by decide +kernel
theorem dX4_isSuspected_13 : decode cX4_isSuspected 13 = .ok (.invokespecial 46, 3) := by decide +kernel
theorem dX4_isSuspected_16 : decode cX4_isSuspected 16 = .ok (.athrow, 1) := by decide +kernel
theorem dX4_isSuspected_17 : decode cX4_isSuspected 17 = .ok (.aload_n 0, 1) := by decide +kernel
theorem dX4_isSuspected_18 : decode cX4_isSuspected 18 = .ok (.getfield 26, 3) := by decide +kernel
theorem dX4_isSuspected_21 : decode cX4_isSuspected 21 = .ok (.getfield 160, 3) := by decide +kernel
theorem dX4_isSuspected_24 : decode cX4_isSuspected 24 = .ok (.iload_n 1, 1) := by decide +kernel
theorem dX4_isSuspected_25 : decode cX4_isSuspected 25 = .ok (.baload, 1) := by decide +kernel
theorem dX4_isSuspected_26 : decode cX4_isSuspected 26 = .ok (.ireturn, 1) := by decide +kernel
theorem dX4_losses_0 : decode cX4_losses 0 = .ok (.aload_n 0, 1) := by decide +kernel
theorem dX4_losses_1 : decode cX4_losses 1 = .ok (.getfield 135, 3) := by decide +kernel
theorem dX4_losses_4 : decode cX4_losses 4 = .ok (.ireturn, 1) := by decide +kernel
set_option maxRecDepth 20000 in
theorem ggX4_bill_X4_isHouse : GoodIn wsX4_bill wsX4_isHouse := goodIn_r _ [7] (by decide +kernel) (by decide +kernel)
set_option maxRecDepth 20000 in
theorem gX4_bill_X4_isHouse : GoodIn wsX4_bill (va_wsS RX4 34 yX4_isHouse wsX4_isHouse) := goodIn_app (goodIn_of _ (by decide +kernel)) ggX4_bill_X4_isHouse
theorem dX4_bill_0 : decode cX4_bill 0 = .ok (.iload_n 1, 1) := by decide +kernel
theorem dX4_bill_1 : decode cX4_bill 1 = .ok (.invokestatic 34, 3) := by decide +kernel
theorem dX4_bill_4 : decode cX4_bill 4 = .ok (.ifCond .ne 13, 3) := by decide +kernel
theorem dX4_bill_7 : decode cX4_bill 7 = .ok (.new 42, 3) := by decide +kernel
theorem dX4_bill_10 : decode cX4_bill 10 = .ok (.dup, 1) := by decide +kernel
theorem dX4_bill_11 : decode cX4_bill 11 = .ok (.ldc 152, 2) := by decide +kernel
theorem dX4_bill_13 : decode cX4_bill 13 = .ok (.invokespecial 46, 3) := by decide +kernel
theorem dX4_bill_16 : decode cX4_bill 16 = .ok (.athrow, 1) := by decide +kernel
theorem dX4_bill_17 : decode cX4_bill 17 = .ok (.aload_n 0, 1) := by decide +kernel
theorem dX4_bill_18 : decode cX4_bill 18 = .ok (.getfield 30, 3) := by decide +kernel
theorem dX4_bill_21 : decode cX4_bill 21 = .ok (.iload_n 1, 1) := by decide +kernel
theorem dX4_bill_22 : decode cX4_bill 22 = .ok (.iaload, 1) := by decide +kernel
theorem dX4_bill_23 : decode cX4_bill 23 = .ok (.ireturn, 1) := by decide +kernel
theorem dX4_cost_0 : decode cX4_cost 0 = .ok (.aload_n 0, 1) := by decide +kernel
theorem dX4_cost_1 : decode cX4_cost 1 = .ok (.getfield 19, 3) := by decide +kernel
theorem dX4_cost_4 : decode cX4_cost 4 = .ok (.getfield 164, 3) := by decide +kernel
theorem dX4_cost_7 : decode cX4_cost 7 = .ok (.ireturn, 1) := by decide +kernel
set_option maxRecDepth 20000 in
theorem ggX4_isOpen_X4_isHouse : GoodIn wsX4_isOpen wsX4_isHouse := goodIn_r _ [7] (by decide +kernel) (by decide +kernel)
set_option maxRecDepth 20000 in
theorem gX4_isOpen_X4_isHouse : GoodIn wsX4_isOpen (va_wsS RX4 34 yX4_isHouse wsX4_isHouse) := goodIn_app (goodIn_of _ (by decide +kernel)) ggX4_isOpen_X4_isHouse
theorem dX4_isOpen_0 : decode cX4_isOpen 0 = .ok (.iload_n 1, 1) := by decide +kernel
theorem dX4_isOpen_1 : decode cX4_isOpen 1 = .ok (.invokestatic 34, 3) := by decide +kernel
theorem dX4_isOpen_4 : decode cX4_isOpen 4 = .ok (.ifCond .ne 13, 3) := by decide +kernel
theorem dX4_isOpen_7 : decode cX4_isOpen 7 = .ok (.new 42, 3) := by decide +kernel
theorem dX4_isOpen_10 : decode cX4_isOpen 10 = .ok (.dup, 1) := by decide +kernel
theorem dX4_isOpen_11 : decode cX4_isOpen 11 = .ok (.ldc 152, 2) := by decide +kernel
theorem dX4_isOpen_13 : decode cX4_isOpen 13 = .ok (.invokespecial 46, 3) := by decide +kernel
theorem dX4_isOpen_16 : decode cX4_isOpen 16 = .ok (.athrow, 1) := by decide +kernel
theorem dX4_isOpen_17 : decode cX4_isOpen 17 = .ok (.aload_n 0, 1) := by decide +kernel
theorem dX4_isOpen_18 : decode cX4_isOpen 18 = .ok (.getfield 10, 3) := by decide +kernel
theorem dX4_isOpen_21 : decode cX4_isOpen 21 = .ok (.getfield 87, 3) := by decide +kernel
theorem dX4_isOpen_24 : decode cX4_isOpen 24 = .ok (.iload_n 1, 1) := by decide +kernel
theorem dX4_isOpen_25 : decode cX4_isOpen 25 = .ok (.iaload, 1) := by decide +kernel
theorem dX4_isOpen_26 : decode cX4_isOpen 26 = .ok (.ifCond .ne 7, 3) := by decide +kernel
theorem dX4_isOpen_29 : decode cX4_isOpen 29 = .ok (.iconst 1, 1) := by decide +kernel
theorem dX4_isOpen_30 : decode cX4_isOpen 30 = .ok (.goto 4, 3) := by decide +kernel
theorem dX4_isOpen_33 : decode cX4_isOpen 33 = .ok (.iconst 0, 1) := by decide +kernel
theorem dX4_isOpen_34 : decode cX4_isOpen 34 = .ok (.ireturn, 1) := by decide +kernel
theorem dX4_isPeak_0 : decode cX4_isPeak 0 = .ok (.iconst 2, 1) := by decide +kernel
theorem dX4_isPeak_1 : decode cX4_isPeak 1 = .ok (.iload_n 1, 1) := by decide +kernel
theorem dX4_isPeak_2 : decode cX4_isPeak 2 = .ok (.imul, 1) := by decide +kernel
theorem dX4_isPeak_3 : decode cX4_isPeak 3 = .ok (.aload_n 0, 1) := by decide +kernel
theorem dX4_isPeak_4 : decode cX4_isPeak 4 = .ok (.getfield 19, 3) := by decide +kernel
theorem dX4_isPeak_7 : decode cX4_isPeak 7 = .ok (.getfield 109, 3) := by decide +kernel
theorem dX4_isPeak_10 : decode cX4_isPeak 10 = .ok (.if_icmp .le 7, 3) := by decide +kernel
theorem dX4_isPeak_13 : decode cX4_isPeak 13 = .ok (.iconst 1, 1) := by decide +kernel
theorem dX4_isPeak_14 : decode cX4_isPeak 14 = .ok (.goto 4, 3) := by decide +kernel
theorem dX4_isPeak_17 : decode cX4_isPeak 17 = .ok (.iconst 0, 1) := by decide +kernel
theorem dX4_isPeak_18 : decode cX4_isPeak 18 = .ok (.ireturn, 1) := by decide +kernel
set_option maxRecDepth 20000 in
theorem ggX4_charge_X4_wantedHeat : GoodIn wsX4_charge wsX4_wantedHeat := goodIn_r _ [6] (by decide +kernel) (by decide +kernel)
set_option maxRecDepth 20000 in
theorem gX4_charge_X4_wantedHeat : GoodIn wsX4_charge (va_wsS RX4 170 yX4_wantedHeat wsX4_wantedHeat) := goodIn_app (goodIn_of _ (by decide +kernel)) ggX4_charge_X4_wantedHeat
theorem dX4_charge_0 : decode cX4_charge 0 = .ok (.iload_n 2, 1) := by decide +kernel
theorem dX4_charge_1 : decode cX4_charge 1 = .ok (.ifCond .eq 7, 3) := by decide +kernel
theorem dX4_charge_4 : decode cX4_charge 4 = .ok (.iconst 3, 1) := by decide +kernel
theorem dX4_charge_5 : decode cX4_charge 5 = .ok (.goto 4, 3) := by decide +kernel
theorem dX4_charge_8 : decode cX4_charge 8 = .ok (.iconst 2, 1) := by decide +kernel
theorem dX4_charge_9 : decode cX4_charge 9 = .ok (.istore_n 3, 1) := by decide +kernel
theorem dX4_charge_10 : decode cX4_charge 10 = .ok (.iconst 1, 1) := by decide +kernel
theorem dX4_charge_11 : decode cX4_charge 11 = .ok (.istore 4, 2) := by decide +kernel
theorem dX4_charge_13 : decode cX4_charge 13 = .ok (.iload 4, 2) := by decide +kernel
theorem dX4_charge_15 : decode cX4_charge 15 = .ok (.bipush 12, 2) := by decide +kernel
theorem dX4_charge_17 : decode cX4_charge 17 = .ok (.if_icmp .ge 75, 3) := by decide +kernel
theorem dX4_charge_20 : decode cX4_charge 20 = .ok (.aload_n 0, 1) := by decide +kernel
theorem dX4_charge_21 : decode cX4_charge 21 = .ok (.getfield 10, 3) := by decide +kernel
theorem dX4_charge_24 : decode cX4_charge 24 = .ok (.getfield 167, 3) := by decide +kernel
theorem dX4_charge_27 : decode cX4_charge 27 = .ok (.iload 4, 2) := by decide +kernel
theorem dX4_charge_29 : decode cX4_charge 29 = .ok (.baload, 1) := by decide +kernel
theorem dX4_charge_30 : decode cX4_charge 30 = .ok (.ifCond .eq 28, 3) := by decide +kernel
theorem dX4_charge_33 : decode cX4_charge 33 = .ok (.aload_n 0, 1) := by decide +kernel
theorem dX4_charge_34 : decode cX4_charge 34 = .ok (.getfield 30, 3) := by decide +kernel
theorem dX4_charge_37 : decode cX4_charge 37 = .ok (.iload 4, 2) := by decide +kernel
theorem dX4_charge_39 : decode cX4_charge 39 = .ok (.dup2, 1) := by decide +kernel
theorem dX4_charge_40 : decode cX4_charge 40 = .ok (.iaload, 1) := by decide +kernel
theorem dX4_charge_41 : decode cX4_charge 41 = .ok (.iload_n 3, 1) := by decide +kernel
theorem dX4_charge_42 : decode cX4_charge 42 = .ok (.aload_n 0, 1) := by decide +kernel
theorem dX4_charge_43 : decode cX4_charge 43 = .ok (.getfield 10, 3) := by decide +kernel
theorem dX4_charge_46 : decode cX4_charge 46 = .ok (.getfield 154, 3) := by decide +kernel
theorem dX4_charge_49 : decode cX4_charge 49 = .ok (.iload 4, 2) := by decide +kernel
theorem dX4_charge_51 : decode cX4_charge 51 = .ok (.iaload, 1) := by decide +kernel
theorem dX4_charge_52 : decode cX4_charge 52 = .ok (.imul, 1) := by decide +kernel
theorem dX4_charge_53 : decode cX4_charge 53 = .ok (.iadd, 1) := by decide +kernel
theorem dX4_charge_54 : decode cX4_charge 54 = .ok (.iastore, 1) := by decide +kernel
theorem dX4_charge_55 : decode cX4_charge 55 = .ok (.goto 31, 3) := by decide +kernel
theorem dX4_charge_58 : decode cX4_charge 58 = .ok (.aload_n 0, 1) := by decide +kernel
theorem dX4_charge_59 : decode cX4_charge 59 = .ok (.getfield 10, 3) := by decide +kernel
theorem dX4_charge_62 : decode cX4_charge 62 = .ok (.getfield 66, 3) := by decide +kernel
theorem dX4_charge_65 : decode cX4_charge 65 = .ok (.iload 4, 2) := by decide +kernel
theorem dX4_charge_67 : decode cX4_charge 67 = .ok (.iaload, 1) := by decide +kernel
theorem dX4_charge_68 : decode cX4_charge 68 = .ok (.iload_n 1, 1) := by decide +kernel
theorem dX4_charge_69 : decode cX4_charge 69 = .ok (.invokestatic 170, 3) := by decide +kernel
theorem dX4_charge_72 : decode cX4_charge 72 = .ok (.ifCond .le 14, 3) := by decide +kernel
theorem dX4_charge_75 : decode cX4_charge 75 = .ok (.aload_n 0, 1) := by decide +kernel
theorem dX4_charge_76 : decode cX4_charge 76 = .ok (.getfield 30, 3) := by decide +kernel
theorem dX4_charge_79 : decode cX4_charge 79 = .ok (.iload 4, 2) := by decide +kernel
theorem dX4_charge_81 : decode cX4_charge 81 = .ok (.dup2, 1) := by decide +kernel
theorem dX4_charge_82 : decode cX4_charge 82 = .ok (.iaload, 1) := by decide +kernel
theorem dX4_charge_83 : decode cX4_charge 83 = .ok (.iconst 3, 1) := by decide +kernel
theorem dX4_charge_84 : decode cX4_charge 84 = .ok (.isub, 1) := by decide +kernel
theorem dX4_charge_85 : decode cX4_charge 85 = .ok (.iastore, 1) := by decide +kernel
theorem dX4_charge_86 : decode cX4_charge 86 = .ok (.iinc 4 1, 3) := by decide +kernel
theorem dX4_charge_89 : decode cX4_charge 89 = .ok (.goto (-76), 3) := by decide +kernel
theorem dX4_charge_92 : decode cX4_charge 92 = .ok (.return_, 1) := by decide +kernel
set_option maxRecDepth 20000 in
theorem ggX4_requireTemperature_X4_isWithin : GoodIn wsX4_requireTemperature wsX4_isWithin := goodIn_r _ [6] (by decide +kernel) (by decide +kernel)
set_option maxRecDepth 20000 in
theorem gX4_requireTemperature_X4_isWithin : GoodIn wsX4_requireTemperature (va_wsS RX4 38 yX4_isWithin wsX4_isWithin) := goodIn_app (goodIn_of _ (by decide +kernel)) ggX4_requireTemperature_X4_isWithin
theorem dX4_requireTemperature_0 : decode cX4_requireTemperature 0 = .ok (.iload_n 0, 1) := by decide +kernel
theorem dX4_requireTemperature_1 : decode cX4_requireTemperature 1 = .ok (.bipush (-20), 2) := by decide +kernel
theorem dX4_requireTemperature_3 : decode cX4_requireTemperature 3 = .ok (.bipush 30, 2) := by decide +kernel
theorem dX4_requireTemperature_5 : decode cX4_requireTemperature 5 = .ok (.invokestatic 38, 3) := by decide +kernel
theorem dX4_requireTemperature_8 : decode cX4_requireTemperature 8 = .ok (.ifCond .ne 13, 3) := by decide +kernel
theorem dX4_requireTemperature_11 : decode cX4_requireTemperature 11 = .ok (.new 42, 3) := by decide +kernel
theorem dX4_requireTemperature_14 : decode cX4_requireTemperature 14 = .ok (.dup, 1) := by decide +kernel
theorem dX4_requireTemperature_15 : decode cX4_requireTemperature 15 = .ok (.ldc 174, 2) := by decide +kernel
theorem dX4_requireTemperature_17 : decode cX4_requireTemperature 17 = .ok (.invokespecial 46, 3) := by decide +kernel
theorem dX4_requireTemperature_20 : decode cX4_requireTemperature 20 = .ok (.athrow, 1) := by decide +kernel
theorem dX4_requireTemperature_21 : decode cX4_requireTemperature 21 = .ok (.return_, 1) := by decide +kernel
theorem dX4_isHouse_0 : decode cX4_isHouse 0 = .ok (.iload_n 0, 1) := by decide +kernel
theorem dX4_isHouse_1 : decode cX4_isHouse 1 = .ok (.iconst 1, 1) := by decide +kernel
theorem dX4_isHouse_2 : decode cX4_isHouse 2 = .ok (.if_icmp .lt 13, 3) := by decide +kernel
theorem dX4_isHouse_5 : decode cX4_isHouse 5 = .ok (.iload_n 0, 1) := by decide +kernel
theorem dX4_isHouse_6 : decode cX4_isHouse 6 = .ok (.bipush 12, 2) := by decide +kernel
theorem dX4_isHouse_8 : decode cX4_isHouse 8 = .ok (.if_icmp .ge 7, 3) := by decide +kernel
theorem dX4_isHouse_11 : decode cX4_isHouse 11 = .ok (.iconst 1, 1) := by decide +kernel
theorem dX4_isHouse_12 : decode cX4_isHouse 12 = .ok (.goto 4, 3) := by decide +kernel
theorem dX4_isHouse_15 : decode cX4_isHouse 15 = .ok (.iconst 0, 1) := by decide +kernel
theorem dX4_isHouse_16 : decode cX4_isHouse 16 = .ok (.ireturn, 1) := by decide +kernel
theorem dX4_isWithin_0 : decode cX4_isWithin 0 = .ok (.iload_n 0, 1) := by decide +kernel
theorem dX4_isWithin_1 : decode cX4_isWithin 1 = .ok (.iload_n 1, 1) := by decide +kernel
theorem dX4_isWithin_2 : decode cX4_isWithin 2 = .ok (.if_icmp .lt 12, 3) := by decide +kernel
theorem dX4_isWithin_5 : decode cX4_isWithin 5 = .ok (.iload_n 0, 1) := by decide +kernel
theorem dX4_isWithin_6 : decode cX4_isWithin 6 = .ok (.iload_n 2, 1) := by decide +kernel
theorem dX4_isWithin_7 : decode cX4_isWithin 7 = .ok (.if_icmp .gt 7, 3) := by decide +kernel
theorem dX4_isWithin_10 : decode cX4_isWithin 10 = .ok (.iconst 1, 1) := by decide +kernel
theorem dX4_isWithin_11 : decode cX4_isWithin 11 = .ok (.goto 4, 3) := by decide +kernel
theorem dX4_isWithin_14 : decode cX4_isWithin 14 = .ok (.iconst 0, 1) := by decide +kernel
theorem dX4_isWithin_15 : decode cX4_isWithin 15 = .ok (.ireturn, 1) := by decide +kernel
theorem dX4_wantedHeat_0 : decode cX4_wantedHeat 0 = .ok (.iload_n 1, 1) := by decide +kernel
theorem dX4_wantedHeat_1 : decode cX4_wantedHeat 1 = .ok (.bipush 18, 2) := by decide +kernel
theorem dX4_wantedHeat_3 : decode cX4_wantedHeat 3 = .ok (.if_icmp .lt 5, 3) := by decide +kernel
theorem dX4_wantedHeat_6 : decode cX4_wantedHeat 6 = .ok (.iconst 0, 1) := by decide +kernel
theorem dX4_wantedHeat_7 : decode cX4_wantedHeat 7 = .ok (.ireturn, 1) := by decide +kernel
theorem dX4_wantedHeat_8 : decode cX4_wantedHeat 8 = .ok (.iload_n 0, 1) := by decide +kernel
theorem dX4_wantedHeat_9 : decode cX4_wantedHeat 9 = .ok (.bipush 18, 2) := by decide +kernel
theorem dX4_wantedHeat_11 : decode cX4_wantedHeat 11 = .ok (.iload_n 1, 1) := by decide +kernel
theorem dX4_wantedHeat_12 : decode cX4_wantedHeat 12 = .ok (.isub, 1) := by decide +kernel
theorem dX4_wantedHeat_13 : decode cX4_wantedHeat 13 = .ok (.imul, 1) := by decide +kernel
theorem dX4_wantedHeat_14 : decode cX4_wantedHeat 14 = .ok (.bipush 9, 2) := by decide +kernel
theorem dX4_wantedHeat_16 : decode cX4_wantedHeat 16 = .ok (.iadd, 1) := by decide +kernel
theorem dX4_wantedHeat_17 : decode cX4_wantedHeat 17 = .ok (.bipush 10, 2) := by decide +kernel
theorem dX4_wantedHeat_19 : decode cX4_wantedHeat 19 = .ok (.idiv, 1) := by decide +kernel
theorem dX4_wantedHeat_20 : decode cX4_wantedHeat 20 = .ok (.ireturn, 1) := by decide +kernel
theorem dJ9_max_7cf53_0 : decode cJ9_max_7cf53 0 = .ok (.iload_n 0, 1) := by decide +kernel
theorem dJ9_max_7cf53_1 : decode cJ9_max_7cf53 1 = .ok (.iload_n 1, 1) := by decide +kernel
theorem dJ9_max_7cf53_2 : decode cJ9_max_7cf53 2 = .ok (.if_icmp .lt 7, 3) := by decide +kernel
theorem dJ9_max_7cf53_5 : decode cJ9_max_7cf53 5 = .ok (.iload_n 0, 1) := by decide +kernel
theorem dJ9_max_7cf53_6 : decode cJ9_max_7cf53 6 = .ok (.goto 4, 3) := by decide +kernel
theorem dJ9_max_7cf53_9 : decode cJ9_max_7cf53 9 = .ok (.iload_n 1, 1) := by decide +kernel
theorem dJ9_max_7cf53_10 : decode cJ9_max_7cf53 10 = .ok (.ireturn, 1) := by decide +kernel
theorem dJ9_min_7cf53_0 : decode cJ9_min_7cf53 0 = .ok (.iload_n 0, 1) := by decide +kernel
theorem dJ9_min_7cf53_1 : decode cJ9_min_7cf53 1 = .ok (.iload_n 1, 1) := by decide +kernel
theorem dJ9_min_7cf53_2 : decode cJ9_min_7cf53 2 = .ok (.if_icmp .gt 7, 3) := by decide +kernel
theorem dJ9_min_7cf53_5 : decode cJ9_min_7cf53 5 = .ok (.iload_n 0, 1) := by decide +kernel
theorem dJ9_min_7cf53_6 : decode cJ9_min_7cf53 6 = .ok (.goto 4, 3) := by decide +kernel
theorem dJ9_min_7cf53_9 : decode cJ9_min_7cf53 9 = .ok (.iload_n 1, 1) := by decide +kernel
theorem dJ9_min_7cf53_10 : decode cJ9_min_7cf53 10 = .ok (.ireturn, 1) := by decide +kernel
end
section
theorem goodIn_c1 {big a : List Cond} {c : Cond} (hc : GoodIn big [c]) (ha : GoodIn big a) : GoodIn big (c :: a) := fun w h => (List.mem_cons.mp h).elim (fun e => hc w (List.mem_cons.mpr (Or.inl e))) (ha w)
theorem dL_draw_0 : decode cL_draw 0 = .ok (.iload_n 1, 1) := by decide +kernel
theorem dL_draw_1 : decode cL_draw 1 = .ok (.aload_n 0, 1) := by decide +kernel
theorem dL_draw_2 : decode cL_draw 2 = .ok (.arraylength, 1) := by decide +kernel
theorem dL_draw_3 : decode cL_draw 3 = .ok (.if_icmp .ge 12, 3) := by decide +kernel
theorem dL_draw_6 : decode cL_draw 6 = .ok (.aload_n 0, 1) := by decide +kernel
theorem dL_draw_7 : decode cL_draw 7 = .ok (.iload_n 1, 1) := by decide +kernel
theorem dL_draw_8 : decode cL_draw 8 = .ok (.iaload, 1) := by decide +kernel
theorem dL_draw_9 : decode cL_draw 9 = .ok (.ldc 7, 2) := by decide +kernel
theorem dL_draw_11 : decode cL_draw 11 = .ok (.iand, 1) := by decide +kernel
theorem dL_draw_12 : decode cL_draw 12 = .ok (.goto 12, 3) := by decide +kernel
theorem dL_draw_15 : decode cL_draw 15 = .ok (.ldc 8, 2) := by decide +kernel
theorem dL_draw_17 : decode cL_draw 17 = .ok (.iload_n 1, 1) := by decide +kernel
theorem dL_draw_18 : decode cL_draw 18 = .ok (.iconst 2, 1) := by decide +kernel
theorem dL_draw_19 : decode cL_draw 19 = .ok (.iadd, 1) := by decide +kernel
theorem dL_draw_20 : decode cL_draw 20 = .ok (.imul, 1) := by decide +kernel
theorem dL_draw_21 : decode cL_draw 21 = .ok (.ldc 9, 2) := by decide +kernel
theorem dL_draw_23 : decode cL_draw 23 = .ok (.irem, 1) := by decide +kernel
theorem dL_draw_24 : decode cL_draw 24 = .ok (.ireturn, 1) := by decide +kernel
set_option maxRecDepth 20000 in
theorem ggL_step_X4_hours : GoodIn wsL_step wsX4_hours := goodIn_r _ [5, 6, 203, 204, 205, 206, 207, 208, 209] (by decide +kernel) (by decide +kernel)
set_option maxRecDepth 20000 in
theorem gL_step_X4_hours : GoodIn wsL_step (wsV RL 10 RX4 yX4_hours wsX4_hours) := goodIn_app (goodIn_of _ (by decide +kernel)) ggL_step_X4_hours
set_option maxRecDepth 20000 in
theorem ggL_step_X4_feed : GoodIn wsL_step wsX4_feed := goodIn_ca (goodIn_ca (goodIn_r _ [10, 11, 12, 13, 14, 6, 15, 16, 17, 4, 18, 19, 20, 21, 203, 204, 205, 206, 207, 208, 209, 210, 211, 212, 213, 214, 215, 216, 217, 218] (by decide +kernel) (by decide +kernel)) (goodIn_sub (fun _ h => List.mem_cons_of_mem _ (List.mem_append_left _ (List.mem_append_left _ (List.mem_append_right _ h)))) (by decide +kernel))) (goodIn_sub (fun _ h => List.mem_cons_of_mem _ (List.mem_append_left _ (List.mem_append_right _ h))) (by decide +kernel))
set_option maxRecDepth 20000 in
theorem gL_step_X4_feed : GoodIn wsL_step (wsV RL 16 RX4 yX4_feed wsX4_feed) := goodIn_app (goodIn_of _ (by decide +kernel)) ggL_step_X4_feed
set_option maxRecDepth 20000 in
theorem ggL_step_X4_setArea : GoodIn wsL_step wsX4_setArea := goodIn_ca (goodIn_r _ [25, 11, 12, 15, 16, 17, 4, 18, 19, 20, 21, 203, 204, 205, 206, 207, 208, 209, 210, 211, 212, 213, 214, 215, 216, 217, 218] (by decide +kernel) (by decide +kernel)) (goodIn_sub (fun _ h => List.mem_cons_of_mem _ (List.mem_append_left _ (List.mem_append_left _ (List.mem_append_right _ h)))) (by decide +kernel))
set_option maxRecDepth 20000 in
theorem gL_step_X4_setArea : GoodIn wsL_step (wsV RL 20 RX4 yX4_setArea wsX4_setArea) := goodIn_app (goodIn_of _ (by decide +kernel)) ggL_step_X4_setArea
set_option maxRecDepth 20000 in
theorem ggL_step_X4_fired : GoodIn wsL_step wsX4_fired := goodIn_ca (goodIn_r _ [29, 30, 31, 32, 33, 34, 35, 36, 37, 203, 204, 205, 206, 207, 208, 209, 219, 220, 221, 222, 223, 224, 225, 226, 227, 228] (by decide +kernel) (by decide +kernel)) (goodIn_sub (fun _ h => List.mem_cons_of_mem _ (List.mem_append_right _ h)) (by decide +kernel))
set_option maxRecDepth 20000 in
theorem gL_step_X4_fired : GoodIn wsL_step (wsV RL 24 RX4 yX4_fired wsX4_fired) := goodIn_app (goodIn_of _ (by decide +kernel)) ggL_step_X4_fired
set_option maxRecDepth 20000 in
theorem ggL_step_X4_addBoiler : GoodIn wsL_step wsX4_addBoiler := goodIn_ca (goodIn_ca (goodIn_r _ [41, 11, 12, 13, 14, 32, 19, 20, 4, 21, 42, 34, 43, 44, 45, 46, 47, 48, 37, 49, 50, 51, 52, 53, 54, 55, 56, 57, 58, 59, 60, 61, 62, 203, 204, 205, 206, 207, 208, 209, 225, 226, 227, 228, 219, 220, 221, 222, 223, 224] (by decide +kernel) (by decide +kernel)) (goodIn_sub (fun _ h => List.mem_cons_of_mem _ (List.mem_append_left _ (List.mem_append_left _ (List.mem_append_right _ h)))) (by decide +kernel))) (goodIn_sub (fun _ h => List.mem_cons_of_mem _ (List.mem_append_left _ (List.mem_append_right _ h))) (by decide +kernel))
set_option maxRecDepth 20000 in
theorem gL_step_X4_addBoiler : GoodIn wsL_step (wsV RL 28 RX4 yX4_addBoiler wsX4_addBoiler) := goodIn_app (goodIn_of _ (by decide +kernel)) ggL_step_X4_addBoiler
set_option maxRecDepth 20000 in
theorem ggL_step_X4_setError : GoodIn wsL_step wsX4_setError := goodIn_ca (goodIn_r _ [66, 11, 12, 67, 16, 17, 4, 18, 19, 20, 21, 203, 204, 205, 206, 207, 208, 209, 229, 230, 231, 232, 233] (by decide +kernel) (by decide +kernel)) (goodIn_sub (fun _ h => List.mem_cons_of_mem _ (List.mem_append_left _ (List.mem_append_left _ (List.mem_append_right _ h)))) (by decide +kernel))
set_option maxRecDepth 20000 in
theorem gL_step_X4_setError : GoodIn wsL_step (wsV RL 31 RX4 yX4_setError wsX4_setError) := goodIn_app (goodIn_of _ (by decide +kernel)) ggL_step_X4_setError
set_option maxRecDepth 20000 in
theorem ggL_step_X4_isOpen : GoodIn wsL_step wsX4_isOpen := goodIn_ca (goodIn_r _ [71, 11, 12, 15, 16, 17, 4, 18, 203, 204, 205, 206, 207, 208, 209, 210, 211, 212, 213, 214, 215, 216, 217, 218] (by decide +kernel) (by decide +kernel)) (goodIn_sub (fun _ h => List.mem_cons_of_mem _ (List.mem_append_left _ (List.mem_append_left _ (List.mem_append_right _ h)))) (by decide +kernel))
set_option maxRecDepth 20000 in
theorem gL_step_X4_isOpen : GoodIn wsL_step (wsV RL 34 RX4 yX4_isOpen wsX4_isOpen) := goodIn_app (goodIn_of _ (by decide +kernel)) ggL_step_X4_isOpen
set_option maxRecDepth 20000 in
theorem ggL_step_L_repairs : GoodIn wsL_step wsL_repairs := goodIn_ca (goodIn_ca (goodIn_r _ [75, 76, 77, 78, 4, 79, 11, 12, 13, 14, 15, 6, 80, 16, 17, 18, 19, 20, 21, 81, 82, 83, 84, 85, 86, 87, 88, 89, 90, 91, 92, 93, 94, 74, 95, 68, 69, 70, 71, 203, 204, 205, 206, 207, 208, 209, 210, 211, 212, 213, 214, 215, 216, 217, 218] (by decide +kernel) (by decide +kernel)) (goodIn_sub (fun _ h => List.mem_cons_of_mem _ (List.mem_append_left _ (List.mem_append_left _ (List.mem_append_right _ h)))) (by decide +kernel))) (goodIn_sub (fun _ h => List.mem_cons_of_mem _ (List.mem_append_left _ (List.mem_append_right _ h))) (by decide +kernel))
set_option maxRecDepth 20000 in
theorem gL_step_L_repairs : GoodIn wsL_step (va_wsS RL 38 yL_repairs wsL_repairs) := goodIn_app (goodIn_of _ (by decide +kernel)) ggL_step_L_repairs
set_option maxRecDepth 20000 in
theorem ggL_step_L_hours_wsL_hours_r1 : GoodIn wsL_step wsL_hours_r1 := goodIn_r wsL_hours_r1 [99, 100, 101, 74, 102, 93, 94, 95, 68, 69, 70, 4, 71, 11, 12, 15, 16, 17, 18, 103, 104, 105, 106, 107] (by decide +kernel) (by decide +kernel)
set_option maxRecDepth 20000 in
theorem ggL_step_L_hours_wsL_hours_r2 : GoodIn wsL_step wsL_hours_r2 := goodIn_r wsL_hours_r2 [108, 109, 19, 20, 21, 110, 82, 111, 112, 113, 86, 85, 114, 87, 88, 89, 90, 91, 92, 115, 116, 117, 118, 119] (by decide +kernel) (by decide +kernel)
set_option maxRecDepth 20000 in
theorem ggL_step_L_hours_wsL_hours_r3 : GoodIn wsL_step wsL_hours_r3 := goodIn_r wsL_hours_r3 [120, 121, 122, 123, 124, 125, 126, 127, 128, 129, 130, 32, 67, 131, 80, 6, 132, 133, 134, 135, 136, 137, 138, 139] (by decide +kernel) (by decide +kernel)
set_option maxRecDepth 20000 in
theorem ggL_step_L_hours_wsL_hours_r4 : GoodIn wsL_step wsL_hours_r4 := goodIn_r wsL_hours_r4 [140, 141, 142, 143, 34, 144, 145, 37, 146, 147, 47, 148, 149, 150, 56, 57, 151, 152, 153, 154, 155, 156, 157, 158] (by decide +kernel) (by decide +kernel)
set_option maxRecDepth 20000 in
theorem ggL_step_L_hours_wsL_hours_r5 : GoodIn wsL_step wsL_hours_r5 := goodIn_r wsL_hours_r5 [159, 160, 161, 162, 163, 164, 165, 166, 167, 168, 169, 170, 171, 172, 173, 174, 175, 176, 177, 178, 179, 180, 181, 182] (by decide +kernel) (by decide +kernel)
set_option maxRecDepth 20000 in
theorem ggL_step_L_hours_wsL_hours_r6 : GoodIn wsL_step wsL_hours_r6 := goodIn_r wsL_hours_r6 [183, 184, 185, 186, 187, 188, 189, 190, 191, 192, 193, 194, 195, 196, 197, 198, 26, 27, 28, 29, 30, 31, 33, 35] (by decide +kernel) (by decide +kernel)
set_option maxRecDepth 20000 in
theorem ggL_step_L_hours_wsL_hours_r7 : GoodIn wsL_step wsL_hours_r7 := goodIn_r wsL_hours_r7 [36, 199, 200, 201, 202] (by decide +kernel) (by decide +kernel)
set_option maxRecDepth 20000 in
theorem ggL_step_L_hours_c : GoodIn wsL_step [Cond.code yL_hours cL_hours 14 (some .boolean)] := goodIn_r _ [98] (by decide +kernel) (by decide +kernel)
theorem ggL_step_L_hours : GoodIn wsL_step wsL_hours := goodIn_c1 ggL_step_L_hours_c (goodIn_app (goodIn_app (goodIn_app (goodIn_app (goodIn_app (goodIn_app (goodIn_app (goodIn_app ggL_step_L_hours_wsL_hours_r1 (goodIn_app ggL_step_L_hours_wsL_hours_r2 (goodIn_app ggL_step_L_hours_wsL_hours_r3 (goodIn_app ggL_step_L_hours_wsL_hours_r4 (goodIn_app ggL_step_L_hours_wsL_hours_r5 (goodIn_app ggL_step_L_hours_wsL_hours_r6 ggL_step_L_hours_wsL_hours_r7)))))) (goodIn_sub (fun _ h => List.mem_cons_of_mem _ (List.mem_append_left _ (List.mem_append_left _ (List.mem_append_left _ (List.mem_append_left _ (List.mem_append_left _ (List.mem_append_left _ (List.mem_append_left _ (List.mem_append_right _ h))))))))) (by decide +kernel))) (goodIn_sub (fun _ h => List.mem_cons_of_mem _ (List.mem_append_left _ (List.mem_append_left _ (List.mem_append_left _ (List.mem_append_left _ (List.mem_append_left _ (List.mem_append_left _ (List.mem_append_right _ h)))))))) (by decide +kernel))) (goodIn_sub (fun _ h => List.mem_cons_of_mem _ (List.mem_append_left _ (List.mem_append_left _ (List.mem_append_left _ (List.mem_append_left _ (List.mem_append_right _ h)))))) (by decide +kernel))) (goodIn_sub (fun _ h => List.mem_cons_of_mem _ (List.mem_append_left _ (List.mem_append_left _ (List.mem_append_left _ (List.mem_append_left _ (List.mem_append_left _ (List.mem_append_right _ h))))))) (by decide +kernel))) (goodIn_sub (fun _ h => List.mem_cons_of_mem _ (List.mem_append_left _ (List.mem_append_left _ (List.mem_append_left _ (List.mem_append_right _ h))))) (by decide +kernel))) (goodIn_sub (fun _ h => List.mem_cons_of_mem _ (List.mem_append_left _ (List.mem_append_left _ (List.mem_append_right _ h)))) (by decide +kernel))) (goodIn_sub (fun _ h => List.mem_cons_of_mem _ (List.mem_append_right _ h)) (by decide +kernel)))
set_option maxRecDepth 20000 in
theorem gL_step_L_hours : GoodIn wsL_step (va_wsS RL 44 yL_hours wsL_hours) := goodIn_app (goodIn_of _ (by decide +kernel)) ggL_step_L_hours
theorem dL_step_0 : decode cL_step 0 = .ok (.iconst 1, 1) := by decide +kernel
theorem dL_step_1 : decode cL_step 1 = .ok (.iload 5, 2) := by decide +kernel
theorem dL_step_3 : decode cL_step 3 = .ok (.bipush 11, 2) := by decide +kernel
theorem dL_step_5 : decode cL_step 5 = .ok (.irem, 1) := by decide +kernel
theorem dL_step_6 : decode cL_step 6 = .ok (.iadd, 1) := by decide +kernel
theorem dL_step_7 : decode cL_step 7 = .ok (.istore 7, 2) := by decide +kernel
theorem dL_step_9 : decode cL_step 9 = .ok (.iload 4, 2) := by decide +kernel
theorem dL_step_11 : decode cL_step 11 = .ok (.bipush 12, 2) := by decide +kernel
theorem dL_step_13 : decode cL_step 13 = .ok (.irem, 1) := by decide +kernel
theorem dL_step_14 : decode cL_step 14 = .ok (.tableswitch 400 0 7 #[46, 46, 126, 126, 171, 293, 354, 354], 46) := by decide +kernel
theorem dL_step_60 : decode cL_step 60 = .ok (.aload_n 1, 1) := by decide +kernel
theorem dL_step_61 : decode cL_step 61 = .ok (.iconst 0, 1) := by decide +kernel
theorem dL_step_62 : decode cL_step 62 = .ok (.iaload, 1) := by decide +kernel
theorem dL_step_63 : decode cL_step 63 = .ok (.ifCond .le 19, 3) := by decide +kernel
theorem dL_step_66 : decode cL_step 66 = .ok (.aload_n 0, 1) := by decide +kernel
theorem dL_step_67 : decode cL_step 67 = .ok (.invokevirtual 10, 3) := by decide +kernel
theorem dL_step_70 : decode cL_step 70 = .ok (.aload_n 1, 1) := by decide +kernel
theorem dL_step_71 : decode cL_step 71 = .ok (.iconst 0, 1) := by decide +kernel
theorem dL_step_72 : decode cL_step 72 = .ok (.iaload, 1) := by decide +kernel
theorem dL_step_73 : decode cL_step 73 = .ok (.if_icmp .ne 7, 3) := by decide +kernel
theorem dL_step_76 : decode cL_step 76 = .ok (.iconst 1, 1) := by decide +kernel
theorem dL_step_77 : decode cL_step 77 = .ok (.goto 4, 3) := by decide +kernel
theorem dL_step_80 : decode cL_step 80 = .ok (.iconst 0, 1) := by decide +kernel
theorem dL_step_81 : decode cL_step 81 = .ok (.ireturn, 1) := by decide +kernel
theorem dL_step_82 : decode cL_step 82 = .ok (.aload_n 2, 1) := by decide +kernel
theorem dL_step_83 : decode cL_step 83 = .ok (.iload 7, 2) := by decide +kernel
theorem dL_step_85 : decode cL_step 85 = .ok (.iaload, 1) := by decide +kernel
theorem dL_step_86 : decode cL_step 86 = .ok (.istore 8, 2) := by decide +kernel
theorem dL_step_88 : decode cL_step 88 = .ok (.aload_n 2, 1) := by decide +kernel
theorem dL_step_89 : decode cL_step 89 = .ok (.iload 7, 2) := by decide +kernel
theorem dL_step_91 : decode cL_step 91 = .ok (.iload 6, 2) := by decide +kernel
theorem dL_step_93 : decode cL_step 93 = .ok (.iload 7, 2) := by decide +kernel
theorem dL_step_95 : decode cL_step 95 = .ok (.irem, 1) := by decide +kernel
theorem dL_step_96 : decode cL_step 96 = .ok (.iastore, 1) := by decide +kernel
theorem dL_step_97 : decode cL_step 97 = .ok (.aload_n 2, 1) := by decide +kernel
theorem dL_step_98 : decode cL_step 98 = .ok (.bipush 12, 2) := by decide +kernel
theorem dL_step_100 : decode cL_step 100 = .ok (.iload 7, 2) := by decide +kernel
theorem dL_step_102 : decode cL_step 102 = .ok (.iadd, 1) := by decide +kernel
theorem dL_step_103 : decode cL_step 103 = .ok (.iload 6, 2) := by decide +kernel
theorem dL_step_105 : decode cL_step 105 = .ok (.bipush 11, 2) := by decide +kernel
theorem dL_step_107 : decode cL_step 107 = .ok (.idiv, 1) := by decide +kernel
theorem dL_step_108 : decode cL_step 108 = .ok (.bipush 21, 2) := by decide +kernel
theorem dL_step_110 : decode cL_step 110 = .ok (.irem, 1) := by decide +kernel
theorem dL_step_111 : decode cL_step 111 = .ok (.iastore, 1) := by decide +kernel
theorem dL_step_112 : decode cL_step 112 = .ok (.aload_n 0, 1) := by decide +kernel
theorem dL_step_113 : decode cL_step 113 = .ok (.iload 7, 2) := by decide +kernel
theorem dL_step_115 : decode cL_step 115 = .ok (.aload_n 2, 1) := by decide +kernel
theorem dL_step_116 : decode cL_step 116 = .ok (.iload 7, 2) := by decide +kernel
theorem dL_step_118 : decode cL_step 118 = .ok (.iaload, 1) := by decide +kernel
theorem dL_step_119 : decode cL_step 119 = .ok (.aload_n 2, 1) := by decide +kernel
theorem dL_step_120 : decode cL_step 120 = .ok (.bipush 12, 2) := by decide +kernel
theorem dL_step_122 : decode cL_step 122 = .ok (.iload 7, 2) := by decide +kernel
theorem dL_step_124 : decode cL_step 124 = .ok (.iadd, 1) := by decide +kernel
theorem dL_step_125 : decode cL_step 125 = .ok (.iaload, 1) := by decide +kernel
theorem dL_step_126 : decode cL_step 126 = .ok (.invokevirtual 16, 3) := by decide +kernel
theorem dL_step_129 : decode cL_step 129 = .ok (.iload 8, 2) := by decide +kernel
theorem dL_step_131 : decode cL_step 131 = .ok (.if_icmp .ne 7, 3) := by decide +kernel
theorem dL_step_134 : decode cL_step 134 = .ok (.iconst 1, 1) := by decide +kernel
theorem dL_step_135 : decode cL_step 135 = .ok (.goto 4, 3) := by decide +kernel
theorem dL_step_138 : decode cL_step 138 = .ok (.iconst 0, 1) := by decide +kernel
theorem dL_step_139 : decode cL_step 139 = .ok (.ireturn, 1) := by decide +kernel
theorem dL_step_140 : decode cL_step 140 = .ok (.aload_n 2, 1) := by decide +kernel
theorem dL_step_141 : decode cL_step 141 = .ok (.bipush 24, 2) := by decide +kernel
theorem dL_step_143 : decode cL_step 143 = .ok (.iload 7, 2) := by decide +kernel
theorem dL_step_145 : decode cL_step 145 = .ok (.iadd, 1) := by decide +kernel
theorem dL_step_146 : decode cL_step 146 = .ok (.iaload, 1) := by decide +kernel
theorem dL_step_147 : decode cL_step 147 = .ok (.istore 9, 2) := by decide +kernel
theorem dL_step_149 : decode cL_step 149 = .ok (.aload_n 2, 1) := by decide +kernel
theorem dL_step_150 : decode cL_step 150 = .ok (.bipush 24, 2) := by decide +kernel
theorem dL_step_152 : decode cL_step 152 = .ok (.iload 7, 2) := by decide +kernel
theorem dL_step_154 : decode cL_step 154 = .ok (.iadd, 1) := by decide +kernel
theorem dL_step_155 : decode cL_step 155 = .ok (.iload 6, 2) := by decide +kernel
theorem dL_step_157 : decode cL_step 157 = .ok (.bipush 51, 2) := by decide +kernel
theorem dL_step_159 : decode cL_step 159 = .ok (.irem, 1) := by decide +kernel
theorem dL_step_160 : decode cL_step 160 = .ok (.iastore, 1) := by decide +kernel
theorem dL_step_161 : decode cL_step 161 = .ok (.aload_n 0, 1) := by decide +kernel
theorem dL_step_162 : decode cL_step 162 = .ok (.iload 7, 2) := by decide +kernel
theorem dL_step_164 : decode cL_step 164 = .ok (.aload_n 2, 1) := by decide +kernel
theorem dL_step_165 : decode cL_step 165 = .ok (.bipush 24, 2) := by decide +kernel
theorem dL_step_167 : decode cL_step 167 = .ok (.iload 7, 2) := by decide +kernel
theorem dL_step_169 : decode cL_step 169 = .ok (.iadd, 1) := by decide +kernel
theorem dL_step_170 : decode cL_step 170 = .ok (.iaload, 1) := by decide +kernel
theorem dL_step_171 : decode cL_step 171 = .ok (.invokevirtual 20, 3) := by decide +kernel
theorem dL_step_174 : decode cL_step 174 = .ok (.iload 9, 2) := by decide +kernel
theorem dL_step_176 : decode cL_step 176 = .ok (.if_icmp .ne 7, 3) := by decide +kernel
theorem dL_step_179 : decode cL_step 179 = .ok (.iconst 1, 1) := by decide +kernel
theorem dL_step_180 : decode cL_step 180 = .ok (.goto 4, 3) := by decide +kernel
theorem dL_step_183 : decode cL_step 183 = .ok (.iconst 0, 1) := by decide +kernel
theorem dL_step_184 : decode cL_step 184 = .ok (.ireturn, 1) := by decide +kernel
theorem dL_step_185 : decode cL_step 185 = .ok (.aload_n 1, 1) := by decide +kernel
theorem dL_step_186 : decode cL_step 186 = .ok (.iconst 2, 1) := by decide +kernel
theorem dL_step_187 : decode cL_step 187 = .ok (.iaload, 1) := by decide +kernel
theorem dL_step_188 : decode cL_step 188 = .ok (.iconst 4, 1) := by decide +kernel
theorem dL_step_189 : decode cL_step 189 = .ok (.if_icmp .ne 17, 3) := by decide +kernel
theorem dL_step_192 : decode cL_step 192 = .ok (.aload_n 0, 1) := by decide +kernel
theorem dL_step_193 : decode cL_step 193 = .ok (.iconst 3, 1) := by decide +kernel
theorem dL_step_194 : decode cL_step 194 = .ok (.invokevirtual 24, 3) := by decide +kernel
theorem dL_step_197 : decode cL_step 197 = .ok (.ifCond .lt 7, 3) := by decide +kernel
theorem dL_step_200 : decode cL_step 200 = .ok (.iconst 1, 1) := by decide +kernel
theorem dL_step_201 : decode cL_step 201 = .ok (.goto 4, 3) := by decide +kernel
theorem dL_step_204 : decode cL_step 204 = .ok (.iconst 0, 1) := by decide +kernel
theorem dL_step_205 : decode cL_step 205 = .ok (.ireturn, 1) := by decide +kernel
theorem dL_step_206 : decode cL_step 206 = .ok (.aload_n 3, 1) := by decide +kernel
theorem dL_step_207 : decode cL_step 207 = .ok (.aload_n 1, 1) := by decide +kernel
theorem dL_step_208 : decode cL_step 208 = .ok (.iconst 2, 1) := by decide +kernel
theorem dL_step_209 : decode cL_step 209 = .ok (.iaload, 1) := by decide +kernel
theorem dL_step_210 : decode cL_step 210 = .ok (.iconst 1, 1) := by decide +kernel
theorem dL_step_211 : decode cL_step 211 = .ok (.iload 5, 2) := by decide +kernel
theorem dL_step_213 : decode cL_step 213 = .ok (.iconst 5, 1) := by decide +kernel
theorem dL_step_214 : decode cL_step 214 = .ok (.irem, 1) := by decide +kernel
theorem dL_step_215 : decode cL_step 215 = .ok (.iadd, 1) := by decide +kernel
theorem dL_step_216 : decode cL_step 216 = .ok (.iastore, 1) := by decide +kernel
theorem dL_step_217 : decode cL_step 217 = .ok (.aload_n 3, 1) := by decide +kernel
theorem dL_step_218 : decode cL_step 218 = .ok (.iconst 4, 1) := by decide +kernel
theorem dL_step_219 : decode cL_step 219 = .ok (.aload_n 1, 1) := by decide +kernel
theorem dL_step_220 : decode cL_step 220 = .ok (.iconst 2, 1) := by decide +kernel
theorem dL_step_221 : decode cL_step 221 = .ok (.iaload, 1) := by decide +kernel
theorem dL_step_222 : decode cL_step 222 = .ok (.iadd, 1) := by decide +kernel
theorem dL_step_223 : decode cL_step 223 = .ok (.iconst 1, 1) := by decide +kernel
theorem dL_step_224 : decode cL_step 224 = .ok (.iload 6, 2) := by decide +kernel
theorem dL_step_226 : decode cL_step 226 = .ok (.bipush 100, 2) := by decide +kernel
theorem dL_step_228 : decode cL_step 228 = .ok (.irem, 1) := by decide +kernel
theorem dL_step_229 : decode cL_step 229 = .ok (.iadd, 1) := by decide +kernel
theorem dL_step_230 : decode cL_step 230 = .ok (.iastore, 1) := by decide +kernel
theorem dL_step_231 : decode cL_step 231 = .ok (.aload_n 3, 1) := by decide +kernel
theorem dL_step_232 : decode cL_step 232 = .ok (.bipush 8, 2) := by decide +kernel
theorem dL_step_234 : decode cL_step 234 = .ok (.aload_n 1, 1) := by decide +kernel
theorem dL_step_235 : decode cL_step 235 = .ok (.iconst 2, 1) := by decide +kernel
theorem dL_step_236 : decode cL_step 236 = .ok (.iaload, 1) := by decide +kernel
theorem dL_step_237 : decode cL_step 237 = .ok (.iadd, 1) := by decide +kernel
theorem dL_step_238 : decode cL_step 238 = .ok (.iconst 1, 1) := by decide +kernel
theorem dL_step_239 : decode cL_step 239 = .ok (.iload 5, 2) := by decide +kernel
theorem dL_step_241 : decode cL_step 241 = .ok (.iconst 5, 1) := by decide +kernel
theorem dL_step_242 : decode cL_step 242 = .ok (.idiv, 1) := by decide +kernel
theorem dL_step_243 : decode cL_step 243 = .ok (.bipush 100, 2) := by decide +kernel
theorem dL_step_245 : decode cL_step 245 = .ok (.irem, 1) := by decide +kernel
theorem dL_step_246 : decode cL_step 246 = .ok (.iadd, 1) := by decide +kernel
theorem dL_step_247 : decode cL_step 247 = .ok (.iastore, 1) := by decide +kernel
theorem dL_step_248 : decode cL_step 248 = .ok (.aload_n 1, 1) := by decide +kernel
theorem dL_step_249 : decode cL_step 249 = .ok (.iconst 2, 1) := by decide +kernel
theorem dL_step_250 : decode cL_step 250 = .ok (.dup2, 1) := by decide +kernel
theorem dL_step_251 : decode cL_step 251 = .ok (.iaload, 1) := by decide +kernel
theorem dL_step_252 : decode cL_step 252 = .ok (.iconst 1, 1) := by decide +kernel
theorem dL_step_253 : decode cL_step 253 = .ok (.iadd, 1) := by decide +kernel
theorem dL_step_254 : decode cL_step 254 = .ok (.iastore, 1) := by decide +kernel
theorem dL_step_255 : decode cL_step 255 = .ok (.aload_n 0, 1) := by decide +kernel
theorem dL_step_256 : decode cL_step 256 = .ok (.aload_n 3, 1) := by decide +kernel
theorem dL_step_257 : decode cL_step 257 = .ok (.aload_n 1, 1) := by decide +kernel
theorem dL_step_258 : decode cL_step 258 = .ok (.iconst 2, 1) := by decide +kernel
theorem dL_step_259 : decode cL_step 259 = .ok (.iaload, 1) := by decide +kernel
theorem dL_step_260 : decode cL_step 260 = .ok (.iconst 1, 1) := by decide +kernel
theorem dL_step_261 : decode cL_step 261 = .ok (.isub, 1) := by decide +kernel
theorem dL_step_262 : decode cL_step 262 = .ok (.iaload, 1) := by decide +kernel
theorem dL_step_263 : decode cL_step 263 = .ok (.aload_n 3, 1) := by decide +kernel
theorem dL_step_264 : decode cL_step 264 = .ok (.iconst 3, 1) := by decide +kernel
theorem dL_step_265 : decode cL_step 265 = .ok (.aload_n 1, 1) := by decide +kernel
theorem dL_step_266 : decode cL_step 266 = .ok (.iconst 2, 1) := by decide +kernel
theorem dL_step_267 : decode cL_step 267 = .ok (.iaload, 1) := by decide +kernel
theorem dL_step_268 : decode cL_step 268 = .ok (.iadd, 1) := by decide +kernel
theorem dL_step_269 : decode cL_step 269 = .ok (.iaload, 1) := by decide +kernel
theorem dL_step_270 : decode cL_step 270 = .ok (.aload_n 3, 1) := by decide +kernel
theorem dL_step_271 : decode cL_step 271 = .ok (.bipush 7, 2) := by decide +kernel
theorem dL_step_273 : decode cL_step 273 = .ok (.aload_n 1, 1) := by decide +kernel
theorem dL_step_274 : decode cL_step 274 = .ok (.iconst 2, 1) := by decide +kernel
theorem dL_step_275 : decode cL_step 275 = .ok (.iaload, 1) := by decide +kernel
theorem dL_step_276 : decode cL_step 276 = .ok (.iadd, 1) := by decide +kernel
theorem dL_step_277 : decode cL_step 277 = .ok (.iaload, 1) := by decide +kernel
theorem dL_step_278 : decode cL_step 278 = .ok (.invokevirtual 28, 3) := by decide +kernel
theorem dL_step_281 : decode cL_step 281 = .ok (.aload_n 1, 1) := by decide +kernel
theorem dL_step_282 : decode cL_step 282 = .ok (.iconst 2, 1) := by decide +kernel
theorem dL_step_283 : decode cL_step 283 = .ok (.iaload, 1) := by decide +kernel
theorem dL_step_284 : decode cL_step 284 = .ok (.iconst 1, 1) := by decide +kernel
theorem dL_step_285 : decode cL_step 285 = .ok (.isub, 1) := by decide +kernel
theorem dL_step_286 : decode cL_step 286 = .ok (.if_icmp .ne 19, 3) := by decide +kernel
theorem dL_step_289 : decode cL_step 289 = .ok (.aload_n 0, 1) := by decide +kernel
theorem dL_step_290 : decode cL_step 290 = .ok (.aload_n 1, 1) := by decide +kernel
theorem dL_step_291 : decode cL_step 291 = .ok (.iconst 2, 1) := by decide +kernel
theorem dL_step_292 : decode cL_step 292 = .ok (.iaload, 1) := by decide +kernel
theorem dL_step_293 : decode cL_step 293 = .ok (.iconst 1, 1) := by decide +kernel
theorem dL_step_294 : decode cL_step 294 = .ok (.isub, 1) := by decide +kernel
theorem dL_step_295 : decode cL_step 295 = .ok (.invokevirtual 24, 3) := by decide +kernel
theorem dL_step_298 : decode cL_step 298 = .ok (.ifCond .ne 7, 3) := by decide +kernel
theorem dL_step_301 : decode cL_step 301 = .ok (.iconst 1, 1) := by decide +kernel
theorem dL_step_302 : decode cL_step 302 = .ok (.goto 4, 3) := by decide +kernel
theorem dL_step_305 : decode cL_step 305 = .ok (.iconst 0, 1) := by decide +kernel
theorem dL_step_306 : decode cL_step 306 = .ok (.ireturn, 1) := by decide +kernel
theorem dL_step_307 : decode cL_step 307 = .ok (.aload_n 2, 1) := by decide +kernel
theorem dL_step_308 : decode cL_step 308 = .ok (.bipush 36, 2) := by decide +kernel
theorem dL_step_310 : decode cL_step 310 = .ok (.iload 7, 2) := by decide +kernel
theorem dL_step_312 : decode cL_step 312 = .ok (.iadd, 1) := by decide +kernel
theorem dL_step_313 : decode cL_step 313 = .ok (.iaload, 1) := by decide +kernel
theorem dL_step_314 : decode cL_step 314 = .ok (.istore 10, 2) := by decide +kernel
theorem dL_step_316 : decode cL_step 316 = .ok (.aload_n 2, 1) := by decide +kernel
theorem dL_step_317 : decode cL_step 317 = .ok (.bipush 36, 2) := by decide +kernel
theorem dL_step_319 : decode cL_step 319 = .ok (.iload 7, 2) := by decide +kernel
theorem dL_step_321 : decode cL_step 321 = .ok (.iadd, 1) := by decide +kernel
theorem dL_step_322 : decode cL_step 322 = .ok (.iload 6, 2) := by decide +kernel
theorem dL_step_324 : decode cL_step 324 = .ok (.iconst 3, 1) := by decide +kernel
theorem dL_step_325 : decode cL_step 325 = .ok (.irem, 1) := by decide +kernel
theorem dL_step_326 : decode cL_step 326 = .ok (.ifCond .ne 7, 3) := by decide +kernel
theorem dL_step_329 : decode cL_step 329 = .ok (.iconst 0, 1) := by decide +kernel
theorem dL_step_330 : decode cL_step 330 = .ok (.goto 13, 3) := by decide +kernel
theorem dL_step_333 : decode cL_step 333 = .ok (.iload 6, 2) := by decide +kernel
theorem dL_step_335 : decode cL_step 335 = .ok (.iconst 3, 1) := by decide +kernel
theorem dL_step_336 : decode cL_step 336 = .ok (.idiv, 1) := by decide +kernel
theorem dL_step_337 : decode cL_step 337 = .ok (.bipush 41, 2) := by decide +kernel
theorem dL_step_339 : decode cL_step 339 = .ok (.irem, 1) := by decide +kernel
theorem dL_step_340 : decode cL_step 340 = .ok (.bipush 20, 2) := by decide +kernel
theorem dL_step_342 : decode cL_step 342 = .ok (.isub, 1) := by decide +kernel
theorem dL_step_343 : decode cL_step 343 = .ok (.iastore, 1) := by decide +kernel
theorem dL_step_344 : decode cL_step 344 = .ok (.aload_n 0, 1) := by decide +kernel
theorem dL_step_345 : decode cL_step 345 = .ok (.iload 7, 2) := by decide +kernel
theorem dL_step_347 : decode cL_step 347 = .ok (.aload_n 2, 1) := by decide +kernel
theorem dL_step_348 : decode cL_step 348 = .ok (.bipush 36, 2) := by decide +kernel
theorem dL_step_350 : decode cL_step 350 = .ok (.iload 7, 2) := by decide +kernel
theorem dL_step_352 : decode cL_step 352 = .ok (.iadd, 1) := by decide +kernel
theorem dL_step_353 : decode cL_step 353 = .ok (.iaload, 1) := by decide +kernel
theorem dL_step_354 : decode cL_step 354 = .ok (.invokevirtual 31, 3) := by decide +kernel
theorem dL_step_357 : decode cL_step 357 = .ok (.iload 10, 2) := by decide +kernel
theorem dL_step_359 : decode cL_step 359 = .ok (.if_icmp .ne 7, 3) := by decide +kernel
theorem dL_step_362 : decode cL_step 362 = .ok (.iconst 1, 1) := by decide +kernel
theorem dL_step_363 : decode cL_step 363 = .ok (.goto 4, 3) := by decide +kernel
theorem dL_step_366 : decode cL_step 366 = .ok (.iconst 0, 1) := by decide +kernel
theorem dL_step_367 : decode cL_step 367 = .ok (.ireturn, 1) := by decide +kernel
theorem dL_step_368 : decode cL_step 368 = .ok (.aload_n 0, 1) := by decide +kernel
theorem dL_step_369 : decode cL_step 369 = .ok (.iload 7, 2) := by decide +kernel
theorem dL_step_371 : decode cL_step 371 = .ok (.invokevirtual 34, 3) := by decide +kernel
theorem dL_step_374 : decode cL_step 374 = .ok (.ifCond .eq 34, 3) := by decide +kernel
theorem dL_step_377 : decode cL_step 377 = .ok (.aload_n 1, 1) := by decide +kernel
theorem dL_step_378 : decode cL_step 378 = .ok (.iconst 0, 1) := by decide +kernel
theorem dL_step_379 : decode cL_step 379 = .ok (.iaload, 1) := by decide +kernel
theorem dL_step_380 : decode cL_step 380 = .ok (.ifCond .le 11, 3) := by decide +kernel
theorem dL_step_383 : decode cL_step 383 = .ok (.aload_n 1, 1) := by decide +kernel
theorem dL_step_384 : decode cL_step 384 = .ok (.iconst 1, 1) := by decide +kernel
theorem dL_step_385 : decode cL_step 385 = .ok (.iaload, 1) := by decide +kernel
theorem dL_step_386 : decode cL_step 386 = .ok (.bipush 10, 2) := by decide +kernel
theorem dL_step_388 : decode cL_step 388 = .ok (.if_icmp .lt 20, 3) := by decide +kernel
theorem dL_step_391 : decode cL_step 391 = .ok (.aload_n 0, 1) := by decide +kernel
theorem dL_step_392 : decode cL_step 392 = .ok (.aload_n 2, 1) := by decide +kernel
theorem dL_step_393 : decode cL_step 393 = .ok (.iload 7, 2) := by decide +kernel
theorem dL_step_395 : decode cL_step 395 = .ok (.iconst 1, 1) := by decide +kernel
theorem dL_step_396 : decode cL_step 396 = .ok (.iload 6, 2) := by decide +kernel
theorem dL_step_398 : decode cL_step 398 = .ok (.bipush 20, 2) := by decide +kernel
theorem dL_step_400 : decode cL_step 400 = .ok (.irem, 1) := by decide +kernel
theorem dL_step_401 : decode cL_step 401 = .ok (.iadd, 1) := by decide +kernel
theorem dL_step_402 : decode cL_step 402 = .ok (.invokestatic 38, 3) := by decide +kernel
theorem dL_step_405 : decode cL_step 405 = .ok (.ifCond .eq 7, 3) := by decide +kernel
theorem dL_step_408 : decode cL_step 408 = .ok (.iconst 1, 1) := by decide +kernel
theorem dL_step_409 : decode cL_step 409 = .ok (.goto 4, 3) := by decide +kernel
theorem dL_step_412 : decode cL_step 412 = .ok (.iconst 0, 1) := by decide +kernel
theorem dL_step_413 : decode cL_step 413 = .ok (.ireturn, 1) := by decide +kernel
theorem dL_step_414 : decode cL_step 414 = .ok (.aload_n 0, 1) := by decide +kernel
theorem dL_step_415 : decode cL_step 415 = .ok (.aload_n 1, 1) := by decide +kernel
theorem dL_step_416 : decode cL_step 416 = .ok (.aload_n 2, 1) := by decide +kernel
theorem dL_step_417 : decode cL_step 417 = .ok (.aload_n 3, 1) := by decide +kernel
theorem dL_step_418 : decode cL_step 418 = .ok (.iload 6, 2) := by decide +kernel
theorem dL_step_420 : decode cL_step 420 = .ok (.iconst 4, 1) := by decide +kernel
theorem dL_step_421 : decode cL_step 421 = .ok (.irem, 1) := by decide +kernel
theorem dL_step_422 : decode cL_step 422 = .ok (.ifCond .ne 16, 3) := by decide +kernel
theorem dL_step_425 : decode cL_step 425 = .ok (.bipush 10, 2) := by decide +kernel
theorem dL_step_427 : decode cL_step 427 = .ok (.iload 6, 2) := by decide +kernel
theorem dL_step_429 : decode cL_step 429 = .ok (.iconst 4, 1) := by decide +kernel
theorem dL_step_430 : decode cL_step 430 = .ok (.idiv, 1) := by decide +kernel
theorem dL_step_431 : decode cL_step 431 = .ok (.bipush 21, 2) := by decide +kernel
theorem dL_step_433 : decode cL_step 433 = .ok (.irem, 1) := by decide +kernel
theorem dL_step_434 : decode cL_step 434 = .ok (.iadd, 1) := by decide +kernel
theorem dL_step_435 : decode cL_step 435 = .ok (.goto 13, 3) := by decide +kernel
theorem dL_step_438 : decode cL_step 438 = .ok (.iload 6, 2) := by decide +kernel
theorem dL_step_440 : decode cL_step 440 = .ok (.iconst 4, 1) := by decide +kernel
theorem dL_step_441 : decode cL_step 441 = .ok (.idiv, 1) := by decide +kernel
theorem dL_step_442 : decode cL_step 442 = .ok (.bipush 51, 2) := by decide +kernel
theorem dL_step_444 : decode cL_step 444 = .ok (.irem, 1) := by decide +kernel
theorem dL_step_445 : decode cL_step 445 = .ok (.bipush 20, 2) := by decide +kernel
theorem dL_step_447 : decode cL_step 447 = .ok (.isub, 1) := by decide +kernel
theorem dL_step_448 : decode cL_step 448 = .ok (.invokestatic 44, 3) := by decide +kernel
theorem dL_step_451 : decode cL_step 451 = .ok (.ireturn, 1) := by decide +kernel
set_option maxRecDepth 20000 in
theorem ggL_hasHeat_X4_isOpen : GoodIn wsL_hasHeat wsX4_isOpen := goodIn_ca (goodIn_r _ [5, 6, 7, 8, 9, 10, 4, 11, 12, 13, 14, 15, 16, 17, 18, 19, 20, 21, 22, 23, 24, 25, 26, 27] (by decide +kernel) (by decide +kernel)) (goodIn_sub (fun _ h => List.mem_cons_of_mem _ (List.mem_append_right _ h)) (by decide +kernel))
set_option maxRecDepth 20000 in
theorem gL_hasHeat_X4_isOpen : GoodIn wsL_hasHeat (wsV RL 34 RX4 yX4_isOpen wsX4_isOpen) := goodIn_app (goodIn_of _ (by decide +kernel)) ggL_hasHeat_X4_isOpen
theorem dL_hasHeat_0 : decode cL_hasHeat 0 = .ok (.iconst 1, 1) := by decide +kernel
theorem dL_hasHeat_1 : decode cL_hasHeat 1 = .ok (.istore_n 3, 1) := by decide +kernel
theorem dL_hasHeat_2 : decode cL_hasHeat 2 = .ok (.iload_n 2, 1) := by decide +kernel
theorem dL_hasHeat_3 : decode cL_hasHeat 3 = .ok (.istore 4, 2) := by decide +kernel
theorem dL_hasHeat_5 : decode cL_hasHeat 5 = .ok (.iload 4, 2) := by decide +kernel
theorem dL_hasHeat_7 : decode cL_hasHeat 7 = .ok (.ifCond .le 31, 3) := by decide +kernel
theorem dL_hasHeat_10 : decode cL_hasHeat 10 = .ok (.iload_n 3, 1) := by decide +kernel
theorem dL_hasHeat_11 : decode cL_hasHeat 11 = .ok (.ifCond .eq 16, 3) := by decide +kernel
theorem dL_hasHeat_14 : decode cL_hasHeat 14 = .ok (.aload_n 0, 1) := by decide +kernel
theorem dL_hasHeat_15 : decode cL_hasHeat 15 = .ok (.iload 4, 2) := by decide +kernel
theorem dL_hasHeat_17 : decode cL_hasHeat 17 = .ok (.invokevirtual 34, 3) := by decide +kernel
theorem dL_hasHeat_20 : decode cL_hasHeat 20 = .ok (.ifCond .eq 7, 3) := by decide +kernel
theorem dL_hasHeat_23 : decode cL_hasHeat 23 = .ok (.iconst 1, 1) := by decide +kernel
theorem dL_hasHeat_24 : decode cL_hasHeat 24 = .ok (.goto 4, 3) := by decide +kernel
theorem dL_hasHeat_27 : decode cL_hasHeat 27 = .ok (.iconst 0, 1) := by decide +kernel
theorem dL_hasHeat_28 : decode cL_hasHeat 28 = .ok (.istore_n 3, 1) := by decide +kernel
theorem dL_hasHeat_29 : decode cL_hasHeat 29 = .ok (.aload_n 1, 1) := by decide +kernel
theorem dL_hasHeat_30 : decode cL_hasHeat 30 = .ok (.iload 4, 2) := by decide +kernel
theorem dL_hasHeat_32 : decode cL_hasHeat 32 = .ok (.iaload, 1) := by decide +kernel
theorem dL_hasHeat_33 : decode cL_hasHeat 33 = .ok (.istore 4, 2) := by decide +kernel
theorem dL_hasHeat_35 : decode cL_hasHeat 35 = .ok (.goto (-30), 3) := by decide +kernel
theorem dL_hasHeat_38 : decode cL_hasHeat 38 = .ok (.iload_n 3, 1) := by decide +kernel
theorem dL_hasHeat_39 : decode cL_hasHeat 39 = .ok (.ireturn, 1) := by decide +kernel
set_option maxRecDepth 20000 in
theorem ggL_demand_L_hasHeat : GoodIn wsL_demand wsL_hasHeat := goodIn_ca (goodIn_r _ [4, 5, 6, 7, 8, 9, 10, 11, 12, 13, 14, 15, 16, 17, 18, 19, 20, 21, 22, 23, 24, 25, 26, 27, 28, 29, 30, 31] (by decide +kernel) (by decide +kernel)) (goodIn_sub (fun _ h => List.mem_cons_of_mem _ (List.mem_append_right _ h)) (by decide +kernel))
set_option maxRecDepth 20000 in
theorem gL_demand_L_hasHeat : GoodIn wsL_demand (va_wsS RL 47 yL_hasHeat wsL_hasHeat) := goodIn_app (goodIn_of _ (by decide +kernel)) ggL_demand_L_hasHeat
theorem dL_demand_0 : decode cL_demand 0 = .ok (.iload_n 3, 1) := by decide +kernel
theorem dL_demand_1 : decode cL_demand 1 = .ok (.bipush 18, 2) := by decide +kernel
theorem dL_demand_3 : decode cL_demand 3 = .ok (.if_icmp .ge 17, 3) := by decide +kernel
theorem dL_demand_6 : decode cL_demand 6 = .ok (.aload_n 1, 1) := by decide +kernel
theorem dL_demand_7 : decode cL_demand 7 = .ok (.bipush 24, 2) := by decide +kernel
theorem dL_demand_9 : decode cL_demand 9 = .ok (.iload_n 2, 1) := by decide +kernel
theorem dL_demand_10 : decode cL_demand 10 = .ok (.iadd, 1) := by decide +kernel
theorem dL_demand_11 : decode cL_demand 11 = .ok (.iaload, 1) := by decide +kernel
theorem dL_demand_12 : decode cL_demand 12 = .ok (.bipush 18, 2) := by decide +kernel
theorem dL_demand_14 : decode cL_demand 14 = .ok (.iload_n 3, 1) := by decide +kernel
theorem dL_demand_15 : decode cL_demand 15 = .ok (.isub, 1) := by decide +kernel
theorem dL_demand_16 : decode cL_demand 16 = .ok (.imul, 1) := by decide +kernel
theorem dL_demand_17 : decode cL_demand 17 = .ok (.goto 4, 3) := by decide +kernel
theorem dL_demand_20 : decode cL_demand 20 = .ok (.iconst 0, 1) := by decide +kernel
theorem dL_demand_21 : decode cL_demand 21 = .ok (.istore 4, 2) := by decide +kernel
theorem dL_demand_23 : decode cL_demand 23 = .ok (.aload_n 0, 1) := by decide +kernel
theorem dL_demand_24 : decode cL_demand 24 = .ok (.aload_n 1, 1) := by decide +kernel
theorem dL_demand_25 : decode cL_demand 25 = .ok (.iload_n 2, 1) := by decide +kernel
theorem dL_demand_26 : decode cL_demand 26 = .ok (.invokestatic 47, 3) := by decide +kernel
theorem dL_demand_29 : decode cL_demand 29 = .ok (.ifCond .eq 25, 3) := by decide +kernel
theorem dL_demand_32 : decode cL_demand 32 = .ok (.iload 4, 2) := by decide +kernel
theorem dL_demand_34 : decode cL_demand 34 = .ok (.bipush 10, 2) := by decide +kernel
theorem dL_demand_36 : decode cL_demand 36 = .ok (.idiv, 1) := by decide +kernel
theorem dL_demand_37 : decode cL_demand 37 = .ok (.iload 4, 2) := by decide +kernel
theorem dL_demand_39 : decode cL_demand 39 = .ok (.bipush 10, 2) := by decide +kernel
theorem dL_demand_41 : decode cL_demand 41 = .ok (.irem, 1) := by decide +kernel
theorem dL_demand_42 : decode cL_demand 42 = .ok (.ifCond .le 7, 3) := by decide +kernel
theorem dL_demand_45 : decode cL_demand 45 = .ok (.iconst 1, 1) := by decide +kernel
theorem dL_demand_46 : decode cL_demand 46 = .ok (.goto 4, 3) := by decide +kernel
theorem dL_demand_49 : decode cL_demand 49 = .ok (.iconst 0, 1) := by decide +kernel
theorem dL_demand_50 : decode cL_demand 50 = .ok (.iadd, 1) := by decide +kernel
theorem dL_demand_51 : decode cL_demand 51 = .ok (.goto 4, 3) := by decide +kernel
theorem dL_demand_54 : decode cL_demand 54 = .ok (.iconst 0, 1) := by decide +kernel
theorem dL_demand_55 : decode cL_demand 55 = .ok (.ireturn, 1) := by decide +kernel
set_option maxRecDepth 20000 in
theorem ggL_repairs_X4_repair : GoodIn wsL_repairs wsX4_repair := goodIn_ca (goodIn_ca (goodIn_r _ [5, 6, 7, 8, 9, 10, 11, 12, 13, 14, 4, 15, 16, 17, 18, 19, 20, 21, 22, 23, 24, 25, 26, 27, 28, 29, 30, 39, 40, 41, 42, 43, 44, 45, 46, 47, 48, 49, 50, 51, 52, 53, 54] (by decide +kernel) (by decide +kernel)) (goodIn_sub (fun _ h => List.mem_cons_of_mem _ (List.mem_append_left _ (List.mem_append_right _ h))) (by decide +kernel))) (goodIn_sub (fun _ h => List.mem_cons_of_mem _ (List.mem_append_right _ h)) (by decide +kernel))
set_option maxRecDepth 20000 in
theorem gL_repairs_X4_repair : GoodIn wsL_repairs (wsV RL 51 RX4 yX4_repair wsX4_repair) := goodIn_app (goodIn_of _ (by decide +kernel)) ggL_repairs_X4_repair
set_option maxRecDepth 20000 in
theorem ggL_repairs_L_hasHeat : GoodIn wsL_repairs wsL_hasHeat := goodIn_ca (goodIn_r _ [34, 35, 36, 37, 4, 38, 6, 7, 10, 13, 14, 15, 39, 40, 41, 42, 43, 44, 45, 46, 47, 48, 49, 50, 51, 52, 53, 54] (by decide +kernel) (by decide +kernel)) (goodIn_sub (fun _ h => List.mem_cons_of_mem _ (List.mem_append_left _ (List.mem_append_right _ h))) (by decide +kernel))
set_option maxRecDepth 20000 in
theorem gL_repairs_L_hasHeat : GoodIn wsL_repairs (va_wsS RL 47 yL_hasHeat wsL_hasHeat) := goodIn_app (goodIn_of _ (by decide +kernel)) ggL_repairs_L_hasHeat
set_option maxRecDepth 20000 in
theorem ggL_repairs_X4_isOpen : GoodIn wsL_repairs wsX4_isOpen := goodIn_ca (goodIn_r _ [38, 6, 7, 10, 13, 14, 4, 15, 39, 40, 41, 42, 43, 44, 45, 46, 47, 48, 49, 50, 51, 52, 53, 54] (by decide +kernel) (by decide +kernel)) (goodIn_sub (fun _ h => List.mem_cons_of_mem _ (List.mem_append_left _ (List.mem_append_right _ h))) (by decide +kernel))
set_option maxRecDepth 20000 in
theorem gL_repairs_X4_isOpen : GoodIn wsL_repairs (wsV RL 34 RX4 yX4_isOpen wsX4_isOpen) := goodIn_app (goodIn_of _ (by decide +kernel)) ggL_repairs_X4_isOpen
theorem dL_repairs_0 : decode cL_repairs 0 = .ok (.aload_n 0, 1) := by decide +kernel
theorem dL_repairs_1 : decode cL_repairs 1 = .ok (.iload_n 2, 1) := by decide +kernel
theorem dL_repairs_2 : decode cL_repairs 2 = .ok (.iload_n 3, 1) := by decide +kernel
theorem dL_repairs_3 : decode cL_repairs 3 = .ok (.invokevirtual 51, 3) := by decide +kernel
theorem dL_repairs_6 : decode cL_repairs 6 = .ok (.istore 4, 2) := by decide +kernel
theorem dL_repairs_8 : decode cL_repairs 8 = .ok (.iconst 0, 1) := by decide +kernel
theorem dL_repairs_9 : decode cL_repairs 9 = .ok (.istore 5, 2) := by decide +kernel
theorem dL_repairs_11 : decode cL_repairs 11 = .ok (.iconst 1, 1) := by decide +kernel
theorem dL_repairs_12 : decode cL_repairs 12 = .ok (.istore 6, 2) := by decide +kernel
theorem dL_repairs_14 : decode cL_repairs 14 = .ok (.iload 6, 2) := by decide +kernel
theorem dL_repairs_16 : decode cL_repairs 16 = .ok (.bipush 12, 2) := by decide +kernel
theorem dL_repairs_18 : decode cL_repairs 18 = .ok (.if_icmp .ge 39, 3) := by decide +kernel
theorem dL_repairs_21 : decode cL_repairs 21 = .ok (.iload 5, 2) := by decide +kernel
theorem dL_repairs_23 : decode cL_repairs 23 = .ok (.aload_n 1, 1) := by decide +kernel
theorem dL_repairs_24 : decode cL_repairs 24 = .ok (.bipush 24, 2) := by decide +kernel
theorem dL_repairs_26 : decode cL_repairs 26 = .ok (.iload 6, 2) := by decide +kernel
theorem dL_repairs_28 : decode cL_repairs 28 = .ok (.iadd, 1) := by decide +kernel
theorem dL_repairs_29 : decode cL_repairs 29 = .ok (.iaload, 1) := by decide +kernel
theorem dL_repairs_30 : decode cL_repairs 30 = .ok (.ifCond .le 17, 3) := by decide +kernel
theorem dL_repairs_33 : decode cL_repairs 33 = .ok (.aload_n 0, 1) := by decide +kernel
theorem dL_repairs_34 : decode cL_repairs 34 = .ok (.aload_n 1, 1) := by decide +kernel
theorem dL_repairs_35 : decode cL_repairs 35 = .ok (.iload 6, 2) := by decide +kernel
theorem dL_repairs_37 : decode cL_repairs 37 = .ok (.invokestatic 47, 3) := by decide +kernel
theorem dL_repairs_40 : decode cL_repairs 40 = .ok (.ifCond .ne 7, 3) := by decide +kernel
theorem dL_repairs_43 : decode cL_repairs 43 = .ok (.iconst 1, 1) := by decide +kernel
theorem dL_repairs_44 : decode cL_repairs 44 = .ok (.goto 4, 3) := by decide +kernel
theorem dL_repairs_47 : decode cL_repairs 47 = .ok (.iconst 0, 1) := by decide +kernel
theorem dL_repairs_48 : decode cL_repairs 48 = .ok (.iadd, 1) := by decide +kernel
theorem dL_repairs_49 : decode cL_repairs 49 = .ok (.istore 5, 2) := by decide +kernel
theorem dL_repairs_51 : decode cL_repairs 51 = .ok (.iinc 6 1, 3) := by decide +kernel
theorem dL_repairs_54 : decode cL_repairs 54 = .ok (.goto (-40), 3) := by decide +kernel
theorem dL_repairs_57 : decode cL_repairs 57 = .ok (.iload 4, 2) := by decide +kernel
theorem dL_repairs_59 : decode cL_repairs 59 = .ok (.iload 5, 2) := by decide +kernel
theorem dL_repairs_61 : decode cL_repairs 61 = .ok (.if_icmp .ne 15, 3) := by decide +kernel
theorem dL_repairs_64 : decode cL_repairs 64 = .ok (.aload_n 0, 1) := by decide +kernel
theorem dL_repairs_65 : decode cL_repairs 65 = .ok (.iload_n 2, 1) := by decide +kernel
theorem dL_repairs_66 : decode cL_repairs 66 = .ok (.invokevirtual 34, 3) := by decide +kernel
theorem dL_repairs_69 : decode cL_repairs 69 = .ok (.ifCond .ne 7, 3) := by decide +kernel
theorem dL_repairs_72 : decode cL_repairs 72 = .ok (.iconst 1, 1) := by decide +kernel
theorem dL_repairs_73 : decode cL_repairs 73 = .ok (.goto 4, 3) := by decide +kernel
theorem dL_repairs_76 : decode cL_repairs 76 = .ok (.iconst 0, 1) := by decide +kernel
theorem dL_repairs_77 : decode cL_repairs 77 = .ok (.ireturn, 1) := by decide +kernel
theorem dL_isOnWay_0 : decode cL_isOnWay 0 = .ok (.iload_n 2, 1) := by decide +kernel
theorem dL_isOnWay_1 : decode cL_isOnWay 1 = .ok (.istore_n 3, 1) := by decide +kernel
theorem dL_isOnWay_2 : decode cL_isOnWay 2 = .ok (.iload_n 3, 1) := by decide +kernel
theorem dL_isOnWay_3 : decode cL_isOnWay 3 = .ok (.iload_n 1, 1) := by decide +kernel
theorem dL_isOnWay_4 : decode cL_isOnWay 4 = .ok (.if_icmp .le 10, 3) := by decide +kernel
theorem dL_isOnWay_7 : decode cL_isOnWay 7 = .ok (.aload_n 0, 1) := by decide +kernel
theorem dL_isOnWay_8 : decode cL_isOnWay 8 = .ok (.iload_n 3, 1) := by decide +kernel
theorem dL_isOnWay_9 : decode cL_isOnWay 9 = .ok (.iaload, 1) := by decide +kernel
theorem dL_isOnWay_10 : decode cL_isOnWay 10 = .ok (.istore_n 3, 1) := by decide +kernel
theorem dL_isOnWay_11 : decode cL_isOnWay 11 = .ok (.goto (-9), 3) := by decide +kernel
theorem dL_isOnWay_14 : decode cL_isOnWay 14 = .ok (.iload_n 3, 1) := by decide +kernel
theorem dL_isOnWay_15 : decode cL_isOnWay 15 = .ok (.iload_n 1, 1) := by decide +kernel
theorem dL_isOnWay_16 : decode cL_isOnWay 16 = .ok (.if_icmp .ne 7, 3) := by decide +kernel
theorem dL_isOnWay_19 : decode cL_isOnWay 19 = .ok (.iconst 1, 1) := by decide +kernel
theorem dL_isOnWay_20 : decode cL_isOnWay 20 = .ok (.goto 4, 3) := by decide +kernel
theorem dL_isOnWay_23 : decode cL_isOnWay 23 = .ok (.iconst 0, 1) := by decide +kernel
theorem dL_isOnWay_24 : decode cL_isOnWay 24 = .ok (.ireturn, 1) := by decide +kernel
set_option maxRecDepth 20000 in
theorem ggL_hours_L_demand : GoodIn wsL_hours wsL_demand := goodIn_ca (goodIn_r _ [5, 6, 7, 4, 8, 9, 10, 11, 12, 13, 14, 15, 16, 17, 18, 19, 150, 151, 152, 153, 154, 155, 156, 157, 158, 159, 160, 161, 162, 163, 164, 165] (by decide +kernel) (by decide +kernel)) (goodIn_sub (fun _ h => List.mem_cons_of_mem _ (List.mem_append_left _ (List.mem_append_right _ h))) (by decide +kernel))
set_option maxRecDepth 20000 in
theorem gL_hours_L_demand : GoodIn wsL_hours (va_wsS RL 54 yL_demand wsL_demand) := goodIn_app (goodIn_of _ (by decide +kernel)) ggL_hours_L_demand
set_option maxRecDepth 20000 in
theorem ggL_hours_L_hasHeat : GoodIn wsL_hours wsL_hasHeat := goodIn_ca (goodIn_r _ [8, 9, 10, 11, 12, 13, 14, 15, 16, 17, 18, 19, 150, 151, 152, 153, 154, 155, 156, 157, 158, 159, 160, 161, 162, 163, 164, 165] (by decide +kernel) (by decide +kernel)) (goodIn_sub (fun _ h => List.mem_cons_of_mem _ (List.mem_append_left _ (List.mem_append_right _ h))) (by decide +kernel))
set_option maxRecDepth 20000 in
theorem gL_hours_L_hasHeat : GoodIn wsL_hours (va_wsS RL 47 yL_hasHeat wsL_hasHeat) := goodIn_app (goodIn_of _ (by decide +kernel)) ggL_hours_L_hasHeat
set_option maxRecDepth 20000 in
theorem ggL_hours_X4_load : GoodIn wsL_hours wsX4_load := goodIn_ca (goodIn_r _ [23, 16, 24, 25, 12, 26, 14, 15, 27, 28, 29, 30, 31, 32, 33, 34, 35, 36, 37, 38, 39, 40, 41, 42, 43, 18, 19, 44, 45, 46, 47, 48, 49, 50, 51, 52, 53, 54, 55, 150, 151, 152, 153, 154, 155, 156, 157, 158, 159, 160, 161, 162, 163, 164, 165] (by decide +kernel) (by decide +kernel)) (goodIn_sub (fun _ h => List.mem_cons_of_mem _ (List.mem_append_left _ (List.mem_append_right _ h))) (by decide +kernel))
set_option maxRecDepth 20000 in
theorem gL_hours_X4_load : GoodIn wsL_hours (wsV RL 58 RX4 yX4_load wsX4_load) := goodIn_app (goodIn_of _ (by decide +kernel)) ggL_hours_X4_load
set_option maxRecDepth 20000 in
theorem ggL_hours_X4_hour : GoodIn wsL_hours wsX4_hour := goodIn_ca (goodIn_r _ [59, 16, 60, 61, 62, 63, 64, 24, 25, 12, 26, 14, 15, 27, 28, 29, 30, 31, 32, 33, 34, 35, 36, 37, 38, 39, 40, 41, 42, 43, 18, 19, 44, 45, 46, 47, 48, 49, 50, 51, 52, 53, 54, 55, 65, 66, 67, 68, 69, 70, 71, 72, 73, 74, 75, 76, 77, 78, 79, 80, 81, 82, 83, 84, 85, 86, 87, 88, 89, 90, 91, 92, 93, 94, 95, 96, 97, 98, 99, 100, 101, 102, 103, 104, 105, 106, 107, 108, 109, 110, 111, 150, 151, 152, 153, 154, 155, 156, 166, 167, 168, 169, 157, 158, 159, 160, 161, 162, 163, 164, 165, 170, 171, 172, 173, 174, 175, 176, 177, 178, 179, 180] (by decide +kernel) (by decide +kernel)) (goodIn_sub (fun _ h => List.mem_cons_of_mem _ (List.mem_append_left _ (List.mem_append_right _ h))) (by decide +kernel))
set_option maxRecDepth 20000 in
theorem gL_hours_X4_hour : GoodIn wsL_hours (wsV RL 61 RX4 yX4_hour wsX4_hour) := goodIn_app (goodIn_of _ (by decide +kernel)) ggL_hours_X4_hour
set_option maxRecDepth 20000 in
theorem ggL_hours_X4_losses : GoodIn wsL_hours wsX4_losses := goodIn_r _ [115, 62, 150, 151, 152, 153, 154, 155, 156] (by decide +kernel) (by decide +kernel)
set_option maxRecDepth 20000 in
theorem gL_hours_X4_losses : GoodIn wsL_hours (wsV RL 64 RX4 yX4_losses wsX4_losses) := goodIn_app (goodIn_of _ (by decide +kernel)) ggL_hours_X4_losses
set_option maxRecDepth 20000 in
theorem ggL_hours_L_areMetered : GoodIn wsL_hours wsL_areMetered := goodIn_ca (goodIn_r _ [118, 119, 120, 4, 121, 122, 123, 124, 12, 125, 14, 15, 16, 17, 18, 19, 126, 127, 128, 129, 61, 130, 131, 132, 133, 150, 151, 152, 153, 154, 155, 156, 157, 158, 159, 160, 161, 162, 163, 164, 165, 176, 177, 178, 179, 180] (by decide +kernel) (by decide +kernel)) (goodIn_sub (fun _ h => List.mem_cons_of_mem _ (List.mem_append_left _ (List.mem_append_right _ h))) (by decide +kernel))
set_option maxRecDepth 20000 in
theorem gL_hours_L_areMetered : GoodIn wsL_hours (va_wsS RL 67 yL_areMetered wsL_areMetered) := goodIn_app (goodIn_of _ (by decide +kernel)) ggL_hours_L_areMetered
set_option maxRecDepth 20000 in
theorem ggL_hours_L_areFired : GoodIn wsL_hours wsL_areFired := goodIn_ca (goodIn_r _ [136, 137, 138, 139, 12, 140, 141, 142, 60, 143, 77, 144, 145, 80, 146, 147, 148, 149, 150, 151, 152, 153, 154, 155, 156, 170, 171, 172, 173, 174, 175, 166, 167, 168, 169] (by decide +kernel) (by decide +kernel)) (goodIn_sub (fun _ h => List.mem_cons_of_mem _ (List.mem_append_right _ h)) (by decide +kernel))
set_option maxRecDepth 20000 in
theorem gL_hours_L_areFired : GoodIn wsL_hours (va_wsS RL 71 yL_areFired wsL_areFired) := goodIn_app (goodIn_of _ (by decide +kernel)) ggL_hours_L_areFired
end
section
theorem dL_hours_0 : decode cL_hours 0 = .ok (.bipush 12, 2) := by decide +kernel
theorem dL_hours_2 : decode cL_hours 2 = .ok (.newarray .int, 2) := by decide +kernel
theorem dL_hours_4 : decode cL_hours 4 = .ok (.astore 5, 2) := by decide +kernel
theorem dL_hours_6 : decode cL_hours 6 = .ok (.iconst 0, 1) := by decide +kernel
theorem dL_hours_7 : decode cL_hours 7 = .ok (.istore 6, 2) := by decide +kernel
theorem dL_hours_9 : decode cL_hours 9 = .ok (.iconst 0, 1) := by decide +kernel
theorem dL_hours_10 : decode cL_hours 10 = .ok (.istore 7, 2) := by decide +kernel
theorem dL_hours_12 : decode cL_hours 12 = .ok (.iconst 0, 1) := by decide +kernel
theorem dL_hours_13 : decode cL_hours 13 = .ok (.istore 8, 2) := by decide +kernel
theorem dL_hours_15 : decode cL_hours 15 = .ok (.iconst 0, 1) := by decide +kernel
theorem dL_hours_16 : decode cL_hours 16 = .ok (.istore 9, 2) := by decide +kernel
theorem dL_hours_18 : decode cL_hours 18 = .ok (.iconst 1, 1) := by decide +kernel
theorem dL_hours_19 : decode cL_hours 19 = .ok (.istore 10, 2) := by decide +kernel
theorem dL_hours_21 : decode cL_hours 21 = .ok (.iload 10, 2) := by decide +kernel
theorem dL_hours_23 : decode cL_hours 23 = .ok (.bipush 12, 2) := by decide +kernel
theorem dL_hours_25 : decode cL_hours 25 = .ok (.if_icmp .ge 68, 3) := by decide +kernel
theorem dL_hours_28 : decode cL_hours 28 = .ok (.aload 5, 2) := by decide +kernel
theorem dL_hours_30 : decode cL_hours 30 = .ok (.iload 10, 2) := by decide +kernel
theorem dL_hours_32 : decode cL_hours 32 = .ok (.aload_n 0, 1) := by decide +kernel
theorem dL_hours_33 : decode cL_hours 33 = .ok (.aload_n 2, 1) := by decide +kernel
theorem dL_hours_34 : decode cL_hours 34 = .ok (.iload 10, 2) := by decide +kernel
theorem dL_hours_36 : decode cL_hours 36 = .ok (.iload 4, 2) := by decide +kernel
theorem dL_hours_38 : decode cL_hours 38 = .ok (.invokestatic 54, 3) := by decide +kernel
theorem dL_hours_41 : decode cL_hours 41 = .ok (.iastore, 1) := by decide +kernel
theorem dL_hours_42 : decode cL_hours 42 = .ok (.iload 6, 2) := by decide +kernel
theorem dL_hours_44 : decode cL_hours 44 = .ok (.aload 5, 2) := by decide +kernel
theorem dL_hours_46 : decode cL_hours 46 = .ok (.iload 10, 2) := by decide +kernel
theorem dL_hours_48 : decode cL_hours 48 = .ok (.iaload, 1) := by decide +kernel
theorem dL_hours_49 : decode cL_hours 49 = .ok (.iadd, 1) := by decide +kernel
theorem dL_hours_50 : decode cL_hours 50 = .ok (.istore 6, 2) := by decide +kernel
theorem dL_hours_52 : decode cL_hours 52 = .ok (.iload 10, 2) := by decide +kernel
theorem dL_hours_54 : decode cL_hours 54 = .ok (.istore 11, 2) := by decide +kernel
theorem dL_hours_56 : decode cL_hours 56 = .ok (.iload 11, 2) := by decide +kernel
theorem dL_hours_58 : decode cL_hours 58 = .ok (.ifCond .le 29, 3) := by decide +kernel
theorem dL_hours_61 : decode cL_hours 61 = .ok (.aload 5, 2) := by decide +kernel
theorem dL_hours_63 : decode cL_hours 63 = .ok (.iload 10, 2) := by decide +kernel
theorem dL_hours_65 : decode cL_hours 65 = .ok (.iaload, 1) := by decide +kernel
theorem dL_hours_66 : decode cL_hours 66 = .ok (.ifCond .le 21, 3) := by decide +kernel
theorem dL_hours_69 : decode cL_hours 69 = .ok (.iload 9, 2) := by decide +kernel
theorem dL_hours_71 : decode cL_hours 71 = .ok (.iconst 1, 1) := by decide +kernel
theorem dL_hours_72 : decode cL_hours 72 = .ok (.iload 11, 2) := by decide +kernel
theorem dL_hours_74 : decode cL_hours 74 = .ok (.ishl, 1) := by decide +kernel
theorem dL_hours_75 : decode cL_hours 75 = .ok (.ior, 1) := by decide +kernel
theorem dL_hours_76 : decode cL_hours 76 = .ok (.istore 9, 2) := by decide +kernel
theorem dL_hours_78 : decode cL_hours 78 = .ok (.aload_n 2, 1) := by decide +kernel
theorem dL_hours_79 : decode cL_hours 79 = .ok (.iload 11, 2) := by decide +kernel
theorem dL_hours_81 : decode cL_hours 81 = .ok (.iaload, 1) := by decide +kernel
theorem dL_hours_82 : decode cL_hours 82 = .ok (.istore 11, 2) := by decide +kernel
theorem dL_hours_84 : decode cL_hours 84 = .ok (.goto (-28), 3) := by decide +kernel
theorem dL_hours_87 : decode cL_hours 87 = .ok (.iinc 10 1, 3) := by decide +kernel
theorem dL_hours_90 : decode cL_hours 90 = .ok (.goto (-69), 3) := by decide +kernel
theorem dL_hours_93 : decode cL_hours 93 = .ok (.iconst 1, 1) := by decide +kernel
theorem dL_hours_94 : decode cL_hours 94 = .ok (.istore 10, 2) := by decide +kernel
theorem dL_hours_96 : decode cL_hours 96 = .ok (.iload 10, 2) := by decide +kernel
theorem dL_hours_98 : decode cL_hours 98 = .ok (.bipush 12, 2) := by decide +kernel
theorem dL_hours_100 : decode cL_hours 100 = .ok (.if_icmp .ge 36, 3) := by decide +kernel
theorem dL_hours_103 : decode cL_hours 103 = .ok (.iload 7, 2) := by decide +kernel
theorem dL_hours_105 : decode cL_hours 105 = .ok (.iload 9, 2) := by decide +kernel
theorem dL_hours_107 : decode cL_hours 107 = .ok (.iload 10, 2) := by decide +kernel
theorem dL_hours_109 : decode cL_hours 109 = .ok (.ishr, 1) := by decide +kernel
theorem dL_hours_110 : decode cL_hours 110 = .ok (.iconst 1, 1) := by decide +kernel
theorem dL_hours_111 : decode cL_hours 111 = .ok (.iand, 1) := by decide +kernel
theorem dL_hours_112 : decode cL_hours 112 = .ok (.iconst 1, 1) := by decide +kernel
theorem dL_hours_113 : decode cL_hours 113 = .ok (.if_icmp .ne 13, 3) := by decide +kernel
theorem dL_hours_116 : decode cL_hours 116 = .ok (.aload_n 2, 1) := by decide +kernel
theorem dL_hours_117 : decode cL_hours 117 = .ok (.bipush 12, 2) := by decide +kernel
theorem dL_hours_119 : decode cL_hours 119 = .ok (.iload 10, 2) := by decide +kernel
theorem dL_hours_121 : decode cL_hours 121 = .ok (.iadd, 1) := by decide +kernel
theorem dL_hours_122 : decode cL_hours 122 = .ok (.iaload, 1) := by decide +kernel
theorem dL_hours_123 : decode cL_hours 123 = .ok (.goto 4, 3) := by decide +kernel
theorem dL_hours_126 : decode cL_hours 126 = .ok (.iconst 0, 1) := by decide +kernel
theorem dL_hours_127 : decode cL_hours 127 = .ok (.iadd, 1) := by decide +kernel
theorem dL_hours_128 : decode cL_hours 128 = .ok (.istore 7, 2) := by decide +kernel
theorem dL_hours_130 : decode cL_hours 130 = .ok (.iinc 10 1, 3) := by decide +kernel
theorem dL_hours_133 : decode cL_hours 133 = .ok (.goto (-37), 3) := by decide +kernel
theorem dL_hours_136 : decode cL_hours 136 = .ok (.iconst 0, 1) := by decide +kernel
theorem dL_hours_137 : decode cL_hours 137 = .ok (.istore 10, 2) := by decide +kernel
theorem dL_hours_139 : decode cL_hours 139 = .ok (.iload 10, 2) := by decide +kernel
theorem dL_hours_141 : decode cL_hours 141 = .ok (.aload_n 1, 1) := by decide +kernel
theorem dL_hours_142 : decode cL_hours 142 = .ok (.iconst 2, 1) := by decide +kernel
theorem dL_hours_143 : decode cL_hours 143 = .ok (.iaload, 1) := by decide +kernel
theorem dL_hours_144 : decode cL_hours 144 = .ok (.if_icmp .ge 25, 3) := by decide +kernel
theorem dL_hours_147 : decode cL_hours 147 = .ok (.iload 8, 2) := by decide +kernel
theorem dL_hours_149 : decode cL_hours 149 = .ok (.aload_n 3, 1) := by decide +kernel
theorem dL_hours_150 : decode cL_hours 150 = .ok (.iload 10, 2) := by decide +kernel
theorem dL_hours_152 : decode cL_hours 152 = .ok (.iaload, 1) := by decide +kernel
theorem dL_hours_153 : decode cL_hours 153 = .ok (.aload_n 3, 1) := by decide +kernel
theorem dL_hours_154 : decode cL_hours 154 = .ok (.iconst 4, 1) := by decide +kernel
theorem dL_hours_155 : decode cL_hours 155 = .ok (.iload 10, 2) := by decide +kernel
theorem dL_hours_157 : decode cL_hours 157 = .ok (.iadd, 1) := by decide +kernel
theorem dL_hours_158 : decode cL_hours 158 = .ok (.iaload, 1) := by decide +kernel
theorem dL_hours_159 : decode cL_hours 159 = .ok (.imul, 1) := by decide +kernel
theorem dL_hours_160 : decode cL_hours 160 = .ok (.iadd, 1) := by decide +kernel
theorem dL_hours_161 : decode cL_hours 161 = .ok (.istore 8, 2) := by decide +kernel
theorem dL_hours_163 : decode cL_hours 163 = .ok (.iinc 10 1, 3) := by decide +kernel
theorem dL_hours_166 : decode cL_hours 166 = .ok (.goto (-27), 3) := by decide +kernel
theorem dL_hours_169 : decode cL_hours 169 = .ok (.iconst 2, 1) := by decide +kernel
theorem dL_hours_170 : decode cL_hours 170 = .ok (.iload 6, 2) := by decide +kernel
theorem dL_hours_172 : decode cL_hours 172 = .ok (.iload 7, 2) := by decide +kernel
theorem dL_hours_174 : decode cL_hours 174 = .ok (.iadd, 1) := by decide +kernel
theorem dL_hours_175 : decode cL_hours 175 = .ok (.imul, 1) := by decide +kernel
theorem dL_hours_176 : decode cL_hours 176 = .ok (.iload 8, 2) := by decide +kernel
theorem dL_hours_178 : decode cL_hours 178 = .ok (.if_icmp .le 7, 3) := by decide +kernel
theorem dL_hours_181 : decode cL_hours 181 = .ok (.iconst 3, 1) := by decide +kernel
theorem dL_hours_182 : decode cL_hours 182 = .ok (.goto 4, 3) := by decide +kernel
theorem dL_hours_185 : decode cL_hours 185 = .ok (.iconst 2, 1) := by decide +kernel
theorem dL_hours_186 : decode cL_hours 186 = .ok (.istore 10, 2) := by decide +kernel
theorem dL_hours_188 : decode cL_hours 188 = .ok (.iload 8, 2) := by decide +kernel
theorem dL_hours_190 : decode cL_hours 190 = .ok (.iload 6, 2) := by decide +kernel
theorem dL_hours_192 : decode cL_hours 192 = .ok (.iload 7, 2) := by decide +kernel
theorem dL_hours_194 : decode cL_hours 194 = .ok (.iadd, 1) := by decide +kernel
theorem dL_hours_195 : decode cL_hours 195 = .ok (.if_icmp .ge 11, 3) := by decide +kernel
theorem dL_hours_198 : decode cL_hours 198 = .ok (.iload 8, 2) := by decide +kernel
theorem dL_hours_200 : decode cL_hours 200 = .ok (.iload 7, 2) := by decide +kernel
theorem dL_hours_202 : decode cL_hours 202 = .ok (.isub, 1) := by decide +kernel
theorem dL_hours_203 : decode cL_hours 203 = .ok (.goto 5, 3) := by decide +kernel
theorem dL_hours_206 : decode cL_hours 206 = .ok (.iload 6, 2) := by decide +kernel
theorem dL_hours_208 : decode cL_hours 208 = .ok (.istore 11, 2) := by decide +kernel
theorem dL_hours_210 : decode cL_hours 210 = .ok (.iconst 1, 1) := by decide +kernel
theorem dL_hours_211 : decode cL_hours 211 = .ok (.istore 12, 2) := by decide +kernel
theorem dL_hours_213 : decode cL_hours 213 = .ok (.iload 12, 2) := by decide +kernel
theorem dL_hours_215 : decode cL_hours 215 = .ok (.bipush 12, 2) := by decide +kernel
theorem dL_hours_217 : decode cL_hours 217 = .ok (.if_icmp .ge 116, 3) := by decide +kernel
theorem dL_hours_220 : decode cL_hours 220 = .ok (.aload_n 0, 1) := by decide +kernel
theorem dL_hours_221 : decode cL_hours 221 = .ok (.aload_n 2, 1) := by decide +kernel
theorem dL_hours_222 : decode cL_hours 222 = .ok (.iload 12, 2) := by decide +kernel
theorem dL_hours_224 : decode cL_hours 224 = .ok (.invokestatic 47, 3) := by decide +kernel
theorem dL_hours_227 : decode cL_hours 227 = .ok (.ifCond .ne 24, 3) := by decide +kernel
theorem dL_hours_230 : decode cL_hours 230 = .ok (.aload_n 2, 1) := by decide +kernel
theorem dL_hours_231 : decode cL_hours 231 = .ok (.bipush 24, 2) := by decide +kernel
theorem dL_hours_233 : decode cL_hours 233 = .ok (.iload 12, 2) := by decide +kernel
theorem dL_hours_235 : decode cL_hours 235 = .ok (.iadd, 1) := by decide +kernel
theorem dL_hours_236 : decode cL_hours 236 = .ok (.iaload, 1) := by decide +kernel
theorem dL_hours_237 : decode cL_hours 237 = .ok (.ifCond .le 14, 3) := by decide +kernel
theorem dL_hours_240 : decode cL_hours 240 = .ok (.iload 4, 2) := by decide +kernel
theorem dL_hours_242 : decode cL_hours 242 = .ok (.bipush 18, 2) := by decide +kernel
theorem dL_hours_244 : decode cL_hours 244 = .ok (.if_icmp .ge 7, 3) := by decide +kernel
theorem dL_hours_247 : decode cL_hours 247 = .ok (.iconst 1, 1) := by decide +kernel
theorem dL_hours_248 : decode cL_hours 248 = .ok (.goto 4, 3) := by decide +kernel
theorem dL_hours_251 : decode cL_hours 251 = .ok (.iconst 0, 1) := by decide +kernel
theorem dL_hours_252 : decode cL_hours 252 = .ok (.istore 13, 2) := by decide +kernel
theorem dL_hours_254 : decode cL_hours 254 = .ok (.aload 5, 2) := by decide +kernel
theorem dL_hours_256 : decode cL_hours 256 = .ok (.iload 12, 2) := by decide +kernel
theorem dL_hours_258 : decode cL_hours 258 = .ok (.iload 11, 2) := by decide +kernel
theorem dL_hours_260 : decode cL_hours 260 = .ok (.ifCond .ge 7, 3) := by decide +kernel
theorem dL_hours_263 : decode cL_hours 263 = .ok (.iconst 0, 1) := by decide +kernel
theorem dL_hours_264 : decode cL_hours 264 = .ok (.goto 23, 3) := by decide +kernel
theorem dL_hours_267 : decode cL_hours 267 = .ok (.iload 11, 2) := by decide +kernel
theorem dL_hours_269 : decode cL_hours 269 = .ok (.aload 5, 2) := by decide +kernel
theorem dL_hours_271 : decode cL_hours 271 = .ok (.iload 12, 2) := by decide +kernel
theorem dL_hours_273 : decode cL_hours 273 = .ok (.iaload, 1) := by decide +kernel
theorem dL_hours_274 : decode cL_hours 274 = .ok (.if_icmp .ge 8, 3) := by decide +kernel
theorem dL_hours_277 : decode cL_hours 277 = .ok (.iload 11, 2) := by decide +kernel
theorem dL_hours_279 : decode cL_hours 279 = .ok (.goto 8, 3) := by decide +kernel
theorem dL_hours_282 : decode cL_hours 282 = .ok (.aload 5, 2) := by decide +kernel
theorem dL_hours_284 : decode cL_hours 284 = .ok (.iload 12, 2) := by decide +kernel
theorem dL_hours_286 : decode cL_hours 286 = .ok (.iaload, 1) := by decide +kernel
theorem dL_hours_287 : decode cL_hours 287 = .ok (.iastore, 1) := by decide +kernel
theorem dL_hours_288 : decode cL_hours 288 = .ok (.iload 11, 2) := by decide +kernel
theorem dL_hours_290 : decode cL_hours 290 = .ok (.aload 5, 2) := by decide +kernel
theorem dL_hours_292 : decode cL_hours 292 = .ok (.iload 12, 2) := by decide +kernel
theorem dL_hours_294 : decode cL_hours 294 = .ok (.iaload, 1) := by decide +kernel
theorem dL_hours_295 : decode cL_hours 295 = .ok (.isub, 1) := by decide +kernel
theorem dL_hours_296 : decode cL_hours 296 = .ok (.istore 11, 2) := by decide +kernel
theorem dL_hours_298 : decode cL_hours 298 = .ok (.aload_n 2, 1) := by decide +kernel
theorem dL_hours_299 : decode cL_hours 299 = .ok (.bipush 48, 2) := by decide +kernel
theorem dL_hours_301 : decode cL_hours 301 = .ok (.iload 12, 2) := by decide +kernel
theorem dL_hours_303 : decode cL_hours 303 = .ok (.iadd, 1) := by decide +kernel
theorem dL_hours_304 : decode cL_hours 304 = .ok (.dup2, 1) := by decide +kernel
theorem dL_hours_305 : decode cL_hours 305 = .ok (.iaload, 1) := by decide +kernel
theorem dL_hours_306 : decode cL_hours 306 = .ok (.iload 10, 2) := by decide +kernel
theorem dL_hours_308 : decode cL_hours 308 = .ok (.aload 5, 2) := by decide +kernel
theorem dL_hours_310 : decode cL_hours 310 = .ok (.iload 12, 2) := by decide +kernel
theorem dL_hours_312 : decode cL_hours 312 = .ok (.iaload, 1) := by decide +kernel
theorem dL_hours_313 : decode cL_hours 313 = .ok (.imul, 1) := by decide +kernel
theorem dL_hours_314 : decode cL_hours 314 = .ok (.iload 13, 2) := by decide +kernel
theorem dL_hours_316 : decode cL_hours 316 = .ok (.ifCond .eq 7, 3) := by decide +kernel
theorem dL_hours_319 : decode cL_hours 319 = .ok (.iconst 3, 1) := by decide +kernel
theorem dL_hours_320 : decode cL_hours 320 = .ok (.goto 4, 3) := by decide +kernel
theorem dL_hours_323 : decode cL_hours 323 = .ok (.iconst 0, 1) := by decide +kernel
theorem dL_hours_324 : decode cL_hours 324 = .ok (.isub, 1) := by decide +kernel
theorem dL_hours_325 : decode cL_hours 325 = .ok (.iadd, 1) := by decide +kernel
theorem dL_hours_326 : decode cL_hours 326 = .ok (.iastore, 1) := by decide +kernel
theorem dL_hours_327 : decode cL_hours 327 = .ok (.iinc 12 1, 3) := by decide +kernel
theorem dL_hours_330 : decode cL_hours 330 = .ok (.goto (-117), 3) := by decide +kernel
theorem dL_hours_333 : decode cL_hours 333 = .ok (.aload_n 0, 1) := by decide +kernel
theorem dL_hours_334 : decode cL_hours 334 = .ok (.iload 4, 2) := by decide +kernel
theorem dL_hours_336 : decode cL_hours 336 = .ok (.invokevirtual 58, 3) := by decide +kernel
theorem dL_hours_339 : decode cL_hours 339 = .ok (.iload 6, 2) := by decide +kernel
theorem dL_hours_341 : decode cL_hours 341 = .ok (.iload 7, 2) := by decide +kernel
theorem dL_hours_343 : decode cL_hours 343 = .ok (.iadd, 1) := by decide +kernel
theorem dL_hours_344 : decode cL_hours 344 = .ok (.if_icmp .ne 30, 3) := by decide +kernel
theorem dL_hours_347 : decode cL_hours 347 = .ok (.aload_n 0, 1) := by decide +kernel
theorem dL_hours_348 : decode cL_hours 348 = .ok (.iload 4, 2) := by decide +kernel
theorem dL_hours_350 : decode cL_hours 350 = .ok (.invokevirtual 61, 3) := by decide +kernel
theorem dL_hours_353 : decode cL_hours 353 = .ok (.iload 6, 2) := by decide +kernel
theorem dL_hours_355 : decode cL_hours 355 = .ok (.iload 7, 2) := by decide +kernel
theorem dL_hours_357 : decode cL_hours 357 = .ok (.iadd, 1) := by decide +kernel
theorem dL_hours_358 : decode cL_hours 358 = .ok (.if_icmp .ne 16, 3) := by decide +kernel
theorem dL_hours_361 : decode cL_hours 361 = .ok (.aload_n 0, 1) := by decide +kernel
theorem dL_hours_362 : decode cL_hours 362 = .ok (.invokevirtual 64, 3) := by decide +kernel
theorem dL_hours_365 : decode cL_hours 365 = .ok (.iload 7, 2) := by decide +kernel
theorem dL_hours_367 : decode cL_hours 367 = .ok (.if_icmp .ne 7, 3) := by decide +kernel
theorem dL_hours_370 : decode cL_hours 370 = .ok (.iconst 1, 1) := by decide +kernel
theorem dL_hours_371 : decode cL_hours 371 = .ok (.goto 4, 3) := by decide +kernel
theorem dL_hours_374 : decode cL_hours 374 = .ok (.iconst 0, 1) := by decide +kernel
theorem dL_hours_375 : decode cL_hours 375 = .ok (.istore 12, 2) := by decide +kernel
theorem dL_hours_377 : decode cL_hours 377 = .ok (.aload_n 1, 1) := by decide +kernel
theorem dL_hours_378 : decode cL_hours 378 = .ok (.iconst 0, 1) := by decide +kernel
theorem dL_hours_379 : decode cL_hours 379 = .ok (.dup2, 1) := by decide +kernel
theorem dL_hours_380 : decode cL_hours 380 = .ok (.iaload, 1) := by decide +kernel
theorem dL_hours_381 : decode cL_hours 381 = .ok (.iconst 1, 1) := by decide +kernel
theorem dL_hours_382 : decode cL_hours 382 = .ok (.iadd, 1) := by decide +kernel
theorem dL_hours_383 : decode cL_hours 383 = .ok (.iastore, 1) := by decide +kernel
theorem dL_hours_384 : decode cL_hours 384 = .ok (.aload_n 1, 1) := by decide +kernel
theorem dL_hours_385 : decode cL_hours 385 = .ok (.iconst 1, 1) := by decide +kernel
theorem dL_hours_386 : decode cL_hours 386 = .ok (.iload 4, 2) := by decide +kernel
theorem dL_hours_388 : decode cL_hours 388 = .ok (.iastore, 1) := by decide +kernel
theorem dL_hours_389 : decode cL_hours 389 = .ok (.iload 12, 2) := by decide +kernel
theorem dL_hours_391 : decode cL_hours 391 = .ok (.ifCond .eq 33, 3) := by decide +kernel
theorem dL_hours_394 : decode cL_hours 394 = .ok (.aload_n 0, 1) := by decide +kernel
theorem dL_hours_395 : decode cL_hours 395 = .ok (.aload_n 2, 1) := by decide +kernel
theorem dL_hours_396 : decode cL_hours 396 = .ok (.aload 5, 2) := by decide +kernel
theorem dL_hours_398 : decode cL_hours 398 = .ok (.iload 9, 2) := by decide +kernel
theorem dL_hours_400 : decode cL_hours 400 = .ok (.invokestatic 67, 3) := by decide +kernel
theorem dL_hours_403 : decode cL_hours 403 = .ok (.ifCond .eq 21, 3) := by decide +kernel
theorem dL_hours_406 : decode cL_hours 406 = .ok (.aload_n 0, 1) := by decide +kernel
theorem dL_hours_407 : decode cL_hours 407 = .ok (.aload_n 1, 1) := by decide +kernel
theorem dL_hours_408 : decode cL_hours 408 = .ok (.aload_n 3, 1) := by decide +kernel
theorem dL_hours_409 : decode cL_hours 409 = .ok (.iload 6, 2) := by decide +kernel
theorem dL_hours_411 : decode cL_hours 411 = .ok (.iload 7, 2) := by decide +kernel
theorem dL_hours_413 : decode cL_hours 413 = .ok (.iadd, 1) := by decide +kernel
theorem dL_hours_414 : decode cL_hours 414 = .ok (.invokestatic 71, 3) := by decide +kernel
theorem dL_hours_417 : decode cL_hours 417 = .ok (.ifCond .eq 7, 3) := by decide +kernel
theorem dL_hours_420 : decode cL_hours 420 = .ok (.iconst 1, 1) := by decide +kernel
theorem dL_hours_421 : decode cL_hours 421 = .ok (.goto 4, 3) := by decide +kernel
theorem dL_hours_424 : decode cL_hours 424 = .ok (.iconst 0, 1) := by decide +kernel
theorem dL_hours_425 : decode cL_hours 425 = .ok (.ireturn, 1) := by decide +kernel
set_option maxRecDepth 20000 in
theorem ggL_areMetered_L_isOnWay : GoodIn wsL_areMetered wsL_isOnWay := goodIn_r _ [4] (by decide +kernel) (by decide +kernel)
set_option maxRecDepth 20000 in
theorem gL_areMetered_L_isOnWay : GoodIn wsL_areMetered (va_wsS RL 74 yL_isOnWay wsL_isOnWay) := goodIn_app (goodIn_of _ (by decide +kernel)) ggL_areMetered_L_isOnWay
set_option maxRecDepth 20000 in
theorem ggL_areMetered_X4_got : GoodIn wsL_areMetered wsX4_got := goodIn_ca (goodIn_r _ [9, 10, 11, 12, 13, 14, 8, 15, 25, 26, 27, 28, 29, 30, 31, 32, 33, 34, 35, 36, 37, 38, 39, 40] (by decide +kernel) (by decide +kernel)) (goodIn_sub (fun _ h => List.mem_cons_of_mem _ (List.mem_append_right _ h)) (by decide +kernel))
set_option maxRecDepth 20000 in
theorem gL_areMetered_X4_got : GoodIn wsL_areMetered (wsV RL 78 RX4 yX4_got wsX4_got) := goodIn_app (goodIn_of _ (by decide +kernel)) ggL_areMetered_X4_got
set_option maxRecDepth 20000 in
theorem ggL_areMetered_X4_meter : GoodIn wsL_areMetered wsX4_meter := goodIn_ca (goodIn_r _ [19, 10, 11, 20, 13, 14, 8, 15, 25, 26, 27, 28, 29, 30, 31, 41, 42, 43, 44, 45] (by decide +kernel) (by decide +kernel)) (goodIn_sub (fun _ h => List.mem_cons_of_mem _ (List.mem_append_right _ h)) (by decide +kernel))
set_option maxRecDepth 20000 in
theorem gL_areMetered_X4_meter : GoodIn wsL_areMetered (wsV RL 81 RX4 yX4_meter wsX4_meter) := goodIn_app (goodIn_of _ (by decide +kernel)) ggL_areMetered_X4_meter
set_option maxRecDepth 20000 in
theorem ggL_areMetered_X4_isSuspected : GoodIn wsL_areMetered wsX4_isSuspected := goodIn_ca (goodIn_r _ [24, 10, 11, 20, 13, 14, 8, 15, 25, 26, 27, 28, 29, 30, 31, 41, 42, 43, 44, 45] (by decide +kernel) (by decide +kernel)) (goodIn_sub (fun _ h => List.mem_cons_of_mem _ (List.mem_append_right _ h)) (by decide +kernel))
set_option maxRecDepth 20000 in
theorem gL_areMetered_X4_isSuspected : GoodIn wsL_areMetered (wsV RL 84 RX4 yX4_isSuspected wsX4_isSuspected) := goodIn_app (goodIn_of _ (by decide +kernel)) ggL_areMetered_X4_isSuspected
end
section
theorem dL_areMetered_0 : decode cL_areMetered 0 = .ok (.iconst 1, 1) := by decide +kernel
theorem dL_areMetered_1 : decode cL_areMetered 1 = .ok (.istore 4, 2) := by decide +kernel
theorem dL_areMetered_3 : decode cL_areMetered 3 = .ok (.iconst 1, 1) := by decide +kernel
theorem dL_areMetered_4 : decode cL_areMetered 4 = .ok (.istore 5, 2) := by decide +kernel
theorem dL_areMetered_6 : decode cL_areMetered 6 = .ok (.iload 5, 2) := by decide +kernel
theorem dL_areMetered_8 : decode cL_areMetered 8 = .ok (.bipush 12, 2) := by decide +kernel
theorem dL_areMetered_10 : decode cL_areMetered 10 = .ok (.if_icmp .ge 231, 3) := by decide +kernel
theorem dL_areMetered_13 : decode cL_areMetered 13 = .ok (.iload 4, 2) := by decide +kernel
theorem dL_areMetered_15 : decode cL_areMetered 15 = .ok (.ifCond .eq 226, 3) := by decide +kernel
theorem dL_areMetered_18 : decode cL_areMetered 18 = .ok (.iload_n 3, 1) := by decide +kernel
theorem dL_areMetered_19 : decode cL_areMetered 19 = .ok (.iload 5, 2) := by decide +kernel
theorem dL_areMetered_21 : decode cL_areMetered 21 = .ok (.ishr, 1) := by decide +kernel
theorem dL_areMetered_22 : decode cL_areMetered 22 = .ok (.iconst 1, 1) := by decide +kernel
theorem dL_areMetered_23 : decode cL_areMetered 23 = .ok (.iand, 1) := by decide +kernel
theorem dL_areMetered_24 : decode cL_areMetered 24 = .ok (.iconst 1, 1) := by decide +kernel
theorem dL_areMetered_25 : decode cL_areMetered 25 = .ok (.if_icmp .ne 7, 3) := by decide +kernel
theorem dL_areMetered_28 : decode cL_areMetered 28 = .ok (.iconst 1, 1) := by decide +kernel
theorem dL_areMetered_29 : decode cL_areMetered 29 = .ok (.goto 4, 3) := by decide +kernel
theorem dL_areMetered_32 : decode cL_areMetered 32 = .ok (.iconst 0, 1) := by decide +kernel
theorem dL_areMetered_33 : decode cL_areMetered 33 = .ok (.istore 6, 2) := by decide +kernel
theorem dL_areMetered_35 : decode cL_areMetered 35 = .ok (.iload 6, 2) := by decide +kernel
theorem dL_areMetered_37 : decode cL_areMetered 37 = .ok (.ifCond .eq 13, 3) := by decide +kernel
theorem dL_areMetered_40 : decode cL_areMetered 40 = .ok (.aload_n 1, 1) := by decide +kernel
theorem dL_areMetered_41 : decode cL_areMetered 41 = .ok (.bipush 36, 2) := by decide +kernel
theorem dL_areMetered_43 : decode cL_areMetered 43 = .ok (.iload 5, 2) := by decide +kernel
theorem dL_areMetered_45 : decode cL_areMetered 45 = .ok (.iadd, 1) := by decide +kernel
theorem dL_areMetered_46 : decode cL_areMetered 46 = .ok (.iaload, 1) := by decide +kernel
theorem dL_areMetered_47 : decode cL_areMetered 47 = .ok (.goto 4, 3) := by decide +kernel
theorem dL_areMetered_50 : decode cL_areMetered 50 = .ok (.iconst 0, 1) := by decide +kernel
theorem dL_areMetered_51 : decode cL_areMetered 51 = .ok (.istore 7, 2) := by decide +kernel
theorem dL_areMetered_53 : decode cL_areMetered 53 = .ok (.iconst 0, 1) := by decide +kernel
theorem dL_areMetered_54 : decode cL_areMetered 54 = .ok (.istore 8, 2) := by decide +kernel
theorem dL_areMetered_56 : decode cL_areMetered 56 = .ok (.iload 5, 2) := by decide +kernel
theorem dL_areMetered_58 : decode cL_areMetered 58 = .ok (.istore 9, 2) := by decide +kernel
theorem dL_areMetered_60 : decode cL_areMetered 60 = .ok (.iload 9, 2) := by decide +kernel
theorem dL_areMetered_62 : decode cL_areMetered 62 = .ok (.bipush 12, 2) := by decide +kernel
theorem dL_areMetered_64 : decode cL_areMetered 64 = .ok (.if_icmp .ge 109, 3) := by decide +kernel
theorem dL_areMetered_67 : decode cL_areMetered 67 = .ok (.aload_n 1, 1) := by decide +kernel
theorem dL_areMetered_68 : decode cL_areMetered 68 = .ok (.iload 5, 2) := by decide +kernel
theorem dL_areMetered_70 : decode cL_areMetered 70 = .ok (.iload 9, 2) := by decide +kernel
theorem dL_areMetered_72 : decode cL_areMetered 72 = .ok (.invokestatic 74, 3) := by decide +kernel
theorem dL_areMetered_75 : decode cL_areMetered 75 = .ok (.ifCond .eq 17, 3) := by decide +kernel
theorem dL_areMetered_78 : decode cL_areMetered 78 = .ok (.iload_n 3, 1) := by decide +kernel
theorem dL_areMetered_79 : decode cL_areMetered 79 = .ok (.iload 9, 2) := by decide +kernel
theorem dL_areMetered_81 : decode cL_areMetered 81 = .ok (.ishr, 1) := by decide +kernel
theorem dL_areMetered_82 : decode cL_areMetered 82 = .ok (.iconst 1, 1) := by decide +kernel
theorem dL_areMetered_83 : decode cL_areMetered 83 = .ok (.iand, 1) := by decide +kernel
theorem dL_areMetered_84 : decode cL_areMetered 84 = .ok (.iconst 1, 1) := by decide +kernel
theorem dL_areMetered_85 : decode cL_areMetered 85 = .ok (.if_icmp .ne 7, 3) := by decide +kernel
theorem dL_areMetered_88 : decode cL_areMetered 88 = .ok (.iconst 1, 1) := by decide +kernel
theorem dL_areMetered_89 : decode cL_areMetered 89 = .ok (.goto 4, 3) := by decide +kernel
theorem dL_areMetered_92 : decode cL_areMetered 92 = .ok (.iconst 0, 1) := by decide +kernel
theorem dL_areMetered_93 : decode cL_areMetered 93 = .ok (.istore 10, 2) := by decide +kernel
theorem dL_areMetered_95 : decode cL_areMetered 95 = .ok (.iload 7, 2) := by decide +kernel
theorem dL_areMetered_97 : decode cL_areMetered 97 = .ok (.iload 10, 2) := by decide +kernel
theorem dL_areMetered_99 : decode cL_areMetered 99 = .ok (.ifCond .eq 29, 3) := by decide +kernel
theorem dL_areMetered_102 : decode cL_areMetered 102 = .ok (.aload_n 2, 1) := by decide +kernel
theorem dL_areMetered_103 : decode cL_areMetered 103 = .ok (.iload 9, 2) := by decide +kernel
theorem dL_areMetered_105 : decode cL_areMetered 105 = .ok (.iaload, 1) := by decide +kernel
theorem dL_areMetered_106 : decode cL_areMetered 106 = .ok (.iload 9, 2) := by decide +kernel
theorem dL_areMetered_108 : decode cL_areMetered 108 = .ok (.iload 5, 2) := by decide +kernel
theorem dL_areMetered_110 : decode cL_areMetered 110 = .ok (.if_icmp .ne 7, 3) := by decide +kernel
theorem dL_areMetered_113 : decode cL_areMetered 113 = .ok (.iconst 0, 1) := by decide +kernel
theorem dL_areMetered_114 : decode cL_areMetered 114 = .ok (.goto 10, 3) := by decide +kernel
theorem dL_areMetered_117 : decode cL_areMetered 117 = .ok (.aload_n 1, 1) := by decide +kernel
theorem dL_areMetered_118 : decode cL_areMetered 118 = .ok (.bipush 12, 2) := by decide +kernel
theorem dL_areMetered_120 : decode cL_areMetered 120 = .ok (.iload 9, 2) := by decide +kernel
theorem dL_areMetered_122 : decode cL_areMetered 122 = .ok (.iadd, 1) := by decide +kernel
theorem dL_areMetered_123 : decode cL_areMetered 123 = .ok (.iaload, 1) := by decide +kernel
theorem dL_areMetered_124 : decode cL_areMetered 124 = .ok (.iadd, 1) := by decide +kernel
theorem dL_areMetered_125 : decode cL_areMetered 125 = .ok (.goto 4, 3) := by decide +kernel
theorem dL_areMetered_128 : decode cL_areMetered 128 = .ok (.iconst 0, 1) := by decide +kernel
theorem dL_areMetered_129 : decode cL_areMetered 129 = .ok (.iadd, 1) := by decide +kernel
theorem dL_areMetered_130 : decode cL_areMetered 130 = .ok (.istore 7, 2) := by decide +kernel
theorem dL_areMetered_132 : decode cL_areMetered 132 = .ok (.iload 8, 2) := by decide +kernel
theorem dL_areMetered_134 : decode cL_areMetered 134 = .ok (.aload_n 1, 1) := by decide +kernel
theorem dL_areMetered_135 : decode cL_areMetered 135 = .ok (.iload 9, 2) := by decide +kernel
theorem dL_areMetered_137 : decode cL_areMetered 137 = .ok (.iaload, 1) := by decide +kernel
theorem dL_areMetered_138 : decode cL_areMetered 138 = .ok (.iload 5, 2) := by decide +kernel
theorem dL_areMetered_140 : decode cL_areMetered 140 = .ok (.if_icmp .ne 23, 3) := by decide +kernel
theorem dL_areMetered_143 : decode cL_areMetered 143 = .ok (.iload_n 3, 1) := by decide +kernel
theorem dL_areMetered_144 : decode cL_areMetered 144 = .ok (.iload 9, 2) := by decide +kernel
theorem dL_areMetered_146 : decode cL_areMetered 146 = .ok (.ishr, 1) := by decide +kernel
theorem dL_areMetered_147 : decode cL_areMetered 147 = .ok (.iconst 1, 1) := by decide +kernel
theorem dL_areMetered_148 : decode cL_areMetered 148 = .ok (.iand, 1) := by decide +kernel
theorem dL_areMetered_149 : decode cL_areMetered 149 = .ok (.iconst 1, 1) := by decide +kernel
theorem dL_areMetered_150 : decode cL_areMetered 150 = .ok (.if_icmp .ne 13, 3) := by decide +kernel
theorem dL_areMetered_153 : decode cL_areMetered 153 = .ok (.aload_n 1, 1) := by decide +kernel
theorem dL_areMetered_154 : decode cL_areMetered 154 = .ok (.bipush 36, 2) := by decide +kernel
theorem dL_areMetered_156 : decode cL_areMetered 156 = .ok (.iload 9, 2) := by decide +kernel
theorem dL_areMetered_158 : decode cL_areMetered 158 = .ok (.iadd, 1) := by decide +kernel
theorem dL_areMetered_159 : decode cL_areMetered 159 = .ok (.iaload, 1) := by decide +kernel
theorem dL_areMetered_160 : decode cL_areMetered 160 = .ok (.goto 4, 3) := by decide +kernel
theorem dL_areMetered_163 : decode cL_areMetered 163 = .ok (.iconst 0, 1) := by decide +kernel
theorem dL_areMetered_164 : decode cL_areMetered 164 = .ok (.iadd, 1) := by decide +kernel
theorem dL_areMetered_165 : decode cL_areMetered 165 = .ok (.istore 8, 2) := by decide +kernel
theorem dL_areMetered_167 : decode cL_areMetered 167 = .ok (.iinc 9 1, 3) := by decide +kernel
theorem dL_areMetered_170 : decode cL_areMetered 170 = .ok (.goto (-110), 3) := by decide +kernel
theorem dL_areMetered_173 : decode cL_areMetered 173 = .ok (.aload_n 0, 1) := by decide +kernel
theorem dL_areMetered_174 : decode cL_areMetered 174 = .ok (.iload 5, 2) := by decide +kernel
theorem dL_areMetered_176 : decode cL_areMetered 176 = .ok (.invokevirtual 78, 3) := by decide +kernel
theorem dL_areMetered_179 : decode cL_areMetered 179 = .ok (.aload_n 2, 1) := by decide +kernel
theorem dL_areMetered_180 : decode cL_areMetered 180 = .ok (.iload 5, 2) := by decide +kernel
theorem dL_areMetered_182 : decode cL_areMetered 182 = .ok (.iaload, 1) := by decide +kernel
theorem dL_areMetered_183 : decode cL_areMetered 183 = .ok (.if_icmp .ne 49, 3) := by decide +kernel
theorem dL_areMetered_186 : decode cL_areMetered 186 = .ok (.aload_n 0, 1) := by decide +kernel
theorem dL_areMetered_187 : decode cL_areMetered 187 = .ok (.iload 5, 2) := by decide +kernel
theorem dL_areMetered_189 : decode cL_areMetered 189 = .ok (.invokevirtual 81, 3) := by decide +kernel
theorem dL_areMetered_192 : decode cL_areMetered 192 = .ok (.iload 7, 2) := by decide +kernel
theorem dL_areMetered_194 : decode cL_areMetered 194 = .ok (.if_icmp .ne 38, 3) := by decide +kernel
theorem dL_areMetered_197 : decode cL_areMetered 197 = .ok (.aload_n 0, 1) := by decide +kernel
theorem dL_areMetered_198 : decode cL_areMetered 198 = .ok (.iload 5, 2) := by decide +kernel
theorem dL_areMetered_200 : decode cL_areMetered 200 = .ok (.invokevirtual 84, 3) := by decide +kernel
theorem dL_areMetered_203 : decode cL_areMetered 203 = .ok (.iload 6, 2) := by decide +kernel
theorem dL_areMetered_205 : decode cL_areMetered 205 = .ok (.ifCond .eq 19, 3) := by decide +kernel
theorem dL_areMetered_208 : decode cL_areMetered 208 = .ok (.aload_n 1, 1) := by decide +kernel
theorem dL_areMetered_209 : decode cL_areMetered 209 = .ok (.bipush 36, 2) := by decide +kernel
theorem dL_areMetered_211 : decode cL_areMetered 211 = .ok (.iload 5, 2) := by decide +kernel
theorem dL_areMetered_213 : decode cL_areMetered 213 = .ok (.iadd, 1) := by decide +kernel
theorem dL_areMetered_214 : decode cL_areMetered 214 = .ok (.iaload, 1) := by decide +kernel
theorem dL_areMetered_215 : decode cL_areMetered 215 = .ok (.iload 8, 2) := by decide +kernel
theorem dL_areMetered_217 : decode cL_areMetered 217 = .ok (.if_icmp .eq 7, 3) := by decide +kernel
theorem dL_areMetered_220 : decode cL_areMetered 220 = .ok (.iconst 1, 1) := by decide +kernel
theorem dL_areMetered_221 : decode cL_areMetered 221 = .ok (.goto 4, 3) := by decide +kernel
theorem dL_areMetered_224 : decode cL_areMetered 224 = .ok (.iconst 0, 1) := by decide +kernel
theorem dL_areMetered_225 : decode cL_areMetered 225 = .ok (.if_icmp .ne 7, 3) := by decide +kernel
theorem dL_areMetered_228 : decode cL_areMetered 228 = .ok (.iconst 1, 1) := by decide +kernel
theorem dL_areMetered_229 : decode cL_areMetered 229 = .ok (.goto 4, 3) := by decide +kernel
theorem dL_areMetered_232 : decode cL_areMetered 232 = .ok (.iconst 0, 1) := by decide +kernel
theorem dL_areMetered_233 : decode cL_areMetered 233 = .ok (.istore 4, 2) := by decide +kernel
theorem dL_areMetered_235 : decode cL_areMetered 235 = .ok (.iinc 5 1, 3) := by decide +kernel
theorem dL_areMetered_238 : decode cL_areMetered 238 = .ok (.goto (-232), 3) := by decide +kernel
theorem dL_areMetered_241 : decode cL_areMetered 241 = .ok (.iload 4, 2) := by decide +kernel
theorem dL_areMetered_243 : decode cL_areMetered 243 = .ok (.ireturn, 1) := by decide +kernel
set_option maxRecDepth 20000 in
theorem ggL_areFired_X4_fired : GoodIn wsL_areFired wsX4_fired := goodIn_ca (goodIn_r _ [5, 6, 7, 8, 9, 10, 11, 12, 13, 18, 19, 20, 21, 22, 23, 24, 25, 26, 27, 28, 29, 30, 31, 32, 33, 34] (by decide +kernel) (by decide +kernel)) (goodIn_sub (fun _ h => List.mem_cons_of_mem _ (List.mem_append_right _ h)) (by decide +kernel))
set_option maxRecDepth 20000 in
theorem gL_areFired_X4_fired : GoodIn wsL_areFired (wsV RL 24 RX4 yX4_fired wsX4_fired) := goodIn_app (goodIn_of _ (by decide +kernel)) ggL_areFired_X4_fired
set_option maxRecDepth 20000 in
theorem ggL_areFired_X4_cost : GoodIn wsL_areFired wsX4_cost := goodIn_r _ [17, 8, 18, 19, 20, 21, 22, 23, 24, 31, 32, 33, 34] (by decide +kernel) (by decide +kernel)
set_option maxRecDepth 20000 in
theorem gL_areFired_X4_cost : GoodIn wsL_areFired (wsV RL 87 RX4 yX4_cost wsX4_cost) := goodIn_app (goodIn_of _ (by decide +kernel)) ggL_areFired_X4_cost
theorem dL_areFired_0 : decode cL_areFired 0 = .ok (.iconst 1, 1) := by decide +kernel
theorem dL_areFired_1 : decode cL_areFired 1 = .ok (.istore 4, 2) := by decide +kernel
theorem dL_areFired_3 : decode cL_areFired 3 = .ok (.iconst 0, 1) := by decide +kernel
theorem dL_areFired_4 : decode cL_areFired 4 = .ok (.istore 5, 2) := by decide +kernel
theorem dL_areFired_6 : decode cL_areFired 6 = .ok (.iconst 0, 1) := by decide +kernel
theorem dL_areFired_7 : decode cL_areFired 7 = .ok (.istore 6, 2) := by decide +kernel
theorem dL_areFired_9 : decode cL_areFired 9 = .ok (.iload 6, 2) := by decide +kernel
theorem dL_areFired_11 : decode cL_areFired 11 = .ok (.aload_n 1, 1) := by decide +kernel
theorem dL_areFired_12 : decode cL_areFired 12 = .ok (.iconst 2, 1) := by decide +kernel
theorem dL_areFired_13 : decode cL_areFired 13 = .ok (.iaload, 1) := by decide +kernel
theorem dL_areFired_14 : decode cL_areFired 14 = .ok (.if_icmp .ge 236, 3) := by decide +kernel
theorem dL_areFired_17 : decode cL_areFired 17 = .ok (.iload 4, 2) := by decide +kernel
theorem dL_areFired_19 : decode cL_areFired 19 = .ok (.ifCond .eq 231, 3) := by decide +kernel
theorem dL_areFired_22 : decode cL_areFired 22 = .ok (.iconst 0, 1) := by decide +kernel
theorem dL_areFired_23 : decode cL_areFired 23 = .ok (.istore 7, 2) := by decide +kernel
theorem dL_areFired_25 : decode cL_areFired 25 = .ok (.iconst 0, 1) := by decide +kernel
theorem dL_areFired_26 : decode cL_areFired 26 = .ok (.istore 8, 2) := by decide +kernel
theorem dL_areFired_28 : decode cL_areFired 28 = .ok (.iload 8, 2) := by decide +kernel
theorem dL_areFired_30 : decode cL_areFired 30 = .ok (.aload_n 1, 1) := by decide +kernel
theorem dL_areFired_31 : decode cL_areFired 31 = .ok (.iconst 2, 1) := by decide +kernel
theorem dL_areFired_32 : decode cL_areFired 32 = .ok (.iaload, 1) := by decide +kernel
theorem dL_areFired_33 : decode cL_areFired 33 = .ok (.if_icmp .ge 82, 3) := by decide +kernel
theorem dL_areFired_36 : decode cL_areFired 36 = .ok (.aload_n 2, 1) := by decide +kernel
theorem dL_areFired_37 : decode cL_areFired 37 = .ok (.bipush 8, 2) := by decide +kernel
theorem dL_areFired_39 : decode cL_areFired 39 = .ok (.iload 8, 2) := by decide +kernel
theorem dL_areFired_41 : decode cL_areFired 41 = .ok (.iadd, 1) := by decide +kernel
theorem dL_areFired_42 : decode cL_areFired 42 = .ok (.iaload, 1) := by decide +kernel
theorem dL_areFired_43 : decode cL_areFired 43 = .ok (.aload_n 2, 1) := by decide +kernel
theorem dL_areFired_44 : decode cL_areFired 44 = .ok (.bipush 8, 2) := by decide +kernel
theorem dL_areFired_46 : decode cL_areFired 46 = .ok (.iload 6, 2) := by decide +kernel
theorem dL_areFired_48 : decode cL_areFired 48 = .ok (.iadd, 1) := by decide +kernel
theorem dL_areFired_49 : decode cL_areFired 49 = .ok (.iaload, 1) := by decide +kernel
theorem dL_areFired_50 : decode cL_areFired 50 = .ok (.if_icmp .lt 27, 3) := by decide +kernel
theorem dL_areFired_53 : decode cL_areFired 53 = .ok (.aload_n 2, 1) := by decide +kernel
theorem dL_areFired_54 : decode cL_areFired 54 = .ok (.bipush 8, 2) := by decide +kernel
theorem dL_areFired_56 : decode cL_areFired 56 = .ok (.iload 8, 2) := by decide +kernel
theorem dL_areFired_58 : decode cL_areFired 58 = .ok (.iadd, 1) := by decide +kernel
theorem dL_areFired_59 : decode cL_areFired 59 = .ok (.iaload, 1) := by decide +kernel
theorem dL_areFired_60 : decode cL_areFired 60 = .ok (.aload_n 2, 1) := by decide +kernel
theorem dL_areFired_61 : decode cL_areFired 61 = .ok (.bipush 8, 2) := by decide +kernel
theorem dL_areFired_63 : decode cL_areFired 63 = .ok (.iload 6, 2) := by decide +kernel
theorem dL_areFired_65 : decode cL_areFired 65 = .ok (.iadd, 1) := by decide +kernel
theorem dL_areFired_66 : decode cL_areFired 66 = .ok (.iaload, 1) := by decide +kernel
theorem dL_areFired_67 : decode cL_areFired 67 = .ok (.if_icmp .ne 14, 3) := by decide +kernel
theorem dL_areFired_70 : decode cL_areFired 70 = .ok (.iload 8, 2) := by decide +kernel
theorem dL_areFired_72 : decode cL_areFired 72 = .ok (.iload 6, 2) := by decide +kernel
theorem dL_areFired_74 : decode cL_areFired 74 = .ok (.if_icmp .ge 7, 3) := by decide +kernel
theorem dL_areFired_77 : decode cL_areFired 77 = .ok (.iconst 1, 1) := by decide +kernel
theorem dL_areFired_78 : decode cL_areFired 78 = .ok (.goto 4, 3) := by decide +kernel
theorem dL_areFired_81 : decode cL_areFired 81 = .ok (.iconst 0, 1) := by decide +kernel
theorem dL_areFired_82 : decode cL_areFired 82 = .ok (.istore 9, 2) := by decide +kernel
theorem dL_areFired_84 : decode cL_areFired 84 = .ok (.iload 7, 2) := by decide +kernel
theorem dL_areFired_86 : decode cL_areFired 86 = .ok (.iload 9, 2) := by decide +kernel
theorem dL_areFired_88 : decode cL_areFired 88 = .ok (.ifCond .eq 17, 3) := by decide +kernel
theorem dL_areFired_91 : decode cL_areFired 91 = .ok (.aload_n 2, 1) := by decide +kernel
theorem dL_areFired_92 : decode cL_areFired 92 = .ok (.iload 8, 2) := by decide +kernel
theorem dL_areFired_94 : decode cL_areFired 94 = .ok (.iaload, 1) := by decide +kernel
theorem dL_areFired_95 : decode cL_areFired 95 = .ok (.aload_n 2, 1) := by decide +kernel
theorem dL_areFired_96 : decode cL_areFired 96 = .ok (.iconst 4, 1) := by decide +kernel
theorem dL_areFired_97 : decode cL_areFired 97 = .ok (.iload 8, 2) := by decide +kernel
theorem dL_areFired_99 : decode cL_areFired 99 = .ok (.iadd, 1) := by decide +kernel
theorem dL_areFired_100 : decode cL_areFired 100 = .ok (.iaload, 1) := by decide +kernel
theorem dL_areFired_101 : decode cL_areFired 101 = .ok (.imul, 1) := by decide +kernel
theorem dL_areFired_102 : decode cL_areFired 102 = .ok (.goto 4, 3) := by decide +kernel
theorem dL_areFired_105 : decode cL_areFired 105 = .ok (.iconst 0, 1) := by decide +kernel
theorem dL_areFired_106 : decode cL_areFired 106 = .ok (.iadd, 1) := by decide +kernel
theorem dL_areFired_107 : decode cL_areFired 107 = .ok (.istore 7, 2) := by decide +kernel
theorem dL_areFired_109 : decode cL_areFired 109 = .ok (.iinc 8 1, 3) := by decide +kernel
theorem dL_areFired_112 : decode cL_areFired 112 = .ok (.goto (-84), 3) := by decide +kernel
theorem dL_areFired_115 : decode cL_areFired 115 = .ok (.iload_n 3, 1) := by decide +kernel
theorem dL_areFired_116 : decode cL_areFired 116 = .ok (.iload 7, 2) := by decide +kernel
theorem dL_areFired_118 : decode cL_areFired 118 = .ok (.if_icmp .le 10, 3) := by decide +kernel
theorem dL_areFired_121 : decode cL_areFired 121 = .ok (.iload_n 3, 1) := by decide +kernel
theorem dL_areFired_122 : decode cL_areFired 122 = .ok (.iload 7, 2) := by decide +kernel
theorem dL_areFired_124 : decode cL_areFired 124 = .ok (.isub, 1) := by decide +kernel
theorem dL_areFired_125 : decode cL_areFired 125 = .ok (.goto 4, 3) := by decide +kernel
theorem dL_areFired_128 : decode cL_areFired 128 = .ok (.iconst 0, 1) := by decide +kernel
theorem dL_areFired_129 : decode cL_areFired 129 = .ok (.istore 8, 2) := by decide +kernel
theorem dL_areFired_131 : decode cL_areFired 131 = .ok (.aload_n 0, 1) := by decide +kernel
theorem dL_areFired_132 : decode cL_areFired 132 = .ok (.iload 6, 2) := by decide +kernel
theorem dL_areFired_134 : decode cL_areFired 134 = .ok (.invokevirtual 24, 3) := by decide +kernel
theorem dL_areFired_137 : decode cL_areFired 137 = .ok (.istore 9, 2) := by decide +kernel
theorem dL_areFired_139 : decode cL_areFired 139 = .ok (.aload_n 2, 1) := by decide +kernel
theorem dL_areFired_140 : decode cL_areFired 140 = .ok (.iload 6, 2) := by decide +kernel
theorem dL_areFired_142 : decode cL_areFired 142 = .ok (.iaload, 1) := by decide +kernel
theorem dL_areFired_143 : decode cL_areFired 143 = .ok (.aload_n 2, 1) := by decide +kernel
theorem dL_areFired_144 : decode cL_areFired 144 = .ok (.iconst 4, 1) := by decide +kernel
theorem dL_areFired_145 : decode cL_areFired 145 = .ok (.iload 6, 2) := by decide +kernel
theorem dL_areFired_147 : decode cL_areFired 147 = .ok (.iadd, 1) := by decide +kernel
theorem dL_areFired_148 : decode cL_areFired 148 = .ok (.iaload, 1) := by decide +kernel
theorem dL_areFired_149 : decode cL_areFired 149 = .ok (.imul, 1) := by decide +kernel
theorem dL_areFired_150 : decode cL_areFired 150 = .ok (.istore 10, 2) := by decide +kernel
theorem dL_areFired_152 : decode cL_areFired 152 = .ok (.iload 5, 2) := by decide +kernel
theorem dL_areFired_154 : decode cL_areFired 154 = .ok (.iload 8, 2) := by decide +kernel
theorem dL_areFired_156 : decode cL_areFired 156 = .ok (.iload 10, 2) := by decide +kernel
theorem dL_areFired_158 : decode cL_areFired 158 = .ok (.if_icmp .ge 8, 3) := by decide +kernel
theorem dL_areFired_161 : decode cL_areFired 161 = .ok (.iload 8, 2) := by decide +kernel
theorem dL_areFired_163 : decode cL_areFired 163 = .ok (.goto 5, 3) := by decide +kernel
theorem dL_areFired_166 : decode cL_areFired 166 = .ok (.iload 10, 2) := by decide +kernel
theorem dL_areFired_168 : decode cL_areFired 168 = .ok (.aload_n 2, 1) := by decide +kernel
theorem dL_areFired_169 : decode cL_areFired 169 = .ok (.bipush 8, 2) := by decide +kernel
theorem dL_areFired_171 : decode cL_areFired 171 = .ok (.iload 6, 2) := by decide +kernel
theorem dL_areFired_173 : decode cL_areFired 173 = .ok (.iadd, 1) := by decide +kernel
theorem dL_areFired_174 : decode cL_areFired 174 = .ok (.iaload, 1) := by decide +kernel
theorem dL_areFired_175 : decode cL_areFired 175 = .ok (.imul, 1) := by decide +kernel
theorem dL_areFired_176 : decode cL_areFired 176 = .ok (.iadd, 1) := by decide +kernel
theorem dL_areFired_177 : decode cL_areFired 177 = .ok (.istore 5, 2) := by decide +kernel
theorem dL_areFired_179 : decode cL_areFired 179 = .ok (.iload 9, 2) := by decide +kernel
theorem dL_areFired_181 : decode cL_areFired 181 = .ok (.ifCond .lt 60, 3) := by decide +kernel
theorem dL_areFired_184 : decode cL_areFired 184 = .ok (.iload 9, 2) := by decide +kernel
theorem dL_areFired_186 : decode cL_areFired 186 = .ok (.aload_n 2, 1) := by decide +kernel
theorem dL_areFired_187 : decode cL_areFired 187 = .ok (.iload 6, 2) := by decide +kernel
theorem dL_areFired_189 : decode cL_areFired 189 = .ok (.iaload, 1) := by decide +kernel
theorem dL_areFired_190 : decode cL_areFired 190 = .ok (.if_icmp .gt 51, 3) := by decide +kernel
theorem dL_areFired_193 : decode cL_areFired 193 = .ok (.iload 9, 2) := by decide +kernel
theorem dL_areFired_195 : decode cL_areFired 195 = .ok (.aload_n 2, 1) := by decide +kernel
theorem dL_areFired_196 : decode cL_areFired 196 = .ok (.iload 6, 2) := by decide +kernel
theorem dL_areFired_198 : decode cL_areFired 198 = .ok (.iaload, 1) := by decide +kernel
theorem dL_areFired_199 : decode cL_areFired 199 = .ok (.if_icmp .eq 17, 3) := by decide +kernel
theorem dL_areFired_202 : decode cL_areFired 202 = .ok (.iload 9, 2) := by decide +kernel
theorem dL_areFired_204 : decode cL_areFired 204 = .ok (.aload_n 2, 1) := by decide +kernel
theorem dL_areFired_205 : decode cL_areFired 205 = .ok (.iconst 4, 1) := by decide +kernel
theorem dL_areFired_206 : decode cL_areFired 206 = .ok (.iload 6, 2) := by decide +kernel
theorem dL_areFired_208 : decode cL_areFired 208 = .ok (.iadd, 1) := by decide +kernel
theorem dL_areFired_209 : decode cL_areFired 209 = .ok (.iaload, 1) := by decide +kernel
theorem dL_areFired_210 : decode cL_areFired 210 = .ok (.imul, 1) := by decide +kernel
theorem dL_areFired_211 : decode cL_areFired 211 = .ok (.iload 8, 2) := by decide +kernel
theorem dL_areFired_213 : decode cL_areFired 213 = .ok (.if_icmp .lt 28, 3) := by decide +kernel
theorem dL_areFired_216 : decode cL_areFired 216 = .ok (.iload 9, 2) := by decide +kernel
theorem dL_areFired_218 : decode cL_areFired 218 = .ok (.ifCond .eq 19, 3) := by decide +kernel
theorem dL_areFired_221 : decode cL_areFired 221 = .ok (.iload 9, 2) := by decide +kernel
theorem dL_areFired_223 : decode cL_areFired 223 = .ok (.iconst 1, 1) := by decide +kernel
theorem dL_areFired_224 : decode cL_areFired 224 = .ok (.isub, 1) := by decide +kernel
theorem dL_areFired_225 : decode cL_areFired 225 = .ok (.aload_n 2, 1) := by decide +kernel
theorem dL_areFired_226 : decode cL_areFired 226 = .ok (.iconst 4, 1) := by decide +kernel
theorem dL_areFired_227 : decode cL_areFired 227 = .ok (.iload 6, 2) := by decide +kernel
theorem dL_areFired_229 : decode cL_areFired 229 = .ok (.iadd, 1) := by decide +kernel
theorem dL_areFired_230 : decode cL_areFired 230 = .ok (.iaload, 1) := by decide +kernel
theorem dL_areFired_231 : decode cL_areFired 231 = .ok (.imul, 1) := by decide +kernel
theorem dL_areFired_232 : decode cL_areFired 232 = .ok (.iload 8, 2) := by decide +kernel
theorem dL_areFired_234 : decode cL_areFired 234 = .ok (.if_icmp .ge 7, 3) := by decide +kernel
theorem dL_areFired_237 : decode cL_areFired 237 = .ok (.iconst 1, 1) := by decide +kernel
theorem dL_areFired_238 : decode cL_areFired 238 = .ok (.goto 4, 3) := by decide +kernel
theorem dL_areFired_241 : decode cL_areFired 241 = .ok (.iconst 0, 1) := by decide +kernel
theorem dL_areFired_242 : decode cL_areFired 242 = .ok (.istore 4, 2) := by decide +kernel
theorem dL_areFired_244 : decode cL_areFired 244 = .ok (.iinc 6 1, 3) := by decide +kernel
theorem dL_areFired_247 : decode cL_areFired 247 = .ok (.goto (-238), 3) := by decide +kernel
theorem dL_areFired_250 : decode cL_areFired 250 = .ok (.aload_n 1, 1) := by decide +kernel
theorem dL_areFired_251 : decode cL_areFired 251 = .ok (.iconst 3, 1) := by decide +kernel
theorem dL_areFired_252 : decode cL_areFired 252 = .ok (.dup2, 1) := by decide +kernel
theorem dL_areFired_253 : decode cL_areFired 253 = .ok (.iaload, 1) := by decide +kernel
theorem dL_areFired_254 : decode cL_areFired 254 = .ok (.iload 5, 2) := by decide +kernel
theorem dL_areFired_256 : decode cL_areFired 256 = .ok (.iadd, 1) := by decide +kernel
theorem dL_areFired_257 : decode cL_areFired 257 = .ok (.iastore, 1) := by decide +kernel
theorem dL_areFired_258 : decode cL_areFired 258 = .ok (.iload 4, 2) := by decide +kernel
theorem dL_areFired_260 : decode cL_areFired 260 = .ok (.ifCond .eq 17, 3) := by decide +kernel
theorem dL_areFired_263 : decode cL_areFired 263 = .ok (.aload_n 0, 1) := by decide +kernel
theorem dL_areFired_264 : decode cL_areFired 264 = .ok (.invokevirtual 87, 3) := by decide +kernel
theorem dL_areFired_267 : decode cL_areFired 267 = .ok (.aload_n 1, 1) := by decide +kernel
theorem dL_areFired_268 : decode cL_areFired 268 = .ok (.iconst 3, 1) := by decide +kernel
theorem dL_areFired_269 : decode cL_areFired 269 = .ok (.iaload, 1) := by decide +kernel
theorem dL_areFired_270 : decode cL_areFired 270 = .ok (.if_icmp .ne 7, 3) := by decide +kernel
theorem dL_areFired_273 : decode cL_areFired 273 = .ok (.iconst 1, 1) := by decide +kernel
theorem dL_areFired_274 : decode cL_areFired 274 = .ok (.goto 4, 3) := by decide +kernel
theorem dL_areFired_277 : decode cL_areFired 277 = .ok (.iconst 0, 1) := by decide +kernel
theorem dL_areFired_278 : decode cL_areFired 278 = .ok (.ireturn, 1) := by decide +kernel
set_option maxRecDepth 20000 in
theorem ggL_areBills_X4_bill : GoodIn wsL_areBills wsX4_bill := goodIn_ca (goodIn_r _ [5, 6, 7, 8, 9, 10, 4, 11, 12, 13, 14, 15, 16, 17, 18] (by decide +kernel) (by decide +kernel)) (goodIn_sub (fun _ h => List.mem_cons_of_mem _ (List.mem_append_right _ h)) (by decide +kernel))
set_option maxRecDepth 20000 in
theorem gL_areBills_X4_bill : GoodIn wsL_areBills (wsV RL 90 RX4 yX4_bill wsX4_bill) := goodIn_app (goodIn_of _ (by decide +kernel)) ggL_areBills_X4_bill
theorem dL_areBills_0 : decode cL_areBills 0 = .ok (.iconst 1, 1) := by decide +kernel
theorem dL_areBills_1 : decode cL_areBills 1 = .ok (.istore_n 2, 1) := by decide +kernel
theorem dL_areBills_2 : decode cL_areBills 2 = .ok (.iconst 1, 1) := by decide +kernel
theorem dL_areBills_3 : decode cL_areBills 3 = .ok (.istore_n 3, 1) := by decide +kernel
theorem dL_areBills_4 : decode cL_areBills 4 = .ok (.iload_n 3, 1) := by decide +kernel
theorem dL_areBills_5 : decode cL_areBills 5 = .ok (.bipush 12, 2) := by decide +kernel
theorem dL_areBills_7 : decode cL_areBills 7 = .ok (.if_icmp .ge 33, 3) := by decide +kernel
theorem dL_areBills_10 : decode cL_areBills 10 = .ok (.iload_n 2, 1) := by decide +kernel
theorem dL_areBills_11 : decode cL_areBills 11 = .ok (.ifCond .eq 21, 3) := by decide +kernel
theorem dL_areBills_14 : decode cL_areBills 14 = .ok (.aload_n 0, 1) := by decide +kernel
theorem dL_areBills_15 : decode cL_areBills 15 = .ok (.iload_n 3, 1) := by decide +kernel
theorem dL_areBills_16 : decode cL_areBills 16 = .ok (.invokevirtual 90, 3) := by decide +kernel
theorem dL_areBills_19 : decode cL_areBills 19 = .ok (.aload_n 1, 1) := by decide +kernel
theorem dL_areBills_20 : decode cL_areBills 20 = .ok (.bipush 48, 2) := by decide +kernel
theorem dL_areBills_22 : decode cL_areBills 22 = .ok (.iload_n 3, 1) := by decide +kernel
theorem dL_areBills_23 : decode cL_areBills 23 = .ok (.iadd, 1) := by decide +kernel
theorem dL_areBills_24 : decode cL_areBills 24 = .ok (.iaload, 1) := by decide +kernel
theorem dL_areBills_25 : decode cL_areBills 25 = .ok (.if_icmp .ne 7, 3) := by decide +kernel
theorem dL_areBills_28 : decode cL_areBills 28 = .ok (.iconst 1, 1) := by decide +kernel
theorem dL_areBills_29 : decode cL_areBills 29 = .ok (.goto 4, 3) := by decide +kernel
theorem dL_areBills_32 : decode cL_areBills 32 = .ok (.iconst 0, 1) := by decide +kernel
theorem dL_areBills_33 : decode cL_areBills 33 = .ok (.istore_n 2, 1) := by decide +kernel
theorem dL_areBills_34 : decode cL_areBills 34 = .ok (.iinc 3 1, 3) := by decide +kernel
theorem dL_areBills_37 : decode cL_areBills 37 = .ok (.goto (-33), 3) := by decide +kernel
theorem dL_areBills_40 : decode cL_areBills 40 = .ok (.iload_n 2, 1) := by decide +kernel
theorem dL_areBills_41 : decode cL_areBills 41 = .ok (.ireturn, 1) := by decide +kernel
set_option maxRecDepth 20000 in
theorem ggL_law_X4_init : GoodIn wsL_law wsX4_init := goodIn_r _ [6, 7, 8, 9, 10, 11, 12, 13, 14, 15, 16, 17, 18, 19, 20, 21, 3, 22, 23, 24, 25, 26, 27, 28, 29, 30, 31, 32, 33, 34, 35, 36, 37, 38, 39, 40, 41, 42, 43, 44, 45, 247, 248, 249, 250, 251, 252, 253, 254, 255, 240, 241, 242, 243, 244, 245, 246, 256, 257, 258, 259, 260, 261, 262, 263, 264] (by decide +kernel) (by decide +kernel)
set_option maxRecDepth 20000 in
theorem gL_law_X4_init : GoodIn wsL_law (wsX4_init) := ggL_law_X4_init
set_option maxRecDepth 20000 in
theorem ggL_law_X4_hours : GoodIn wsL_law wsX4_hours := goodIn_r _ [49, 50, 240, 241, 242, 243, 244, 245, 246] (by decide +kernel) (by decide +kernel)
set_option maxRecDepth 20000 in
theorem gL_law_X4_hours : GoodIn wsL_law (wsV RL 10 RX4 yX4_hours wsX4_hours) := goodIn_app (goodIn_of _ (by decide +kernel)) ggL_law_X4_hours
set_option maxRecDepth 20000 in
theorem ggL_law_X4_cost : GoodIn wsL_law wsX4_cost := goodIn_r _ [54, 17, 240, 241, 242, 243, 244, 245, 246, 256, 257, 258, 259] (by decide +kernel) (by decide +kernel)
set_option maxRecDepth 20000 in
theorem gL_law_X4_cost : GoodIn wsL_law (wsV RL 87 RX4 yX4_cost wsX4_cost) := goodIn_app (goodIn_of _ (by decide +kernel)) ggL_law_X4_cost
set_option maxRecDepth 20000 in
theorem ggL_law_X4_losses : GoodIn wsL_law wsX4_losses := goodIn_r _ [58, 59, 240, 241, 242, 243, 244, 245, 246] (by decide +kernel) (by decide +kernel)
set_option maxRecDepth 20000 in
theorem gL_law_X4_losses : GoodIn wsL_law (wsV RL 64 RX4 yX4_losses wsX4_losses) := goodIn_app (goodIn_of _ (by decide +kernel)) ggL_law_X4_losses
set_option maxRecDepth 20000 in
theorem ggL_law_X4_load : GoodIn wsL_law wsX4_load := goodIn_ca (goodIn_r _ [63, 13, 64, 65, 2, 66, 67, 68, 69, 70, 71, 72, 12, 73, 74, 34, 32, 28, 75, 76, 77, 78, 79, 26, 29, 80, 81, 82, 83, 84, 85, 86, 87, 33, 88, 89, 90, 91, 27, 240, 241, 242, 243, 244, 245, 246, 247, 248, 249, 250, 251, 252, 253, 254, 255] (by decide +kernel) (by decide +kernel)) (goodIn_sub (fun _ h => List.mem_append_left _ (List.mem_append_left _ (List.mem_append_right _ h))) (by decide +kernel))
set_option maxRecDepth 20000 in
theorem gL_law_X4_load : GoodIn wsL_law (wsV RL 58 RX4 yX4_load wsX4_load) := goodIn_app (goodIn_of _ (by decide +kernel)) ggL_law_X4_load
set_option maxRecDepth 20000 in
theorem ggL_law_L_draw : GoodIn wsL_law wsL_draw := goodIn_r _ [95, 96, 97, 98] (by decide +kernel) (by decide +kernel)
set_option maxRecDepth 20000 in
theorem gL_law_L_draw : GoodIn wsL_law (va_wsS RL 94 yL_draw wsL_draw) := goodIn_app (goodIn_of _ (by decide +kernel)) ggL_law_L_draw
set_option maxRecDepth 20000 in
theorem ggL_law_L_step_wsL_step_r1 : GoodIn wsL_law wsL_step_r1 := goodIn_r wsL_step_r1 [46, 47, 48, 2, 49, 50, 102, 103, 104, 105, 67, 68, 106, 107, 13, 108, 80, 81, 69, 70, 71, 109, 110, 111] (by decide +kernel) (by decide +kernel)
set_option maxRecDepth 20000 in
theorem ggL_law_L_step_wsL_step_r2 : GoodIn wsL_law wsL_step_r2 := goodIn_r wsL_step_r2 [112, 113, 114, 115, 116, 117, 118, 17, 119, 16, 120, 121, 122, 123, 124, 125, 126, 127, 128, 129, 130, 131, 132, 133] (by decide +kernel) (by decide +kernel)
set_option maxRecDepth 20000 in
theorem ggL_law_L_step_wsL_step_r3 : GoodIn wsL_law wsL_step_r3 := goodIn_r wsL_step_r3 [134, 135, 136, 137, 8, 9, 138, 139, 140, 141, 142, 143, 144, 145, 146, 147, 148, 149, 21, 150, 151, 152, 153, 154] (by decide +kernel) (by decide +kernel)
set_option maxRecDepth 20000 in
theorem ggL_law_L_step_wsL_step_r4 : GoodIn wsL_law wsL_step_r4 := goodIn_r wsL_step_r4 [155, 94, 156, 157, 158, 159, 160, 161, 162, 12, 163, 164, 28, 32, 76, 77, 78, 79, 26, 29, 165, 166, 167, 168] (by decide +kernel) (by decide +kernel)
set_option maxRecDepth 20000 in
theorem ggL_law_L_step_wsL_step_r5 : GoodIn wsL_law wsL_step_r5 := goodIn_r wsL_step_r5 [169, 170, 3, 171, 172, 173, 60, 61, 62, 63, 64, 65, 66, 72, 73, 74, 34, 75, 82, 83, 84, 85, 86, 87] (by decide +kernel) (by decide +kernel)
set_option maxRecDepth 20000 in
theorem ggL_law_L_step_wsL_step_r6 : GoodIn wsL_law wsL_step_r6 := goodIn_r wsL_step_r6 [33, 88, 89, 90, 91, 27, 174, 175, 176, 177, 59, 178, 179, 180, 181, 182, 183, 184, 30, 185, 186, 187, 188, 189] (by decide +kernel) (by decide +kernel)
set_option maxRecDepth 20000 in
theorem ggL_law_L_step_wsL_step_r7 : GoodIn wsL_law wsL_step_r7 := goodIn_r wsL_step_r7 [190, 191, 192, 193, 194, 195, 196, 197, 20, 198, 199, 44, 45, 42, 41, 43, 200, 201, 202, 203, 204, 205, 206, 207] (by decide +kernel) (by decide +kernel)
set_option maxRecDepth 20000 in
theorem ggL_law_L_step_wsL_step_r8 : GoodIn wsL_law wsL_step_r8 := goodIn_r wsL_step_r8 [22, 208, 209, 210, 211, 55, 56, 57, 58, 212, 213, 214, 215, 216, 217, 218, 219, 220, 221, 222, 223, 224, 225, 226] (by decide +kernel) (by decide +kernel)
set_option maxRecDepth 20000 in
theorem ggL_law_L_step_wsL_step_r9 : GoodIn wsL_law wsL_step_r9 := goodIn_r wsL_step_r9 [227, 228, 229, 230, 231, 232, 51, 52, 53, 54] (by decide +kernel) (by decide +kernel)
set_option maxRecDepth 20000 in
theorem ggL_law_L_step_c : GoodIn wsL_law [Cond.code yL_step cL_step 11 (some .boolean)] := goodIn_r _ [101] (by decide +kernel) (by decide +kernel)
theorem ggL_law_L_step : GoodIn wsL_law wsL_step := goodIn_c1 ggL_law_L_step_c (goodIn_app (goodIn_app (goodIn_app (goodIn_app (goodIn_app (goodIn_app (goodIn_app (goodIn_app (goodIn_app ggL_law_L_step_wsL_step_r1 (goodIn_app ggL_law_L_step_wsL_step_r2 (goodIn_app ggL_law_L_step_wsL_step_r3 (goodIn_app ggL_law_L_step_wsL_step_r4 (goodIn_app ggL_law_L_step_wsL_step_r5 (goodIn_app ggL_law_L_step_wsL_step_r6 (goodIn_app ggL_law_L_step_wsL_step_r7 (goodIn_app ggL_law_L_step_wsL_step_r8 ggL_law_L_step_wsL_step_r9)))))))) (goodIn_sub (fun _ h => inlX4 _ h) (by decide +kernel))) (goodIn_sub (fun _ h => inlX2 _ h) (by decide +kernel))) (goodIn_sub (fun _ h => inlX0 _ h) (by decide +kernel))) (goodIn_sub (fun _ h => inlX3 _ h) (by decide +kernel))) (goodIn_sub (fun _ h => inlX1 _ h) (by decide +kernel))) (goodIn_sub (fun _ h => List.mem_append_left _ (List.mem_append_left _ (List.mem_append_right _ h))) (by decide +kernel))) (goodIn_sub (fun _ h => List.mem_append_left _ (List.mem_append_right _ h)) (by decide +kernel))) (goodIn_sub (fun _ h => List.mem_append_right _ h) (by decide +kernel)))
set_option maxRecDepth 20000 in
theorem gL_law_L_step : GoodIn wsL_law (va_wsS RL 98 yL_step wsL_step) := goodIn_app (goodIn_of _ (by decide +kernel)) ggL_law_L_step
set_option maxRecDepth 20000 in
theorem ggL_law_L_areBills : GoodIn wsL_law wsL_areBills := goodIn_ca (goodIn_r _ [235, 236, 237, 238, 2, 239, 67, 68, 22, 108, 80, 81, 240, 241, 242, 243, 244, 245, 246] (by decide +kernel) (by decide +kernel)) (goodIn_sub (fun _ h => List.mem_append_left _ (List.mem_append_left _ (List.mem_append_right _ h))) (by decide +kernel))
set_option maxRecDepth 20000 in
theorem gL_law_L_areBills : GoodIn wsL_law (va_wsS RL 102 yL_areBills wsL_areBills) := goodIn_app (goodIn_of _ (by decide +kernel)) ggL_law_L_areBills
end
section
theorem dL_law_0 : decode cL_law 0 = .ok (.new 11, 3) := by decide +kernel
theorem dL_law_3 : decode cL_law 3 = .ok (.dup, 1) := by decide +kernel
theorem dL_law_4 : decode cL_law 4 = .ok (.invokespecial 93, 3) := by decide +kernel
theorem dL_law_7 : decode cL_law 7 = .ok (.astore_n 1, 1) := by decide +kernel
theorem dL_law_8 : decode cL_law 8 = .ok (.iconst 4, 1) := by decide +kernel
theorem dL_law_9 : decode cL_law 9 = .ok (.newarray .int, 2) := by decide +kernel
theorem dL_law_11 : decode cL_law 11 = .ok (.astore_n 2, 1) := by decide +kernel
theorem dL_law_12 : decode cL_law 12 = .ok (.bipush 60, 2) := by decide +kernel
theorem dL_law_14 : decode cL_law 14 = .ok (.newarray .int, 2) := by decide +kernel
theorem dL_law_16 : decode cL_law 16 = .ok (.astore_n 3, 1) := by decide +kernel
theorem dL_law_17 : decode cL_law 17 = .ok (.bipush 12, 2) := by decide +kernel
theorem dL_law_19 : decode cL_law 19 = .ok (.newarray .int, 2) := by decide +kernel
theorem dL_law_21 : decode cL_law 21 = .ok (.astore 4, 2) := by decide +kernel
theorem dL_law_23 : decode cL_law 23 = .ok (.iconst 1, 1) := by decide +kernel
theorem dL_law_24 : decode cL_law 24 = .ok (.istore 5, 2) := by decide +kernel
theorem dL_law_26 : decode cL_law 26 = .ok (.iload 5, 2) := by decide +kernel
theorem dL_law_28 : decode cL_law 28 = .ok (.bipush 12, 2) := by decide +kernel
theorem dL_law_30 : decode cL_law 30 = .ok (.if_icmp .ge 17, 3) := by decide +kernel
theorem dL_law_33 : decode cL_law 33 = .ok (.aload_n 3, 1) := by decide +kernel
theorem dL_law_34 : decode cL_law 34 = .ok (.bipush 12, 2) := by decide +kernel
theorem dL_law_36 : decode cL_law 36 = .ok (.iload 5, 2) := by decide +kernel
theorem dL_law_38 : decode cL_law 38 = .ok (.iadd, 1) := by decide +kernel
theorem dL_law_39 : decode cL_law 39 = .ok (.iconst 1, 1) := by decide +kernel
theorem dL_law_40 : decode cL_law 40 = .ok (.iastore, 1) := by decide +kernel
theorem dL_law_41 : decode cL_law 41 = .ok (.iinc 5 1, 3) := by decide +kernel
theorem dL_law_44 : decode cL_law 44 = .ok (.goto (-18), 3) := by decide +kernel
theorem dL_law_47 : decode cL_law 47 = .ok (.aload_n 1, 1) := by decide +kernel
theorem dL_law_48 : decode cL_law 48 = .ok (.invokevirtual 10, 3) := by decide +kernel
theorem dL_law_51 : decode cL_law 51 = .ok (.ifCond .ne 30, 3) := by decide +kernel
theorem dL_law_54 : decode cL_law 54 = .ok (.aload_n 1, 1) := by decide +kernel
theorem dL_law_55 : decode cL_law 55 = .ok (.invokevirtual 87, 3) := by decide +kernel
theorem dL_law_58 : decode cL_law 58 = .ok (.ifCond .ne 23, 3) := by decide +kernel
theorem dL_law_61 : decode cL_law 61 = .ok (.aload_n 1, 1) := by decide +kernel
theorem dL_law_62 : decode cL_law 62 = .ok (.invokevirtual 64, 3) := by decide +kernel
theorem dL_law_65 : decode cL_law 65 = .ok (.ifCond .ne 16, 3) := by decide +kernel
theorem dL_law_68 : decode cL_law 68 = .ok (.aload_n 1, 1) := by decide +kernel
theorem dL_law_69 : decode cL_law 69 = .ok (.bipush (-20), 2) := by decide +kernel
theorem dL_law_71 : decode cL_law 71 = .ok (.invokevirtual 58, 3) := by decide +kernel
theorem dL_law_74 : decode cL_law 74 = .ok (.ifCond .ne 7, 3) := by decide +kernel
theorem dL_law_77 : decode cL_law 77 = .ok (.iconst 1, 1) := by decide +kernel
theorem dL_law_78 : decode cL_law 78 = .ok (.goto 4, 3) := by decide +kernel
theorem dL_law_81 : decode cL_law 81 = .ok (.iconst 0, 1) := by decide +kernel
theorem dL_law_82 : decode cL_law 82 = .ok (.istore 5, 2) := by decide +kernel
theorem dL_law_84 : decode cL_law 84 = .ok (.aload_n 0, 1) := by decide +kernel
theorem dL_law_85 : decode cL_law 85 = .ok (.arraylength, 1) := by decide +kernel
theorem dL_law_86 : decode cL_law 86 = .ok (.iconst 3, 1) := by decide +kernel
theorem dL_law_87 : decode cL_law 87 = .ok (.idiv, 1) := by decide +kernel
theorem dL_law_88 : decode cL_law 88 = .ok (.bipush 80, 2) := by decide +kernel
theorem dL_law_90 : decode cL_law 90 = .ok (.if_icmp .le 8, 3) := by decide +kernel
theorem dL_law_93 : decode cL_law 93 = .ok (.bipush 80, 2) := by decide +kernel
theorem dL_law_95 : decode cL_law 95 = .ok (.goto 7, 3) := by decide +kernel
theorem dL_law_98 : decode cL_law 98 = .ok (.aload_n 0, 1) := by decide +kernel
theorem dL_law_99 : decode cL_law 99 = .ok (.arraylength, 1) := by decide +kernel
theorem dL_law_100 : decode cL_law 100 = .ok (.iconst 3, 1) := by decide +kernel
theorem dL_law_101 : decode cL_law 101 = .ok (.idiv, 1) := by decide +kernel
theorem dL_law_102 : decode cL_law 102 = .ok (.istore 6, 2) := by decide +kernel
theorem dL_law_104 : decode cL_law 104 = .ok (.iconst 0, 1) := by decide +kernel
theorem dL_law_105 : decode cL_law 105 = .ok (.istore 7, 2) := by decide +kernel
theorem dL_law_107 : decode cL_law 107 = .ok (.iload 7, 2) := by decide +kernel
theorem dL_law_109 : decode cL_law 109 = .ok (.iload 6, 2) := by decide +kernel
theorem dL_law_111 : decode cL_law 111 = .ok (.if_icmp .ge 68, 3) := by decide +kernel
theorem dL_law_114 : decode cL_law 114 = .ok (.iload 5, 2) := by decide +kernel
theorem dL_law_116 : decode cL_law 116 = .ok (.ifCond .eq 63, 3) := by decide +kernel
theorem dL_law_119 : decode cL_law 119 = .ok (.aload_n 1, 1) := by decide +kernel
theorem dL_law_120 : decode cL_law 120 = .ok (.aload_n 2, 1) := by decide +kernel
theorem dL_law_121 : decode cL_law 121 = .ok (.aload_n 3, 1) := by decide +kernel
theorem dL_law_122 : decode cL_law 122 = .ok (.aload 4, 2) := by decide +kernel
theorem dL_law_124 : decode cL_law 124 = .ok (.aload_n 0, 1) := by decide +kernel
theorem dL_law_125 : decode cL_law 125 = .ok (.iconst 3, 1) := by decide +kernel
theorem dL_law_126 : decode cL_law 126 = .ok (.iload 7, 2) := by decide +kernel
theorem dL_law_128 : decode cL_law 128 = .ok (.imul, 1) := by decide +kernel
theorem dL_law_129 : decode cL_law 129 = .ok (.invokestatic 94, 3) := by decide +kernel
theorem dL_law_132 : decode cL_law 132 = .ok (.aload_n 0, 1) := by decide +kernel
theorem dL_law_133 : decode cL_law 133 = .ok (.iconst 3, 1) := by decide +kernel
theorem dL_law_134 : decode cL_law 134 = .ok (.iload 7, 2) := by decide +kernel
theorem dL_law_136 : decode cL_law 136 = .ok (.imul, 1) := by decide +kernel
theorem dL_law_137 : decode cL_law 137 = .ok (.iconst 1, 1) := by decide +kernel
theorem dL_law_138 : decode cL_law 138 = .ok (.iadd, 1) := by decide +kernel
theorem dL_law_139 : decode cL_law 139 = .ok (.invokestatic 94, 3) := by decide +kernel
theorem dL_law_142 : decode cL_law 142 = .ok (.aload_n 0, 1) := by decide +kernel
theorem dL_law_143 : decode cL_law 143 = .ok (.iconst 3, 1) := by decide +kernel
theorem dL_law_144 : decode cL_law 144 = .ok (.iload 7, 2) := by decide +kernel
theorem dL_law_146 : decode cL_law 146 = .ok (.imul, 1) := by decide +kernel
theorem dL_law_147 : decode cL_law 147 = .ok (.iconst 2, 1) := by decide +kernel
theorem dL_law_148 : decode cL_law 148 = .ok (.iadd, 1) := by decide +kernel
theorem dL_law_149 : decode cL_law 149 = .ok (.invokestatic 94, 3) := by decide +kernel
theorem dL_law_152 : decode cL_law 152 = .ok (.invokestatic 98, 3) := by decide +kernel
theorem dL_law_155 : decode cL_law 155 = .ok (.ifCond .eq 15, 3) := by decide +kernel
theorem dL_law_158 : decode cL_law 158 = .ok (.aload_n 1, 1) := by decide +kernel
theorem dL_law_159 : decode cL_law 159 = .ok (.aload_n 3, 1) := by decide +kernel
theorem dL_law_160 : decode cL_law 160 = .ok (.invokestatic 102, 3) := by decide +kernel
theorem dL_law_163 : decode cL_law 163 = .ok (.ifCond .eq 7, 3) := by decide +kernel
theorem dL_law_166 : decode cL_law 166 = .ok (.iconst 1, 1) := by decide +kernel
theorem dL_law_167 : decode cL_law 167 = .ok (.goto 4, 3) := by decide +kernel
theorem dL_law_170 : decode cL_law 170 = .ok (.iconst 0, 1) := by decide +kernel
theorem dL_law_171 : decode cL_law 171 = .ok (.istore 5, 2) := by decide +kernel
theorem dL_law_173 : decode cL_law 173 = .ok (.iinc 7 1, 3) := by decide +kernel
theorem dL_law_176 : decode cL_law 176 = .ok (.goto (-69), 3) := by decide +kernel
theorem dL_law_179 : decode cL_law 179 = .ok (.iload 5, 2) := by decide +kernel
theorem dL_law_181 : decode cL_law 181 = .ok (.ireturn, 1) := by decide +kernel
abbrev vwCl : List vw_C := [(RX0, TX0, 6), (RX1, TX1, 5), (RX2, TX2, 9), (RX3, TX3, 4), (RX4, TX4, 7)]
end
section
/-! the frame: one judgement xW over a world (its list of cells X, and a tail pl), the locals that are known, the stack; a row an instruction -/
def xT (cy : ClassId × ClassId × ClassId) : List (ClassId × FieldType) := [(cy.1, .int), (cy.2.1, .boolean)]
def xIsNest : Cond → Bool
  | .methodLinkNest .. => true
  | .fieldLinkNest .. => true
  | .declares _ => true
  | .castable .. => true
  | _ => false
def xNest : List Cond := tables_1.filter xIsNest
def xN (U : State) : Prop := ∀ w ∈ xNest, w.before #[] U = true
theorem xN.warm {s U : State} (hW : s.WarmedH U.vm) (h : xN s) : xN U := fun w hw => by
  have hb := (List.mem_filter.mp hw).2
  have h0 := h w hw
  have tr : ∀ {c : Cond}, c.onTables = true → c.before #[] (s.setVm U.vm) = true → c.before #[] U = true := by
    intro c hc h
    have e := Cond.onTables_vm (A := #[]) (A' := #[]) (U := s) (U' := U) U.vm c hc
    rw [show U.setVm U.vm = U from rfl] at e
    rw [← e]
    exact h
  cases w <;> first | (simp [xIsNest] at hb; done) | exact va_Nw.warmF hW h0 | exact va_Nw.warmM hW h0 | exact tr rfl (by rw [Cond.declares_setVm hW.alike]; exact h0) | exact tr rfl (by rw [Cond.castable_setVm hW.alike]; exact h0)
theorem xN.same {u U : State} (hv : u.vm = U.vm) (h : xN u) : xN U := fun w hw => by
  have hb := (List.mem_filter.mp hw).2
  have h0 := h w hw
  cases w <;> first | (simp [xIsNest] at hb; done) | exact va_Nw.same rfl hv h0
/-- the texts of the class's exceptions -/
def xStr : List (Nat × String) := [(44, "junction, from or loss is out of range"), (55, "an hour has passed"), (64, "junction or area is out of range"), (69, "steps, power or cost is out of range"), (74, "there are 4 boilers"), (80, "junction or error is out of range"), (85, "junction or hours is out of range"), (90, "the valve is shut"), (95, "the last hour was too cold"), (174, "temperature is out of range"), (144, "there is no such boiler"), (152, "junction is out of range")]
def xK (D : va_G) (cy : ClassId × ClassId × ClassId) (U : State) : Prop := va_K D vwCl (xT cy) U ∧ xN U ∧ (∀ q ∈ xStr, ∃ a, vk_R RX4 q.1 q.2 a U) ∧ va_Nc "java/lang/IllegalStateException" "java/lang/IllegalArgumentException" U
theorem va_Nc.mv {C T : String} {u U : State} (hvm : u.vm.Alike U.vm) (h : va_Nc C T u) : va_Nc C T U := by
  obtain ⟨c, t, h1, h2, h3⟩ := h
  exact ⟨c, t, by rw [hvm.findClass]; exact h1, by rw [hvm.findClass]; exact h2, by rw [← h3]; exact hvm.assignable c t⟩
theorem xK.warm {D : va_G} {cy : ClassId × ClassId × ClassId} {s U : State} (hW : s.WarmedH U.vm) (h : xK D cy s) : xK D cy U := ⟨va_K.moved hW.alike h.1, h.2.1.warm hW, fun q hq => by obtain ⟨a, ha⟩ := h.2.2.1 q hq; exact ⟨a, ha.warm hW⟩, h.2.2.2.mv hW.alike⟩
theorem xK.calling {D : va_G} {cy : ClassId × ClassId × ClassId} {U : State} {g : JFrame} {mk : MethodId} {a : Array Value} (h : xK D cy U) : xK D cy (U.calling g mk a) := ⟨va_K.moved (u := U) (U := U.calling g mk a) (Vm.Alike.refl U.vm) h.1, h.2.1.same (u := U) (U := U.calling g mk a) rfl, fun q hq => by obtain ⟨b, hb⟩ := h.2.2.1 q hq; exact ⟨b, vk_R.same (u := U) (U := U.calling g mk a) rfl hb⟩, va_Nc.mv (u := U) (U := U.calling g mk a) (Vm.Alike.refl U.vm) h.2.2.2⟩
/-- the two statics of Throwable that a throw reads -/
def xZ (A : Nat → Prop) (U : State) (H : Heap) : Prop := vx_Zq Bundle.tN "UNASSIGNED_STACK" Bundle.steD A U H ∧ vx_Zq Bundle.tN "SUPPRESSED_SENTINEL" Bundle.listD A U H
theorem xZ.moved {A : Nat → Prop} {u U : State} {H : Heap} (hvm : u.vm.Alike U.vm) (h : xZ A u H) : xZ A U H := ⟨vx_Zq.moved hvm h.1, vx_Zq.moved hvm h.2⟩
theorem xZ.kept {A : Nat → Prop} {U : State} {H H1 : Heap} (h : xZ A U H) (hq : ∀ a : Nat, a < H.size → ¬ A a → H1[a]? = H[a]?) : xZ A U H1 := ⟨vx_Zq.kept h.1 hq, vx_Zq.kept h.2 hq⟩
theorem xZ.narrow {A B : Nat → Prop} {U : State} {H : Heap} (h : xZ A U H) (hAB : ∀ q, B q → A q) : xZ B U H := ⟨vx_Zq.narrow h.1 hAB, vx_Zq.narrow h.2 hAB⟩
/-- a method's start: the heap holds the world w0 (b: and the statics of Throwable) -/
def xPc (b : Bool) (D : va_G) (cy : ClassId × ClassId × ClassId) (av : List Value) (w0 : va_W) (sz : Nat) : Array Value → State → Prop := va_Pc av (fun U => U.heap.size = sz ∧ va_P D vwCl w0 U.heap ∧ xK D cy U ∧ va_D (fun _ => True) w0 ∧ (b = true → xZ (va_A w0 sz) U U.heap))
/-- its end: the world w1 -/
def xB (D : va_G) (A : Nat → Prop) : va_W → State → Prop := fun w1 t => va_P D vwCl w1 t.heap ∧ va_D A w1
def xB2 (D : va_G) (A : Nat → Prop) : va_W × va_W → State → Prop := fun w1 t => va_P D vwCl (w1.1 ++ w1.2) t.heap ∧ va_D A (w1.1 ++ w1.2)
theorem xPc.blind {b : Bool} {D : va_G} {cy : ClassId × ClassId × ClassId} {av : List Value} {w0 : va_W} {sz : Nat} : FrameBlind (xPc b D cy av w0 sz) := fun a U g mk q => by
  obtain ⟨q0, q1, qP, qK, qD, qZ⟩ := q
  exact ⟨q0, q1, qP, qK.calling, qD, fun h => xZ.moved (u := U) (U := U.calling g mk a) (Vm.Alike.refl U.vm) (qZ h)⟩
theorem xPc.at {b : Bool} {D : va_G} {cy : ClassId × ClassId × ClassId} {av : List Value} {w0 : va_W} {s U : State} {H : Heap} (hK : xK D cy s) (hP : va_P D vwCl w0 H) (hD : va_D (fun _ => True) w0) (hZ : b = true → xZ (va_A w0 H.size) s H) (hU : U.heap = H) (hW : s.WarmedH U.vm) : xPc b D cy av w0 H.size av.toArray U := ⟨rfl, by rw [hU], by rw [hU]; exact hP, hK.warm hW, hD, fun h => by rw [hU]; exact (hZ h).moved hW.alike⟩

def xC (p : Program) (s : State) (m : MethodId) (args : Array Value) (meth : Method) (c : Code) (cc : ByteArray) (nL : Nat) (ret : Option FieldType) (Ts : List Cond) (own : String) (D : va_G) (cy : ClassId × ClassId × ClassId) (A : Nat → Prop) : Prop :=
  p.tables.exec = Jvm.exec ∧ c.code = cc ∧ c.maxLocals = nL ∧ meth.sig.returnType = ret ∧ s.vm.findClass own = some m.cls ∧ (∀ w ∈ Ts, w.before args s = true) ∧ xK D cy s ∧ (∀ q : Nat, s.heap.size ≤ q → A q) ∧ meth.locks = false
def xW (p : Program) (l : Launch) (e : Env) (R : Room) (s : State) (m : MethodId) (args : Array Value) (below : List Frame) (meth : Method) (c : Code) (D : va_G) (A : Nat → Prop) (nL cells slots : Nat) (Q : State → Prop) (pc : Nat) (X pl : va_W) (lv : List (Nat × Value)) (st : List Value) : Prop :=
  ∀ (H : Heap) (locs : List Loc) (ls : Array Slot), va_P D vwCl (X ++ pl) H → va_D A (X ++ pl) → va_S A s.heap H locs → lv_has ls nL lv → W p l e R s m args below meth c H locs cells slots Q (F0 m pc ls st)

section XF
variable {p : Program} {l : Launch} {e : Env} {R : Room} {s : State} {m : MethodId} {args : Array Value} {below : List Frame} {meth : Method} {c : Code} {cc : ByteArray} {nL : Nat} {ret : Option FieldType} {Ts : List Cond} {own : String} {D : va_G} {cy : ClassId × ClassId × ClassId} {A : Nat → Prop} {cells slots : Nat} {Q : State → Prop} {X X' pl : va_W} {lv lv' : List (Nat × Value)} {st : List Value} {pc q : Nat}

theorem x_iload_n (C : xC p s m args meth c cc nL ret Ts own D cy A) {k : Fin 4} {x : Int32} (j : Nat) (hj : lv[j]? = some ((k : Nat), Value.int x)) (hd : decode cc pc = .ok (.iload_n k, 1)) (hq : pc + 1 = q) (kk : xW p l e R s m args below meth c D A nL cells slots Q q X pl lv (.int x :: st)) : xW p l e R s m args below meth c D A nL cells slots Q pc X pl lv st := by
  subst hq
  intro H locs ls hP hD hS hl
  exact lv_iload_n C.1 C.2.1 hd rfl (lv_at hl j hj) (kk H locs ls hP hD hS hl)
theorem x_iload (C : xC p s m args meth c cc nL ret Ts own D cy A) {i : Nat} {x : Int32} (j : Nat) (hj : lv[j]? = some (i, Value.int x)) (hd : decode cc pc = .ok (.iload i, 2)) (hq : pc + 2 = q) (kk : xW p l e R s m args below meth c D A nL cells slots Q q X pl lv (.int x :: st)) : xW p l e R s m args below meth c D A nL cells slots Q pc X pl lv st := by
  subst hq
  intro H locs ls hP hD hS hl
  exact lv_iload C.1 C.2.1 hd (lv_at hl j hj) (kk H locs ls hP hD hS hl)
theorem x_aload_n (C : xC p s m args meth c cc nL ret Ts own D cy A) {k : Fin 4} {x : Nat} (j : Nat) (hj : lv[j]? = some ((k : Nat), Value.ref x)) (hd : decode cc pc = .ok (.aload_n k, 1)) (hq : pc + 1 = q) (kk : xW p l e R s m args below meth c D A nL cells slots Q q X pl lv (.ref x :: st)) : xW p l e R s m args below meth c D A nL cells slots Q pc X pl lv st := by
  subst hq
  intro H locs ls hP hD hS hl
  exact lv_aload_n C.1 C.2.1 hd rfl (lv_at hl j hj) (kk H locs ls hP hD hS hl)
theorem x_aload (C : xC p s m args meth c cc nL ret Ts own D cy A) {i : Nat} {x : Nat} (j : Nat) (hj : lv[j]? = some (i, Value.ref x)) (hd : decode cc pc = .ok (.aload i, 2)) (hq : pc + 2 = q) (kk : xW p l e R s m args below meth c D A nL cells slots Q q X pl lv (.ref x :: st)) : xW p l e R s m args below meth c D A nL cells slots Q pc X pl lv st := by
  subst hq
  intro H locs ls hP hD hS hl
  exact lv_aload C.1 C.2.1 hd (lv_at hl j hj) (kk H locs ls hP hD hS hl)
theorem x_lload_n (C : xC p s m args meth c cc nL ret Ts own D cy A) {k : Fin 4} {x : Int64} (j : Nat) (hj : lv[j]? = some ((k : Nat), Value.long x)) (hd : decode cc pc = .ok (.lload_n k, 1)) (hq : pc + 1 = q) (kk : xW p l e R s m args below meth c D A nL cells slots Q q X pl lv (.long x :: st)) : xW p l e R s m args below meth c D A nL cells slots Q pc X pl lv st := by
  subst hq
  intro H locs ls hP hD hS hl
  exact lv_lload_n C.1 C.2.1 hd rfl (lv_at hl j hj) (kk H locs ls hP hD hS hl)
theorem x_lload (C : xC p s m args meth c cc nL ret Ts own D cy A) {i : Nat} {x : Int64} (j : Nat) (hj : lv[j]? = some (i, Value.long x)) (hd : decode cc pc = .ok (.lload i, 2)) (hq : pc + 2 = q) (kk : xW p l e R s m args below meth c D A nL cells slots Q q X pl lv (.long x :: st)) : xW p l e R s m args below meth c D A nL cells slots Q pc X pl lv st := by
  subst hq
  intro H locs ls hP hD hS hl
  exact lv_lload C.1 C.2.1 hd (lv_at hl j hj) (kk H locs ls hP hD hS hl)
theorem x_aload_nN (C : xC p s m args meth c cc nL ret Ts own D cy A) {k : Fin 4} (j : Nat) (hj : lv[j]? = some ((k : Nat), Value.null)) (hd : decode cc pc = .ok (.aload_n k, 1)) (hq : pc + 1 = q) (kk : xW p l e R s m args below meth c D A nL cells slots Q q X pl lv (.null :: st)) : xW p l e R s m args below meth c D A nL cells slots Q pc X pl lv st := by
  subst hq
  intro H locs ls hP hD hS hl
  exact lv_aload_nN C.1 C.2.1 hd rfl (lv_at hl j hj) (kk H locs ls hP hD hS hl)
theorem x_aloadN (C : xC p s m args meth c cc nL ret Ts own D cy A) {i : Nat} (j : Nat) (hj : lv[j]? = some (i, Value.null)) (hd : decode cc pc = .ok (.aload i, 2)) (hq : pc + 2 = q) (kk : xW p l e R s m args below meth c D A nL cells slots Q q X pl lv (.null :: st)) : xW p l e R s m args below meth c D A nL cells slots Q pc X pl lv st := by
  subst hq
  intro H locs ls hP hD hS hl
  exact lv_aloadN C.1 C.2.1 hd (lv_at hl j hj) (kk H locs ls hP hD hS hl)
theorem x_istore_n (C : xC p s m args meth c cc nL ret Ts own D cy A) {k : Fin 4} {x : Int32} (lv' : List (Nat × Value)) (hd : decode cc pc = .ok (.istore_n k, 1)) (hn : (k : Nat) < nL) (hl' : ((k : Nat), Value.int x) :: lv.filter (fun q => !(q.1 == (k : Nat)) && !(q.1 + 1 == (k : Nat) && q.2.category == 2)) = lv') (hq : pc + 1 = q) (kk : xW p l e R s m args below meth c D A nL cells slots Q q X pl lv' st) : xW p l e R s m args below meth c D A nL cells slots Q pc X pl lv (.int x :: st) := by
  subst hq
  intro H locs ls hP hD hS hl
  exact lv_istore_n C.1 C.2.1 hd rfl hl hn hl' (fun ls' h => kk H locs ls' hP hD hS h)
theorem x_istore (C : xC p s m args meth c cc nL ret Ts own D cy A) {i : Nat} {x : Int32} (lv' : List (Nat × Value)) (hd : decode cc pc = .ok (.istore i, 2)) (hn : i < nL) (hl' : (i, Value.int x) :: lv.filter (fun q => !(q.1 == i) && !(q.1 + 1 == i && q.2.category == 2)) = lv') (hq : pc + 2 = q) (kk : xW p l e R s m args below meth c D A nL cells slots Q q X pl lv' st) : xW p l e R s m args below meth c D A nL cells slots Q pc X pl lv (.int x :: st) := by
  subst hq
  intro H locs ls hP hD hS hl
  exact lv_istore C.1 C.2.1 hd hl hn hl' (fun ls' h => kk H locs ls' hP hD hS h)
theorem x_astore_n (C : xC p s m args meth c cc nL ret Ts own D cy A) {k : Fin 4} {x : Nat} (lv' : List (Nat × Value)) (hd : decode cc pc = .ok (.astore_n k, 1)) (hn : (k : Nat) < nL) (hl' : ((k : Nat), Value.ref x) :: lv.filter (fun q => !(q.1 == (k : Nat)) && !(q.1 + 1 == (k : Nat) && q.2.category == 2)) = lv') (hq : pc + 1 = q) (kk : xW p l e R s m args below meth c D A nL cells slots Q q X pl lv' st) : xW p l e R s m args below meth c D A nL cells slots Q pc X pl lv (.ref x :: st) := by
  subst hq
  intro H locs ls hP hD hS hl
  exact lv_astore_n C.1 C.2.1 hd rfl hl hn hl' (fun ls' h => kk H locs ls' hP hD hS h)
theorem x_astore (C : xC p s m args meth c cc nL ret Ts own D cy A) {i : Nat} {x : Nat} (lv' : List (Nat × Value)) (hd : decode cc pc = .ok (.astore i, 2)) (hn : i < nL) (hl' : (i, Value.ref x) :: lv.filter (fun q => !(q.1 == i) && !(q.1 + 1 == i && q.2.category == 2)) = lv') (hq : pc + 2 = q) (kk : xW p l e R s m args below meth c D A nL cells slots Q q X pl lv' st) : xW p l e R s m args below meth c D A nL cells slots Q pc X pl lv (.ref x :: st) := by
  subst hq
  intro H locs ls hP hD hS hl
  exact lv_astore C.1 C.2.1 hd hl hn hl' (fun ls' h => kk H locs ls' hP hD hS h)
theorem x_astore_nN (C : xC p s m args meth c cc nL ret Ts own D cy A) {k : Fin 4} (lv' : List (Nat × Value)) (hd : decode cc pc = .ok (.astore_n k, 1)) (hn : (k : Nat) < nL) (hl' : ((k : Nat), Value.null) :: lv.filter (fun q => !(q.1 == (k : Nat)) && !(q.1 + 1 == (k : Nat) && q.2.category == 2)) = lv') (hq : pc + 1 = q) (kk : xW p l e R s m args below meth c D A nL cells slots Q q X pl lv' st) : xW p l e R s m args below meth c D A nL cells slots Q pc X pl lv (.null :: st) := by
  subst hq
  intro H locs ls hP hD hS hl
  exact lv_astore_nN C.1 C.2.1 hd rfl hl hn hl' (fun ls' h => kk H locs ls' hP hD hS h)
theorem x_astoreN (C : xC p s m args meth c cc nL ret Ts own D cy A) {i : Nat} (lv' : List (Nat × Value)) (hd : decode cc pc = .ok (.astore i, 2)) (hn : i < nL) (hl' : (i, Value.null) :: lv.filter (fun q => !(q.1 == i) && !(q.1 + 1 == i && q.2.category == 2)) = lv') (hq : pc + 2 = q) (kk : xW p l e R s m args below meth c D A nL cells slots Q q X pl lv' st) : xW p l e R s m args below meth c D A nL cells slots Q pc X pl lv (.null :: st) := by
  subst hq
  intro H locs ls hP hD hS hl
  exact lv_astoreN C.1 C.2.1 hd hl hn hl' (fun ls' h => kk H locs ls' hP hD hS h)
theorem x_iinc (C : xC p s m args meth c cc nL ret Ts own D cy A) {i : Nat} {n : Int} {x : Int32} (j : Nat) (v : Int32) (lv' : List (Nat × Value)) (hd : decode cc pc = .ok (.iinc i n, 3)) (hj : lv[j]? = some (i, Value.int x)) (hv : x + Int32.ofInt n = v) (hn : i < nL) (hl' : (i, Value.int v) :: lv.filter (fun q => !(q.1 == i) && !(q.1 + 1 == i && q.2.category == 2)) = lv') (hq : pc + 3 = q) (kk : xW p l e R s m args below meth c D A nL cells slots Q q X pl lv' st) : xW p l e R s m args below meth c D A nL cells slots Q pc X pl lv st := by
  subst hq
  intro H locs ls hP hD hS hl
  exact lv_iinc C.1 C.2.1 hd hl hj hv hn hl' (fun ls' h => kk H locs ls' hP hD hS h)
theorem x_iconst (C : xC p s m args meth c cc nL ret Ts own D cy A) {n : Int} (v : Int32) (hv : Int32.ofInt n = v) (hd : decode cc pc = .ok (.iconst n, 1)) (hq : pc + 1 = q) (kk : xW p l e R s m args below meth c D A nL cells slots Q q X pl lv (.int v :: st)) : xW p l e R s m args below meth c D A nL cells slots Q pc X pl lv st := by
  subst hq
  intro H locs ls hP hD hS hl
  exact lv_iconst C.1 C.2.1 hd hv (kk H locs ls hP hD hS hl)
theorem x_bipush (C : xC p s m args meth c cc nL ret Ts own D cy A) {n : Int} (v : Int32) (hv : (Int8.ofInt n).toInt32 = v) (hd : decode cc pc = .ok (.bipush n, 2)) (hq : pc + 2 = q) (kk : xW p l e R s m args below meth c D A nL cells slots Q q X pl lv (.int v :: st)) : xW p l e R s m args below meth c D A nL cells slots Q pc X pl lv st := by
  subst hq
  intro H locs ls hP hD hS hl
  exact lv_bipush C.1 C.2.1 hd hv (kk H locs ls hP hD hS hl)
theorem x_lconst (C : xC p s m args meth c cc nL ret Ts own D cy A) {n : Fin 2} (v : Int64) (hv : Int64.ofNat (n : Nat) = v) (hd : decode cc pc = .ok (.lconst n, 1)) (hq : pc + 1 = q) (kk : xW p l e R s m args below meth c D A nL cells slots Q q X pl lv (.long v :: st)) : xW p l e R s m args below meth c D A nL cells slots Q pc X pl lv st := by
  subst hq
  intro H locs ls hP hD hS hl
  exact lv_lconst C.1 C.2.1 hd hv (kk H locs ls hP hD hS hl)
theorem x_null (C : xC p s m args meth c cc nL ret Ts own D cy A)  (hd : decode cc pc = .ok (.aconst_null, 1)) (hq : pc + 1 = q) (kk : xW p l e R s m args below meth c D A nL cells slots Q q X pl lv (.null :: st)) : xW p l e R s m args below meth c D A nL cells slots Q pc X pl lv st := by
  subst hq
  intro H locs ls hP hD hS hl
  exact lv_null C.1 C.2.1 hd (kk H locs ls hP hD hS hl)
theorem x_iadd (C : xC p s m args meth c cc nL ret Ts own D cy A) {x y : Int32} (v : Int32) (hv : x + y = v) (hd : decode cc pc = .ok (.iadd, 1)) (hq : pc + 1 = q) (kk : xW p l e R s m args below meth c D A nL cells slots Q q X pl lv (.int v :: st)) : xW p l e R s m args below meth c D A nL cells slots Q pc X pl lv (.int y :: .int x :: st) := by
  subst hq
  subst hv
  intro H locs ls hP hD hS hl
  exact lv_iadd C.1 C.2.1 hd (kk H locs ls hP hD hS hl)
theorem x_isub (C : xC p s m args meth c cc nL ret Ts own D cy A) {x y : Int32} (v : Int32) (hv : x - y = v) (hd : decode cc pc = .ok (.isub, 1)) (hq : pc + 1 = q) (kk : xW p l e R s m args below meth c D A nL cells slots Q q X pl lv (.int v :: st)) : xW p l e R s m args below meth c D A nL cells slots Q pc X pl lv (.int y :: .int x :: st) := by
  subst hq
  subst hv
  intro H locs ls hP hD hS hl
  exact lv_isub C.1 C.2.1 hd (kk H locs ls hP hD hS hl)
theorem x_imul (C : xC p s m args meth c cc nL ret Ts own D cy A) {x y : Int32} (v : Int32) (hv : x * y = v) (hd : decode cc pc = .ok (.imul, 1)) (hq : pc + 1 = q) (kk : xW p l e R s m args below meth c D A nL cells slots Q q X pl lv (.int v :: st)) : xW p l e R s m args below meth c D A nL cells slots Q pc X pl lv (.int y :: .int x :: st) := by
  subst hq
  subst hv
  intro H locs ls hP hD hS hl
  exact lv_imul C.1 C.2.1 hd (kk H locs ls hP hD hS hl)
theorem x_iand (C : xC p s m args meth c cc nL ret Ts own D cy A) {x y : Int32} (v : Int32) (hv : x &&& y = v) (hd : decode cc pc = .ok (.iand, 1)) (hq : pc + 1 = q) (kk : xW p l e R s m args below meth c D A nL cells slots Q q X pl lv (.int v :: st)) : xW p l e R s m args below meth c D A nL cells slots Q pc X pl lv (.int y :: .int x :: st) := by
  subst hq
  subst hv
  intro H locs ls hP hD hS hl
  exact lv_iand C.1 C.2.1 hd (kk H locs ls hP hD hS hl)
theorem x_idiv (C : xC p s m args meth c cc nL ret Ts own D cy A) {x y : Int32} (v : Int32) (hv : x / y = v) (hne : ¬ y = 0) (hd : decode cc pc = .ok (.idiv, 1)) (hq : pc + 1 = q) (kk : xW p l e R s m args below meth c D A nL cells slots Q q X pl lv (.int v :: st)) : xW p l e R s m args below meth c D A nL cells slots Q pc X pl lv (.int y :: .int x :: st) := by
  subst hq
  subst hv
  intro H locs ls hP hD hS hl
  exact lv_idiv C.1 C.2.1 hd hne (kk H locs ls hP hD hS hl)
theorem x_i2l (C : xC p s m args meth c cc nL ret Ts own D cy A) {x : Int32} (v : Int64) (hv : x.toInt64 = v) (hd : decode cc pc = .ok (.i2l, 1)) (hq : pc + 1 = q) (kk : xW p l e R s m args below meth c D A nL cells slots Q q X pl lv (.long v :: st)) : xW p l e R s m args below meth c D A nL cells slots Q pc X pl lv (.int x :: st) := by
  subst hq
  intro H locs ls hP hD hS hl
  exact lv_i2l C.1 C.2.1 hd hv (kk H locs ls hP hD hS hl)
theorem x_dup (C : xC p s m args meth c cc nL ret Ts own D cy A) {va : Value} (hva : va.category = 1) (hd : decode cc pc = .ok (.dup, 1)) (hq : pc + 1 = q) (kk : xW p l e R s m args below meth c D A nL cells slots Q q X pl lv (va :: va :: st)) : xW p l e R s m args below meth c D A nL cells slots Q pc X pl lv (va :: st) := by
  subst hq
  intro H locs ls hP hD hS hl
  exact lv_dup C.1 C.2.1 hd hva (kk H locs ls hP hD hS hl)
theorem x_dup2 (C : xC p s m args meth c cc nL ret Ts own D cy A) {va vb : Value} (hva : va.category = 1) (hvb : vb.category = 1) (hd : decode cc pc = .ok (.dup2, 1)) (hq : pc + 1 = q) (kk : xW p l e R s m args below meth c D A nL cells slots Q q X pl lv (va :: vb :: va :: vb :: st)) : xW p l e R s m args below meth c D A nL cells slots Q pc X pl lv (va :: vb :: st) := by
  subst hq
  intro H locs ls hP hD hS hl
  exact lv_dup2_11 C.1 C.2.1 hd hva hvb (kk H locs ls hP hD hS hl)
theorem x_if_eq (C : xC p s m args meth c cc nL ret Ts own D cy A) {x : Int32} {off : Int} (tgt : Nat) (hd : decode cc pc = .ok (.ifCond .eq off, 3)) (ht : (pc : Int) + off = (tgt : Int)) (hq : pc + 3 = q) (kt : x = 0 → xW p l e R s m args below meth c D A nL cells slots Q tgt X pl lv st) (kf : ¬ x = 0 → xW p l e R s m args below meth c D A nL cells slots Q q X pl lv st) : xW p l e R s m args below meth c D A nL cells slots Q pc X pl lv (.int x :: st) := by
  subst hq
  intro H locs ls hP hD hS hl
  exact lv_if_eq C.1 C.2.1 hd ht (fun h => kt h H locs ls hP hD hS hl) (fun h => kf h H locs ls hP hD hS hl)
theorem x_if_eq_t (C : xC p s m args meth c cc nL ret Ts own D cy A) {x : Int32} {off : Int} (tgt : Nat) (hd : decode cc pc = .ok (.ifCond .eq off, 3)) (ht : (pc : Int) + off = (tgt : Int)) (h : x = 0) (kt : xW p l e R s m args below meth c D A nL cells slots Q tgt X pl lv st) : xW p l e R s m args below meth c D A nL cells slots Q pc X pl lv (.int x :: st) := by
  intro H locs ls hP hD hS hl
  exact lv_if_eq C.1 C.2.1 hd ht (fun _ => kt H locs ls hP hD hS hl) (fun h9 => absurd h h9)
theorem x_if_eq_f (C : xC p s m args meth c cc nL ret Ts own D cy A) {x : Int32} {off : Int} (tgt : Nat) (hd : decode cc pc = .ok (.ifCond .eq off, 3)) (ht : (pc : Int) + off = (tgt : Int)) (hq : pc + 3 = q) (h : ¬ x = 0) (kf : xW p l e R s m args below meth c D A nL cells slots Q q X pl lv st) : xW p l e R s m args below meth c D A nL cells slots Q pc X pl lv (.int x :: st) := by
  subst hq
  intro H locs ls hP hD hS hl
  exact lv_if_eq C.1 C.2.1 hd ht (fun h9 => by first | exact absurd h9 h | exact absurd h h9) (fun _ => kf H locs ls hP hD hS hl)
theorem x_icmp_eq (C : xC p s m args meth c cc nL ret Ts own D cy A) {x y : Int32} {off : Int} (tgt : Nat) (hd : decode cc pc = .ok (.if_icmp .eq off, 3)) (ht : (pc : Int) + off = (tgt : Int)) (hq : pc + 3 = q) (kt : x = y → xW p l e R s m args below meth c D A nL cells slots Q tgt X pl lv st) (kf : ¬ x = y → xW p l e R s m args below meth c D A nL cells slots Q q X pl lv st) : xW p l e R s m args below meth c D A nL cells slots Q pc X pl lv (.int y :: .int x :: st) := by
  subst hq
  intro H locs ls hP hD hS hl
  exact lv_icmp_eq C.1 C.2.1 hd ht (fun h => kt h H locs ls hP hD hS hl) (fun h => kf h H locs ls hP hD hS hl)
theorem x_icmp_eq_t (C : xC p s m args meth c cc nL ret Ts own D cy A) {x y : Int32} {off : Int} (tgt : Nat) (hd : decode cc pc = .ok (.if_icmp .eq off, 3)) (ht : (pc : Int) + off = (tgt : Int)) (h : x = y) (kt : xW p l e R s m args below meth c D A nL cells slots Q tgt X pl lv st) : xW p l e R s m args below meth c D A nL cells slots Q pc X pl lv (.int y :: .int x :: st) := by
  intro H locs ls hP hD hS hl
  exact lv_icmp_eq C.1 C.2.1 hd ht (fun _ => kt H locs ls hP hD hS hl) (fun h9 => absurd h h9)
theorem x_icmp_eq_f (C : xC p s m args meth c cc nL ret Ts own D cy A) {x y : Int32} {off : Int} (tgt : Nat) (hd : decode cc pc = .ok (.if_icmp .eq off, 3)) (ht : (pc : Int) + off = (tgt : Int)) (hq : pc + 3 = q) (h : ¬ x = y) (kf : xW p l e R s m args below meth c D A nL cells slots Q q X pl lv st) : xW p l e R s m args below meth c D A nL cells slots Q pc X pl lv (.int y :: .int x :: st) := by
  subst hq
  intro H locs ls hP hD hS hl
  exact lv_icmp_eq C.1 C.2.1 hd ht (fun h9 => by first | exact absurd h9 h | exact absurd h h9) (fun _ => kf H locs ls hP hD hS hl)
theorem x_if_ne (C : xC p s m args meth c cc nL ret Ts own D cy A) {x : Int32} {off : Int} (tgt : Nat) (hd : decode cc pc = .ok (.ifCond .ne off, 3)) (ht : (pc : Int) + off = (tgt : Int)) (hq : pc + 3 = q) (kt : ¬ x = 0 → xW p l e R s m args below meth c D A nL cells slots Q tgt X pl lv st) (kf : x = 0 → xW p l e R s m args below meth c D A nL cells slots Q q X pl lv st) : xW p l e R s m args below meth c D A nL cells slots Q pc X pl lv (.int x :: st) := by
  subst hq
  intro H locs ls hP hD hS hl
  exact lv_if_ne C.1 C.2.1 hd ht (fun h => kt h H locs ls hP hD hS hl) (fun h => kf h H locs ls hP hD hS hl)
theorem x_if_ne_t (C : xC p s m args meth c cc nL ret Ts own D cy A) {x : Int32} {off : Int} (tgt : Nat) (hd : decode cc pc = .ok (.ifCond .ne off, 3)) (ht : (pc : Int) + off = (tgt : Int)) (h : ¬ x = 0) (kt : xW p l e R s m args below meth c D A nL cells slots Q tgt X pl lv st) : xW p l e R s m args below meth c D A nL cells slots Q pc X pl lv (.int x :: st) := by
  intro H locs ls hP hD hS hl
  exact lv_if_ne C.1 C.2.1 hd ht (fun _ => kt H locs ls hP hD hS hl) (fun h9 => by first | exact absurd h h9 | exact absurd h9 h | omega)
theorem x_if_ne_f (C : xC p s m args meth c cc nL ret Ts own D cy A) {x : Int32} {off : Int} (tgt : Nat) (hd : decode cc pc = .ok (.ifCond .ne off, 3)) (ht : (pc : Int) + off = (tgt : Int)) (hq : pc + 3 = q) (h : x = 0) (kf : xW p l e R s m args below meth c D A nL cells slots Q q X pl lv st) : xW p l e R s m args below meth c D A nL cells slots Q pc X pl lv (.int x :: st) := by
  subst hq
  intro H locs ls hP hD hS hl
  exact lv_if_ne C.1 C.2.1 hd ht (fun h9 => by first | exact absurd h9 h | exact absurd h h9) (fun _ => kf H locs ls hP hD hS hl)
theorem x_icmp_ne (C : xC p s m args meth c cc nL ret Ts own D cy A) {x y : Int32} {off : Int} (tgt : Nat) (hd : decode cc pc = .ok (.if_icmp .ne off, 3)) (ht : (pc : Int) + off = (tgt : Int)) (hq : pc + 3 = q) (kt : ¬ x = y → xW p l e R s m args below meth c D A nL cells slots Q tgt X pl lv st) (kf : x = y → xW p l e R s m args below meth c D A nL cells slots Q q X pl lv st) : xW p l e R s m args below meth c D A nL cells slots Q pc X pl lv (.int y :: .int x :: st) := by
  subst hq
  intro H locs ls hP hD hS hl
  exact lv_icmp_ne C.1 C.2.1 hd ht (fun h => kt h H locs ls hP hD hS hl) (fun h => kf h H locs ls hP hD hS hl)
theorem x_icmp_ne_t (C : xC p s m args meth c cc nL ret Ts own D cy A) {x y : Int32} {off : Int} (tgt : Nat) (hd : decode cc pc = .ok (.if_icmp .ne off, 3)) (ht : (pc : Int) + off = (tgt : Int)) (h : ¬ x = y) (kt : xW p l e R s m args below meth c D A nL cells slots Q tgt X pl lv st) : xW p l e R s m args below meth c D A nL cells slots Q pc X pl lv (.int y :: .int x :: st) := by
  intro H locs ls hP hD hS hl
  exact lv_icmp_ne C.1 C.2.1 hd ht (fun _ => kt H locs ls hP hD hS hl) (fun h9 => by first | exact absurd h h9 | exact absurd h9 h | omega)
theorem x_icmp_ne_f (C : xC p s m args meth c cc nL ret Ts own D cy A) {x y : Int32} {off : Int} (tgt : Nat) (hd : decode cc pc = .ok (.if_icmp .ne off, 3)) (ht : (pc : Int) + off = (tgt : Int)) (hq : pc + 3 = q) (h : x = y) (kf : xW p l e R s m args below meth c D A nL cells slots Q q X pl lv st) : xW p l e R s m args below meth c D A nL cells slots Q pc X pl lv (.int y :: .int x :: st) := by
  subst hq
  intro H locs ls hP hD hS hl
  exact lv_icmp_ne C.1 C.2.1 hd ht (fun h9 => by first | exact absurd h9 h | exact absurd h h9) (fun _ => kf H locs ls hP hD hS hl)
theorem x_if_lt (C : xC p s m args meth c cc nL ret Ts own D cy A) {x : Int32} {off : Int} (tgt : Nat) (hd : decode cc pc = .ok (.ifCond .lt off, 3)) (ht : (pc : Int) + off = (tgt : Int)) (hq : pc + 3 = q) (kt : x < 0 → xW p l e R s m args below meth c D A nL cells slots Q tgt X pl lv st) (kf : ¬ x < 0 → xW p l e R s m args below meth c D A nL cells slots Q q X pl lv st) : xW p l e R s m args below meth c D A nL cells slots Q pc X pl lv (.int x :: st) := by
  subst hq
  intro H locs ls hP hD hS hl
  exact lv_if_lt C.1 C.2.1 hd ht (fun h => kt h H locs ls hP hD hS hl) (fun h => kf h H locs ls hP hD hS hl)
theorem x_if_lt_t (C : xC p s m args meth c cc nL ret Ts own D cy A) {x : Int32} {off : Int} (tgt : Nat) (hd : decode cc pc = .ok (.ifCond .lt off, 3)) (ht : (pc : Int) + off = (tgt : Int)) (h : x < 0) (kt : xW p l e R s m args below meth c D A nL cells slots Q tgt X pl lv st) : xW p l e R s m args below meth c D A nL cells slots Q pc X pl lv (.int x :: st) := by
  intro H locs ls hP hD hS hl
  exact lv_if_lt C.1 C.2.1 hd ht (fun _ => kt H locs ls hP hD hS hl) (fun h9 => absurd h h9)
theorem x_if_lt_f (C : xC p s m args meth c cc nL ret Ts own D cy A) {x : Int32} {off : Int} (tgt : Nat) (hd : decode cc pc = .ok (.ifCond .lt off, 3)) (ht : (pc : Int) + off = (tgt : Int)) (hq : pc + 3 = q) (h : ¬ x < 0) (kf : xW p l e R s m args below meth c D A nL cells slots Q q X pl lv st) : xW p l e R s m args below meth c D A nL cells slots Q pc X pl lv (.int x :: st) := by
  subst hq
  intro H locs ls hP hD hS hl
  exact lv_if_lt C.1 C.2.1 hd ht (fun h9 => by first | exact absurd h9 h | exact absurd h h9) (fun _ => kf H locs ls hP hD hS hl)
theorem x_icmp_lt (C : xC p s m args meth c cc nL ret Ts own D cy A) {x y : Int32} {off : Int} (tgt : Nat) (hd : decode cc pc = .ok (.if_icmp .lt off, 3)) (ht : (pc : Int) + off = (tgt : Int)) (hq : pc + 3 = q) (kt : x < y → xW p l e R s m args below meth c D A nL cells slots Q tgt X pl lv st) (kf : ¬ x < y → xW p l e R s m args below meth c D A nL cells slots Q q X pl lv st) : xW p l e R s m args below meth c D A nL cells slots Q pc X pl lv (.int y :: .int x :: st) := by
  subst hq
  intro H locs ls hP hD hS hl
  exact lv_icmp_lt C.1 C.2.1 hd ht (fun h => kt h H locs ls hP hD hS hl) (fun h => kf h H locs ls hP hD hS hl)
theorem x_icmp_lt_t (C : xC p s m args meth c cc nL ret Ts own D cy A) {x y : Int32} {off : Int} (tgt : Nat) (hd : decode cc pc = .ok (.if_icmp .lt off, 3)) (ht : (pc : Int) + off = (tgt : Int)) (h : x < y) (kt : xW p l e R s m args below meth c D A nL cells slots Q tgt X pl lv st) : xW p l e R s m args below meth c D A nL cells slots Q pc X pl lv (.int y :: .int x :: st) := by
  intro H locs ls hP hD hS hl
  exact lv_icmp_lt C.1 C.2.1 hd ht (fun _ => kt H locs ls hP hD hS hl) (fun h9 => absurd h h9)
theorem x_icmp_lt_f (C : xC p s m args meth c cc nL ret Ts own D cy A) {x y : Int32} {off : Int} (tgt : Nat) (hd : decode cc pc = .ok (.if_icmp .lt off, 3)) (ht : (pc : Int) + off = (tgt : Int)) (hq : pc + 3 = q) (h : ¬ x < y) (kf : xW p l e R s m args below meth c D A nL cells slots Q q X pl lv st) : xW p l e R s m args below meth c D A nL cells slots Q pc X pl lv (.int y :: .int x :: st) := by
  subst hq
  intro H locs ls hP hD hS hl
  exact lv_icmp_lt C.1 C.2.1 hd ht (fun h9 => by first | exact absurd h9 h | exact absurd h h9) (fun _ => kf H locs ls hP hD hS hl)
theorem x_if_ge (C : xC p s m args meth c cc nL ret Ts own D cy A) {x : Int32} {off : Int} (tgt : Nat) (hd : decode cc pc = .ok (.ifCond .ge off, 3)) (ht : (pc : Int) + off = (tgt : Int)) (hq : pc + 3 = q) (kt : 0 ≤ x → xW p l e R s m args below meth c D A nL cells slots Q tgt X pl lv st) (kf : ¬ 0 ≤ x → xW p l e R s m args below meth c D A nL cells slots Q q X pl lv st) : xW p l e R s m args below meth c D A nL cells slots Q pc X pl lv (.int x :: st) := by
  subst hq
  intro H locs ls hP hD hS hl
  exact lv_if_ge C.1 C.2.1 hd ht (fun h => kt h H locs ls hP hD hS hl) (fun h => kf h H locs ls hP hD hS hl)
theorem x_if_ge_t (C : xC p s m args meth c cc nL ret Ts own D cy A) {x : Int32} {off : Int} (tgt : Nat) (hd : decode cc pc = .ok (.ifCond .ge off, 3)) (ht : (pc : Int) + off = (tgt : Int)) (h : 0 ≤ x) (kt : xW p l e R s m args below meth c D A nL cells slots Q tgt X pl lv st) : xW p l e R s m args below meth c D A nL cells slots Q pc X pl lv (.int x :: st) := by
  intro H locs ls hP hD hS hl
  exact lv_if_ge C.1 C.2.1 hd ht (fun _ => kt H locs ls hP hD hS hl) (fun h9 => absurd h h9)
theorem x_if_ge_f (C : xC p s m args meth c cc nL ret Ts own D cy A) {x : Int32} {off : Int} (tgt : Nat) (hd : decode cc pc = .ok (.ifCond .ge off, 3)) (ht : (pc : Int) + off = (tgt : Int)) (hq : pc + 3 = q) (h : ¬ 0 ≤ x) (kf : xW p l e R s m args below meth c D A nL cells slots Q q X pl lv st) : xW p l e R s m args below meth c D A nL cells slots Q pc X pl lv (.int x :: st) := by
  subst hq
  intro H locs ls hP hD hS hl
  exact lv_if_ge C.1 C.2.1 hd ht (fun h9 => by first | exact absurd h9 h | exact absurd h h9) (fun _ => kf H locs ls hP hD hS hl)
theorem x_icmp_ge (C : xC p s m args meth c cc nL ret Ts own D cy A) {x y : Int32} {off : Int} (tgt : Nat) (hd : decode cc pc = .ok (.if_icmp .ge off, 3)) (ht : (pc : Int) + off = (tgt : Int)) (hq : pc + 3 = q) (kt : y ≤ x → xW p l e R s m args below meth c D A nL cells slots Q tgt X pl lv st) (kf : ¬ y ≤ x → xW p l e R s m args below meth c D A nL cells slots Q q X pl lv st) : xW p l e R s m args below meth c D A nL cells slots Q pc X pl lv (.int y :: .int x :: st) := by
  subst hq
  intro H locs ls hP hD hS hl
  exact lv_icmp_ge C.1 C.2.1 hd ht (fun h => kt h H locs ls hP hD hS hl) (fun h => kf h H locs ls hP hD hS hl)
theorem x_icmp_ge_t (C : xC p s m args meth c cc nL ret Ts own D cy A) {x y : Int32} {off : Int} (tgt : Nat) (hd : decode cc pc = .ok (.if_icmp .ge off, 3)) (ht : (pc : Int) + off = (tgt : Int)) (h : y ≤ x) (kt : xW p l e R s m args below meth c D A nL cells slots Q tgt X pl lv st) : xW p l e R s m args below meth c D A nL cells slots Q pc X pl lv (.int y :: .int x :: st) := by
  intro H locs ls hP hD hS hl
  exact lv_icmp_ge C.1 C.2.1 hd ht (fun _ => kt H locs ls hP hD hS hl) (fun h9 => absurd h h9)
theorem x_icmp_ge_f (C : xC p s m args meth c cc nL ret Ts own D cy A) {x y : Int32} {off : Int} (tgt : Nat) (hd : decode cc pc = .ok (.if_icmp .ge off, 3)) (ht : (pc : Int) + off = (tgt : Int)) (hq : pc + 3 = q) (h : ¬ y ≤ x) (kf : xW p l e R s m args below meth c D A nL cells slots Q q X pl lv st) : xW p l e R s m args below meth c D A nL cells slots Q pc X pl lv (.int y :: .int x :: st) := by
  subst hq
  intro H locs ls hP hD hS hl
  exact lv_icmp_ge C.1 C.2.1 hd ht (fun h9 => by first | exact absurd h9 h | exact absurd h h9) (fun _ => kf H locs ls hP hD hS hl)
theorem x_if_gt (C : xC p s m args meth c cc nL ret Ts own D cy A) {x : Int32} {off : Int} (tgt : Nat) (hd : decode cc pc = .ok (.ifCond .gt off, 3)) (ht : (pc : Int) + off = (tgt : Int)) (hq : pc + 3 = q) (kt : 0 < x → xW p l e R s m args below meth c D A nL cells slots Q tgt X pl lv st) (kf : ¬ 0 < x → xW p l e R s m args below meth c D A nL cells slots Q q X pl lv st) : xW p l e R s m args below meth c D A nL cells slots Q pc X pl lv (.int x :: st) := by
  subst hq
  intro H locs ls hP hD hS hl
  exact lv_if_gt C.1 C.2.1 hd ht (fun h => kt h H locs ls hP hD hS hl) (fun h => kf h H locs ls hP hD hS hl)
theorem x_if_gt_t (C : xC p s m args meth c cc nL ret Ts own D cy A) {x : Int32} {off : Int} (tgt : Nat) (hd : decode cc pc = .ok (.ifCond .gt off, 3)) (ht : (pc : Int) + off = (tgt : Int)) (h : 0 < x) (kt : xW p l e R s m args below meth c D A nL cells slots Q tgt X pl lv st) : xW p l e R s m args below meth c D A nL cells slots Q pc X pl lv (.int x :: st) := by
  intro H locs ls hP hD hS hl
  exact lv_if_gt C.1 C.2.1 hd ht (fun _ => kt H locs ls hP hD hS hl) (fun h9 => absurd h h9)
theorem x_if_gt_f (C : xC p s m args meth c cc nL ret Ts own D cy A) {x : Int32} {off : Int} (tgt : Nat) (hd : decode cc pc = .ok (.ifCond .gt off, 3)) (ht : (pc : Int) + off = (tgt : Int)) (hq : pc + 3 = q) (h : ¬ 0 < x) (kf : xW p l e R s m args below meth c D A nL cells slots Q q X pl lv st) : xW p l e R s m args below meth c D A nL cells slots Q pc X pl lv (.int x :: st) := by
  subst hq
  intro H locs ls hP hD hS hl
  exact lv_if_gt C.1 C.2.1 hd ht (fun h9 => by first | exact absurd h9 h | exact absurd h h9) (fun _ => kf H locs ls hP hD hS hl)
theorem x_icmp_gt (C : xC p s m args meth c cc nL ret Ts own D cy A) {x y : Int32} {off : Int} (tgt : Nat) (hd : decode cc pc = .ok (.if_icmp .gt off, 3)) (ht : (pc : Int) + off = (tgt : Int)) (hq : pc + 3 = q) (kt : y < x → xW p l e R s m args below meth c D A nL cells slots Q tgt X pl lv st) (kf : ¬ y < x → xW p l e R s m args below meth c D A nL cells slots Q q X pl lv st) : xW p l e R s m args below meth c D A nL cells slots Q pc X pl lv (.int y :: .int x :: st) := by
  subst hq
  intro H locs ls hP hD hS hl
  exact lv_icmp_gt C.1 C.2.1 hd ht (fun h => kt h H locs ls hP hD hS hl) (fun h => kf h H locs ls hP hD hS hl)
theorem x_icmp_gt_t (C : xC p s m args meth c cc nL ret Ts own D cy A) {x y : Int32} {off : Int} (tgt : Nat) (hd : decode cc pc = .ok (.if_icmp .gt off, 3)) (ht : (pc : Int) + off = (tgt : Int)) (h : y < x) (kt : xW p l e R s m args below meth c D A nL cells slots Q tgt X pl lv st) : xW p l e R s m args below meth c D A nL cells slots Q pc X pl lv (.int y :: .int x :: st) := by
  intro H locs ls hP hD hS hl
  exact lv_icmp_gt C.1 C.2.1 hd ht (fun _ => kt H locs ls hP hD hS hl) (fun h9 => absurd h h9)
theorem x_icmp_gt_f (C : xC p s m args meth c cc nL ret Ts own D cy A) {x y : Int32} {off : Int} (tgt : Nat) (hd : decode cc pc = .ok (.if_icmp .gt off, 3)) (ht : (pc : Int) + off = (tgt : Int)) (hq : pc + 3 = q) (h : ¬ y < x) (kf : xW p l e R s m args below meth c D A nL cells slots Q q X pl lv st) : xW p l e R s m args below meth c D A nL cells slots Q pc X pl lv (.int y :: .int x :: st) := by
  subst hq
  intro H locs ls hP hD hS hl
  exact lv_icmp_gt C.1 C.2.1 hd ht (fun h9 => by first | exact absurd h9 h | exact absurd h h9) (fun _ => kf H locs ls hP hD hS hl)
theorem x_if_le (C : xC p s m args meth c cc nL ret Ts own D cy A) {x : Int32} {off : Int} (tgt : Nat) (hd : decode cc pc = .ok (.ifCond .le off, 3)) (ht : (pc : Int) + off = (tgt : Int)) (hq : pc + 3 = q) (kt : x ≤ 0 → xW p l e R s m args below meth c D A nL cells slots Q tgt X pl lv st) (kf : ¬ x ≤ 0 → xW p l e R s m args below meth c D A nL cells slots Q q X pl lv st) : xW p l e R s m args below meth c D A nL cells slots Q pc X pl lv (.int x :: st) := by
  subst hq
  intro H locs ls hP hD hS hl
  exact lv_if_le C.1 C.2.1 hd ht (fun h => kt h H locs ls hP hD hS hl) (fun h => kf h H locs ls hP hD hS hl)
theorem x_if_le_t (C : xC p s m args meth c cc nL ret Ts own D cy A) {x : Int32} {off : Int} (tgt : Nat) (hd : decode cc pc = .ok (.ifCond .le off, 3)) (ht : (pc : Int) + off = (tgt : Int)) (h : x ≤ 0) (kt : xW p l e R s m args below meth c D A nL cells slots Q tgt X pl lv st) : xW p l e R s m args below meth c D A nL cells slots Q pc X pl lv (.int x :: st) := by
  intro H locs ls hP hD hS hl
  exact lv_if_le C.1 C.2.1 hd ht (fun _ => kt H locs ls hP hD hS hl) (fun h9 => absurd h h9)
theorem x_if_le_f (C : xC p s m args meth c cc nL ret Ts own D cy A) {x : Int32} {off : Int} (tgt : Nat) (hd : decode cc pc = .ok (.ifCond .le off, 3)) (ht : (pc : Int) + off = (tgt : Int)) (hq : pc + 3 = q) (h : ¬ x ≤ 0) (kf : xW p l e R s m args below meth c D A nL cells slots Q q X pl lv st) : xW p l e R s m args below meth c D A nL cells slots Q pc X pl lv (.int x :: st) := by
  subst hq
  intro H locs ls hP hD hS hl
  exact lv_if_le C.1 C.2.1 hd ht (fun h9 => by first | exact absurd h9 h | exact absurd h h9) (fun _ => kf H locs ls hP hD hS hl)
theorem x_icmp_le (C : xC p s m args meth c cc nL ret Ts own D cy A) {x y : Int32} {off : Int} (tgt : Nat) (hd : decode cc pc = .ok (.if_icmp .le off, 3)) (ht : (pc : Int) + off = (tgt : Int)) (hq : pc + 3 = q) (kt : x ≤ y → xW p l e R s m args below meth c D A nL cells slots Q tgt X pl lv st) (kf : ¬ x ≤ y → xW p l e R s m args below meth c D A nL cells slots Q q X pl lv st) : xW p l e R s m args below meth c D A nL cells slots Q pc X pl lv (.int y :: .int x :: st) := by
  subst hq
  intro H locs ls hP hD hS hl
  exact lv_icmp_le C.1 C.2.1 hd ht (fun h => kt h H locs ls hP hD hS hl) (fun h => kf h H locs ls hP hD hS hl)
theorem x_icmp_le_t (C : xC p s m args meth c cc nL ret Ts own D cy A) {x y : Int32} {off : Int} (tgt : Nat) (hd : decode cc pc = .ok (.if_icmp .le off, 3)) (ht : (pc : Int) + off = (tgt : Int)) (h : x ≤ y) (kt : xW p l e R s m args below meth c D A nL cells slots Q tgt X pl lv st) : xW p l e R s m args below meth c D A nL cells slots Q pc X pl lv (.int y :: .int x :: st) := by
  intro H locs ls hP hD hS hl
  exact lv_icmp_le C.1 C.2.1 hd ht (fun _ => kt H locs ls hP hD hS hl) (fun h9 => absurd h h9)
theorem x_icmp_le_f (C : xC p s m args meth c cc nL ret Ts own D cy A) {x y : Int32} {off : Int} (tgt : Nat) (hd : decode cc pc = .ok (.if_icmp .le off, 3)) (ht : (pc : Int) + off = (tgt : Int)) (hq : pc + 3 = q) (h : ¬ x ≤ y) (kf : xW p l e R s m args below meth c D A nL cells slots Q q X pl lv st) : xW p l e R s m args below meth c D A nL cells slots Q pc X pl lv (.int y :: .int x :: st) := by
  subst hq
  intro H locs ls hP hD hS hl
  exact lv_icmp_le C.1 C.2.1 hd ht (fun h9 => by first | exact absurd h9 h | exact absurd h h9) (fun _ => kf H locs ls hP hD hS hl)
theorem x_goto (C : xC p s m args meth c cc nL ret Ts own D cy A) {off : Int} (tgt : Nat) (hd : decode cc pc = .ok (.goto off, 3)) (ht : (pc : Int) + off = (tgt : Int)) (kk : xW p l e R s m args below meth c D A nL cells slots Q tgt X pl lv st) : xW p l e R s m args below meth c D A nL cells slots Q pc X pl lv st := by
  intro H locs ls hP hD hS hl
  exact lv_goto C.1 C.2.1 hd ht (kk H locs ls hP hD hS hl)
theorem x_ifnull_f (C : xC p s m args meth c cc nL ret Ts own D cy A) {x : Nat} {off : Int} (hd : decode cc pc = .ok (.ifnull off, 3)) (hq : pc + 3 = q) (kk : xW p l e R s m args below meth c D A nL cells slots Q q X pl lv st) : xW p l e R s m args below meth c D A nL cells slots Q pc X pl lv (.ref x :: st) := by
  subst hq
  intro H locs ls hP hD hS hl
  exact lv_ifnull C.1 C.2.1 hd (kk H locs ls hP hD hS hl)
theorem x_ifnull_t (C : xC p s m args meth c cc nL ret Ts own D cy A) {off : Int} (tgt : Nat) (hd : decode cc pc = .ok (.ifnull off, 3)) (ht : (pc : Int) + off = (tgt : Int)) (kk : xW p l e R s m args below meth c D A nL cells slots Q tgt X pl lv st) : xW p l e R s m args below meth c D A nL cells slots Q pc X pl lv (.null :: st) := by
  intro H locs ls hP hD hS hl
  exact lv_ifnullN C.1 C.2.1 hd ht (kk H locs ls hP hD hS hl)
theorem x_ifnonnull_t (C : xC p s m args meth c cc nL ret Ts own D cy A) {x : Nat} {off : Int} (tgt : Nat) (hd : decode cc pc = .ok (.ifnonnull off, 3)) (ht : (pc : Int) + off = (tgt : Int)) (kk : xW p l e R s m args below meth c D A nL cells slots Q tgt X pl lv st) : xW p l e R s m args below meth c D A nL cells slots Q pc X pl lv (.ref x :: st) := by
  intro H locs ls hP hD hS hl
  exact lv_ifnonnull C.1 C.2.1 hd ht (kk H locs ls hP hD hS hl)
theorem x_ifnonnull_f (C : xC p s m args meth c cc nL ret Ts own D cy A) {off : Int} (hd : decode cc pc = .ok (.ifnonnull off, 3)) (hq : pc + 3 = q) (kk : xW p l e R s m args below meth c D A nL cells slots Q q X pl lv st) : xW p l e R s m args below meth c D A nL cells slots Q pc X pl lv (.null :: st) := by
  subst hq
  intro H locs ls hP hD hS hl
  exact lv_ifnonnullN C.1 C.2.1 hd (kk H locs ls hP hD hS hl)
theorem x_topi {x : Int32} (k : ∀ y : Int32, y = x → xW p l e R s m args below meth c D A nL cells slots Q pc X pl lv (.int y :: st)) : xW p l e R s m args below meth c D A nL cells slots Q pc X pl lv (.int x :: st) := k x rfl
theorem x_top {x : Int32} (y : Int32) (h : x = y) (k : xW p l e R s m args below meth c D A nL cells slots Q pc X pl lv (.int y :: st)) : xW p l e R s m args below meth c D A nL cells slots Q pc X pl lv (.int x :: st) := h ▸ k
theorem x_less (ks : List Nat) (lv' : List (Nat × Value)) (h : lv_pick lv ks = lv') (k : xW p l e R s m args below meth c D A nL cells slots Q pc X pl lv' st) : xW p l e R s m args below meth c D A nL cells slots Q pc X pl lv st := fun H locs ls hP hD hS hl => k H locs ls hP hD hS (lv_sub hl ks h)
theorem x_ord (is : List Nat) (X' : va_W) (h : is.map (fun i => X[i]?) = X'.map some) (hn : va_nd is = true) (k : xW p l e R s m args below meth c D A nL cells slots Q pc X' pl lv st) : xW p l e R s m args below meth c D A nL cells slots Q pc X pl lv st := fun H locs ls hP hD hS hl => k H locs ls (hP.part is h) (hD.part is hn h) hS hl
theorem x_world {pl' : va_W} (h : X ++ pl = X' ++ pl') (k : xW p l e R s m args below meth c D A nL cells slots Q pc X' pl' lv st) : xW p l e R s m args below meth c D A nL cells slots Q pc X pl lv st := fun H locs ls hP hD hS hl => k H locs ls (h ▸ hP) (h ▸ hD) hS hl
theorem x_wide {k n : Nat} (h1 : cells ≤ k) (h2 : slots ≤ n) (kk : xW p l e R s m args below meth c D A nL k n Q pc X pl lv st) : xW p l e R s m args below meth c D A nL cells slots Q pc X pl lv st := fun H locs ls hP hD hS hl => W.widen h1 h2 (kk H locs ls hP hD hS hl)
theorem x_forget (hA : ∀ q, A q → s.heap.size ≤ q) (kk : ∀ (H : Heap) (ls : Array Slot), va_P D vwCl (X ++ pl) H → va_D A (X ++ pl) → va_S A s.heap H [] → lv_has ls nL lv → W p l e R s m args below meth c H [] cells slots Q (F0 m pc ls st)) : xW p l e R s m args below meth c D A nL cells slots Q pc X pl lv st := fun H locs ls hP hD hS hl => va_forget (fun q hq => hA _ (hS.2.2 q hq)) (kk H ls hP hD ⟨hS.1, hS.2.1, fun _ h => absurd h List.not_mem_nil⟩ hl)
theorem x_get (C : xC p s m args meth c cc nL ret Ts own D cy A) {a : Nat} {C9 : String} {T : u_T} {N ci index : Nat}  (hin : ∀ w ∈ u_ws C9 T N, w ∈ Ts) (hc : vwCl[ci]? = some (C9, T, N)) (q0 k : Nat) {fs : List Value} (he : (X ++ pl)[q0]? = some (a, .inr (ci, fs))) (hk : k < N) (hs : (T k).1 = C9) (hlink : Cond.fieldLink own index C9 (T k).2.1 (T k).2.2.1 ∈ Ts) {v : Value} (hv : fs[k]? = some v) (hd : decode cc pc = .ok (.getfield index, 3)) (hq : pc + 3 = q) (kk : xW p l e R s m args below meth c D A nL cells slots Q q X pl lv (v :: st)) : xW p l e R s m args below meth c D A nL cells slots Q pc X pl lv (.ref a :: st) := by
  subst hq
  intro H locs ls hP hD hS hl
  exact va_get C.1 C.2.1 C.2.2.2.2.2.1 hin C.2.2.2.2.1 C.2.2.2.2.2.2.1.1 hP q0 he hc k hk (C.2.2.2.2.2.1 _ hlink) (fun x h => by rw [hs] at h; exact h) hv hd (kk H locs ls hP hD hS hl)
theorem x_getN (C : xC p s m args meth c cc nL ret Ts own D cy A) {a : Nat} {C9 : String} {T : u_T} {N ci index : Nat} {host : String} (hin : ∀ w ∈ u_ws C9 T N, w ∈ Ts) (hc : vwCl[ci]? = some (C9, T, N)) (q0 k : Nat) {fs : List Value} (he : (X ++ pl)[q0]? = some (a, .inr (ci, fs))) (hk : k < N) (hs : (T k).1 = C9) (hlink : Cond.fieldLinkNest own index C9 (T k).2.1 (T k).2.2.1 host ∈ xNest) {v : Value} (hv : fs[k]? = some v) (hd : decode cc pc = .ok (.getfield index, 3)) (hq : pc + 3 = q) (kk : xW p l e R s m args below meth c D A nL cells slots Q q X pl lv (v :: st)) : xW p l e R s m args below meth c D A nL cells slots Q pc X pl lv (.ref a :: st) := by
  subst hq
  intro H locs ls hP hD hS hl
  exact va_getN C.1 C.2.1 C.2.2.2.2.2.1 hin C.2.2.2.2.1 C.2.2.2.2.2.2.1.1 hP q0 he hc k hk (va_Nw.use rfl (C.2.2.2.2.2.2.1.2.1 _ hlink)) (fun x h => by rw [hs] at h; exact h) hv hd (kk H locs ls hP hD hS hl)
theorem x_put (C : xC p s m args meth c cc nL ret Ts own D cy A) {a : Nat} {C9 : String} {T : u_T} {N ci index : Nat}  (hin : ∀ w ∈ u_ws C9 T N, w ∈ Ts) (ty0 : Nat → FieldType) (hty : ∀ k, k < N → parseFieldDescriptor (T k).2.2.1 = some (ty0 k)) (hnm : ∀ a, a < N → ∀ b, b < N → a ≠ b → (T a).2.1 ≠ (T b).2.1) (hc : vwCl[ci]? = some (C9, T, N)) (q0 k : Nat) {fs : List Value} {v : Value} (X' : va_W) (he : X[q0]? = some (a, .inr (ci, fs))) (hX : X.set q0 (a, .inr (ci, fs.set k v)) = X') (hk : k < N) (hs : (T k).1 = C9) (hlink : Cond.fieldLink own index C9 (T k).2.1 (T k).2.2.1 ∈ Ts) (hfin : (T k).2.2.2 = false)  (ty : FieldType) (hdt : parseFieldDescriptor (T k).2.2.1 = some ty) (hnr : narrow ty v = v) (hfit : fits ty v = true) (hlen : k < fs.length) (hd : decode cc pc = .ok (.putfield index, 3)) (hq : pc + 3 = q) (kk : xW p l e R s m args below meth c D A nL cells slots Q q X' pl lv st) : xW p l e R s m args below meth c D A nL cells slots Q pc X pl lv (v :: .ref a :: st) := by
  subst hq
  subst hX
  intro H locs ls hP hD hS hl
  have hlt : q0 < X.length := (List.getElem?_eq_some_iff.mp he).1
  have he2 : (X ++ pl)[q0]? = some (a, .inr (ci, fs)) := by rw [List.getElem?_append_left hlt]; exact he
  have e9 : ∀ y, (X ++ pl).set q0 y = X.set q0 y ++ pl := fun y => List.set_append_left q0 y hlt
  refine va_put C.1 C.2.1 C.2.2.2.2.2.1 hin ty0 hty hnm C.2.2.2.2.1 C.2.2.2.2.2.2.1.1 hP hD hS q0 he2 hc k hk (C.2.2.2.2.2.1 _ hlink) (fun x h => by rw [hs] at h; exact h) hfin hdt hnr hfit hlen hd (fun H1 locs1 hP1 hD1 hS1 => ?_)
  rw [e9] at hP1 hD1
  exact kk H1 locs1 ls hP1 hD1 hS1 hl
theorem x_putF (C : xC p s m args meth c cc nL ret Ts own D cy A) {a : Nat} {C9 : String} {T : u_T} {N ci index : Nat}  (hin : ∀ w ∈ u_ws C9 T N, w ∈ Ts) (ty0 : Nat → FieldType) (hty : ∀ k, k < N → parseFieldDescriptor (T k).2.2.1 = some (ty0 k)) (hnm : ∀ a, a < N → ∀ b, b < N → a ≠ b → (T a).2.1 ≠ (T b).2.1) (hc : vwCl[ci]? = some (C9, T, N)) (q0 k : Nat) {fs : List Value} {v : Value} (X' : va_W) (he : X[q0]? = some (a, .inr (ci, fs))) (hX : X.set q0 (a, .inr (ci, fs.set k v)) = X') (hk : k < N) (hs : (T k).1 = C9) (hlink : Cond.fieldLink own index C9 (T k).2.1 (T k).2.2.1 ∈ Ts) (hfin : (T k).2.2.2 = true) (hin2 : meth.name = "<init>") (hdecl : (T k).1 = own) (ty : FieldType) (hdt : parseFieldDescriptor (T k).2.2.1 = some ty) (hnr : narrow ty v = v) (hfit : fits ty v = true) (hlen : k < fs.length) (hd : decode cc pc = .ok (.putfield index, 3)) (hq : pc + 3 = q) (kk : xW p l e R s m args below meth c D A nL cells slots Q q X' pl lv st) : xW p l e R s m args below meth c D A nL cells slots Q pc X pl lv (v :: .ref a :: st) := by
  subst hq
  subst hX
  intro H locs ls hP hD hS hl
  have hlt : q0 < X.length := (List.getElem?_eq_some_iff.mp he).1
  have he2 : (X ++ pl)[q0]? = some (a, .inr (ci, fs)) := by rw [List.getElem?_append_left hlt]; exact he
  have e9 : ∀ y, (X ++ pl).set q0 y = X.set q0 y ++ pl := fun y => List.set_append_left q0 y hlt
  refine va_putF C.1 C.2.1 C.2.2.2.2.2.1 hin ty0 hty hnm C.2.2.2.2.1 C.2.2.2.2.2.2.1.1 hP hD hS q0 he2 hc k hk (C.2.2.2.2.2.1 _ hlink) (fun x h => by rw [hs] at h; exact h) hfin hin2 hdecl hdt hnr hfit hlen hd (fun H1 locs1 hP1 hD1 hS1 => ?_)
  rw [e9] at hP1 hD1
  exact kk H1 locs1 ls hP1 hD1 hS1 hl
theorem x_putN (C : xC p s m args meth c cc nL ret Ts own D cy A) {a : Nat} {C9 : String} {T : u_T} {N ci index : Nat} {host : String} (hin : ∀ w ∈ u_ws C9 T N, w ∈ Ts) (ty0 : Nat → FieldType) (hty : ∀ k, k < N → parseFieldDescriptor (T k).2.2.1 = some (ty0 k)) (hnm : ∀ a, a < N → ∀ b, b < N → a ≠ b → (T a).2.1 ≠ (T b).2.1) (hc : vwCl[ci]? = some (C9, T, N)) (q0 k : Nat) {fs : List Value} {v : Value} (X' : va_W) (he : X[q0]? = some (a, .inr (ci, fs))) (hX : X.set q0 (a, .inr (ci, fs.set k v)) = X') (hk : k < N) (hs : (T k).1 = C9) (hlink : Cond.fieldLinkNest own index C9 (T k).2.1 (T k).2.2.1 host ∈ xNest) (hfin : (T k).2.2.2 = false)  (ty : FieldType) (hdt : parseFieldDescriptor (T k).2.2.1 = some ty) (hnr : narrow ty v = v) (hfit : fits ty v = true) (hlen : k < fs.length) (hd : decode cc pc = .ok (.putfield index, 3)) (hq : pc + 3 = q) (kk : xW p l e R s m args below meth c D A nL cells slots Q q X' pl lv st) : xW p l e R s m args below meth c D A nL cells slots Q pc X pl lv (v :: .ref a :: st) := by
  subst hq
  subst hX
  intro H locs ls hP hD hS hl
  have hlt : q0 < X.length := (List.getElem?_eq_some_iff.mp he).1
  have he2 : (X ++ pl)[q0]? = some (a, .inr (ci, fs)) := by rw [List.getElem?_append_left hlt]; exact he
  have e9 : ∀ y, (X ++ pl).set q0 y = X.set q0 y ++ pl := fun y => List.set_append_left q0 y hlt
  refine va_putN C.1 C.2.1 C.2.2.2.2.2.1 hin ty0 hty hnm C.2.2.2.2.1 C.2.2.2.2.2.2.1.1 hP hD hS q0 he2 hc k hk (va_Nw.use rfl (C.2.2.2.2.2.2.1.2.1 _ hlink)) (fun x h => by rw [hs] at h; exact h) hfin hdt hnr hfit hlen hd (fun H1 locs1 hP1 hD1 hS1 => ?_)
  rw [e9] at hP1 hD1
  exact kk H1 locs1 ls hP1 hD1 hS1 hl
theorem x_iald (C : xC p s m args meth c cc nL ret Ts own D cy A) {a n : Nat} {f : Nat → Int32} {i : Int32} (q0 : Nat) (v : Int32) (ha : (X ++ pl)[q0]? = some (a, .inl (cy.1, n, .inl f))) (hin : vp_in i n) (hv : f i.toNatClampNeg = v) (hd : decode cc pc = .ok (.iaload, 1)) (hq : pc + 1 = q) (kk : xW p l e R s m args below meth c D A nL cells slots Q q X pl lv (.int v :: st)) : xW p l e R s m args below meth c D A nL cells slots Q pc X pl lv (.int i :: .ref a :: st) := by
  subst hq
  subst hv
  intro H locs ls hP hD hS hl
  exact va_iald C.1 C.2.1 C.2.2.2.2.2.2.1.1 hP q0 0 ha rfl hin hd (kk H locs ls hP hD hS hl)
theorem x_ialdN (C : xC p s m args meth c cc nL ret Ts own D cy A) {a n : Nat} {f : Nat → Int32} (j : Nat) {i : Int32} (q0 : Nat) (v : Int32) (ha : (X ++ pl)[q0]? = some (a, .inl (cy.1, n, .inl f))) (hi : i = nI j) (hj : j < n) (hn : n < 2 ^ 31) (hv : f j = v) (hd : decode cc pc = .ok (.iaload, 1)) (hq : pc + 1 = q) (kk : xW p l e R s m args below meth c D A nL cells slots Q q X pl lv (.int v :: st)) : xW p l e R s m args below meth c D A nL cells slots Q pc X pl lv (.int i :: .ref a :: st) := by
  subst hi
  exact x_iald C q0 v ha (vp_in_nI hj hn) (by rw [nI_clamp (Nat.lt_trans hj hn)]; exact hv) hd hq kk
theorem x_zald (C : xC p s m args meth c cc nL ret Ts own D cy A) {a n : Nat} {f : Nat → Int32} {i : Int32} (q0 : Nat) (v : Int32) (ha : (X ++ pl)[q0]? = some (a, .inl (cy.2.1, n, .inl f))) (hin : vp_in i n) (hv : f i.toNatClampNeg = v) (hd : decode cc pc = .ok (.baload, 1)) (hq : pc + 1 = q) (kk : xW p l e R s m args below meth c D A nL cells slots Q q X pl lv (.int v :: st)) : xW p l e R s m args below meth c D A nL cells slots Q pc X pl lv (.int i :: .ref a :: st) := by
  subst hq
  subst hv
  intro H locs ls hP hD hS hl
  exact va_zald C.1 C.2.1 C.2.2.2.2.2.2.1.1 hP q0 1 ha rfl hin hd (kk H locs ls hP hD hS hl)
theorem x_zaldN (C : xC p s m args meth c cc nL ret Ts own D cy A) {a n : Nat} {f : Nat → Int32} (j : Nat) {i : Int32} (q0 : Nat) (v : Int32) (ha : (X ++ pl)[q0]? = some (a, .inl (cy.2.1, n, .inl f))) (hi : i = nI j) (hj : j < n) (hn : n < 2 ^ 31) (hv : f j = v) (hd : decode cc pc = .ok (.baload, 1)) (hq : pc + 1 = q) (kk : xW p l e R s m args below meth c D A nL cells slots Q q X pl lv (.int v :: st)) : xW p l e R s m args below meth c D A nL cells slots Q pc X pl lv (.int i :: .ref a :: st) := by
  subst hi
  exact x_zald C q0 v ha (vp_in_nI hj hn) (by rw [nI_clamp (Nat.lt_trans hj hn)]; exact hv) hd hq kk
theorem x_iast (C : xC p s m args meth c cc nL ret Ts own D cy A) {a n : Nat} {f : Nat → Int32} {i x : Int32} (q0 : Nat) (X' : va_W) (ha : X[q0]? = some (a, .inl (cy.1, n, .inl f))) (hin : vp_in i n) (hX : X.set q0 (a, .inl (cy.1, n, .inl (upd f i.toNatClampNeg x))) = X') (hd : decode cc pc = .ok (.iastore, 1)) (hq : pc + 1 = q) (kk : xW p l e R s m args below meth c D A nL cells slots Q q X' pl lv st) : xW p l e R s m args below meth c D A nL cells slots Q pc X pl lv (.int x :: .int i :: .ref a :: st) := by
  subst hq
  subst hX
  intro H locs ls hP hD hS hl
  have hlt : q0 < X.length := (List.getElem?_eq_some_iff.mp ha).1
  have he2 : (X ++ pl)[q0]? = some (a, .inl (cy.1, n, .inl f)) := by rw [List.getElem?_append_left hlt]; exact ha
  have e9 : ∀ y, (X ++ pl).set q0 y = X.set q0 y ++ pl := fun y => List.set_append_left q0 y hlt
  refine va_iast C.1 C.2.1 C.2.2.2.2.2.2.1.1 hP hD hS q0 0 he2 rfl hin hd (fun H1 locs1 hP1 hD1 hS1 => ?_)
  rw [e9] at hP1 hD1
  exact kk H1 locs1 ls hP1 hD1 hS1 hl
theorem x_iastN (C : xC p s m args meth c cc nL ret Ts own D cy A) {a n : Nat} {f : Nat → Int32} (j : Nat) {i x : Int32} (q0 : Nat) (f' : Nat → Int32) (X' : va_W) (ha : X[q0]? = some (a, .inl (cy.1, n, .inl f))) (hi : i = nI j) (hj : j < n) (hn : n < 2 ^ 31) (hf : upd f j x = f') (hX : X.set q0 (a, .inl (cy.1, n, .inl f')) = X') (hd : decode cc pc = .ok (.iastore, 1)) (hq : pc + 1 = q) (kk : xW p l e R s m args below meth c D A nL cells slots Q q X' pl lv st) : xW p l e R s m args below meth c D A nL cells slots Q pc X pl lv (.int x :: .int i :: .ref a :: st) := by
  subst hi
  subst hf
  exact x_iast C q0 X' ha (vp_in_nI hj hn) (by rw [nI_clamp (Nat.lt_trans hj hn)]; exact hX) hd hq kk
theorem x_zast (C : xC p s m args meth c cc nL ret Ts own D cy A) {a n : Nat} {f : Nat → Int32} {i x : Int32} (q0 : Nat) (X' : va_W) (ha : X[q0]? = some (a, .inl (cy.2.1, n, .inl f))) (hin : vp_in i n) (hX : X.set q0 (a, .inl (cy.2.1, n, .inl (upd f i.toNatClampNeg (vp_nar .boolean x)))) = X') (hd : decode cc pc = .ok (.bastore, 1)) (hq : pc + 1 = q) (kk : xW p l e R s m args below meth c D A nL cells slots Q q X' pl lv st) : xW p l e R s m args below meth c D A nL cells slots Q pc X pl lv (.int x :: .int i :: .ref a :: st) := by
  subst hq
  subst hX
  intro H locs ls hP hD hS hl
  have hlt : q0 < X.length := (List.getElem?_eq_some_iff.mp ha).1
  have he2 : (X ++ pl)[q0]? = some (a, .inl (cy.2.1, n, .inl f)) := by rw [List.getElem?_append_left hlt]; exact ha
  have e9 : ∀ y, (X ++ pl).set q0 y = X.set q0 y ++ pl := fun y => List.set_append_left q0 y hlt
  refine va_zast C.1 C.2.1 C.2.2.2.2.2.2.1.1 hP hD hS q0 1 he2 rfl hin hd (fun H1 locs1 hP1 hD1 hS1 => ?_)
  rw [e9] at hP1 hD1
  exact kk H1 locs1 ls hP1 hD1 hS1 hl
theorem x_zastN (C : xC p s m args meth c cc nL ret Ts own D cy A) {a n : Nat} {f : Nat → Int32} (j : Nat) {i x : Int32} (q0 : Nat) (f' : Nat → Int32) (X' : va_W) (ha : X[q0]? = some (a, .inl (cy.2.1, n, .inl f))) (hi : i = nI j) (hj : j < n) (hn : n < 2 ^ 31) (hf : upd f j (vp_nar .boolean x) = f') (hX : X.set q0 (a, .inl (cy.2.1, n, .inl f')) = X') (hd : decode cc pc = .ok (.bastore, 1)) (hq : pc + 1 = q) (kk : xW p l e R s m args below meth c D A nL cells slots Q q X' pl lv st) : xW p l e R s m args below meth c D A nL cells slots Q pc X pl lv (.int x :: .int i :: .ref a :: st) := by
  subst hi
  subst hf
  exact x_zast C q0 X' ha (vp_in_nI hj hn) (by rw [nI_clamp (Nat.lt_trans hj hn)]; exact hX) hd hq kk
theorem x_vret (C : xC p s m args meth c cc nL ret Ts own D cy A) {post : va_W → Prop} {mc ms : Nat}  (hr : ret = none) (hw : post (X ++ pl)) (hd : decode cc pc = .ok (.return_, 1)) (hmc : cells ≤ mc) (hms : slots ≤ ms) : xW p l e R s m args below meth c D A nL cells slots (MQ below (va_Qv post (xB D A) A) args s mc ms A) pc X pl lv ([]) := by
  intro H locs ls hP hD hS hl
  refine W.widen hmc hms ?_
  exact W.vret C.1 C.2.1 (C.2.2.2.1.trans hr) (fun t ht hW => ⟨⟨(X ++ pl), rfl, hw, by rw [ht]; exact hP, hD⟩, hS.F ht⟩) hS.2.2 hd C.2.2.2.2.2.2.2.2
theorem x_iret (C : xC p s m args meth c cc nL ret Ts own D cy A) {post : Int32 → va_W → Prop} {v : Int32} {mc ms : Nat}  (ty : FieldType) (hr : ret = some ty) (hnr : narrow ty (.int v) = .int v) (hw : post v (X ++ pl)) (hd : decode cc pc = .ok (.ireturn, 1)) (hmc : cells ≤ mc) (hms : slots ≤ ms) : xW p l e R s m args below meth c D A nL cells slots (MQ below (va_Qi post (xB D A) A) args s mc ms A) pc X pl lv ([.int v]) := by
  intro H locs ls hP hD hS hl
  refine W.widen hmc hms ?_
  exact W.zret C.1 C.2.1 (C.2.2.2.1.trans hr) hnr (fun t ht hW => ⟨⟨v, (X ++ pl), rfl, hw, by rw [ht]; exact hP, hD⟩, hS.F ht⟩) hS.2.2 hd C.2.2.2.2.2.2.2.2
theorem x_qret (C : xC p s m args meth c cc nL ret Ts own D cy A) {post : Option Nat → va_W → Prop} {v : Value} {mc ms : Nat}  (cn : String) (hr : ret = some (.object cn)) (r : Option Nat) (hv : v = va_rf r) (hw : post r (X ++ pl)) (hd : decode cc pc = .ok (.areturn, 1)) (hmc : cells ≤ mc) (hms : slots ≤ ms) : xW p l e R s m args below meth c D A nL cells slots (MQ below (va_Qq post (xB D A) A) args s mc ms A) pc X pl lv ([v]) := by
  intro H locs ls hP hD hS hl
  refine W.widen hmc hms ?_
  exact W.aret C.1 C.2.1 (C.2.2.2.1.trans hr) (Or.inl ⟨cn, rfl⟩) (by subst hv; cases r with | none => exact Or.inl rfl | some z => exact Or.inr ⟨z, rfl⟩) (fun t ht hW => ⟨⟨r, (X ++ pl), by rw [hv], hw, by rw [ht]; exact hP, hD⟩, hS.F ht⟩) hS.2.2 hd C.2.2.2.2.2.2.2.2
theorem x_vretX (C : xC p s m args meth c cc nL ret Ts own D cy A) {post : va_W → Prop} {mc ms : Nat} {XC : String → State → State → Prop} (hr : ret = none) (hw : post (X ++ pl)) (hd : decode cc pc = .ok (.return_, 1)) (hmc : cells ≤ mc) (hms : slots ≤ ms) : xW p l e R s m args below meth c D A nL cells slots (vx_MQ below (va_Qv post (xB D A) A) XC args s mc ms A) pc X pl lv ([]) := by
  intro H locs ls hP hD hS hl
  refine vx_ret <| W.widen hmc hms ?_
  exact W.vret C.1 C.2.1 (C.2.2.2.1.trans hr) (fun t ht hW => ⟨⟨(X ++ pl), rfl, hw, by rw [ht]; exact hP, hD⟩, hS.F ht⟩) hS.2.2 hd C.2.2.2.2.2.2.2.2
theorem x_iretX (C : xC p s m args meth c cc nL ret Ts own D cy A) {post : Int32 → va_W → Prop} {v : Int32} {mc ms : Nat} {XC : String → State → State → Prop} (ty : FieldType) (hr : ret = some ty) (hnr : narrow ty (.int v) = .int v) (hw : post v (X ++ pl)) (hd : decode cc pc = .ok (.ireturn, 1)) (hmc : cells ≤ mc) (hms : slots ≤ ms) : xW p l e R s m args below meth c D A nL cells slots (vx_MQ below (va_Qi post (xB D A) A) XC args s mc ms A) pc X pl lv ([.int v]) := by
  intro H locs ls hP hD hS hl
  refine vx_ret <| W.widen hmc hms ?_
  exact W.zret C.1 C.2.1 (C.2.2.2.1.trans hr) hnr (fun t ht hW => ⟨⟨v, (X ++ pl), rfl, hw, by rw [ht]; exact hP, hD⟩, hS.F ht⟩) hS.2.2 hd C.2.2.2.2.2.2.2.2
theorem x_vretT (C : xC p s m args meth c cc nL ret Ts own D cy A) {post : va_W × va_W → Prop} {mc ms : Nat}  (hr : ret = none) (hw : post (X, pl)) (hd : decode cc pc = .ok (.return_, 1)) (hmc : cells ≤ mc) (hms : slots ≤ ms) : xW p l e R s m args below meth c D A nL cells slots (MQ below (va_Qv post (xB2 D A) A) args s mc ms A) pc X pl lv ([]) := by
  intro H locs ls hP hD hS hl
  refine W.widen hmc hms ?_
  exact W.vret C.1 C.2.1 (C.2.2.2.1.trans hr) (fun t ht hW => ⟨⟨(X, pl), rfl, hw, by rw [ht]; exact hP, hD⟩, hS.F ht⟩) hS.2.2 hd C.2.2.2.2.2.2.2.2
theorem x_iretT (C : xC p s m args meth c cc nL ret Ts own D cy A) {post : Int32 → va_W × va_W → Prop} {v : Int32} {mc ms : Nat}  (ty : FieldType) (hr : ret = some ty) (hnr : narrow ty (.int v) = .int v) (hw : post v (X, pl)) (hd : decode cc pc = .ok (.ireturn, 1)) (hmc : cells ≤ mc) (hms : slots ≤ ms) : xW p l e R s m args below meth c D A nL cells slots (MQ below (va_Qi post (xB2 D A) A) args s mc ms A) pc X pl lv ([.int v]) := by
  intro H locs ls hP hD hS hl
  refine W.widen hmc hms ?_
  exact W.zret C.1 C.2.1 (C.2.2.2.1.trans hr) hnr (fun t ht hW => ⟨⟨v, (X, pl), rfl, hw, by rw [ht]; exact hP, hD⟩, hS.F ht⟩) hS.2.2 hd C.2.2.2.2.2.2.2.2
theorem x_qretT (C : xC p s m args meth c cc nL ret Ts own D cy A) {post : Option Nat → va_W × va_W → Prop} {v : Value} {mc ms : Nat}  (cn : String) (hr : ret = some (.object cn)) (r : Option Nat) (hv : v = va_rf r) (hw : post r (X, pl)) (hd : decode cc pc = .ok (.areturn, 1)) (hmc : cells ≤ mc) (hms : slots ≤ ms) : xW p l e R s m args below meth c D A nL cells slots (MQ below (va_Qq post (xB2 D A) A) args s mc ms A) pc X pl lv ([v]) := by
  intro H locs ls hP hD hS hl
  refine W.widen hmc hms ?_
  exact W.aret C.1 C.2.1 (C.2.2.2.1.trans hr) (Or.inl ⟨cn, rfl⟩) (by subst hv; cases r with | none => exact Or.inl rfl | some z => exact Or.inr ⟨z, rfl⟩) (fun t ht hW => ⟨⟨r, (X, pl), by rw [hv], hw, by rw [ht]; exact hP, hD⟩, hS.F ht⟩) hS.2.2 hd C.2.2.2.2.2.2.2.2
theorem x_vretTX (C : xC p s m args meth c cc nL ret Ts own D cy A) {post : va_W × va_W → Prop} {mc ms : Nat} {XC : String → State → State → Prop} (hr : ret = none) (hw : post (X, pl)) (hd : decode cc pc = .ok (.return_, 1)) (hmc : cells ≤ mc) (hms : slots ≤ ms) : xW p l e R s m args below meth c D A nL cells slots (vx_MQ below (va_Qv post (xB2 D A) A) XC args s mc ms A) pc X pl lv ([]) := by
  intro H locs ls hP hD hS hl
  refine vx_ret <| W.widen hmc hms ?_
  exact W.vret C.1 C.2.1 (C.2.2.2.1.trans hr) (fun t ht hW => ⟨⟨(X, pl), rfl, hw, by rw [ht]; exact hP, hD⟩, hS.F ht⟩) hS.2.2 hd C.2.2.2.2.2.2.2.2
theorem x_iretTX (C : xC p s m args meth c cc nL ret Ts own D cy A) {post : Int32 → va_W × va_W → Prop} {v : Int32} {mc ms : Nat} {XC : String → State → State → Prop} (ty : FieldType) (hr : ret = some ty) (hnr : narrow ty (.int v) = .int v) (hw : post v (X, pl)) (hd : decode cc pc = .ok (.ireturn, 1)) (hmc : cells ≤ mc) (hms : slots ≤ ms) : xW p l e R s m args below meth c D A nL cells slots (vx_MQ below (va_Qi post (xB2 D A) A) XC args s mc ms A) pc X pl lv ([.int v]) := by
  intro H locs ls hP hD hS hl
  refine vx_ret <| W.widen hmc hms ?_
  exact W.zret C.1 C.2.1 (C.2.2.2.1.trans hr) hnr (fun t ht hW => ⟨⟨v, (X, pl), rfl, hw, by rw [ht]; exact hP, hD⟩, hS.F ht⟩) hS.2.2 hd C.2.2.2.2.2.2.2.2
end XF
end
section
/-! contracts over worlds: from the world w0 a method comes to a world that 'post' names (one list, or a list and a tail); bodies, calls, throws, catches -/
theorem xLeftP {D : va_G} {cl : List vw_C} {a b : va_W} {H : Heap} (h : va_P D cl (a ++ b) H) : va_P D cl a H := fun k q hk => h k q (by rw [List.getElem?_append_left (List.getElem?_eq_some_iff.mp hk).1]; exact hk)
theorem xLeftD {A : Nat → Prop} {a b : va_W} (h : va_D A (a ++ b)) : va_D A a :=
  ⟨fun i j p q hi hj e => h.1 i j p q (by rw [List.getElem?_append_left (List.getElem?_eq_some_iff.mp hi).1]; exact hi) (by rw [List.getElem?_append_left (List.getElem?_eq_some_iff.mp hj).1]; exact hj) e, fun k q hk => h.2 k q (by rw [List.getElem?_append_left (List.getElem?_eq_some_iff.mp hk).1]; exact hk)⟩
abbrev xQi (D : va_G) (post : Int32 → va_W → Prop) (A : Nat → Prop) : Array Value → State → Outcome → State → Prop := va_Qi post (xB D A) A
abbrev xQv (D : va_G) (post : va_W → Prop) (A : Nat → Prop) : Array Value → State → Outcome → State → Prop := va_Qv post (xB D A) A
abbrev xQq (D : va_G) (post : Option Nat → va_W → Prop) (A : Nat → Prop) : Array Value → State → Outcome → State → Prop := va_Qq post (xB D A) A
abbrev xQi2 (D : va_G) (post : Int32 → va_W × va_W → Prop) (A : Nat → Prop) : Array Value → State → Outcome → State → Prop := va_Qi post (xB2 D A) A
abbrev xQv2 (D : va_G) (post : va_W × va_W → Prop) (A : Nat → Prop) : Array Value → State → Outcome → State → Prop := va_Qv post (xB2 D A) A
abbrev xQq2 (D : va_G) (post : Option Nat → va_W × va_W → Prop) (A : Nat → Prop) : Array Value → State → Outcome → State → Prop := va_Qq post (xB2 D A) A
/-- where a method throws: an exception that 'px' names, the world as it was -/
abbrev xXC (D : va_G) (w0 : va_W) (px : String → Prop) (A : Nat → Prop) : String → State → State → Prop := vx_X px (fun E u t => E = u ∧ va_P D vwCl w0 t.heap ∧ va_D A w0) A
def xM (b : Bool) (l : Launch) (y : MethodName) (ws : List Cond) (rm : Room) (D : va_G) (cy : ClassId × ClassId × ClassId) (av : List Value) (w0 : va_W) (Qc : (Nat → Prop) → Array Value → State → Outcome → State → Prop) (mc ms : Nat) : Prop := ∀ sz : Nat, Met l y ws rm (xPc b D cy av w0 sz) (Qc (va_A w0 sz)) mc ms (va_A w0 sz)
def xX (b : Bool) (l : Launch) (y : MethodName) (ws : List Cond) (rm : Room) (D : va_G) (cy : ClassId × ClassId × ClassId) (av : List Value) (w0 : va_W) (Qc : (Nat → Prop) → Array Value → State → Outcome → State → Prop) (px : String → Prop) (mc ms : Nat) : Prop := ∀ sz : Nat, vx_Met l y ws rm (xPc b D cy av w0 sz) (Qc (va_A w0 sz)) (xXC D w0 px (va_A w0 sz)) mc ms (va_A w0 sz)

theorem xM_of {b : Bool} {l : Launch} {y : MethodName} {ws ws' : List Cond} {rm : Room} {D : va_G} {cy : ClassId × ClassId × ClassId} {av : List Value} {w0 X pl : va_W} {Qc : (Nat → Prop) → Array Value → State → Outcome → State → Prop}  {mc ms nL : Nat} {cc : ByteArray} {ret : Option FieldType}  (own : String) (lv : List (Nat × Value)) (hy : plainName y.cls = true) (hw : ws = Cond.code y cc nL ret :: ws') (hown : y.cls = own) (hlv : lv_args 0 av = lv) (hlen : (lg_sl av).length ≤ nL) (hX : w0 = X ++ pl)
    (body : ∀ (p : Program) (e : Env) (s : State) (m : MethodId) (args : Array Value) (below : List Frame) (meth : Method) (c : Code) (A : Nat → Prop), xC p s m args meth c cc nL ret ws own D cy A → meth.name = y.name → True → (b = true → xZ A s s.heap) → xW p l e rm s m args below meth c D A nL 0 0 (MQ below (Qc A) args s mc ms A) 0 X pl lv []) : xM b l y ws rm D cy av w0 Qc  mc ms := by
  intro sz
  refine Met.ofW (cc := cc) (maxL := nL) (ret := ret)  hy hw ?_
  intro p e s m args below meth c s₁ B hml  hv
  obtain ⟨rfl, hsz, hP, hK, hD0, hZ⟩ := hv
  subst hsz
  subst hX
  have hts := atoms_spec (ws := ws) B.pre
  have hown' : s.vm.findClass own = some m.cls := hown ▸ findClass_of_methodNamed B.named
  have hl := lv_entry av hlen
  rw [lg_entry_eq]
  rw [hlv] at hl
  exact body p e s m _ below meth c _ ⟨B.exec, B.bytes, hml, B.returns, hown', hts, hK, fun q h => Or.inr h, B.notSynchronized⟩ (name_of_methodNamed B.named B.method).1 trivial hZ s.heap [] _ hP hD0.self va_S.rf hl

theorem xMH_of {b : Bool} {l : Launch} {y : MethodName} {ws ws' : List Cond} {rm : Room} {D : va_G} {cy : ClassId × ClassId × ClassId} {av : List Value} {w0 X pl : va_W} {Qc : (Nat → Prop) → Array Value → State → Outcome → State → Prop}  {mc ms nL : Nat} {cc : ByteArray} {ret : Option FieldType} (hh : List (Nat × Nat × Nat × Nat)) (own : String) (lv : List (Nat × Value)) (hy : plainName y.cls = true) (hw : ws = Cond.codeWith y cc nL ret hh :: ws') (hown : y.cls = own) (hlv : lv_args 0 av = lv) (hlen : (lg_sl av).length ≤ nL) (hX : w0 = X ++ pl)
    (body : ∀ (p : Program) (e : Env) (s : State) (m : MethodId) (args : Array Value) (below : List Frame) (meth : Method) (c : Code) (A : Nat → Prop), xC p s m args meth c cc nL ret ws own D cy A → meth.name = y.name → c.exceptionTable.toList = tableOf hh → (b = true → xZ A s s.heap) → xW p l e rm s m args below meth c D A nL 0 0 (MQ below (Qc A) args s mc ms A) 0 X pl lv []) : xM b l y ws rm D cy av w0 Qc  mc ms := by
  intro sz
  refine va_MetW (cc := cc) (maxL := nL) (ret := ret) (hh := hh) hy hw ?_
  intro p e s m args below meth c s₁ B hml  hv
  obtain ⟨rfl, hsz, hP, hK, hD0, hZ⟩ := hv
  subst hsz
  subst hX
  have hts := atoms_spec (ws := ws) B.pre
  have hown' : s.vm.findClass own = some m.cls := hown ▸ findClass_of_methodNamed B.named
  have hl := lv_entry av hlen
  rw [lg_entry_eq]
  rw [hlv] at hl
  exact body p e s m _ below meth c _ ⟨B.exec, B.bytes, hml, B.returns, hown', hts, hK, fun q h => Or.inr h, B.notSynchronized⟩ (name_of_methodNamed B.named B.method).1 (vx_table (x := y) B (hts _ (by rw [hw]; exact List.mem_cons_self))) hZ s.heap [] _ hP hD0.self va_S.rf hl

theorem xX_of {b : Bool} {l : Launch} {y : MethodName} {ws ws' : List Cond} {rm : Room} {D : va_G} {cy : ClassId × ClassId × ClassId} {av : List Value} {w0 X pl : va_W} {Qc : (Nat → Prop) → Array Value → State → Outcome → State → Prop} {px : String → Prop} {mc ms nL : Nat} {cc : ByteArray} {ret : Option FieldType}  (own : String) (lv : List (Nat × Value)) (hy : plainName y.cls = true) (hw : ws = Cond.code y cc nL ret :: ws') (hown : y.cls = own) (hlv : lv_args 0 av = lv) (hlen : (lg_sl av).length ≤ nL) (hX : w0 = X ++ pl)
    (body : ∀ (p : Program) (e : Env) (s : State) (m : MethodId) (args : Array Value) (below : List Frame) (meth : Method) (c : Code) (A : Nat → Prop), xC p s m args meth c cc nL ret ws own D cy A → meth.name = y.name → (∀ x ∈ c.exceptionTable.toList, False) → (b = true → xZ A s s.heap) → xW p l e rm s m args below meth c D A nL 0 0 (vx_MQ below (Qc A) (xXC D w0 px A) args s mc ms A) 0 X pl lv []) : xX b l y ws rm D cy av w0 Qc px mc ms := by
  intro sz
  refine vx_ofW (cc := cc) (maxL := nL) (ret := ret)  hy hw ?_
  intro p e s m args below meth c s₁ B hml ht hv
  obtain ⟨rfl, hsz, hP, hK, hD0, hZ⟩ := hv
  subst hsz
  subst hX
  have hts := atoms_spec (ws := ws) B.pre
  have hown' : s.vm.findClass own = some m.cls := hown ▸ findClass_of_methodNamed B.named
  have hl := lv_entry av hlen
  rw [lg_entry_eq]
  rw [hlv] at hl
  exact body p e s m _ below meth c _ ⟨B.exec, B.bytes, hml, B.returns, hown', hts, hK, fun q h => Or.inr h, B.notSynchronized⟩ (name_of_methodNamed B.named B.method).1 ht hZ s.heap [] _ hP hD0.self va_S.rf hl

section XG
variable {p : Program} {l : Launch} {e : Env} {R : Room} {s : State} {m : MethodId} {args : Array Value} {below : List Frame} {meth : Method} {c : Code} {cc : ByteArray} {nL : Nat} {ret : Option FieldType} {Ts : List Cond} {own : String} {D : va_G} {cy : ClassId × ClassId × ClassId} {A : Nat → Prop} {cells slots : Nat} {Q : State → Prop} {X X' pl : va_W} {lv lv' : List (Nat × Value)} {st : List Value} {pc q : Nat}

/-- a throwing state -/
def xV (p : Program) (l : Launch) (e : Env) (R : Room) (s : State) (m : MethodId) (args : Array Value) (below : List Frame) (meth : Method) (c : Code) (D : va_G) (A : Nat → Prop) (nL cells slots : Nat) (Q : State → Prop) (E : String) (pc : Nat) (X pl : va_W) (lv : List (Nat × Value)) (st : List Value) : Prop :=
  ∀ (H : Heap) (locs : List Loc) (ls : Array Slot) (q9 : Addr) (ce : Cell), va_P D vwCl (X ++ pl) H → va_D A (X ++ pl) → va_S A s.heap H locs → lv_has ls nL lv → H[q9]? = some ce → ce.vm = .none → s.vm.findClass E = some ce.cls → vx_W p l e R s m args below meth c H locs cells slots Q (F0 m pc ls st) q9
theorem xKeepG {D : va_G} {ws wc : va_W} {H H1 : Heap} (hP : va_P D vwCl ws H) (hin : ∀ (a : Nat), (∃ (k : Nat) (e : va_E), wc[k]? = some (a, e)) → ∀ (i : Nat) (q : Nat × va_E), ws[i]? = some q → q.1 = a → ∃ k : Nat, wc[k]? = some q) (hk : ∀ q : Nat, q < H.size → ¬ va_A wc H.size q → H1[q]? = H[q]?) (hP1 : va_P D vwCl wc H1) : va_P D vwCl ws H1 := by
  intro i q hq
  by_cases hA : ∃ (k : Nat) (e : va_E), wc[k]? = some (q.1, e)
  · obtain ⟨k, hk2⟩ := hin q.1 hA i q hq rfl
    exact hP1 k q hk2
  · have hlt := (hP i q hq).lt
    refine (hP i q hq).kept (hk q.1 hlt (fun h => ?_))
    rcases h with h | h
    · exact hA h
    · omega

theorem xKeepP {D : va_G} {A : Nat → Prop} {X pl cx : va_W} {H H1 : Heap} (isC : List Nat) (hC : isC.map (fun i => X[i]?) = cx.map some) (hP : va_P D vwCl (X ++ pl) H) (hD : va_D A (X ++ pl)) (hk : ∀ q : Nat, q < H.size → ¬ va_A cx H.size q → H1[q]? = H[q]?) (hP1 : va_P D vwCl cx H1) : va_P D vwCl (X ++ pl) H1 := by
  refine xKeepG hP (fun a h i q hq ha => ?_) hk hP1
  obtain ⟨k, e, hk2⟩ := h
  obtain ⟨j, hj, hXj⟩ := va_in_of isC hC hk2
  have hXj2 : (X ++ pl)[j]? = some (a, e) := by rw [List.getElem?_append_left (List.getElem?_eq_some_iff.mp hXj).1]; exact hXj
  have hij := hD.1 i j q (a, e) hq hXj2 ha
  subst hij
  have : q = (a, e) := Option.some.inj (hq.symm.trans hXj2)
  subst this
  exact ⟨k, hk2⟩
theorem xKeepT {D : va_G} {A : Nat → Prop} {X pl cx : va_W} {H H1 : Heap} (isC : List Nat) (hC : isC.map (fun i => X[i]?) = cx.map some) (hP : va_P D vwCl (X ++ pl) H) (hD : va_D A (X ++ pl)) (hk : ∀ q : Nat, q < H.size → ¬ va_A (cx ++ pl) H.size q → H1[q]? = H[q]?) (hP1 : va_P D vwCl (cx ++ pl) H1) : va_P D vwCl (X ++ pl) H1 := by
  refine xKeepG hP (fun a h i q hq ha => ?_) hk hP1
  obtain ⟨k, e, hk2⟩ := h
  have hXj2 := va_part isC hC k (a, e) hk2
  have hij := hD.1 i _ q (a, e) hq hXj2 ha
  have : q = (a, e) := by rw [hij] at hq; exact Option.some.inj (hq.symm.trans hXj2)
  subst this
  exact ⟨k, hk2⟩

theorem x_CiP (C : xC p s m args meth c cc nL ret Ts own D cy A) (isC isR : List Nat) {cx wr : va_W} {post : Int32 → va_W → Prop} {mc ms k n : Nat} {a : Array Value} {st0 : List Value} 
    (hC : isC.map (fun i => X[i]?) = cx.map some) (hR : isR.map (fun i => X[i]?) = wr.map some) (hn : va_nd isR = true) (hnC : va_nd isC = true) (hdis : ∀ i ∈ isR, i ∉ isC)
    (hr : ∀ (H : Heap) (locs : List Loc) (ls : Array Slot), va_P D vwCl (X ++ pl) H → va_P D vwCl (cx) H → va_D (fun _ => True) (cx) → va_S A s.heap H locs → (∀ q, va_A (cx) H.size q → A q) → ls.size = nL → va_Run p l e R s m args below meth c H locs cells slots mc ms (F0 m pc ls st0) st (va_Qi post (xB D (va_A (cx) H.size)) (va_A (cx) H.size) a) (va_A (cx) H.size))
    (hc : cells + mc = k) (hs : slots + ms = n) (hq : pc + 3 = q) (kk : ∀ (r : Int32) (w1 : va_W), post r  w1 → xW p l e R s m args below meth c D A nL k n Q q (wr ++ w1) pl lv (.int r :: st)) : xW p l e R s m args below meth c D A nL cells slots Q pc X pl lv st0 := by
  subst hc
  subst hs
  subst hq
  intro H locs ls hP hD hS hl
  have hA := C.2.2.2.2.2.2.2.1
  have hPc : va_P D vwCl cx H := xLeftP (hP.part isC hC)
  have hDc : va_D (fun _ => True) cx := (xLeftD (hD.part isC hnC hC)).weaken (fun _ _ _ _ => trivial)
  have hFc := va_free (xLeftD hD) hS hA isC hC
  refine va_calli (hr H locs ls hP hPc hDc hS hFc hl.1) hS (fun q _ h => hFc q h) hFc (fun r u t H1 locs1 ht hvm hw hB hz1 hk1 hS1 => ?_)
  obtain ⟨hP1, hD1⟩ := hB
  rw [ht] at hP1
  obtain ⟨hP2, hD2⟩ := va_joinQ hP hD isC isR hC hR hn hdis hk1 hFc hP1 hD1
  exact kk r u hw H1 locs1 ls hP2 hD2 hS1 hl
theorem x_CvP (C : xC p s m args meth c cc nL ret Ts own D cy A) (isC isR : List Nat) {cx wr : va_W} {post : va_W → Prop} {mc ms k n : Nat} {a : Array Value} {st0 : List Value} 
    (hC : isC.map (fun i => X[i]?) = cx.map some) (hR : isR.map (fun i => X[i]?) = wr.map some) (hn : va_nd isR = true) (hnC : va_nd isC = true) (hdis : ∀ i ∈ isR, i ∉ isC)
    (hr : ∀ (H : Heap) (locs : List Loc) (ls : Array Slot), va_P D vwCl (X ++ pl) H → va_P D vwCl (cx) H → va_D (fun _ => True) (cx) → va_S A s.heap H locs → (∀ q, va_A (cx) H.size q → A q) → ls.size = nL → va_Run p l e R s m args below meth c H locs cells slots mc ms (F0 m pc ls st0) st (va_Qv post (xB D (va_A (cx) H.size)) (va_A (cx) H.size) a) (va_A (cx) H.size))
    (hc : cells + mc = k) (hs : slots + ms = n) (hq : pc + 3 = q) (kk : ∀ (w1 : va_W), post  w1 → xW p l e R s m args below meth c D A nL k n Q q (wr ++ w1) pl lv st) : xW p l e R s m args below meth c D A nL cells slots Q pc X pl lv st0 := by
  subst hc
  subst hs
  subst hq
  intro H locs ls hP hD hS hl
  have hA := C.2.2.2.2.2.2.2.1
  have hPc : va_P D vwCl cx H := xLeftP (hP.part isC hC)
  have hDc : va_D (fun _ => True) cx := (xLeftD (hD.part isC hnC hC)).weaken (fun _ _ _ _ => trivial)
  have hFc := va_free (xLeftD hD) hS hA isC hC
  refine va_callv (hr H locs ls hP hPc hDc hS hFc hl.1) hS (fun q _ h => hFc q h) hFc (fun u t H1 locs1 ht hvm hw hB hz1 hk1 hS1 => ?_)
  obtain ⟨hP1, hD1⟩ := hB
  rw [ht] at hP1
  obtain ⟨hP2, hD2⟩ := va_joinQ hP hD isC isR hC hR hn hdis hk1 hFc hP1 hD1
  exact kk u hw H1 locs1 ls hP2 hD2 hS1 hl
theorem x_CqP (C : xC p s m args meth c cc nL ret Ts own D cy A) (isC isR : List Nat) {cx wr : va_W} {post : Option Nat → va_W → Prop} {mc ms k n : Nat} {a : Array Value} {st0 : List Value} 
    (hC : isC.map (fun i => X[i]?) = cx.map some) (hR : isR.map (fun i => X[i]?) = wr.map some) (hn : va_nd isR = true) (hnC : va_nd isC = true) (hdis : ∀ i ∈ isR, i ∉ isC)
    (hr : ∀ (H : Heap) (locs : List Loc) (ls : Array Slot), va_P D vwCl (X ++ pl) H → va_P D vwCl (cx) H → va_D (fun _ => True) (cx) → va_S A s.heap H locs → (∀ q, va_A (cx) H.size q → A q) → ls.size = nL → va_Run p l e R s m args below meth c H locs cells slots mc ms (F0 m pc ls st0) st (va_Qq post (xB D (va_A (cx) H.size)) (va_A (cx) H.size) a) (va_A (cx) H.size))
    (hc : cells + mc = k) (hs : slots + ms = n) (hq : pc + 3 = q) (kk : ∀ (r : Option Nat) (w1 : va_W), post r  w1 → xW p l e R s m args below meth c D A nL k n Q q (wr ++ w1) pl lv (va_rf r :: st)) : xW p l e R s m args below meth c D A nL cells slots Q pc X pl lv st0 := by
  subst hc
  subst hs
  subst hq
  intro H locs ls hP hD hS hl
  have hA := C.2.2.2.2.2.2.2.1
  have hPc : va_P D vwCl cx H := xLeftP (hP.part isC hC)
  have hDc : va_D (fun _ => True) cx := (xLeftD (hD.part isC hnC hC)).weaken (fun _ _ _ _ => trivial)
  have hFc := va_free (xLeftD hD) hS hA isC hC
  refine va_callq (hr H locs ls hP hPc hDc hS hFc hl.1) hS (fun q _ h => hFc q h) hFc (fun r u t H1 locs1 ht hvm hw hB hz1 hk1 hS1 => ?_)
  obtain ⟨hP1, hD1⟩ := hB
  rw [ht] at hP1
  obtain ⟨hP2, hD2⟩ := va_joinQ hP hD isC isR hC hR hn hdis hk1 hFc hP1 hD1
  exact kk r u hw H1 locs1 ls hP2 hD2 hS1 hl
theorem x_CiT (C : xC p s m args meth c cc nL ret Ts own D cy A) (isC isR : List Nat) {cx wr : va_W} {post : Int32 → va_W × va_W → Prop} {mc ms k n : Nat} {a : Array Value} {st0 : List Value} 
    (hC : isC.map (fun i => X[i]?) = cx.map some) (hR : isR.map (fun i => X[i]?) = wr.map some) (hn : va_nd isR = true) (hnC : va_nd isC = true) (hdis : ∀ i ∈ isR, i ∉ isC)
    (hr : ∀ (H : Heap) (locs : List Loc) (ls : Array Slot), va_P D vwCl (X ++ pl) H → va_P D vwCl (cx ++ pl) H → va_D (fun _ => True) (cx ++ pl) → va_S A s.heap H locs → (∀ q, va_A (cx ++ pl) H.size q → A q) → ls.size = nL → va_Run p l e R s m args below meth c H locs cells slots mc ms (F0 m pc ls st0) st (va_Qi post (xB2 D (va_A (cx ++ pl) H.size)) (va_A (cx ++ pl) H.size) a) (va_A (cx ++ pl) H.size))
    (hc : cells + mc = k) (hs : slots + ms = n) (hq : pc + 3 = q) (kk : ∀ (r : Int32) (x1 pl1 : va_W), post r (x1, pl1) → xW p l e R s m args below meth c D A nL k n Q q (wr ++ x1) pl1 lv (.int r :: st)) : xW p l e R s m args below meth c D A nL cells slots Q pc X pl lv st0 := by
  subst hc
  subst hs
  subst hq
  intro H locs ls hP hD hS hl
  have hA := C.2.2.2.2.2.2.2.1
  have hPc := hP.part isC hC
  have hDc : va_D (fun _ => True) (cx ++ pl) := (hD.part isC hnC hC).weaken (fun _ _ _ _ => trivial)
  have hFc := va_freeP hD hS hA isC hC
  refine va_calli (hr H locs ls hP hPc hDc hS hFc hl.1) hS (fun q _ h => hFc q h) hFc (fun r u t H1 locs1 ht hvm hw hB hz1 hk1 hS1 => ?_)
  obtain ⟨hP1, hD1⟩ := hB
  obtain ⟨x1, pl1⟩ := u
  rw [ht] at hP1
  obtain ⟨hP2, hD2⟩ := va_joinP hP hD isC isR hC hR hn hdis hk1 hFc hP1 hD1
  exact kk r x1 pl1 hw H1 locs1 ls hP2 hD2 hS1 hl
theorem x_CvT (C : xC p s m args meth c cc nL ret Ts own D cy A) (isC isR : List Nat) {cx wr : va_W} {post : va_W × va_W → Prop} {mc ms k n : Nat} {a : Array Value} {st0 : List Value} 
    (hC : isC.map (fun i => X[i]?) = cx.map some) (hR : isR.map (fun i => X[i]?) = wr.map some) (hn : va_nd isR = true) (hnC : va_nd isC = true) (hdis : ∀ i ∈ isR, i ∉ isC)
    (hr : ∀ (H : Heap) (locs : List Loc) (ls : Array Slot), va_P D vwCl (X ++ pl) H → va_P D vwCl (cx ++ pl) H → va_D (fun _ => True) (cx ++ pl) → va_S A s.heap H locs → (∀ q, va_A (cx ++ pl) H.size q → A q) → ls.size = nL → va_Run p l e R s m args below meth c H locs cells slots mc ms (F0 m pc ls st0) st (va_Qv post (xB2 D (va_A (cx ++ pl) H.size)) (va_A (cx ++ pl) H.size) a) (va_A (cx ++ pl) H.size))
    (hc : cells + mc = k) (hs : slots + ms = n) (hq : pc + 3 = q) (kk : ∀ (x1 pl1 : va_W), post (x1, pl1) → xW p l e R s m args below meth c D A nL k n Q q (wr ++ x1) pl1 lv st) : xW p l e R s m args below meth c D A nL cells slots Q pc X pl lv st0 := by
  subst hc
  subst hs
  subst hq
  intro H locs ls hP hD hS hl
  have hA := C.2.2.2.2.2.2.2.1
  have hPc := hP.part isC hC
  have hDc : va_D (fun _ => True) (cx ++ pl) := (hD.part isC hnC hC).weaken (fun _ _ _ _ => trivial)
  have hFc := va_freeP hD hS hA isC hC
  refine va_callv (hr H locs ls hP hPc hDc hS hFc hl.1) hS (fun q _ h => hFc q h) hFc (fun u t H1 locs1 ht hvm hw hB hz1 hk1 hS1 => ?_)
  obtain ⟨hP1, hD1⟩ := hB
  obtain ⟨x1, pl1⟩ := u
  rw [ht] at hP1
  obtain ⟨hP2, hD2⟩ := va_joinP hP hD isC isR hC hR hn hdis hk1 hFc hP1 hD1
  exact kk x1 pl1 hw H1 locs1 ls hP2 hD2 hS1 hl
theorem x_CqT (C : xC p s m args meth c cc nL ret Ts own D cy A) (isC isR : List Nat) {cx wr : va_W} {post : Option Nat → va_W × va_W → Prop} {mc ms k n : Nat} {a : Array Value} {st0 : List Value} 
    (hC : isC.map (fun i => X[i]?) = cx.map some) (hR : isR.map (fun i => X[i]?) = wr.map some) (hn : va_nd isR = true) (hnC : va_nd isC = true) (hdis : ∀ i ∈ isR, i ∉ isC)
    (hr : ∀ (H : Heap) (locs : List Loc) (ls : Array Slot), va_P D vwCl (X ++ pl) H → va_P D vwCl (cx ++ pl) H → va_D (fun _ => True) (cx ++ pl) → va_S A s.heap H locs → (∀ q, va_A (cx ++ pl) H.size q → A q) → ls.size = nL → va_Run p l e R s m args below meth c H locs cells slots mc ms (F0 m pc ls st0) st (va_Qq post (xB2 D (va_A (cx ++ pl) H.size)) (va_A (cx ++ pl) H.size) a) (va_A (cx ++ pl) H.size))
    (hc : cells + mc = k) (hs : slots + ms = n) (hq : pc + 3 = q) (kk : ∀ (r : Option Nat) (x1 pl1 : va_W), post r (x1, pl1) → xW p l e R s m args below meth c D A nL k n Q q (wr ++ x1) pl1 lv (va_rf r :: st)) : xW p l e R s m args below meth c D A nL cells slots Q pc X pl lv st0 := by
  subst hc
  subst hs
  subst hq
  intro H locs ls hP hD hS hl
  have hA := C.2.2.2.2.2.2.2.1
  have hPc := hP.part isC hC
  have hDc : va_D (fun _ => True) (cx ++ pl) := (hD.part isC hnC hC).weaken (fun _ _ _ _ => trivial)
  have hFc := va_freeP hD hS hA isC hC
  refine va_callq (hr H locs ls hP hPc hDc hS hFc hl.1) hS (fun q _ h => hFc q h) hFc (fun r u t H1 locs1 ht hvm hw hB hz1 hk1 hS1 => ?_)
  obtain ⟨hP1, hD1⟩ := hB
  obtain ⟨x1, pl1⟩ := u
  rw [ht] at hP1
  obtain ⟨hP2, hD2⟩ := va_joinP hP hD isC isR hC hR hn hdis hk1 hFc hP1 hD1
  exact kk r x1 pl1 hw H1 locs1 ls hP2 hD2 hS1 hl
theorem x_XvP (C : xC p s m args meth c cc nL ret Ts own D cy A) (isC isR : List Nat) {cx wr : va_W} {post : va_W → Prop} {mc ms k n : Nat} {a : Array Value} {st0 : List Value} {px : String → Prop}
    (hC : isC.map (fun i => X[i]?) = cx.map some) (hR : isR.map (fun i => X[i]?) = wr.map some) (hn : va_nd isR = true) (hnC : va_nd isC = true) (hdis : ∀ i ∈ isR, i ∉ isC)
    (hr : ∀ (H : Heap) (locs : List Loc) (ls : Array Slot), va_P D vwCl (X ++ pl) H → va_P D vwCl (cx) H → va_D (fun _ => True) (cx) → va_S A s.heap H locs → (∀ q, va_A (cx) H.size q → A q) → ls.size = nL → vx_Run p l e R s m args below meth c H locs cells slots mc ms (F0 m pc ls st0) st (va_Qv post (xB D (va_A (cx) H.size)) (va_A (cx) H.size) a) (xXC D (cx) px (va_A (cx) H.size)) (va_A (cx) H.size))
    (hc : cells + mc = k) (hs : slots + ms = n) (hq : pc + 3 = q) (kx : ∀ E : String, px E → xV p l e R s m args below meth c D A nL k n Q E pc X pl lv st) (kk : ∀ (w1 : va_W), post  w1 → xW p l e R s m args below meth c D A nL k n Q q (wr ++ w1) pl lv st) : xW p l e R s m args below meth c D A nL cells slots Q pc X pl lv st0 := by
  subst hc
  subst hs
  subst hq
  intro H locs ls hP hD hS hl
  have hA := C.2.2.2.2.2.2.2.1
  have hPc : va_P D vwCl cx H := xLeftP (hP.part isC hC)
  have hDc : va_D (fun _ => True) cx := (xLeftD (hD.part isC hnC hC)).weaken (fun _ _ _ _ => trivial)
  have hFc := va_free (xLeftD hD) hS hA isC hC
  refine vx_callv (hr H locs ls hP hPc hDc hS hFc hl.1) hS (fun q _ h => hFc q h) hFc (fun q _ h => hFc q h) (fun E ce q9 u t H1 locs1 ht hvm hpx hB hz1 hk1 hS1 hce hcv hcl => ?_) (fun u t H1 locs1 ht hvm hw hB hz1 hk1 hS1 => ?_)
  · obtain ⟨rfl, hP1, hD1⟩ := hB
    rw [ht] at hP1
    have hPX : va_P D vwCl (X ++ pl) H1 := xKeepP isC hC hP hD hk1 hP1
    exact kx E hpx H1 locs1 ls q9 ce hPX hD hS1 hl hce hcv hcl
  · obtain ⟨hP1, hD1⟩ := hB
    rw [ht] at hP1
    obtain ⟨hP2, hD2⟩ := va_joinQ hP hD isC isR hC hR hn hdis hk1 hFc hP1 hD1
    exact kk u hw H1 locs1 ls hP2 hD2 hS1 hl
theorem x_XiP (C : xC p s m args meth c cc nL ret Ts own D cy A) (isC isR : List Nat) {cx wr : va_W} {post : Int32 → va_W → Prop} {mc ms k n : Nat} {a : Array Value} {st0 : List Value} {px : String → Prop}
    (hC : isC.map (fun i => X[i]?) = cx.map some) (hR : isR.map (fun i => X[i]?) = wr.map some) (hn : va_nd isR = true) (hnC : va_nd isC = true) (hdis : ∀ i ∈ isR, i ∉ isC)
    (hr : ∀ (H : Heap) (locs : List Loc) (ls : Array Slot), va_P D vwCl (X ++ pl) H → va_P D vwCl (cx) H → va_D (fun _ => True) (cx) → va_S A s.heap H locs → (∀ q, va_A (cx) H.size q → A q) → ls.size = nL → vx_Run p l e R s m args below meth c H locs cells slots mc ms (F0 m pc ls st0) st (va_Qi post (xB D (va_A (cx) H.size)) (va_A (cx) H.size) a) (xXC D (cx) px (va_A (cx) H.size)) (va_A (cx) H.size))
    (hc : cells + mc = k) (hs : slots + ms = n) (hq : pc + 3 = q) (kx : ∀ E : String, px E → xV p l e R s m args below meth c D A nL k n Q E pc X pl lv st) (kk : ∀ (r : Int32) (w1 : va_W), post r  w1 → xW p l e R s m args below meth c D A nL k n Q q (wr ++ w1) pl lv (.int r :: st)) : xW p l e R s m args below meth c D A nL cells slots Q pc X pl lv st0 := by
  subst hc
  subst hs
  subst hq
  intro H locs ls hP hD hS hl
  have hA := C.2.2.2.2.2.2.2.1
  have hPc : va_P D vwCl cx H := xLeftP (hP.part isC hC)
  have hDc : va_D (fun _ => True) cx := (xLeftD (hD.part isC hnC hC)).weaken (fun _ _ _ _ => trivial)
  have hFc := va_free (xLeftD hD) hS hA isC hC
  refine vx_calli (hr H locs ls hP hPc hDc hS hFc hl.1) hS (fun q _ h => hFc q h) hFc (fun q _ h => hFc q h) (fun E ce q9 u t H1 locs1 ht hvm hpx hB hz1 hk1 hS1 hce hcv hcl => ?_) (fun r u t H1 locs1 ht hvm hw hB hz1 hk1 hS1 => ?_)
  · obtain ⟨rfl, hP1, hD1⟩ := hB
    rw [ht] at hP1
    have hPX : va_P D vwCl (X ++ pl) H1 := xKeepP isC hC hP hD hk1 hP1
    exact kx E hpx H1 locs1 ls q9 ce hPX hD hS1 hl hce hcv hcl
  · obtain ⟨hP1, hD1⟩ := hB
    rw [ht] at hP1
    obtain ⟨hP2, hD2⟩ := va_joinQ hP hD isC isR hC hR hn hdis hk1 hFc hP1 hD1
    exact kk r u hw H1 locs1 ls hP2 hD2 hS1 hl
theorem x_XiT (C : xC p s m args meth c cc nL ret Ts own D cy A) (isC isR : List Nat) {cx wr : va_W} {post : Int32 → va_W × va_W → Prop} {mc ms k n : Nat} {a : Array Value} {st0 : List Value} {px : String → Prop}
    (hC : isC.map (fun i => X[i]?) = cx.map some) (hR : isR.map (fun i => X[i]?) = wr.map some) (hn : va_nd isR = true) (hnC : va_nd isC = true) (hdis : ∀ i ∈ isR, i ∉ isC)
    (hr : ∀ (H : Heap) (locs : List Loc) (ls : Array Slot), va_P D vwCl (X ++ pl) H → va_P D vwCl (cx ++ pl) H → va_D (fun _ => True) (cx ++ pl) → va_S A s.heap H locs → (∀ q, va_A (cx ++ pl) H.size q → A q) → ls.size = nL → vx_Run p l e R s m args below meth c H locs cells slots mc ms (F0 m pc ls st0) st (va_Qi post (xB2 D (va_A (cx ++ pl) H.size)) (va_A (cx ++ pl) H.size) a) (xXC D (cx ++ pl) px (va_A (cx ++ pl) H.size)) (va_A (cx ++ pl) H.size))
    (hc : cells + mc = k) (hs : slots + ms = n) (hq : pc + 3 = q) (kx : ∀ E : String, px E → xV p l e R s m args below meth c D A nL k n Q E pc X pl lv st) (kk : ∀ (r : Int32) (x1 pl1 : va_W), post r (x1, pl1) → xW p l e R s m args below meth c D A nL k n Q q (wr ++ x1) pl1 lv (.int r :: st)) : xW p l e R s m args below meth c D A nL cells slots Q pc X pl lv st0 := by
  subst hc
  subst hs
  subst hq
  intro H locs ls hP hD hS hl
  have hA := C.2.2.2.2.2.2.2.1
  have hPc := hP.part isC hC
  have hDc : va_D (fun _ => True) (cx ++ pl) := (hD.part isC hnC hC).weaken (fun _ _ _ _ => trivial)
  have hFc := va_freeP hD hS hA isC hC
  refine vx_calli (hr H locs ls hP hPc hDc hS hFc hl.1) hS (fun q _ h => hFc q h) hFc (fun q _ h => hFc q h) (fun E ce q9 u t H1 locs1 ht hvm hpx hB hz1 hk1 hS1 hce hcv hcl => ?_) (fun r u t H1 locs1 ht hvm hw hB hz1 hk1 hS1 => ?_)
  · obtain ⟨rfl, hP1, hD1⟩ := hB
    rw [ht] at hP1
    have hPX : va_P D vwCl (X ++ pl) H1 := xKeepT isC hC hP hD hk1 hP1
    exact kx E hpx H1 locs1 ls q9 ce hPX hD hS1 hl hce hcv hcl
  · obtain ⟨hP1, hD1⟩ := hB
    obtain ⟨x1, pl1⟩ := u
    rw [ht] at hP1
    obtain ⟨hP2, hD2⟩ := va_joinP hP hD isC isR hC hR hn hdis hk1 hFc hP1 hD1
    exact kk r x1 pl1 hw H1 locs1 ls hP2 hD2 hS1 hl
theorem x_runV (C : xC p s m args meth c cc nL ret Ts own D cy A) {b : Bool} {y : MethodName} {bytes : ByteArray} {maxL mc ms n index : Nat} {ret9 : Option FieldType} {wsy : List Cond} {rm : Room} {wc : va_W} {Qc : (Nat → Prop) → Array Value → State → Outcome → State → Prop}  {As : List Value} {st0 : List Value} {o : Nat} {Cn : String} (hM : xM b l y wsy rm D cy (.ref o :: As) wc Qc mc ms) (cw : CallW R s args own Cn index y bytes maxL ret9 wsy rm mc ms n)
    {ci : Nat} {T : u_T} {N : Nat} {fs : List Value} (hc : vwCl[ci]? = some (Cn, T, N)) (q0 : Nat) (he : (X ++ pl)[q0]? = some (o, .inr (ci, fs)))
    (hst : st0 = As.reverse ++ .ref o :: st) (hn : As.length = n) (hroom : (st.map fun v => v.category).sum ≤ 8) (hd : decode cc pc = .ok (.invokevirtual index, 3)) (hf : cells + mc ≤ R.cells ∧ slots + ms ≤ R.slots) (hZ : b = true → xZ A s s.heap)
    {H : Heap} {locs : List Loc} {ls : Array Slot} (hP : va_P D vwCl (X ++ pl) H) (hPc : va_P D vwCl wc H) (hDc : va_D (fun _ => True) wc) (hS : va_S A s.heap H locs) (hFc : ∀ q, va_A wc H.size q → A q) (hl : ls.size = nL) : va_Run p l e R s m args below meth c H locs cells slots mc ms (F0 m pc ls st0) st (Qc (va_A wc H.size) (.ref o :: As).toArray) (va_A wc H.size) := by
  subst hst
  have hZ1 : b = true → xZ (va_A wc H.size) s H := fun h => ((hZ h).kept hS.2.1).narrow hFc
  exact va_runV (As := As) (rest := st) ⟨C.1, C.2.1, C.2.2.1, C.2.2.2.2.1, C.2.2.2.2.2.1⟩ (hM H.size) cw ⟨xPc.blind, va_recv C.2.2.2.2.2.2.1.1 hP hc he, fun U hU hW => xPc.at C.2.2.2.2.2.2.1 hPc hDc hZ1 hU hW⟩ rfl hn hl rfl (lv_room hroom) hd hf
theorem x_runVN (C : xC p s m args meth c cc nL ret Ts own D cy A) {b : Bool} {y : MethodName} {bytes : ByteArray} {maxL mc ms n index : Nat} {ret9 : Option FieldType} {wsy : List Cond} {rm : Room} {wc : va_W} {Qc : (Nat → Prop) → Array Value → State → Outcome → State → Prop}  {As : List Value} {st0 : List Value} {o : Nat} {Cn host : String} (hM : xM b l y wsy rm D cy (.ref o :: As) wc Qc mc ms) (cw : va_CN R s args own index y host bytes maxL ret9 wsy rm mc ms n ∧ (Cond.instanceMethod y).before args s = true ∧ (Cond.selects Cn y y).before args s = true)
    {ci : Nat} {T : u_T} {N : Nat} {fs : List Value} (hc : vwCl[ci]? = some (Cn, T, N)) (q0 : Nat) (he : (X ++ pl)[q0]? = some (o, .inr (ci, fs)))
    (hst : st0 = As.reverse ++ .ref o :: st) (hn : As.length = n) (hroom : (st.map fun v => v.category).sum ≤ 8) (hd : decode cc pc = .ok (.invokevirtual index, 3)) (hf : cells + mc ≤ R.cells ∧ slots + ms ≤ R.slots) (hZ : b = true → xZ A s s.heap)
    {H : Heap} {locs : List Loc} {ls : Array Slot} (hP : va_P D vwCl (X ++ pl) H) (hPc : va_P D vwCl wc H) (hDc : va_D (fun _ => True) wc) (hS : va_S A s.heap H locs) (hFc : ∀ q, va_A wc H.size q → A q) (hl : ls.size = nL) : va_Run p l e R s m args below meth c H locs cells slots mc ms (F0 m pc ls st0) st (Qc (va_A wc H.size) (.ref o :: As).toArray) (va_A wc H.size) := by
  subst hst
  have hZ1 : b = true → xZ (va_A wc H.size) s H := fun h => ((hZ h).kept hS.2.1).narrow hFc
  exact va_runVN (As := As) (rest := st) ⟨C.1, C.2.1, C.2.2.1, C.2.2.2.2.1, C.2.2.2.2.2.1⟩ (hM H.size) cw ⟨xPc.blind, va_recv C.2.2.2.2.2.2.1.1 hP hc he, fun U hU hW => xPc.at C.2.2.2.2.2.2.1 hPc hDc hZ1 hU hW⟩ rfl hn hl rfl (lv_room hroom) hd hf
theorem x_runS (C : xC p s m args meth c cc nL ret Ts own D cy A) {b : Bool} {y : MethodName} {bytes : ByteArray} {maxL mc ms n index : Nat} {ret9 : Option FieldType} {wsy : List Cond} {rm : Room} {wc : va_W} {Qc : (Nat → Prop) → Array Value → State → Outcome → State → Prop}  {As : List Value} {st0 : List Value}   (hM : xM b l y wsy rm D cy As wc Qc mc ms) (cw : CallB R s args own index y bytes maxL ret9 wsy rm mc ms n ∧ (Cond.static y).before args s = true)
    (hst : st0 = As.reverse ++ st) (hn : As.length = n) (hroom : (st.map fun v => v.category).sum ≤ 8) (hd : decode cc pc = .ok (.invokestatic index, 3)) (hf : cells + mc ≤ R.cells ∧ slots + ms ≤ R.slots) (hZ : b = true → xZ A s s.heap)
    {H : Heap} {locs : List Loc} {ls : Array Slot} (hP : va_P D vwCl (X ++ pl) H) (hPc : va_P D vwCl wc H) (hDc : va_D (fun _ => True) wc) (hS : va_S A s.heap H locs) (hFc : ∀ q, va_A wc H.size q → A q) (hl : ls.size = nL) : va_Run p l e R s m args below meth c H locs cells slots mc ms (F0 m pc ls st0) st (Qc (va_A wc H.size) As.toArray) (va_A wc H.size) := by
  subst hst
  have hZ1 : b = true → xZ (va_A wc H.size) s H := fun h => ((hZ h).kept hS.2.1).narrow hFc
  exact va_runS (As := As) (rest := st) ⟨C.1, C.2.1, C.2.2.1, C.2.2.2.2.1, C.2.2.2.2.2.1⟩ (hM H.size) cw ⟨xPc.blind, fun U hU hW => xPc.at C.2.2.2.2.2.2.1 hPc hDc hZ1 hU hW⟩ rfl hn hl rfl (lv_room hroom) hd hf
theorem x_runSN (C : xC p s m args meth c cc nL ret Ts own D cy A) {b : Bool} {y : MethodName} {bytes : ByteArray} {maxL mc ms n index : Nat} {ret9 : Option FieldType} {wsy : List Cond} {rm : Room} {wc : va_W} {Qc : (Nat → Prop) → Array Value → State → Outcome → State → Prop}  {As : List Value} {st0 : List Value}  {host : String} (hM : xM b l y wsy rm D cy As wc Qc mc ms) (cw : va_CN R s args own index y host bytes maxL ret9 wsy rm mc ms n ∧ (Cond.static y).before args s = true ∧ True)
    (hst : st0 = As.reverse ++ st) (hn : As.length = n) (hroom : (st.map fun v => v.category).sum ≤ 8) (hd : decode cc pc = .ok (.invokestatic index, 3)) (hf : cells + mc ≤ R.cells ∧ slots + ms ≤ R.slots) (hZ : b = true → xZ A s s.heap)
    {H : Heap} {locs : List Loc} {ls : Array Slot} (hP : va_P D vwCl (X ++ pl) H) (hPc : va_P D vwCl wc H) (hDc : va_D (fun _ => True) wc) (hS : va_S A s.heap H locs) (hFc : ∀ q, va_A wc H.size q → A q) (hl : ls.size = nL) : va_Run p l e R s m args below meth c H locs cells slots mc ms (F0 m pc ls st0) st (Qc (va_A wc H.size) As.toArray) (va_A wc H.size) := by
  subst hst
  have hZ1 : b = true → xZ (va_A wc H.size) s H := fun h => ((hZ h).kept hS.2.1).narrow hFc
  exact va_runSN (As := As) (rest := st) ⟨C.1, C.2.1, C.2.2.1, C.2.2.2.2.1, C.2.2.2.2.2.1⟩ (hM H.size) cw ⟨xPc.blind, fun U hU hW => xPc.at C.2.2.2.2.2.2.1 hPc hDc hZ1 hU hW⟩ rfl hn hl rfl (lv_room hroom) hd hf
theorem x_runI (C : xC p s m args meth c cc nL ret Ts own D cy A) {b : Bool} {y : MethodName} {bytes : ByteArray} {maxL mc ms n index : Nat}  {wsy : List Cond} {rm : Room} {wc : va_W} {Qc : (Nat → Prop) → Array Value → State → Outcome → State → Prop}  {As : List Value} {st0 : List Value} {o : Nat}  (hM : xM b l y wsy rm D cy (.ref o :: As) wc Qc mc ms) (cw : CallB R s args own index y bytes maxL none wsy rm mc ms n ∧ y.name = "<init>" ∧ (Cond.instanceMethod y).before args s = true)
    (hst : st0 = As.reverse ++ .ref o :: st) (hn : As.length = n) (hroom : (st.map fun v => v.category).sum ≤ 8) (hd : decode cc pc = .ok (.invokespecial index, 3)) (hf : cells + mc ≤ R.cells ∧ slots + ms ≤ R.slots) (hZ : b = true → xZ A s s.heap)
    {H : Heap} {locs : List Loc} {ls : Array Slot} (hP : va_P D vwCl (X ++ pl) H) (hPc : va_P D vwCl wc H) (hDc : va_D (fun _ => True) wc) (hS : va_S A s.heap H locs) (hFc : ∀ q, va_A wc H.size q → A q) (hl : ls.size = nL) : va_Run p l e R s m args below meth c H locs cells slots mc ms (F0 m pc ls st0) st (Qc (va_A wc H.size) (.ref o :: As).toArray) (va_A wc H.size) := by
  subst hst
  have hZ1 : b = true → xZ (va_A wc H.size) s H := fun h => ((hZ h).kept hS.2.1).narrow hFc
  exact va_runI (As := As) (rest := st) ⟨C.1, C.2.1, C.2.2.1, C.2.2.2.2.1, C.2.2.2.2.2.1⟩ (hM H.size) cw ⟨xPc.blind, fun U hU hW => xPc.at C.2.2.2.2.2.2.1 hPc hDc hZ1 hU hW⟩ rfl hn hl rfl (lv_room hroom) hd hf
theorem x_runIN (C : xC p s m args meth c cc nL ret Ts own D cy A) {b : Bool} {y : MethodName} {bytes : ByteArray} {maxL mc ms n index : Nat}  {wsy : List Cond} {rm : Room} {wc : va_W} {Qc : (Nat → Prop) → Array Value → State → Outcome → State → Prop}  {As : List Value} {st0 : List Value} {o : Nat} {host : String} (hM : xM b l y wsy rm D cy (.ref o :: As) wc Qc mc ms) (cw : va_CN R s args own index y host bytes maxL none wsy rm mc ms n ∧ y.name = "<init>" ∧ (Cond.instanceMethod y).before args s = true)
    (hst : st0 = As.reverse ++ .ref o :: st) (hn : As.length = n) (hroom : (st.map fun v => v.category).sum ≤ 8) (hd : decode cc pc = .ok (.invokespecial index, 3)) (hf : cells + mc ≤ R.cells ∧ slots + ms ≤ R.slots) (hZ : b = true → xZ A s s.heap)
    {H : Heap} {locs : List Loc} {ls : Array Slot} (hP : va_P D vwCl (X ++ pl) H) (hPc : va_P D vwCl wc H) (hDc : va_D (fun _ => True) wc) (hS : va_S A s.heap H locs) (hFc : ∀ q, va_A wc H.size q → A q) (hl : ls.size = nL) : va_Run p l e R s m args below meth c H locs cells slots mc ms (F0 m pc ls st0) st (Qc (va_A wc H.size) (.ref o :: As).toArray) (va_A wc H.size) := by
  subst hst
  have hZ1 : b = true → xZ (va_A wc H.size) s H := fun h => ((hZ h).kept hS.2.1).narrow hFc
  exact va_runIN (As := As) (rest := st) ⟨C.1, C.2.1, C.2.2.1, C.2.2.2.2.1, C.2.2.2.2.2.1⟩ (hM H.size) cw ⟨xPc.blind, fun U hU hW => xPc.at C.2.2.2.2.2.2.1 hPc hDc hZ1 hU hW⟩ rfl hn hl rfl (lv_room hroom) hd hf
theorem x_runSW (C : xC p s m args meth c cc nL ret Ts own D cy A) {b : Bool} {y : MethodName} {bytes : ByteArray} {maxL mc ms n index : Nat} {ret9 : Option FieldType} {wsy : List Cond} {rm : Room} {wc : va_W} {Qc : (Nat → Prop) → Array Value → State → Outcome → State → Prop}  {As : List Value} {st0 : List Value}  {hh : List (Nat × Nat × Nat × Nat)} (hM : xM b l y wsy rm D cy As wc Qc mc ms) (cw : vx_CSW R s args own index y bytes maxL ret9 hh wsy rm mc ms n)
    (hst : st0 = As.reverse ++ st) (hn : As.length = n) (hroom : (st.map fun v => v.category).sum ≤ 8) (hd : decode cc pc = .ok (.invokestatic index, 3)) (hf : cells + mc ≤ R.cells ∧ slots + ms ≤ R.slots) (hZ : b = true → xZ A s s.heap)
    {H : Heap} {locs : List Loc} {ls : Array Slot} (hP : va_P D vwCl (X ++ pl) H) (hPc : va_P D vwCl wc H) (hDc : va_D (fun _ => True) wc) (hS : va_S A s.heap H locs) (hFc : ∀ q, va_A wc H.size q → A q) (hl : ls.size = nL) : va_Run p l e R s m args below meth c H locs cells slots mc ms (F0 m pc ls st0) st (Qc (va_A wc H.size) As.toArray) (va_A wc H.size) := by
  subst hst
  have hZ1 : b = true → xZ (va_A wc H.size) s H := fun h => ((hZ h).kept hS.2.1).narrow hFc
  exact vx_runSW (As := As) (rest := st) ⟨C.1, C.2.1, C.2.2.1, C.2.2.2.2.1, C.2.2.2.2.2.1⟩ (hM H.size) cw ⟨xPc.blind, fun U hU hW => xPc.at C.2.2.2.2.2.2.1 hPc hDc hZ1 hU hW⟩ rfl hn hl rfl (lv_room hroom) hd hf
theorem x_runVX (C : xC p s m args meth c cc nL ret Ts own D cy A) {b : Bool} {y : MethodName} {bytes : ByteArray} {maxL mc ms n index : Nat} {ret9 : Option FieldType} {wsy : List Cond} {rm : Room} {wc : va_W} {Qc : (Nat → Prop) → Array Value → State → Outcome → State → Prop} {px : String → Prop} {As : List Value} {st0 : List Value} {o : Nat} {Cn : String} (hM : xX b l y wsy rm D cy (.ref o :: As) wc Qc px mc ms) (cw : CallW R s args own Cn index y bytes maxL ret9 wsy rm mc ms n)
    {ci : Nat} {T : u_T} {N : Nat} {fs : List Value} (hc : vwCl[ci]? = some (Cn, T, N)) (q0 : Nat) (he : (X ++ pl)[q0]? = some (o, .inr (ci, fs)))
    (hst : st0 = As.reverse ++ .ref o :: st) (hn : As.length = n) (hroom : (st.map fun v => v.category).sum ≤ 8) (hd : decode cc pc = .ok (.invokevirtual index, 3)) (hf : cells + mc ≤ R.cells ∧ slots + ms ≤ R.slots) (hZ : b = true → xZ A s s.heap)
    {H : Heap} {locs : List Loc} {ls : Array Slot} (hP : va_P D vwCl (X ++ pl) H) (hPc : va_P D vwCl wc H) (hDc : va_D (fun _ => True) wc) (hS : va_S A s.heap H locs) (hFc : ∀ q, va_A wc H.size q → A q) (hl : ls.size = nL) : vx_Run p l e R s m args below meth c H locs cells slots mc ms (F0 m pc ls st0) st (Qc (va_A wc H.size) (.ref o :: As).toArray) (xXC D wc px (va_A wc H.size)) (va_A wc H.size) := by
  subst hst
  have hZ1 : b = true → xZ (va_A wc H.size) s H := fun h => ((hZ h).kept hS.2.1).narrow hFc
  exact vx_runV (As := As) (rest := st) ⟨C.1, C.2.1, C.2.2.1, C.2.2.2.2.1, C.2.2.2.2.2.1⟩ (hM H.size) cw ⟨xPc.blind, va_recv C.2.2.2.2.2.2.1.1 hP hc he, fun U hU hW => xPc.at C.2.2.2.2.2.2.1 hPc hDc hZ1 hU hW⟩ rfl hn hl rfl (lv_room hroom) hd hf
theorem x_runSX (C : xC p s m args meth c cc nL ret Ts own D cy A) {b : Bool} {y : MethodName} {bytes : ByteArray} {maxL mc ms n index : Nat} {ret9 : Option FieldType} {wsy : List Cond} {rm : Room} {wc : va_W} {Qc : (Nat → Prop) → Array Value → State → Outcome → State → Prop} {px : String → Prop} {As : List Value} {st0 : List Value}   (hM : xX b l y wsy rm D cy As wc Qc px mc ms) (cw : CallB R s args own index y bytes maxL ret9 wsy rm mc ms n ∧ (Cond.static y).before args s = true)
    (hst : st0 = As.reverse ++ st) (hn : As.length = n) (hroom : (st.map fun v => v.category).sum ≤ 8) (hd : decode cc pc = .ok (.invokestatic index, 3)) (hf : cells + mc ≤ R.cells ∧ slots + ms ≤ R.slots) (hZ : b = true → xZ A s s.heap)
    {H : Heap} {locs : List Loc} {ls : Array Slot} (hP : va_P D vwCl (X ++ pl) H) (hPc : va_P D vwCl wc H) (hDc : va_D (fun _ => True) wc) (hS : va_S A s.heap H locs) (hFc : ∀ q, va_A wc H.size q → A q) (hl : ls.size = nL) : vx_Run p l e R s m args below meth c H locs cells slots mc ms (F0 m pc ls st0) st (Qc (va_A wc H.size) As.toArray) (xXC D wc px (va_A wc H.size)) (va_A wc H.size) := by
  subst hst
  have hZ1 : b = true → xZ (va_A wc H.size) s H := fun h => ((hZ h).kept hS.2.1).narrow hFc
  exact vx_runS (As := As) (rest := st) ⟨C.1, C.2.1, C.2.2.1, C.2.2.2.2.1, C.2.2.2.2.2.1⟩ (hM H.size) cw ⟨xPc.blind, fun U hU hW => xPc.at C.2.2.2.2.2.2.1 hPc hDc hZ1 hU hW⟩ rfl hn hl rfl (lv_room hroom) hd hf
theorem x_mmin (C : xC p s m args meth c cc nL ret Ts own D cy A) {index : Nat} {x y : Int32} (v : Int32) (hv : (if y < x then y else x) = v) (hlink : Cond.methodLink own index Lib.Math.min.name ∈ Ts) (hstat : Cond.static Lib.Math.min.name ∈ Ts) (hini : Cond.initialized "java/lang/Math" ∈ Ts) (hcode : Cond.code Lib.Math.min.name Lib.Math.min.code 2 (some .int) ∈ Ts) (hframes : 1 ≤ R.frames) (hlocals : (st.map fun v => v.category).sum + 13 ≤ R.locals) (hc : cells ≤ R.cells) (hs : slots ≤ R.slots) (hd : decode cc pc = .ok (.invokestatic index, 3)) (hq : pc + 3 = q) (kk : xW p l e R s m args below meth c D A nL cells slots Q q X pl lv (.int v :: st)) : xW p l e R s m args below meth c D A nL cells slots Q pc X pl lv (.int y :: .int x :: st) := by
  subst hq
  subst hv
  intro H locs ls hP hD hS hl
  exact va_mmin C.1 C.2.1 (C.2.2.1.trans hl.1.symm) C.2.2.2.2.1 (C.2.2.2.2.2.1 _ hlink) (C.2.2.2.2.2.1 _ hstat) (C.2.2.2.2.2.1 _ hini) (C.2.2.2.2.2.1 _ hcode) hframes hlocals hc hs hd (kk H locs ls hP hD hS hl)
theorem x_mmax (C : xC p s m args meth c cc nL ret Ts own D cy A) {index : Nat} {x y : Int32} (v : Int32) (hv : (if x < y then y else x) = v) (hlink : Cond.methodLink own index Lib.Math.max.name ∈ Ts) (hstat : Cond.static Lib.Math.max.name ∈ Ts) (hini : Cond.initialized "java/lang/Math" ∈ Ts) (hcode : Cond.code Lib.Math.max.name Lib.Math.max.code 2 (some .int) ∈ Ts) (hframes : 1 ≤ R.frames) (hlocals : (st.map fun v => v.category).sum + 13 ≤ R.locals) (hc : cells ≤ R.cells) (hs : slots ≤ R.slots) (hd : decode cc pc = .ok (.invokestatic index, 3)) (hq : pc + 3 = q) (kk : xW p l e R s m args below meth c D A nL cells slots Q q X pl lv (.int v :: st)) : xW p l e R s m args below meth c D A nL cells slots Q pc X pl lv (.int y :: .int x :: st) := by
  subst hq
  subst hv
  intro H locs ls hP hD hS hl
  exact va_mmax C.1 C.2.1 (C.2.2.1.trans hl.1.symm) C.2.2.2.2.1 (C.2.2.2.2.2.1 _ hlink) (C.2.2.2.2.2.1 _ hstat) (C.2.2.2.2.2.1 _ hini) (C.2.2.2.2.2.1 _ hcode) hframes hlocals hc hs hd (kk H locs ls hP hD hS hl)
theorem x_objInit (C : xC p s m args meth c cc nL ret Ts own D cy A) {a index : Nat} (hlink : Cond.methodLink own index Lib.objectInit ∈ Ts) (hinst : Cond.instanceMethod Lib.objectInit ∈ Ts) (hcode : Cond.code Lib.objectInit ⟨#[0xb1]⟩ 1 none ∈ Ts) (hd : decode cc pc = .ok (.invokespecial index, 3)) (hframes : 1 ≤ R.frames) (hlocals : (st.map fun v => v.category).sum + 12 ≤ R.locals) (hq : pc + 3 = q) (kk : xW p l e R s m args below meth c D A nL cells slots Q q X pl lv st) : xW p l e R s m args below meth c D A nL cells slots Q pc X pl lv (.ref a :: st) := by
  subst hq
  intro H locs ls hP hD hS hl
  exact W.objInit C.1 C.2.1 C.2.2.2.2.1 (C.2.2.2.2.2.1 _ hlink) (C.2.2.2.2.2.1 _ hinst) (C.2.2.2.2.2.1 _ hcode) rfl (hl.1.trans C.2.2.1.symm) rfl hd hframes (by show 2 * 0 + _ + 12 ≤ _; omega) (kk H locs ls hP hD hS hl)
theorem x_new (C : xC p s m args meth c cc nL ret Ts own D cy A) {C9 : String} {T : u_T} {N ci index k n : Nat} (hin : ∀ w ∈ u_ws C9 T N, w ∈ Ts) (ty0 : Nat → FieldType) (hty : ∀ k, k < N → parseFieldDescriptor (T k).2.2.1 = some (ty0 k)) (hlink : Cond.classLink own index C9 ∈ Ts) (hinst : Cond.instantiable C9 N ∈ Ts) (hini : Cond.initialized C9 ∈ Ts) (hc : vwCl[ci]? = some (C9, T, N)) (fs : List Value) (hfs : ∀ j, j < N → defaultValue (ty0 j) = vp_V fs j) (hcells : cells + 1 ≤ R.cells) (hslots : slots + N ≤ R.slots) (hd : decode cc pc = .ok (.new index, 3)) (hk : cells + 1 = k) (hn : slots + N = n) (hq : pc + 3 = q) (kk : ∀ o : Nat, xW p l e R s m args below meth c D A nL k n Q q (X ++ [(o, .inr (ci, fs))]) pl lv (.ref o :: st)) : xW p l e R s m args below meth c D A nL cells slots Q pc X pl lv st := by
  subst hq
  subst hk
  subst hn
  intro H locs ls hP hD hS hl
  refine va_new C.1 C.2.1 C.2.2.2.2.2.1 hin ty0 hty C.2.2.2.2.1 (C.2.2.2.2.2.1 _ hlink) (C.2.2.2.2.2.1 _ hinst) (C.2.2.2.2.2.1 _ hini) C.2.2.2.2.2.2.1.1 hP hD hS C.2.2.2.2.2.2.2.1 hc hfs hcells hslots hd (fun o H1 hP1 hD1 hS1 => ?_)
  exact kk o H1 locs ls hP1.swap hD1.swap hS1 hl
theorem x_newI (C : xC p s m args meth c cc nL ret Ts own D cy A) {N k n : Nat} {x : Int32} (harr : Cond.arrayClass .int ∈ Ts) (hx : ¬ x < 0) (hN : x.toNatClampNeg = N) (hb : N * componentBytes .int ≤ 536870912) (hcells : cells + 1 ≤ R.cells) (hslots : slots + N ≤ R.slots) (hd : decode cc pc = .ok (.newarray .int, 2)) (hk : cells + 1 = k) (hn : slots + N = n) (hq : pc + 2 = q) (kk : ∀ o : Nat, xW p l e R s m args below meth c D A nL k n Q q (X ++ [(o, .inl (cy.1, N, .inl (fun _ => 0)))]) pl lv (.ref o :: st)) : xW p l e R s m args below meth c D A nL cells slots Q pc X pl lv (.int x :: st) := by
  subst hq
  subst hk
  subst hn
  intro H locs ls hP hD hS hl
  refine va_newa (atype := .int) (a0 := (N, .inl (fun _ => 0))) C.1 C.2.1 (C.2.2.2.2.2.1 _ harr) (ty := .int) rfl C.2.2.2.2.2.2.1.1 hP hD hS C.2.2.2.2.2.2.2.1 (fun _ => rfl) hx hN hb hcells hslots hd (fun o cA H1 hK1 hP1 hD1 hS1 => ?_)
  have h1 := (C.2.2.2.2.2.2.1.1.2 0 _ rfl).2
  have h2 := (hK1.2 3 _ rfl).2
  have e9 : cA = cy.1 := Option.some.inj (h2.symm.trans h1)
  subst e9
  exact kk o H1 locs ls hP1.swap hD1.swap hS1 hl
theorem x_newZ (C : xC p s m args meth c cc nL ret Ts own D cy A) {N k n : Nat} {x : Int32} (harr : Cond.arrayClass .boolean ∈ Ts) (hx : ¬ x < 0) (hN : x.toNatClampNeg = N) (hb : N * componentBytes .boolean ≤ 536870912) (hcells : cells + 1 ≤ R.cells) (hslots : slots + N ≤ R.slots) (hd : decode cc pc = .ok (.newarray .boolean, 2)) (hk : cells + 1 = k) (hn : slots + N = n) (hq : pc + 2 = q) (kk : ∀ o : Nat, xW p l e R s m args below meth c D A nL k n Q q (X ++ [(o, .inl (cy.2.1, N, .inl (fun _ => 0)))]) pl lv (.ref o :: st)) : xW p l e R s m args below meth c D A nL cells slots Q pc X pl lv (.int x :: st) := by
  subst hq
  subst hk
  subst hn
  intro H locs ls hP hD hS hl
  refine va_newa (atype := .boolean) (a0 := (N, .inl (fun _ => 0))) C.1 C.2.1 (C.2.2.2.2.2.1 _ harr) (ty := .boolean) rfl C.2.2.2.2.2.2.1.1 hP hD hS C.2.2.2.2.2.2.2.1 (fun _ => rfl) hx hN hb hcells hslots hd (fun o cA H1 hK1 hP1 hD1 hS1 => ?_)
  have h1 := (C.2.2.2.2.2.2.1.1.2 1 _ rfl).2
  have h2 := (hK1.2 3 _ rfl).2
  have e9 : cA = cy.2.1 := Option.some.inj (h2.symm.trans h1)
  subst e9
  exact kk o H1 locs ls hP1.swap hD1.swap hS1 hl
theorem xN.use {w : Cond} {B : Array Value} {U : State} (h : xN U) (hw : w ∈ xNest) : w.before B U = true := by
  have hb := (List.mem_filter.mp hw).2
  have h0 := h w hw
  cases w <;> first | (simp [xIsNest] at hb; done) | exact va_Nw.use rfl h0
theorem x_throw (C : xC p s m args meth c cc nL ret Ts own D cy A) (hlt : l.stackTraces = false) (hT : ∀ x ∈ c.exceptionTable.toList, False) (hZ : xZ A s s.heap) {Qc : Array Value → State → Outcome → State → Prop} {px : String → Prop} {w0 : va_W} {cls : String} (text : String) {ik is ic mc ms : Nat} (ho : own = RX4) (hcls : Bundle.fit cls = true) (hlink : Cond.classLink own ik cls ∈ Ts) (hini : Cond.initialized cls ∈ Ts) (hstr : (is, text) ∈ xStr) (hat1 : ∀ w ∈ (vx_atS own ic cls ["java/lang/RuntimeException", "java/lang/Exception"]).filter goodWord, w ∈ Ts) (hat2 : ∀ w ∈ (vx_atS own ic cls ["java/lang/RuntimeException", "java/lang/Exception"]).filter (fun w => !goodWord w), w ∈ xNest) (hgood : (Cond.classLink own ik cls :: Cond.initialized cls :: vx_atS own ic cls ["java/lang/RuntimeException", "java/lang/Exception"]).all vx_ot = true) (d0 : decode cc pc = .ok (.new ik, 3)) (d3 : decode cc (pc + 3) = .ok (.dup, 1)) (d4 : decode cc (pc + 4) = .ok (.ldc is, 2)) (d6 : decode cc (pc + 6) = .ok (.invokespecial ic, 3)) (d9 : decode cc (pc + 9) = .ok (.athrow, 1)) (hRf : 5 < R.frames) (hRl : (st.map fun v => v.category).sum + 82 ≤ R.locals) (hRc : cells + 1 ≤ R.cells) (hRs : slots + 6 ≤ R.slots) (hmc : cells + 1 ≤ mc) (hms : slots + 6 ≤ ms) (hpx : px cls) (hw0 : X ++ pl = w0) : xW p l e R s m args below meth c D A nL cells slots (vx_MQ below Qc (xXC D w0 px A) args s mc ms A) pc X pl lv st := by
  subst hw0
  intro H locs ls hP hD hS hl
  have hN := C.2.2.2.2.2.2.1.2.1
  obtain ⟨sa, hsa⟩ := C.2.2.2.2.2.2.1.2.2.1 _ hstr
  have hstr' : vk_R own is text sa s := by rw [ho]; exact hsa
  refine vx_throwS (names := ["java/lang/RuntimeException", "java/lang/Exception"]) C.1 C.2.1 hlt C.2.2.2.2.1 hcls (by decide +kernel) (C.2.2.2.2.2.1 _ hlink) (C.2.2.2.2.2.1 _ hini) hstr' (vx_hat (B := xNest) (fun w hw => C.2.2.2.2.2.1 _ (hat1 w hw)) hat2 (fun w hw => hN.use hw)) (fun w hw => List.all_eq_true.mp hgood w hw) hZ.1 hZ.2 hS (hl.1.trans C.2.2.1.symm) d0 d3 d4 d6 d9 (fun x hx => absurd hx (fun h => hT x h)) hRf hRl hRc hRs C.2.2.2.2.2.2.2.2 (fun t ha hz hq => ⟨cls, hpx, ⟨rfl, hP.kept (fun k q hk => hq q.1 ((hP k q hk).lt)), hD⟩, ⟨Nat.le_trans hS.1 hz, fun q h1 h2 => (hq q (Nat.lt_of_lt_of_le h1 hS.1)).trans (hS.2.1 q h1 h2)⟩⟩) hS.2.2 hmc hms
theorem x_out (C : xC p s m args meth c cc nL ret Ts own D cy A) (hT : ∀ x ∈ c.exceptionTable.toList, False) {Qc : Array Value → State → Outcome → State → Prop} {px : String → Prop} {w0 : va_W} {E : String} {mc ms : Nat} (hpx : px E) (hw0 : X ++ pl = w0) (hmc : cells ≤ mc) (hms : slots ≤ ms) : xV p l e R s m args below meth c D A nL cells slots (vx_MQ below Qc (xXC D w0 px A) args s mc ms A) E pc X pl lv st := by
  subst hw0
  intro H locs ls q9 ce hP hD hS hl hce hcv hcl
  exact vx_out (fun x hx => absurd hx (fun h => hT x h)) C.2.2.2.2.2.2.2.2 hce hcv hcl (fun t ht ha => ⟨E, hpx, ⟨rfl, by rw [ht]; exact hP, hD⟩, hS.F ht⟩) hS.2.2 hmc hms
theorem x_catch (C : xC p s m args meth c cc nL ret Ts own D cy A) {E name : String} (pre : List ExceptionTableEntry) (x : ExceptionTableEntry) (suf : List ExceptionTableEntry) (hsplit : c.exceptionTable.toList = pre ++ x :: suf) (hpass : ∀ z ∈ pre, covers z pc = false ∨ (z.catchType ≠ 0 ∧ ∃ nm : String, Cond.classLink own z.catchType nm ∈ Ts ∧ va_Nc E nm s)) (hx : covers x pc = true) (h0 : x.catchType ≠ 0) (hlink : Cond.classLink own x.catchType name ∈ Ts) (hcast : Cond.castable E name ∈ xNest) (hh : x.handlerPc = q) (kk : ∀ o : Nat, xW p l e R s m args below meth c D A nL cells slots Q q X pl lv ([.ref o])) : xV p l e R s m args below meth c D A nL cells slots Q E pc X pl lv st := by
  subst hh
  intro H locs ls q9 ce hP hD hS hl hce hcv hcl
  refine vx_catch C.2.2.2.2.1 pre x suf hsplit (fun z hz => ?_) hx h0 (C.2.2.2.2.2.1 _ hlink) (C.2.2.2.2.2.2.1.2.1.use hcast) hce hcv hcl (kk q9 H locs ls hP hD hS hl)
  rcases hpass z hz with h | ⟨h1, nm, h2, h3⟩
  · exact Or.inl h
  · exact Or.inr ⟨h1, nm, C.2.2.2.2.2.1 _ h2, h3⟩
theorem x_aload_nO (C : xC p s m args meth c cc nL ret Ts own D cy A) {k : Fin 4} (r : Option Nat) (j : Nat) (hj : lv[j]? = some ((k : Nat), va_rf r)) (hd : decode cc pc = .ok (.aload_n k, 1)) (hq : pc + 1 = q) (kk : xW p l e R s m args below meth c D A nL cells slots Q q X pl lv (va_rf r :: st)) : xW p l e R s m args below meth c D A nL cells slots Q pc X pl lv st := by
  cases r with
  | none => exact x_aload_nN C j hj hd hq kk
  | some z => exact x_aload_n C (x := z) j hj hd hq kk
theorem x_aloadO (C : xC p s m args meth c cc nL ret Ts own D cy A) {i : Nat} (r : Option Nat) (j : Nat) (hj : lv[j]? = some (i, va_rf r)) (hd : decode cc pc = .ok (.aload i, 2)) (hq : pc + 2 = q) (kk : xW p l e R s m args below meth c D A nL cells slots Q q X pl lv (va_rf r :: st)) : xW p l e R s m args below meth c D A nL cells slots Q pc X pl lv st := by
  cases r with
  | none => exact x_aloadN C j hj hd hq kk
  | some z => exact x_aload C (x := z) j hj hd hq kk
theorem x_astore_nO (C : xC p s m args meth c cc nL ret Ts own D cy A) {k : Fin 4} (r : Option Nat) (lv' : List (Nat × Value)) (hd : decode cc pc = .ok (.astore_n k, 1)) (hn : (k : Nat) < nL) (hl' : ((k : Nat), va_rf r) :: lv.filter (fun q => !(q.1 == (k : Nat)) && !(q.1 + 1 == (k : Nat) && q.2.category == 2)) = lv') (hq : pc + 1 = q) (kk : xW p l e R s m args below meth c D A nL cells slots Q q X pl lv' st) : xW p l e R s m args below meth c D A nL cells slots Q pc X pl lv (va_rf r :: st) := by
  cases r with
  | none => exact x_astore_nN C lv' hd hn hl' hq kk
  | some z => exact x_astore_n C (x := z) lv' hd hn hl' hq kk
theorem x_astoreO (C : xC p s m args meth c cc nL ret Ts own D cy A) {i : Nat} (r : Option Nat) (lv' : List (Nat × Value)) (hd : decode cc pc = .ok (.astore i, 2)) (hn : i < nL) (hl' : (i, va_rf r) :: lv.filter (fun q => !(q.1 == i) && !(q.1 + 1 == i && q.2.category == 2)) = lv') (hq : pc + 2 = q) (kk : xW p l e R s m args below meth c D A nL cells slots Q q X pl lv' st) : xW p l e R s m args below meth c D A nL cells slots Q pc X pl lv (va_rf r :: st) := by
  cases r with
  | none => exact x_astoreN C lv' hd hn hl' hq kk
  | some z => exact x_astore C (x := z) lv' hd hn hl' hq kk
theorem xD_iff {A : Nat → Prop} {ws : va_W} : va_D A ws ↔ (ws.map Prod.fst).Nodup ∧ ∀ q ∈ ws, A q.1 := by
  constructor
  · intro h
    refine ⟨?_, fun q hq => ?_⟩
    · rw [List.nodup_iff_pairwise_ne, List.pairwise_iff_getElem]
      intro i j hi hj hij e
      simp only [List.length_map] at hi hj
      simp only [List.getElem_map] at e
      have := h.1 i j ws[i] ws[j] (List.getElem?_eq_getElem hi) (List.getElem?_eq_getElem hj) e
      omega
    · obtain ⟨k, hk⟩ := List.mem_iff_getElem?.mp hq
      exact h.2 k q hk
  · rintro ⟨h1, h2⟩
    refine ⟨fun i j p q hi hj e => ?_, fun k q hk => h2 q (List.mem_of_getElem? hk)⟩
    have hi' := (List.getElem?_eq_some_iff.mp hi)
    have hj' := (List.getElem?_eq_some_iff.mp hj)
    obtain ⟨li, ei⟩ := hi'
    obtain ⟨lj, ej⟩ := hj'
    have hp := List.pairwise_iff_getElem.mp (List.nodup_iff_pairwise_ne.mp h1)
    have li' : i < (ws.map Prod.fst).length := by simpa using li
    have lj' : j < (ws.map Prod.fst).length := by simpa using lj
    rcases Nat.lt_trichotomy i j with h | h | h
    · exact absurd (by simp [ei, ej, e]) (hp i j li' lj' h)
    · exact h
    · exact absurd (by simp [ei, ej, e]) (hp j i lj' li' h)
theorem xPerm {D : va_G} {A : Nat → Prop} {ws ws' : va_W} {H : Heap} (h : ws.Perm ws') (hP : va_P D vwCl ws H) (hD : va_D A ws) : va_P D vwCl ws' H ∧ va_D A ws' := by
  refine ⟨fun k q hk => ?_, ?_⟩
  · obtain ⟨i, hi⟩ := List.mem_iff_getElem?.mp (h.mem_iff.mpr (List.mem_of_getElem? hk))
    exact hP i q hi
  · obtain ⟨h1, h2⟩ := xD_iff.mp hD
    exact xD_iff.mpr ⟨(h.map Prod.fst).nodup_iff.mp h1, fun q hq => h2 q (h.mem_iff.mpr hq)⟩
theorem x_perm (X' : va_W) (pl' : va_W) (h : (X ++ pl).Perm (X' ++ pl')) (k : xW p l e R s m args below meth c D A nL cells slots Q pc X' pl' lv st) : xW p l e R s m args below meth c D A nL cells slots Q pc X pl lv st := fun H locs ls hP hD hS hl => k H locs ls (xPerm h hP hD).1 (xPerm h hP hD).2 hS hl
end XG
end
section
/-! loops: a counter's rule; pure iteration -/
def itr {α : Type} (step : Nat → α → α) (init : α) : Nat → α
  | 0 => init
  | n + 1 => step n (itr step init n)
theorem itr_s {α : Type} (step : Nat → α → α) (init : α) (n : Nat) : itr step init (n + 1) = step n (itr step init n) := rfl
theorem itr_eq {α β : Type} {s1 : Nat → α → α} {s2 : Nat → β → β} {a : α} {b : β} (Rl : Nat → α → β → Prop) (N : Nat) (h0 : Rl 0 a b) (hs : ∀ n x y, n < N → Rl n x y → Rl (n + 1) (s1 n x) (s2 n y)) : ∀ n, n ≤ N → Rl n (itr s1 a n) (itr s2 b n) := by
  intro n
  induction n with
  | zero => intro _; exact h0
  | succ n ih => intro h; exact hs n _ _ (by omega) (ih (by omega))
theorem itr_inv {α : Type} {s1 : Nat → α → α} {a : α} (P : Nat → α → Prop) (N : Nat) (h0 : P 0 a) (hs : ∀ n x, n < N → P n x → P (n + 1) (s1 n x)) : ∀ n, n ≤ N → P n (itr s1 a n) := by
  intro n
  induction n with
  | zero => intro _; exact h0
  | succ n ih => intro h; exact hs n _ (by omega) (ih (by omega))
theorem nI_dn {n N : Nat} (h : n < N) : nI (N - n) + (-1) = nI (N - (n + 1)) := by
  have e : N - n = (N - (n + 1)) + 1 := by omega
  rw [e]
  exact pk_m1 _
section XL
variable {p : Program} {l : Launch} {e : Env} {R : Room} {s : State} {m : MethodId} {args : Array Value} {below : List Frame} {meth : Method} {c : Code} {cc : ByteArray} {nL : Nat} {ret : Option FieldType} {Ts : List Cond} {own : String} {D : va_G} {cy : ClassId × ClassId × ClassId} {A : Nat → Prop} {cells slots : Nat} {Q : State → Prop} {X X' pl : va_W} {lv lv' : List (Nat × Value)} {st : List Value} {pc q : Nat}
theorem x_up (Xf : Nat → va_W) (lvf : Nat → List (Nat × Value)) (N : Nat) (h0 : X = Xf 0) (hl0 : lv = lvf 0)
    (hs : ∀ j, j < N → xW p l e R s m args below meth c D A nL cells slots Q pc (Xf (j + 1)) pl (lvf (j + 1)) st → xW p l e R s m args below meth c D A nL cells slots Q pc (Xf j) pl (lvf j) st)
    (hx : xW p l e R s m args below meth c D A nL cells slots Q pc (Xf N) pl (lvf N) st) : xW p l e R s m args below meth c D A nL cells slots Q pc X pl lv st := by
  subst h0
  subst hl0
  have K : ∀ d j, j + d = N → xW p l e R s m args below meth c D A nL cells slots Q pc (Xf j) pl (lvf j) st := by
    intro d
    induction d with
    | zero =>
      intro j h
      have : j = N := by omega
      subst this
      exact hx
    | succ d ih =>
      intro j h
      exact hs j (by omega) (ih (j + 1) (by omega))
  exact K N 0 (by omega)
/-- roads that meet: what stands on the stack where they do -/
theorem x_join (P : Nat) (φ : Int32 → Prop) (st' : List Value) (h1 : ∀ v, φ v → xW p l e R s m args below meth c D A nL cells slots Q P X pl lv (.int v :: st')) (h2 : (∀ v, φ v → xW p l e R s m args below meth c D A nL cells slots Q P X pl lv (.int v :: st')) → xW p l e R s m args below meth c D A nL cells slots Q pc X pl lv st) : xW p l e R s m args below meth c D A nL cells slots Q pc X pl lv st := h2 h1
theorem x_join0 (P : Nat) (X' : va_W) (lv' : List (Nat × Value)) (st' : List Value) (h1 : xW p l e R s m args below meth c D A nL cells slots Q P X' pl lv' st') (h2 : xW p l e R s m args below meth c D A nL cells slots Q P X' pl lv' st' → xW p l e R s m args below meth c D A nL cells slots Q pc X pl lv st) : xW p l e R s m args below meth c D A nL cells slots Q pc X pl lv st := h2 h1
end XL
section XR
variable {p : Program} {l : Launch} {e : Env} {R : Room} {s : State} {m : MethodId} {args : Array Value} {below : List Frame} {meth : Method} {c : Code} {D : va_G} {A : Nat → Prop} {nL cells slots : Nat} {Q : State → Prop} {X pl : va_W} {lv : List (Nat × Value)} {st : List Value} {pc : Nat}
/-- a loop by a measure -/
theorem x_rec {σ : Type} (μ : σ → Nat) (I : σ → Prop) (Xf plf : σ → va_W) (lvf : σ → List (Nat × Value)) (x0 : σ) (h0 : X = Xf x0) (hp0 : pl = plf x0) (hl0 : lv = lvf x0) (hI : I x0)
    (hs : ∀ x, I x → (∀ y, I y → μ y < μ x → xW p l e R s m args below meth c D A nL cells slots Q pc (Xf y) (plf y) (lvf y) st) → xW p l e R s m args below meth c D A nL cells slots Q pc (Xf x) (plf x) (lvf x) st) : xW p l e R s m args below meth c D A nL cells slots Q pc X pl lv st := by
  subst h0
  subst hp0
  subst hl0
  have K : ∀ n x, μ x < n → I x → xW p l e R s m args below meth c D A nL cells slots Q pc (Xf x) (plf x) (lvf x) st := by
    intro n
    induction n with
    | zero => intro x h; omega
    | succ n ih =>
      intro x h hx
      exact hs x hx (fun y hy hlt => ih y (by omega) hy)
  exact K _ x0 (Nat.lt_succ_self _) hI
end XR
end
section
/-! the boilers: a tail of the world, by their numbers; the chain in which they are fired -/
def bcell (ad : Nat → Nat) (stp pow cst frd : Nat → Int32) (nx : Nat → Option Nat) (k : Nat) : Nat × va_E := (ad k, .inr (0, [.int (nI k), .int (stp k), .int (pow k), .int (cst k), .int (frd k), va_rf ((nx k).map ad)]))
def bl (ad : Nat → Nat) (stp pow cst frd : Nat → Int32) (nx : Nat → Option Nat) (n : Nat) : va_W := (List.range n).map (bcell ad stp pow cst frd nx)
def blr (ad : Nat → Nat) (stp pow cst frd : Nat → Int32) (nx : Nat → Option Nat) (n k : Nat) : va_W := ((List.range n).erase k).map (bcell ad stp pow cst frd nx)
theorem bl_at {X : va_W} {ad : Nat → Nat} {stp pow cst frd : Nat → Int32} {nx : Nat → Option Nat} {n k : Nat} (h : k < n) : (X ++ bl ad stp pow cst frd nx n)[X.length + k]? = some (ad k, .inr (0, [.int (nI k), .int (stp k), .int (pow k), .int (cst k), .int (frd k), va_rf ((nx k).map ad)])) := by
  rw [List.getElem?_append_right (by omega), show X.length + k - X.length = k by omega]
  simp [bl, bcell, h]
theorem bl_out {X : va_W} {ad : Nat → Nat} {stp pow cst frd : Nat → Int32} {nx : Nat → Option Nat} {n k : Nat} (h : k < n) : (X ++ bl ad stp pow cst frd nx n).Perm ((X ++ [bcell ad stp pow cst frd nx k]) ++ blr ad stp pow cst frd nx n k) := by
  rw [List.append_assoc]
  refine List.Perm.append_left X ?_
  exact (List.perm_cons_erase (List.mem_range.mpr h)).map _
theorem bl_in {X : va_W} {ad : Nat → Nat} {stp pow cst frd frd' : Nat → Int32} {nx nx' : Nat → Option Nat} {n k : Nat} {q : Nat × va_E} (h : k < n) (hq : q = bcell ad stp pow cst frd' nx' k) (h1 : ∀ j, j ≠ k → frd' j = frd j) (h2 : ∀ j, j ≠ k → nx' j = nx j) : ((X ++ [q]) ++ blr ad stp pow cst frd nx n k).Perm (X ++ bl ad stp pow cst frd' nx' n) := by
  have e : blr ad stp pow cst frd nx n k = blr ad stp pow cst frd' nx' n k := by
    refine List.map_congr_left (fun j hj => ?_)
    have hne : j ≠ k := ((List.nodup_range).mem_erase_iff.mp hj).1
    simp [bcell, h1 j hne, h2 j hne]
  rw [e, hq]
  exact (bl_out h).symm
theorem bl_congr {ad ad' : Nat → Nat} {stp pow cst frd stp' pow' cst' frd' : Nat → Int32} {nx nx' : Nat → Option Nat} {n : Nat} (h : ∀ k, k < n → bcell ad stp pow cst frd nx k = bcell ad' stp' pow' cst' frd' nx' k) : bl ad stp pow cst frd nx n = bl ad' stp' pow' cst' frd' nx' n := List.map_congr_left (fun k hk => h k (List.mem_range.mp hk))
/-- a chain of numbers, each with the next -/
def chn (nx : Nat → Option Nat) : List Nat → Prop
  | [] => True
  | k :: ks => nx k = ks.head? ∧ chn nx ks
end
section
/-! the class's methods as functions: statics, and the net -/
theorem vpz0 : vp_nar .boolean 0 = 0 := by decide
theorem vpz1 : vp_nar .boolean 1 = 1 := by decide
def pHouse (x : Int32) : Int32 := if x < 1 then 0 else if 12 ≤ x then 0 else 1
def pWithin (v a b : Int32) : Int32 := if v < a then 0 else if b < v then 0 else 1
def pWant (a t : Int32) : Int32 := if t < 18 then (a * (18 - t) + 9) / 10 else 0
def imin (x y : Int32) : Int32 := if y < x then y else x
def imax (x y : Int32) : Int32 := if x < y then y else x
def hStep (sr : Nat → Nat) (sh : Nat → Int32) (n : Nat) (h : Nat → Int32) : Nat → Int32 := upd h (n + 1) (if (pHouse (nI (sr (n + 1))) = 0 ∨ ¬ h (sr (n + 1)) = 0) ∧ sh (n + 1) = 0 then 1 else 0)
def hFun (sr : Nat → Nat) (sh h : Nat → Int32) : Nat → Int32 := itr (hStep sr sh) h 11
def cIni (dm : Nat → Int32) (n : Nat) (c : Nat → Int32) : Nat → Int32 := upd c (n + 1) (if dm (n + 1) ≤ 0 then 0 else 1)
def cStep (sr : Nat → Nat) (n : Nat) (c : Nat → Int32) : Nat → Int32 := if c (11 - n) = 0 then c else if pHouse (nI (sr (11 - n))) = 0 then c else upd c (sr (11 - n)) 1
def cFun (sr : Nat → Nat) (dm c : Nat → Int32) : Nat → Int32 := itr (cStep sr) (itr (cIni dm) c 11) 11
def pCL (ca lo : Nat → Int32) (k : Nat) : Int32 := if pHouse (nI k) = 0 then 0 else if ca k = 0 then 0 else lo k
def dStep (ht ar : Nat → Int32) (t : Int32) (n : Nat) (d : (Nat → Int32) × Int32) : (Nat → Int32) × Int32 := (upd d.1 (n + 1) (if ht (n + 1) = 0 then 0 else pWant (ar (n + 1)) t), d.2 + (if ht (n + 1) = 0 then 0 else pWant (ar (n + 1)) t))
def dFun (ht ar : Nat → Int32) (t : Int32) (d : Nat → Int32) : (Nat → Int32) × Int32 := itr (dStep ht ar t) (d, 0) 11
def lStep (ca lo : Nat → Int32) (n : Nat) (s : Int32) : Int32 := s + pCL ca lo (n + 1)
def lFun (ca lo : Nat → Int32) : Int32 := itr (lStep ca lo) 0 11
def sStep (dm : Nat → Int32) (n : Nat) (v : (Nat → Int32) × Int32) : (Nat → Int32) × Int32 := (upd v.1 (n + 1) (imin (dm (n + 1)) v.2), v.2 - imin (dm (n + 1)) v.2)
def sFun (dm v : Nat → Int32) (left : Int32) : Nat → Int32 := (itr (sStep dm) (v, left) 11).1
def nStep (ar ht : Nat → Int32) (n : Nat) (c : Int32) : Int32 := if ar (n + 1) ≤ 0 then c else if ht (n + 1) = 0 then c + 1 else c
def nFun (ar ht : Nat → Int32) : Int32 := itr (nStep ar ht) 0 11
def eStep (n : Nat) (s : Nat → Int32) : Nat → Int32 := if s (n + 1) ≤ 0 then s else upd s (n + 1) (s (n + 1) - 1)
def eFun (s : Nat → Int32) : Nat → Int32 := itr eStep s 11
/-- survey: demands and their sum, pipes that carry, losses, the load -/
def oD (sr : Nat → Nat) (ar sh ht dm : Nat → Int32) (t : Int32) : (Nat → Int32) × Int32 := dFun (hFun sr sh ht) ar t dm
def oC (sr : Nat → Nat) (ar sh ht dm ca : Nat → Int32) (t : Int32) : Nat → Int32 := cFun sr (oD sr ar sh ht dm t).1 ca
def oL (sr : Nat → Nat) (lo ar sh ht dm ca : Nat → Int32) (t : Int32) : Int32 := lFun (oC sr ar sh ht dm ca t) lo
def oW (sr : Nat → Nat) (lo ar sh ht dm ca : Nat → Int32) (t : Int32) : Int32 := (oD sr ar sh ht dm t).2 + oL sr lo ar sh ht dm ca t
def lIni (n : Nat) (f : Nat → Int32) : Nat → Int32 := upd f (n + 1) 1
theorem upd_at_ne {f : Nat → Int32} {j k : Nat} {x : Int32} (h : k ≠ j) : upd f j x k = f k := pk_un h
end
section
set_option maxHeartbeats 4000000 in
set_option maxRecDepth 100000 in
/-- isHouse -/
theorem c_X4_isHouse {l : Launch} {D : va_G} {cy : ClassId × ClassId × ClassId} (x : Int32) : xM false l yX4_isHouse wsX4_isHouse ({ frames := 0, cells := 0, slots := 0, locals := 0 }) D cy [.int x] ([]) (xQi D (fun r w => r = pHouse x ∧ w = [])) 0 0 := by
  refine xM_of (X := []) (pl := []) (nL := 1) (ret := (some .boolean)) RX4 [(0, .int x)] (by decide +kernel) rfl rfl rfl (Nat.le_of_ble_eq_true rfl) (List.append_nil _).symm (fun p e s m args below meth c A C hname hT hZ => ?_)
  refine x_iload_n (q := 1) C 0 rfl dX4_isHouse_0 rfl ?_
  refine x_iconst (q := 2) C 1 rfl dX4_isHouse_1 rfl ?_
  refine x_icmp_lt (q := 5) C 15 dX4_isHouse_2 (by decide) rfl (fun c_2 => ?_) (fun c_2 => ?_)
  · refine x_iconst (q := 16) C 0 rfl dX4_isHouse_15 rfl ?_
    exact x_iret C .boolean rfl rfl (⟨by simp [pHouse, c_2], rfl⟩) dX4_isHouse_16 (Nat.le_of_ble_eq_true rfl) (Nat.le_of_ble_eq_true rfl)
  · refine x_iload_n (q := 6) C 0 rfl dX4_isHouse_5 rfl ?_
    refine x_bipush (q := 8) C 12 rfl dX4_isHouse_6 rfl ?_
    refine x_icmp_ge (q := 11) C 15 dX4_isHouse_8 (by decide) rfl (fun c_8 => ?_) (fun c_8 => ?_)
    · refine x_iconst (q := 16) C 0 rfl dX4_isHouse_15 rfl ?_
      exact x_iret C .boolean rfl rfl (⟨by simp [pHouse, c_2, c_8], rfl⟩) dX4_isHouse_16 (Nat.le_of_ble_eq_true rfl) (Nat.le_of_ble_eq_true rfl)
    · refine x_iconst (q := 12) C 1 rfl dX4_isHouse_11 rfl ?_
      refine x_goto C 16 dX4_isHouse_12 (by decide) ?_
      exact x_iret C .boolean rfl rfl (⟨by simp [pHouse, c_2, c_8], rfl⟩) dX4_isHouse_16 (Nat.le_of_ble_eq_true rfl) (Nat.le_of_ble_eq_true rfl)

set_option maxHeartbeats 4000000 in
set_option maxRecDepth 100000 in
/-- isWithin -/
theorem c_X4_isWithin {l : Launch} {D : va_G} {cy : ClassId × ClassId × ClassId} (x a b : Int32) : xM false l yX4_isWithin wsX4_isWithin ({ frames := 0, cells := 0, slots := 0, locals := 0 }) D cy [.int x, .int a, .int b] ([]) (xQi D (fun r w => r = pWithin x a b ∧ w = [])) 0 0 := by
  refine xM_of (X := []) (pl := []) (nL := 3) (ret := (some .boolean)) RX4 [(0, .int x), (1, .int a), (2, .int b)] (by decide +kernel) rfl rfl rfl (Nat.le_of_ble_eq_true rfl) (List.append_nil _).symm (fun p e s m args below meth c A C hname hT hZ => ?_)
  refine x_iload_n (q := 1) C 0 rfl dX4_isWithin_0 rfl ?_
  refine x_iload_n (q := 2) C 1 rfl dX4_isWithin_1 rfl ?_
  refine x_icmp_lt (q := 5) C 14 dX4_isWithin_2 (by decide) rfl (fun c_2 => ?_) (fun c_2 => ?_)
  · refine x_iconst (q := 15) C 0 rfl dX4_isWithin_14 rfl ?_
    exact x_iret C .boolean rfl rfl (⟨by simp [pWithin, c_2], rfl⟩) dX4_isWithin_15 (Nat.le_of_ble_eq_true rfl) (Nat.le_of_ble_eq_true rfl)
  · refine x_iload_n (q := 6) C 0 rfl dX4_isWithin_5 rfl ?_
    refine x_iload_n (q := 7) C 2 rfl dX4_isWithin_6 rfl ?_
    refine x_icmp_gt (q := 10) C 14 dX4_isWithin_7 (by decide) rfl (fun c_7 => ?_) (fun c_7 => ?_)
    · refine x_iconst (q := 15) C 0 rfl dX4_isWithin_14 rfl ?_
      exact x_iret C .boolean rfl rfl (⟨by simp [pWithin, c_2, c_7], rfl⟩) dX4_isWithin_15 (Nat.le_of_ble_eq_true rfl) (Nat.le_of_ble_eq_true rfl)
    · refine x_iconst (q := 11) C 1 rfl dX4_isWithin_10 rfl ?_
      refine x_goto C 15 dX4_isWithin_11 (by decide) ?_
      exact x_iret C .boolean rfl rfl (⟨by simp [pWithin, c_2, c_7], rfl⟩) dX4_isWithin_15 (Nat.le_of_ble_eq_true rfl) (Nat.le_of_ble_eq_true rfl)

set_option maxHeartbeats 4000000 in
set_option maxRecDepth 100000 in
/-- wantedHeat -/
theorem c_X4_wantedHeat {l : Launch} {D : va_G} {cy : ClassId × ClassId × ClassId} (a t : Int32) : xM false l yX4_wantedHeat wsX4_wantedHeat ({ frames := 0, cells := 0, slots := 0, locals := 0 }) D cy [.int a, .int t] ([]) (xQi D (fun r w => r = pWant a t ∧ w = [])) 0 0 := by
  refine xM_of (X := []) (pl := []) (nL := 2) (ret := (some .int)) RX4 [(0, .int a), (1, .int t)] (by decide +kernel) rfl rfl rfl (Nat.le_of_ble_eq_true rfl) (List.append_nil _).symm (fun p e s m args below meth c A C hname hT hZ => ?_)
  refine x_iload_n (q := 1) C 1 rfl dX4_wantedHeat_0 rfl ?_
  refine x_bipush (q := 3) C 18 rfl dX4_wantedHeat_1 rfl ?_
  refine x_icmp_lt (q := 6) C 8 dX4_wantedHeat_3 (by decide) rfl (fun c_3 => ?_) (fun c_3 => ?_)
  · refine x_iload_n (q := 9) C 0 rfl dX4_wantedHeat_8 rfl ?_
    refine x_bipush (q := 11) C 18 rfl dX4_wantedHeat_9 rfl ?_
    refine x_iload_n (q := 12) C 1 rfl dX4_wantedHeat_11 rfl ?_
    refine x_isub (q := 13) C (18 - t) (rfl) dX4_wantedHeat_12 rfl ?_
    refine x_imul (q := 14) C (a * (18 - t)) (rfl) dX4_wantedHeat_13 rfl ?_
    refine x_bipush (q := 16) C 9 rfl dX4_wantedHeat_14 rfl ?_
    refine x_iadd (q := 17) C ((a * (18 - t)) + 9) (rfl) dX4_wantedHeat_16 rfl ?_
    refine x_bipush (q := 19) C 10 rfl dX4_wantedHeat_17 rfl ?_
    refine x_idiv (q := 20) C (((a * (18 - t)) + 9) / 10) (rfl) (by decide) dX4_wantedHeat_19 rfl ?_
    exact x_iret C .int rfl rfl (⟨by simp [pWant, c_3], rfl⟩) dX4_wantedHeat_20 (Nat.le_of_ble_eq_true rfl) (Nat.le_of_ble_eq_true rfl)
  · refine x_iconst (q := 7) C 0 rfl dX4_wantedHeat_6 rfl ?_
    exact x_iret C .int rfl rfl (⟨by simp [pWant, c_3], rfl⟩) dX4_wantedHeat_7 (Nat.le_of_ble_eq_true rfl) (Nat.le_of_ble_eq_true rfl)

theorem iw_X2_markHeated_X2 : ∀ w ∈ wsX20, w ∈ wsX2_markHeated := by decide +kernel
set_option maxHeartbeats 4000000 in
set_option maxRecDepth 100000 in
/-- markHeated -/
theorem c_X2_markHeated {l : Launch} {D : va_G} {cy : ClassId × ClassId × ClassId} (no nS nL nA nH nV nT nC nD : Nat) (sr : Nat → Nat) (sh ht : Nat → Int32) (sl : Int32) (hsr : ∀ j, 1 ≤ j → j < 12 → sr j < j) : xM false l yX2_markHeated wsX2_markHeated ({ frames := 1, cells := 0, slots := 0, locals := 20 }) D cy [.ref no] ([(no, .inr (2, [.ref nS, .ref nL, .ref nA, .ref nH, .ref nV, .ref nT, .ref nC, .ref nD, .int sl])), (nS, .inl (cy.1, 12, .inl (fun i => nI (sr i)))), (nH, .inl (cy.1, 12, .inl sh)), (nT, .inl (cy.2.1, 12, .inl ht))]) (xQv D (fun w => w = [(no, .inr (2, [.ref nS, .ref nL, .ref nA, .ref nH, .ref nV, .ref nT, .ref nC, .ref nD, .int sl])), (nS, .inl (cy.1, 12, .inl (fun i => nI (sr i)))), (nH, .inl (cy.1, 12, .inl sh)), (nT, .inl (cy.2.1, 12, .inl (hFun sr sh ht)))])) 0 0 := by
  refine xM_of (X := [(no, .inr (2, [.ref nS, .ref nL, .ref nA, .ref nH, .ref nV, .ref nT, .ref nC, .ref nD, .int sl])), (nS, .inl (cy.1, 12, .inl (fun i => nI (sr i)))), (nH, .inl (cy.1, 12, .inl sh)), (nT, .inl (cy.2.1, 12, .inl ht))]) (pl := []) (nL := 4) (ret := none) RX2 [(0, .ref no)] (by decide +kernel) rfl rfl rfl (Nat.le_of_ble_eq_true rfl) (List.append_nil _).symm (fun p e s m args below meth c A C hname hT hZ => ?_)
  refine x_iconst (q := 1) C 1 rfl dX2_markHeated_0 rfl ?_
  refine x_istore_n (q := 2) C [(1, .int 1), (0, .ref no)] dX2_markHeated_1 (by decide) rfl rfl ?_
  refine x_less [0, 1] [(1, .int 1), (0, .ref no)] rfl ?_
  refine x_up (fun j => [(no, .inr (2, [.ref nS, .ref nL, .ref nA, .ref nH, .ref nV, .ref nT, .ref nC, .ref nD, .int sl])), (nS, .inl (cy.1, 12, .inl (fun i => nI (sr i)))), (nH, .inl (cy.1, 12, .inl sh)), (nT, .inl (cy.2.1, 12, .inl (itr (hStep sr sh) ht j)))]) (fun j => [(1, .int (nI (j + 1))), (0, .ref no)]) 11 rfl rfl (fun j h_j ih_j => ?_) ?_
  · refine x_iload_n (q := 3) C 0 rfl dX2_markHeated_2 rfl ?_
    refine x_bipush (q := 5) C 12 rfl dX2_markHeated_3 rfl ?_
    refine x_icmp_ge_f (q := 8) C 67 dX2_markHeated_5 (by decide) rfl (nI_ge (a := (j + 1)) (b := 12) (by omega) (by omega)) ?_
    refine x_aload_n (q := 9) C 1 rfl dX2_markHeated_8 rfl ?_
    refine x_get (q := 12) C (T := TX2) iw_X2_markHeated_X2 rfl 0 0 rfl (by decide) rfl (by decide +kernel : Cond.fieldLink RX2 9 RX2 "source" "[I" ∈ wsX2_markHeated) rfl dX2_markHeated_9 rfl ?_
    refine x_iload_n (q := 13) C 0 rfl dX2_markHeated_12 rfl ?_
    refine x_ialdN (q := 14) C (j + 1) 1 (nI (sr (j + 1))) rfl rfl (by omega) (by omega) rfl dX2_markHeated_13 rfl ?_
    refine x_istore_n (q := 15) C [(2, .int (nI (sr (j + 1)))), (1, .int (nI (j + 1))), (0, .ref no)] dX2_markHeated_14 (by decide) rfl rfl ?_
    refine x_iload_n (q := 16) C 0 rfl dX2_markHeated_15 rfl ?_
    refine x_CiP (q := 19) C [] [0, 1, 2, 3] (cx := []) (wr := [(no, .inr (2, [.ref nS, .ref nL, .ref nA, .ref nH, .ref nV, .ref nT, .ref nC, .ref nD, .int sl])), (nS, .inl (cy.1, 12, .inl (fun i => nI (sr i)))), (nH, .inl (cy.1, 12, .inl sh)), (nT, .inl (cy.2.1, 12, .inl (itr (hStep sr sh) ht j)))]) (st := []) rfl rfl rfl rfl (by decide) (fun H locs ls hP hPc hDc hS hFc hl => x_runSN C (As := [.int (nI (sr (j + 1)))]) (c_X4_isHouse (nI (sr (j + 1)))) (⟨va_cnB 1 C.2.2.2.2.2.1 gX2_markHeated_X4_isHouse_n55 rfl rfl rfl (va_Nw.of rfl (C.2.2.2.2.2.2.1.2.1.use (B := #[]) (by decide +kernel : Cond.methodLinkNest RX2 55 yX4_isHouse RX4 ∈ xNest))) (C.2.2.2.2.2.1 _ (by decide +kernel)) (by decide +kernel) ⟨Nat.le_of_ble_eq_true rfl, Nat.le_of_ble_eq_true rfl⟩, C.2.2.2.2.2.1 (Cond.static yX4_isHouse) (by decide +kernel), trivial⟩) rfl rfl (Nat.le_of_ble_eq_true rfl) dX2_markHeated_16 ⟨Nat.le_of_ble_eq_true rfl, Nat.le_of_ble_eq_true rfl⟩ (fun h => absurd h (by decide)) hP hPc hDc hS hFc hl) (k := 0) (n := 0) rfl rfl rfl (fun r_16 w1 hw => ?_)
    obtain ⟨rfl, rfl⟩ := hw
    refine x_ord [0, 1, 2, 3] [(no, .inr (2, [.ref nS, .ref nL, .ref nA, .ref nH, .ref nV, .ref nT, .ref nC, .ref nD, .int sl])), (nS, .inl (cy.1, 12, .inl (fun i => nI (sr i)))), (nH, .inl (cy.1, 12, .inl sh)), (nT, .inl (cy.2.1, 12, .inl (itr (hStep sr sh) ht j)))] rfl rfl ?_
    refine x_if_eq (q := 22) C 31 dX2_markHeated_19 (by decide) rfl (fun c_19 => ?_) (fun c_19 => ?_)
    · refine x_iconst (q := 32) C 1 rfl dX2_markHeated_31 rfl ?_
      refine x_goto C 36 dX2_markHeated_32 (by decide) ?_
      refine x_istore_n (q := 37) C [(3, .int 1), (2, .int (nI (sr (j + 1)))), (1, .int (nI (j + 1))), (0, .ref no)] dX2_markHeated_36 (by decide) rfl rfl ?_
      refine x_aload_n (q := 38) C 3 rfl dX2_markHeated_37 rfl ?_
      refine x_get (q := 41) C (T := TX2) iw_X2_markHeated_X2 rfl 0 5 rfl (by decide) rfl (by decide +kernel : Cond.fieldLink RX2 27 RX2 "heated" "[Z" ∈ wsX2_markHeated) rfl dX2_markHeated_38 rfl ?_
      refine x_iload_n (q := 42) C 2 rfl dX2_markHeated_41 rfl ?_
      refine x_iload_n (q := 43) C 0 rfl dX2_markHeated_42 rfl ?_
      refine x_if_eq_f (q := 46) C 59 dX2_markHeated_43 (by decide) rfl (by decide) ?_
      refine x_aload_n (q := 47) C 3 rfl dX2_markHeated_46 rfl ?_
      refine x_get (q := 50) C (T := TX2) iw_X2_markHeated_X2 rfl 0 3 rfl (by decide) rfl (by decide +kernel : Cond.fieldLink RX2 21 RX2 "shutHours" "[I" ∈ wsX2_markHeated) rfl dX2_markHeated_47 rfl ?_
      refine x_iload_n (q := 51) C 2 rfl dX2_markHeated_50 rfl ?_
      refine x_ialdN (q := 52) C (j + 1) 2 (sh (j + 1)) rfl rfl (by omega) (by omega) rfl dX2_markHeated_51 rfl ?_
      refine x_if_ne (q := 55) C 59 dX2_markHeated_52 (by decide) rfl (fun c_52 => ?_) (fun c_52 => ?_)
      · refine x_iconst (q := 60) C 0 rfl dX2_markHeated_59 rfl ?_
        refine x_zastN (q := 61) C (j + 1) 3 (upd (itr (hStep sr sh) ht j) (j + 1) 0) [(no, .inr (2, [.ref nS, .ref nL, .ref nA, .ref nH, .ref nV, .ref nT, .ref nC, .ref nD, .int sl])), (nS, .inl (cy.1, 12, .inl (fun i => nI (sr i)))), (nH, .inl (cy.1, 12, .inl sh)), (nT, .inl (cy.2.1, 12, .inl (upd (itr (hStep sr sh) ht j) (j + 1) 0)))] rfl rfl (by omega) (by omega) (congrArg _ vpz0) rfl dX2_markHeated_60 rfl ?_
        refine x_iinc (q := 64) C 2 (nI ((j + 1) + 1)) [(1, .int (nI ((j + 1) + 1))), (3, .int 1), (2, .int (nI (sr (j + 1)))), (0, .ref no)] dX2_markHeated_61 rfl (nI_1 _) (by decide) rfl rfl ?_
        refine x_goto C 2 dX2_markHeated_64 (by decide) ?_
        refine x_less [0, 3] [(1, .int (nI ((j + 1) + 1))), (0, .ref no)] rfl ?_
        have e9 : itr (hStep sr sh) ht (j + 1) = upd (itr (hStep sr sh) ht j) (j + 1) 0 := by
          show hStep sr sh j (itr (hStep sr sh) ht j) = _
          simp [hStep, c_19, c_52]
        refine x_less [0, 1] [(1, .int (nI ((j + 1) + 1))), (0, .ref no)] (by first | rfl | (rw [e9]; rfl)) ?_
        refine x_world (X' := [(no, .inr (2, [.ref nS, .ref nL, .ref nA, .ref nH, .ref nV, .ref nT, .ref nC, .ref nD, .int sl])), (nS, .inl (cy.1, 12, .inl (fun i => nI (sr i)))), (nH, .inl (cy.1, 12, .inl sh)), (nT, .inl (cy.2.1, 12, .inl (itr (hStep sr sh) ht (j + 1))))]) (pl' := []) (by first | rfl | rw [e9]) ?_
        exact ih_j
      · refine x_iconst (q := 56) C 1 rfl dX2_markHeated_55 rfl ?_
        refine x_goto C 60 dX2_markHeated_56 (by decide) ?_
        refine x_zastN (q := 61) C (j + 1) 3 (upd (itr (hStep sr sh) ht j) (j + 1) 1) [(no, .inr (2, [.ref nS, .ref nL, .ref nA, .ref nH, .ref nV, .ref nT, .ref nC, .ref nD, .int sl])), (nS, .inl (cy.1, 12, .inl (fun i => nI (sr i)))), (nH, .inl (cy.1, 12, .inl sh)), (nT, .inl (cy.2.1, 12, .inl (upd (itr (hStep sr sh) ht j) (j + 1) 1)))] rfl rfl (by omega) (by omega) (congrArg _ vpz1) rfl dX2_markHeated_60 rfl ?_
        refine x_iinc (q := 64) C 2 (nI ((j + 1) + 1)) [(1, .int (nI ((j + 1) + 1))), (3, .int 1), (2, .int (nI (sr (j + 1)))), (0, .ref no)] dX2_markHeated_61 rfl (nI_1 _) (by decide) rfl rfl ?_
        refine x_goto C 2 dX2_markHeated_64 (by decide) ?_
        refine x_less [0, 3] [(1, .int (nI ((j + 1) + 1))), (0, .ref no)] rfl ?_
        have e9 : itr (hStep sr sh) ht (j + 1) = upd (itr (hStep sr sh) ht j) (j + 1) 1 := by
          show hStep sr sh j (itr (hStep sr sh) ht j) = _
          simp [hStep, c_19, c_52]
        refine x_less [0, 1] [(1, .int (nI ((j + 1) + 1))), (0, .ref no)] (by first | rfl | (rw [e9]; rfl)) ?_
        refine x_world (X' := [(no, .inr (2, [.ref nS, .ref nL, .ref nA, .ref nH, .ref nV, .ref nT, .ref nC, .ref nD, .int sl])), (nS, .inl (cy.1, 12, .inl (fun i => nI (sr i)))), (nH, .inl (cy.1, 12, .inl sh)), (nT, .inl (cy.2.1, 12, .inl (itr (hStep sr sh) ht (j + 1))))]) (pl' := []) (by first | rfl | rw [e9]) ?_
        exact ih_j
    · refine x_aload_n (q := 23) C 2 rfl dX2_markHeated_22 rfl ?_
      refine x_get (q := 26) C (T := TX2) iw_X2_markHeated_X2 rfl 0 5 rfl (by decide) rfl (by decide +kernel : Cond.fieldLink RX2 27 RX2 "heated" "[Z" ∈ wsX2_markHeated) rfl dX2_markHeated_23 rfl ?_
      refine x_iload_n (q := 27) C 0 rfl dX2_markHeated_26 rfl ?_
      refine x_zaldN (q := 28) C (sr (j + 1)) 3 ((itr (hStep sr sh) ht j) (sr (j + 1))) rfl rfl (by have := hsr (j + 1) (by omega) (by omega); omega) (by omega) rfl dX2_markHeated_27 rfl ?_
      refine x_if_eq (q := 31) C 35 dX2_markHeated_28 (by decide) rfl (fun c_28 => ?_) (fun c_28 => ?_)
      · refine x_iconst (q := 36) C 0 rfl dX2_markHeated_35 rfl ?_
        refine x_istore_n (q := 37) C [(3, .int 0), (2, .int (nI (sr (j + 1)))), (1, .int (nI (j + 1))), (0, .ref no)] dX2_markHeated_36 (by decide) rfl rfl ?_
        refine x_aload_n (q := 38) C 3 rfl dX2_markHeated_37 rfl ?_
        refine x_get (q := 41) C (T := TX2) iw_X2_markHeated_X2 rfl 0 5 rfl (by decide) rfl (by decide +kernel : Cond.fieldLink RX2 27 RX2 "heated" "[Z" ∈ wsX2_markHeated) rfl dX2_markHeated_38 rfl ?_
        refine x_iload_n (q := 42) C 2 rfl dX2_markHeated_41 rfl ?_
        refine x_iload_n (q := 43) C 0 rfl dX2_markHeated_42 rfl ?_
        refine x_if_eq_t C 59 dX2_markHeated_43 (by decide) (by decide) ?_
        refine x_iconst (q := 60) C 0 rfl dX2_markHeated_59 rfl ?_
        refine x_zastN (q := 61) C (j + 1) 3 (upd (itr (hStep sr sh) ht j) (j + 1) 0) [(no, .inr (2, [.ref nS, .ref nL, .ref nA, .ref nH, .ref nV, .ref nT, .ref nC, .ref nD, .int sl])), (nS, .inl (cy.1, 12, .inl (fun i => nI (sr i)))), (nH, .inl (cy.1, 12, .inl sh)), (nT, .inl (cy.2.1, 12, .inl (upd (itr (hStep sr sh) ht j) (j + 1) 0)))] rfl rfl (by omega) (by omega) (congrArg _ vpz0) rfl dX2_markHeated_60 rfl ?_
        refine x_iinc (q := 64) C 2 (nI ((j + 1) + 1)) [(1, .int (nI ((j + 1) + 1))), (3, .int 0), (2, .int (nI (sr (j + 1)))), (0, .ref no)] dX2_markHeated_61 rfl (nI_1 _) (by decide) rfl rfl ?_
        refine x_goto C 2 dX2_markHeated_64 (by decide) ?_
        refine x_less [0, 3] [(1, .int (nI ((j + 1) + 1))), (0, .ref no)] rfl ?_
        have e9 : itr (hStep sr sh) ht (j + 1) = upd (itr (hStep sr sh) ht j) (j + 1) 0 := by
          show hStep sr sh j (itr (hStep sr sh) ht j) = _
          simp [hStep, c_19, c_28]
        refine x_less [0, 1] [(1, .int (nI ((j + 1) + 1))), (0, .ref no)] (by first | rfl | (rw [e9]; rfl)) ?_
        refine x_world (X' := [(no, .inr (2, [.ref nS, .ref nL, .ref nA, .ref nH, .ref nV, .ref nT, .ref nC, .ref nD, .int sl])), (nS, .inl (cy.1, 12, .inl (fun i => nI (sr i)))), (nH, .inl (cy.1, 12, .inl sh)), (nT, .inl (cy.2.1, 12, .inl (itr (hStep sr sh) ht (j + 1))))]) (pl' := []) (by first | rfl | rw [e9]) ?_
        exact ih_j
      · refine x_iconst (q := 32) C 1 rfl dX2_markHeated_31 rfl ?_
        refine x_goto C 36 dX2_markHeated_32 (by decide) ?_
        refine x_istore_n (q := 37) C [(3, .int 1), (2, .int (nI (sr (j + 1)))), (1, .int (nI (j + 1))), (0, .ref no)] dX2_markHeated_36 (by decide) rfl rfl ?_
        refine x_aload_n (q := 38) C 3 rfl dX2_markHeated_37 rfl ?_
        refine x_get (q := 41) C (T := TX2) iw_X2_markHeated_X2 rfl 0 5 rfl (by decide) rfl (by decide +kernel : Cond.fieldLink RX2 27 RX2 "heated" "[Z" ∈ wsX2_markHeated) rfl dX2_markHeated_38 rfl ?_
        refine x_iload_n (q := 42) C 2 rfl dX2_markHeated_41 rfl ?_
        refine x_iload_n (q := 43) C 0 rfl dX2_markHeated_42 rfl ?_
        refine x_if_eq_f (q := 46) C 59 dX2_markHeated_43 (by decide) rfl (by decide) ?_
        refine x_aload_n (q := 47) C 3 rfl dX2_markHeated_46 rfl ?_
        refine x_get (q := 50) C (T := TX2) iw_X2_markHeated_X2 rfl 0 3 rfl (by decide) rfl (by decide +kernel : Cond.fieldLink RX2 21 RX2 "shutHours" "[I" ∈ wsX2_markHeated) rfl dX2_markHeated_47 rfl ?_
        refine x_iload_n (q := 51) C 2 rfl dX2_markHeated_50 rfl ?_
        refine x_ialdN (q := 52) C (j + 1) 2 (sh (j + 1)) rfl rfl (by omega) (by omega) rfl dX2_markHeated_51 rfl ?_
        refine x_if_ne (q := 55) C 59 dX2_markHeated_52 (by decide) rfl (fun c_52 => ?_) (fun c_52 => ?_)
        · refine x_iconst (q := 60) C 0 rfl dX2_markHeated_59 rfl ?_
          refine x_zastN (q := 61) C (j + 1) 3 (upd (itr (hStep sr sh) ht j) (j + 1) 0) [(no, .inr (2, [.ref nS, .ref nL, .ref nA, .ref nH, .ref nV, .ref nT, .ref nC, .ref nD, .int sl])), (nS, .inl (cy.1, 12, .inl (fun i => nI (sr i)))), (nH, .inl (cy.1, 12, .inl sh)), (nT, .inl (cy.2.1, 12, .inl (upd (itr (hStep sr sh) ht j) (j + 1) 0)))] rfl rfl (by omega) (by omega) (congrArg _ vpz0) rfl dX2_markHeated_60 rfl ?_
          refine x_iinc (q := 64) C 2 (nI ((j + 1) + 1)) [(1, .int (nI ((j + 1) + 1))), (3, .int 1), (2, .int (nI (sr (j + 1)))), (0, .ref no)] dX2_markHeated_61 rfl (nI_1 _) (by decide) rfl rfl ?_
          refine x_goto C 2 dX2_markHeated_64 (by decide) ?_
          refine x_less [0, 3] [(1, .int (nI ((j + 1) + 1))), (0, .ref no)] rfl ?_
          have e9 : itr (hStep sr sh) ht (j + 1) = upd (itr (hStep sr sh) ht j) (j + 1) 0 := by
            show hStep sr sh j (itr (hStep sr sh) ht j) = _
            simp [hStep, c_19, c_28, c_52]
          refine x_less [0, 1] [(1, .int (nI ((j + 1) + 1))), (0, .ref no)] (by first | rfl | (rw [e9]; rfl)) ?_
          refine x_world (X' := [(no, .inr (2, [.ref nS, .ref nL, .ref nA, .ref nH, .ref nV, .ref nT, .ref nC, .ref nD, .int sl])), (nS, .inl (cy.1, 12, .inl (fun i => nI (sr i)))), (nH, .inl (cy.1, 12, .inl sh)), (nT, .inl (cy.2.1, 12, .inl (itr (hStep sr sh) ht (j + 1))))]) (pl' := []) (by first | rfl | rw [e9]) ?_
          exact ih_j
        · refine x_iconst (q := 56) C 1 rfl dX2_markHeated_55 rfl ?_
          refine x_goto C 60 dX2_markHeated_56 (by decide) ?_
          refine x_zastN (q := 61) C (j + 1) 3 (upd (itr (hStep sr sh) ht j) (j + 1) 1) [(no, .inr (2, [.ref nS, .ref nL, .ref nA, .ref nH, .ref nV, .ref nT, .ref nC, .ref nD, .int sl])), (nS, .inl (cy.1, 12, .inl (fun i => nI (sr i)))), (nH, .inl (cy.1, 12, .inl sh)), (nT, .inl (cy.2.1, 12, .inl (upd (itr (hStep sr sh) ht j) (j + 1) 1)))] rfl rfl (by omega) (by omega) (congrArg _ vpz1) rfl dX2_markHeated_60 rfl ?_
          refine x_iinc (q := 64) C 2 (nI ((j + 1) + 1)) [(1, .int (nI ((j + 1) + 1))), (3, .int 1), (2, .int (nI (sr (j + 1)))), (0, .ref no)] dX2_markHeated_61 rfl (nI_1 _) (by decide) rfl rfl ?_
          refine x_goto C 2 dX2_markHeated_64 (by decide) ?_
          refine x_less [0, 3] [(1, .int (nI ((j + 1) + 1))), (0, .ref no)] rfl ?_
          have e9 : itr (hStep sr sh) ht (j + 1) = upd (itr (hStep sr sh) ht j) (j + 1) 1 := by
            show hStep sr sh j (itr (hStep sr sh) ht j) = _
            simp [hStep, c_19, c_28, c_52]
          refine x_less [0, 1] [(1, .int (nI ((j + 1) + 1))), (0, .ref no)] (by first | rfl | (rw [e9]; rfl)) ?_
          refine x_world (X' := [(no, .inr (2, [.ref nS, .ref nL, .ref nA, .ref nH, .ref nV, .ref nT, .ref nC, .ref nD, .int sl])), (nS, .inl (cy.1, 12, .inl (fun i => nI (sr i)))), (nH, .inl (cy.1, 12, .inl sh)), (nT, .inl (cy.2.1, 12, .inl (itr (hStep sr sh) ht (j + 1))))]) (pl' := []) (by first | rfl | rw [e9]) ?_
          exact ih_j
  · refine x_iload_n (q := 3) C 0 rfl dX2_markHeated_2 rfl ?_
    refine x_bipush (q := 5) C 12 rfl dX2_markHeated_3 rfl ?_
    refine x_icmp_ge_t C 67 dX2_markHeated_5 (by decide) (nI_le (a := 12) (b := (11 + 1)) (by omega) (by omega)) ?_
    exact x_vret C rfl (rfl) dX2_markHeated_67 (Nat.le_of_ble_eq_true rfl) (Nat.le_of_ble_eq_true rfl)

theorem iw_X2_markCarries_X2 : ∀ w ∈ wsX20, w ∈ wsX2_markCarries := by decide +kernel
set_option maxHeartbeats 4000000 in
set_option maxRecDepth 100000 in
/-- markCarries -/
theorem c_X2_markCarries {l : Launch} {D : va_G} {cy : ClassId × ClassId × ClassId} (no nS nL nA nH nV nT nC nD : Nat) (sr : Nat → Nat) (ca dm : Nat → Int32) (sl : Int32) (hsr : ∀ j, 1 ≤ j → j < 12 → sr j < j) : xM false l yX2_markCarries wsX2_markCarries ({ frames := 1, cells := 0, slots := 0, locals := 20 }) D cy [.ref no] ([(no, .inr (2, [.ref nS, .ref nL, .ref nA, .ref nH, .ref nV, .ref nT, .ref nC, .ref nD, .int sl])), (nS, .inl (cy.1, 12, .inl (fun i => nI (sr i)))), (nC, .inl (cy.2.1, 12, .inl ca)), (nD, .inl (cy.1, 12, .inl dm))]) (xQv D (fun w => w = [(no, .inr (2, [.ref nS, .ref nL, .ref nA, .ref nH, .ref nV, .ref nT, .ref nC, .ref nD, .int sl])), (nS, .inl (cy.1, 12, .inl (fun i => nI (sr i)))), (nC, .inl (cy.2.1, 12, .inl (cFun sr dm ca))), (nD, .inl (cy.1, 12, .inl dm))])) 0 0 := by
  refine xM_of (X := [(no, .inr (2, [.ref nS, .ref nL, .ref nA, .ref nH, .ref nV, .ref nT, .ref nC, .ref nD, .int sl])), (nS, .inl (cy.1, 12, .inl (fun i => nI (sr i)))), (nC, .inl (cy.2.1, 12, .inl ca)), (nD, .inl (cy.1, 12, .inl dm))]) (pl := []) (nL := 3) (ret := none) RX2 [(0, .ref no)] (by decide +kernel) rfl rfl rfl (Nat.le_of_ble_eq_true rfl) (List.append_nil _).symm (fun p e s m args below meth c A C hname hT hZ => ?_)
  refine x_iconst (q := 1) C 1 rfl dX2_markCarries_0 rfl ?_
  refine x_istore_n (q := 2) C [(1, .int 1), (0, .ref no)] dX2_markCarries_1 (by decide) rfl rfl ?_
  refine x_less [0, 1] [(1, .int 1), (0, .ref no)] rfl ?_
  refine x_up (fun j => [(no, .inr (2, [.ref nS, .ref nL, .ref nA, .ref nH, .ref nV, .ref nT, .ref nC, .ref nD, .int sl])), (nS, .inl (cy.1, 12, .inl (fun i => nI (sr i)))), (nC, .inl (cy.2.1, 12, .inl (itr (cIni dm) ca j))), (nD, .inl (cy.1, 12, .inl dm))]) (fun j => [(1, .int (nI (j + 1))), (0, .ref no)]) 11 rfl rfl (fun j h_j ih_j => ?_) ?_
  · refine x_iload_n (q := 3) C 0 rfl dX2_markCarries_2 rfl ?_
    refine x_bipush (q := 5) C 12 rfl dX2_markCarries_3 rfl ?_
    refine x_icmp_ge_f (q := 8) C 34 dX2_markCarries_5 (by decide) rfl (nI_ge (a := (j + 1)) (b := 12) (by omega) (by omega)) ?_
    refine x_aload_n (q := 9) C 1 rfl dX2_markCarries_8 rfl ?_
    refine x_get (q := 12) C (T := TX2) iw_X2_markCarries_X2 rfl 0 6 rfl (by decide) rfl (by decide +kernel : Cond.fieldLink RX2 31 RX2 "carries" "[Z" ∈ wsX2_markCarries) rfl dX2_markCarries_9 rfl ?_
    refine x_iload_n (q := 13) C 0 rfl dX2_markCarries_12 rfl ?_
    refine x_aload_n (q := 14) C 1 rfl dX2_markCarries_13 rfl ?_
    refine x_get (q := 17) C (T := TX2) iw_X2_markCarries_X2 rfl 0 7 rfl (by decide) rfl (by decide +kernel : Cond.fieldLink RX2 34 RX2 "demand" "[I" ∈ wsX2_markCarries) rfl dX2_markCarries_14 rfl ?_
    refine x_iload_n (q := 18) C 0 rfl dX2_markCarries_17 rfl ?_
    refine x_ialdN (q := 19) C (j + 1) 3 (dm (j + 1)) rfl rfl (by omega) (by omega) rfl dX2_markCarries_18 rfl ?_
    refine x_if_le (q := 22) C 26 dX2_markCarries_19 (by decide) rfl (fun c_19 => ?_) (fun c_19 => ?_)
    · refine x_iconst (q := 27) C 0 rfl dX2_markCarries_26 rfl ?_
      refine x_zastN (q := 28) C (j + 1) 2 (upd (itr (cIni dm) ca j) (j + 1) 0) [(no, .inr (2, [.ref nS, .ref nL, .ref nA, .ref nH, .ref nV, .ref nT, .ref nC, .ref nD, .int sl])), (nS, .inl (cy.1, 12, .inl (fun i => nI (sr i)))), (nC, .inl (cy.2.1, 12, .inl (upd (itr (cIni dm) ca j) (j + 1) 0))), (nD, .inl (cy.1, 12, .inl dm))] rfl rfl (by omega) (by omega) (congrArg _ vpz0) rfl dX2_markCarries_27 rfl ?_
      refine x_iinc (q := 31) C 0 (nI ((j + 1) + 1)) [(1, .int (nI ((j + 1) + 1))), (0, .ref no)] dX2_markCarries_28 rfl (nI_1 _) (by decide) rfl rfl ?_
      refine x_goto C 2 dX2_markCarries_31 (by decide) ?_
      refine x_less [0, 1] [(1, .int (nI ((j + 1) + 1))), (0, .ref no)] rfl ?_
      have e9 : itr (cIni dm) ca (j + 1) = upd (itr (cIni dm) ca j) (j + 1) 0 := by
        show cIni dm j (itr (cIni dm) ca j) = _
        simp [cIni, c_19]
      refine x_less [0, 1] [(1, .int (nI ((j + 1) + 1))), (0, .ref no)] (by first | rfl | (rw [e9]; rfl)) ?_
      refine x_world (X' := [(no, .inr (2, [.ref nS, .ref nL, .ref nA, .ref nH, .ref nV, .ref nT, .ref nC, .ref nD, .int sl])), (nS, .inl (cy.1, 12, .inl (fun i => nI (sr i)))), (nC, .inl (cy.2.1, 12, .inl (itr (cIni dm) ca (j + 1)))), (nD, .inl (cy.1, 12, .inl dm))]) (pl' := []) (by first | rfl | rw [e9]) ?_
      exact ih_j
    · refine x_iconst (q := 23) C 1 rfl dX2_markCarries_22 rfl ?_
      refine x_goto C 27 dX2_markCarries_23 (by decide) ?_
      refine x_zastN (q := 28) C (j + 1) 2 (upd (itr (cIni dm) ca j) (j + 1) 1) [(no, .inr (2, [.ref nS, .ref nL, .ref nA, .ref nH, .ref nV, .ref nT, .ref nC, .ref nD, .int sl])), (nS, .inl (cy.1, 12, .inl (fun i => nI (sr i)))), (nC, .inl (cy.2.1, 12, .inl (upd (itr (cIni dm) ca j) (j + 1) 1))), (nD, .inl (cy.1, 12, .inl dm))] rfl rfl (by omega) (by omega) (congrArg _ vpz1) rfl dX2_markCarries_27 rfl ?_
      refine x_iinc (q := 31) C 0 (nI ((j + 1) + 1)) [(1, .int (nI ((j + 1) + 1))), (0, .ref no)] dX2_markCarries_28 rfl (nI_1 _) (by decide) rfl rfl ?_
      refine x_goto C 2 dX2_markCarries_31 (by decide) ?_
      refine x_less [0, 1] [(1, .int (nI ((j + 1) + 1))), (0, .ref no)] rfl ?_
      have e9 : itr (cIni dm) ca (j + 1) = upd (itr (cIni dm) ca j) (j + 1) 1 := by
        show cIni dm j (itr (cIni dm) ca j) = _
        simp [cIni, c_19]
      refine x_less [0, 1] [(1, .int (nI ((j + 1) + 1))), (0, .ref no)] (by first | rfl | (rw [e9]; rfl)) ?_
      refine x_world (X' := [(no, .inr (2, [.ref nS, .ref nL, .ref nA, .ref nH, .ref nV, .ref nT, .ref nC, .ref nD, .int sl])), (nS, .inl (cy.1, 12, .inl (fun i => nI (sr i)))), (nC, .inl (cy.2.1, 12, .inl (itr (cIni dm) ca (j + 1)))), (nD, .inl (cy.1, 12, .inl dm))]) (pl' := []) (by first | rfl | rw [e9]) ?_
      exact ih_j
  · refine x_iload_n (q := 3) C 0 rfl dX2_markCarries_2 rfl ?_
    refine x_bipush (q := 5) C 12 rfl dX2_markCarries_3 rfl ?_
    refine x_icmp_ge_t C 34 dX2_markCarries_5 (by decide) (nI_le (a := 12) (b := (11 + 1)) (by omega) (by omega)) ?_
    refine x_bipush (q := 36) C 11 rfl dX2_markCarries_34 rfl ?_
    refine x_istore_n (q := 37) C [(1, .int 11), (0, .ref no)] dX2_markCarries_36 (by decide) rfl rfl ?_
    refine x_less [0, 1] [(1, .int 11), (0, .ref no)] rfl ?_
    refine x_up (fun j => [(no, .inr (2, [.ref nS, .ref nL, .ref nA, .ref nH, .ref nV, .ref nT, .ref nC, .ref nD, .int sl])), (nS, .inl (cy.1, 12, .inl (fun i => nI (sr i)))), (nC, .inl (cy.2.1, 12, .inl (itr (cStep sr) (itr (cIni dm) ca 11) j))), (nD, .inl (cy.1, 12, .inl dm))]) (fun j => [(1, .int (nI (11 - j))), (0, .ref no)]) 11 rfl rfl (fun j h_j ih_j => ?_) ?_
    · refine x_iload_n (q := 38) C 0 rfl dX2_markCarries_37 rfl ?_
      refine x_iconst (q := 39) C 1 rfl dX2_markCarries_38 rfl ?_
      refine x_icmp_lt_f (q := 42) C 78 dX2_markCarries_39 (by decide) rfl (nI_nlt (a := (11 - j)) (b := 1) (by omega) (by omega)) ?_
      refine x_aload_n (q := 43) C 1 rfl dX2_markCarries_42 rfl ?_
      refine x_get (q := 46) C (T := TX2) iw_X2_markCarries_X2 rfl 0 0 rfl (by decide) rfl (by decide +kernel : Cond.fieldLink RX2 9 RX2 "source" "[I" ∈ wsX2_markCarries) rfl dX2_markCarries_43 rfl ?_
      refine x_iload_n (q := 47) C 0 rfl dX2_markCarries_46 rfl ?_
      refine x_ialdN (q := 48) C (11 - j) 1 (nI (sr (11 - j))) rfl rfl (by omega) (by omega) rfl dX2_markCarries_47 rfl ?_
      refine x_istore_n (q := 49) C [(2, .int (nI (sr (11 - j)))), (1, .int (nI (11 - j))), (0, .ref no)] dX2_markCarries_48 (by decide) rfl rfl ?_
      refine x_aload_n (q := 50) C 2 rfl dX2_markCarries_49 rfl ?_
      refine x_get (q := 53) C (T := TX2) iw_X2_markCarries_X2 rfl 0 6 rfl (by decide) rfl (by decide +kernel : Cond.fieldLink RX2 31 RX2 "carries" "[Z" ∈ wsX2_markCarries) rfl dX2_markCarries_50 rfl ?_
      refine x_iload_n (q := 54) C 1 rfl dX2_markCarries_53 rfl ?_
      refine x_zaldN (q := 55) C (11 - j) 2 ((itr (cStep sr) (itr (cIni dm) ca 11) j) (11 - j)) rfl rfl (by omega) (by omega) rfl dX2_markCarries_54 rfl ?_
      refine x_if_eq (q := 58) C 72 dX2_markCarries_55 (by decide) rfl (fun c_55 => ?_) (fun c_55 => ?_)
      · refine x_iinc (q := 75) C 1 (nI (11 - (j + 1))) [(1, .int (nI (11 - (j + 1)))), (2, .int (nI (sr (11 - j)))), (0, .ref no)] dX2_markCarries_72 rfl (nI_dn h_j) (by decide) rfl rfl ?_
        refine x_goto C 37 dX2_markCarries_75 (by decide) ?_
        refine x_less [0, 2] [(1, .int (nI (11 - (j + 1)))), (0, .ref no)] rfl ?_
        have e9 : itr (cStep sr) (itr (cIni dm) ca 11) (j + 1) = itr (cStep sr) (itr (cIni dm) ca 11) j := by
          show cStep sr j (itr (cStep sr) (itr (cIni dm) ca 11) j) = _
          simp [cStep, c_55]
        refine x_less [0, 1] [(1, .int (nI (11 - (j + 1)))), (0, .ref no)] (by first | rfl | (rw [e9]; rfl)) ?_
        refine x_world (X' := [(no, .inr (2, [.ref nS, .ref nL, .ref nA, .ref nH, .ref nV, .ref nT, .ref nC, .ref nD, .int sl])), (nS, .inl (cy.1, 12, .inl (fun i => nI (sr i)))), (nC, .inl (cy.2.1, 12, .inl (itr (cStep sr) (itr (cIni dm) ca 11) (j + 1)))), (nD, .inl (cy.1, 12, .inl dm))]) (pl' := []) (by first | rfl | rw [e9]) ?_
        exact ih_j
      · refine x_iload_n (q := 59) C 0 rfl dX2_markCarries_58 rfl ?_
        refine x_CiP (q := 62) C [] [0, 1, 2, 3] (cx := []) (wr := [(no, .inr (2, [.ref nS, .ref nL, .ref nA, .ref nH, .ref nV, .ref nT, .ref nC, .ref nD, .int sl])), (nS, .inl (cy.1, 12, .inl (fun i => nI (sr i)))), (nC, .inl (cy.2.1, 12, .inl (itr (cStep sr) (itr (cIni dm) ca 11) j))), (nD, .inl (cy.1, 12, .inl dm))]) (st := []) rfl rfl rfl rfl (by decide) (fun H locs ls hP hPc hDc hS hFc hl => x_runSN C (As := [.int (nI (sr (11 - j)))]) (c_X4_isHouse (nI (sr (11 - j)))) (⟨va_cnB 1 C.2.2.2.2.2.1 gX2_markCarries_X4_isHouse_n55 rfl rfl rfl (va_Nw.of rfl (C.2.2.2.2.2.2.1.2.1.use (B := #[]) (by decide +kernel : Cond.methodLinkNest RX2 55 yX4_isHouse RX4 ∈ xNest))) (C.2.2.2.2.2.1 _ (by decide +kernel)) (by decide +kernel) ⟨Nat.le_of_ble_eq_true rfl, Nat.le_of_ble_eq_true rfl⟩, C.2.2.2.2.2.1 (Cond.static yX4_isHouse) (by decide +kernel), trivial⟩) rfl rfl (Nat.le_of_ble_eq_true rfl) dX2_markCarries_59 ⟨Nat.le_of_ble_eq_true rfl, Nat.le_of_ble_eq_true rfl⟩ (fun h => absurd h (by decide)) hP hPc hDc hS hFc hl) (k := 0) (n := 0) rfl rfl rfl (fun r_59 w1 hw => ?_)
        obtain ⟨rfl, rfl⟩ := hw
        refine x_ord [0, 1, 2, 3] [(no, .inr (2, [.ref nS, .ref nL, .ref nA, .ref nH, .ref nV, .ref nT, .ref nC, .ref nD, .int sl])), (nS, .inl (cy.1, 12, .inl (fun i => nI (sr i)))), (nC, .inl (cy.2.1, 12, .inl (itr (cStep sr) (itr (cIni dm) ca 11) j))), (nD, .inl (cy.1, 12, .inl dm))] rfl rfl ?_
        refine x_if_eq (q := 65) C 72 dX2_markCarries_62 (by decide) rfl (fun c_62 => ?_) (fun c_62 => ?_)
        · refine x_iinc (q := 75) C 1 (nI (11 - (j + 1))) [(1, .int (nI (11 - (j + 1)))), (2, .int (nI (sr (11 - j)))), (0, .ref no)] dX2_markCarries_72 rfl (nI_dn h_j) (by decide) rfl rfl ?_
          refine x_goto C 37 dX2_markCarries_75 (by decide) ?_
          refine x_less [0, 2] [(1, .int (nI (11 - (j + 1)))), (0, .ref no)] rfl ?_
          have e9 : itr (cStep sr) (itr (cIni dm) ca 11) (j + 1) = itr (cStep sr) (itr (cIni dm) ca 11) j := by
            show cStep sr j (itr (cStep sr) (itr (cIni dm) ca 11) j) = _
            simp [cStep, c_55, c_62]
          refine x_less [0, 1] [(1, .int (nI (11 - (j + 1)))), (0, .ref no)] (by first | rfl | (rw [e9]; rfl)) ?_
          refine x_world (X' := [(no, .inr (2, [.ref nS, .ref nL, .ref nA, .ref nH, .ref nV, .ref nT, .ref nC, .ref nD, .int sl])), (nS, .inl (cy.1, 12, .inl (fun i => nI (sr i)))), (nC, .inl (cy.2.1, 12, .inl (itr (cStep sr) (itr (cIni dm) ca 11) (j + 1)))), (nD, .inl (cy.1, 12, .inl dm))]) (pl' := []) (by first | rfl | rw [e9]) ?_
          exact ih_j
        · refine x_aload_n (q := 66) C 2 rfl dX2_markCarries_65 rfl ?_
          refine x_get (q := 69) C (T := TX2) iw_X2_markCarries_X2 rfl 0 6 rfl (by decide) rfl (by decide +kernel : Cond.fieldLink RX2 31 RX2 "carries" "[Z" ∈ wsX2_markCarries) rfl dX2_markCarries_66 rfl ?_
          refine x_iload_n (q := 70) C 0 rfl dX2_markCarries_69 rfl ?_
          refine x_iconst (q := 71) C 1 rfl dX2_markCarries_70 rfl ?_
          refine x_zastN (q := 72) C (sr (11 - j)) 2 (upd (itr (cStep sr) (itr (cIni dm) ca 11) j) (sr (11 - j)) 1) [(no, .inr (2, [.ref nS, .ref nL, .ref nA, .ref nH, .ref nV, .ref nT, .ref nC, .ref nD, .int sl])), (nS, .inl (cy.1, 12, .inl (fun i => nI (sr i)))), (nC, .inl (cy.2.1, 12, .inl (upd (itr (cStep sr) (itr (cIni dm) ca 11) j) (sr (11 - j)) 1))), (nD, .inl (cy.1, 12, .inl dm))] rfl rfl (by have := hsr (11 - j) (by omega) (by omega); omega) (by omega) (congrArg _ vpz1) rfl dX2_markCarries_71 rfl ?_
          refine x_iinc (q := 75) C 1 (nI (11 - (j + 1))) [(1, .int (nI (11 - (j + 1)))), (2, .int (nI (sr (11 - j)))), (0, .ref no)] dX2_markCarries_72 rfl (nI_dn h_j) (by decide) rfl rfl ?_
          refine x_goto C 37 dX2_markCarries_75 (by decide) ?_
          refine x_less [0, 2] [(1, .int (nI (11 - (j + 1)))), (0, .ref no)] rfl ?_
          have e9 : itr (cStep sr) (itr (cIni dm) ca 11) (j + 1) = upd (itr (cStep sr) (itr (cIni dm) ca 11) j) (sr (11 - j)) 1 := by
            show cStep sr j (itr (cStep sr) (itr (cIni dm) ca 11) j) = _
            simp [cStep, c_55, c_62]
          refine x_less [0, 1] [(1, .int (nI (11 - (j + 1)))), (0, .ref no)] (by first | rfl | (rw [e9]; rfl)) ?_
          refine x_world (X' := [(no, .inr (2, [.ref nS, .ref nL, .ref nA, .ref nH, .ref nV, .ref nT, .ref nC, .ref nD, .int sl])), (nS, .inl (cy.1, 12, .inl (fun i => nI (sr i)))), (nC, .inl (cy.2.1, 12, .inl (itr (cStep sr) (itr (cIni dm) ca 11) (j + 1)))), (nD, .inl (cy.1, 12, .inl dm))]) (pl' := []) (by first | rfl | rw [e9]) ?_
          exact ih_j
    · refine x_iload_n (q := 38) C 0 rfl dX2_markCarries_37 rfl ?_
      refine x_iconst (q := 39) C 1 rfl dX2_markCarries_38 rfl ?_
      refine x_icmp_lt_t C 78 dX2_markCarries_39 (by decide) (nI_lt (a := (11 - 11)) (b := 1) (by omega) (by omega)) ?_
      exact x_vret C rfl (rfl) dX2_markCarries_78 (Nat.le_of_ble_eq_true rfl) (Nat.le_of_ble_eq_true rfl)

theorem iw_X2_carriedLoss_X2 : ∀ w ∈ wsX20, w ∈ wsX2_carriedLoss := by decide +kernel
set_option maxHeartbeats 4000000 in
set_option maxRecDepth 100000 in
/-- carriedLoss -/
theorem c_X2_carriedLoss {l : Launch} {D : va_G} {cy : ClassId × ClassId × ClassId} (no nS nL nA nH nV nT nC nD : Nat) (lo ca : Nat → Int32) (sl : Int32) (k : Nat) (hk : k < 12) : xM false l yX2_carriedLoss wsX2_carriedLoss ({ frames := 1, cells := 0, slots := 0, locals := 20 }) D cy [.ref no, .int (nI k)] ([(no, .inr (2, [.ref nS, .ref nL, .ref nA, .ref nH, .ref nV, .ref nT, .ref nC, .ref nD, .int sl])), (nL, .inl (cy.1, 12, .inl lo)), (nC, .inl (cy.2.1, 12, .inl ca))]) (xQi D (fun r w => r = pCL ca lo k ∧ w = [(no, .inr (2, [.ref nS, .ref nL, .ref nA, .ref nH, .ref nV, .ref nT, .ref nC, .ref nD, .int sl])), (nL, .inl (cy.1, 12, .inl lo)), (nC, .inl (cy.2.1, 12, .inl ca))])) 0 0 := by
  refine xM_of (X := [(no, .inr (2, [.ref nS, .ref nL, .ref nA, .ref nH, .ref nV, .ref nT, .ref nC, .ref nD, .int sl])), (nL, .inl (cy.1, 12, .inl lo)), (nC, .inl (cy.2.1, 12, .inl ca))]) (pl := []) (nL := 2) (ret := (some .int)) RX2 [(0, .ref no), (1, .int (nI k))] (by decide +kernel) rfl rfl rfl (Nat.le_of_ble_eq_true rfl) (List.append_nil _).symm (fun p e s m args below meth c A C hname hT hZ => ?_)
  refine x_iload_n (q := 1) C 1 rfl dX2_carriedLoss_0 rfl ?_
  refine x_CiP (q := 4) C [] [0, 1, 2] (cx := []) (wr := [(no, .inr (2, [.ref nS, .ref nL, .ref nA, .ref nH, .ref nV, .ref nT, .ref nC, .ref nD, .int sl])), (nL, .inl (cy.1, 12, .inl lo)), (nC, .inl (cy.2.1, 12, .inl ca))]) (st := []) rfl rfl rfl rfl (by decide) (fun H locs ls hP hPc hDc hS hFc hl => x_runSN C (As := [.int (nI k)]) (c_X4_isHouse (nI k)) (⟨va_cnB 1 C.2.2.2.2.2.1 gX2_carriedLoss_X4_isHouse_n55 rfl rfl rfl (va_Nw.of rfl (C.2.2.2.2.2.2.1.2.1.use (B := #[]) (by decide +kernel : Cond.methodLinkNest RX2 55 yX4_isHouse RX4 ∈ xNest))) (C.2.2.2.2.2.1 _ (by decide +kernel)) (by decide +kernel) ⟨Nat.le_of_ble_eq_true rfl, Nat.le_of_ble_eq_true rfl⟩, C.2.2.2.2.2.1 (Cond.static yX4_isHouse) (by decide +kernel), trivial⟩) rfl rfl (Nat.le_of_ble_eq_true rfl) dX2_carriedLoss_1 ⟨Nat.le_of_ble_eq_true rfl, Nat.le_of_ble_eq_true rfl⟩ (fun h => absurd h (by decide)) hP hPc hDc hS hFc hl) (k := 0) (n := 0) rfl rfl rfl (fun r_1 w1 hw => ?_)
  obtain ⟨rfl, rfl⟩ := hw
  refine x_ord [0, 1, 2] [(no, .inr (2, [.ref nS, .ref nL, .ref nA, .ref nH, .ref nV, .ref nT, .ref nC, .ref nD, .int sl])), (nL, .inl (cy.1, 12, .inl lo)), (nC, .inl (cy.2.1, 12, .inl ca))] rfl rfl ?_
  refine x_if_eq (q := 7) C 25 dX2_carriedLoss_4 (by decide) rfl (fun c_4 => ?_) (fun c_4 => ?_)
  · refine x_iconst (q := 26) C 0 rfl dX2_carriedLoss_25 rfl ?_
    exact x_iret C .int rfl rfl (⟨by simp [pCL, c_4], rfl⟩) dX2_carriedLoss_26 (Nat.le_of_ble_eq_true rfl) (Nat.le_of_ble_eq_true rfl)
  · refine x_aload_n (q := 8) C 0 rfl dX2_carriedLoss_7 rfl ?_
    refine x_get (q := 11) C (T := TX2) iw_X2_carriedLoss_X2 rfl 0 6 rfl (by decide) rfl (by decide +kernel : Cond.fieldLink RX2 31 RX2 "carries" "[Z" ∈ wsX2_carriedLoss) rfl dX2_carriedLoss_8 rfl ?_
    refine x_iload_n (q := 12) C 1 rfl dX2_carriedLoss_11 rfl ?_
    refine x_zaldN (q := 13) C k 2 (ca k) rfl rfl (by omega) (by omega) rfl dX2_carriedLoss_12 rfl ?_
    refine x_if_eq (q := 16) C 25 dX2_carriedLoss_13 (by decide) rfl (fun c_13 => ?_) (fun c_13 => ?_)
    · refine x_iconst (q := 26) C 0 rfl dX2_carriedLoss_25 rfl ?_
      exact x_iret C .int rfl rfl (⟨by simp [pCL, c_4, c_13], rfl⟩) dX2_carriedLoss_26 (Nat.le_of_ble_eq_true rfl) (Nat.le_of_ble_eq_true rfl)
    · refine x_aload_n (q := 17) C 0 rfl dX2_carriedLoss_16 rfl ?_
      refine x_get (q := 20) C (T := TX2) iw_X2_carriedLoss_X2 rfl 0 1 rfl (by decide) rfl (by decide +kernel : Cond.fieldLink RX2 15 RX2 "loss" "[I" ∈ wsX2_carriedLoss) rfl dX2_carriedLoss_17 rfl ?_
      refine x_iload_n (q := 21) C 1 rfl dX2_carriedLoss_20 rfl ?_
      refine x_ialdN (q := 22) C k 1 (lo k) rfl rfl (by omega) (by omega) rfl dX2_carriedLoss_21 rfl ?_
      refine x_goto C 26 dX2_carriedLoss_22 (by decide) ?_
      exact x_iret C .int rfl rfl (⟨by simp [pCL, c_4, c_13], rfl⟩) dX2_carriedLoss_26 (Nat.le_of_ble_eq_true rfl) (Nat.le_of_ble_eq_true rfl)

theorem iw_X2_survey_X2 : ∀ w ∈ wsX20, w ∈ wsX2_survey := by decide +kernel
set_option maxHeartbeats 4000000 in
set_option maxRecDepth 100000 in
/-- survey -/
theorem c_X2_survey {l : Launch} {D : va_G} {cy : ClassId × ClassId × ClassId} (no nS nL nA nH nV nT nC nD : Nat) (sr : Nat → Nat) (lo ar sh ht ca dm : Nat → Int32) (sl t : Int32) (hsr : ∀ j, 1 ≤ j → j < 12 → sr j < j) : xM false l yX2_survey wsX2_survey ({ frames := 2, cells := 0, slots := 0, locals := 43 }) D cy [.ref no, .int t] ([(no, .inr (2, [.ref nS, .ref nL, .ref nA, .ref nH, .ref nV, .ref nT, .ref nC, .ref nD, .int sl])), (nS, .inl (cy.1, 12, .inl (fun i => nI (sr i)))), (nL, .inl (cy.1, 12, .inl lo)), (nA, .inl (cy.1, 12, .inl ar)), (nH, .inl (cy.1, 12, .inl sh)), (nT, .inl (cy.2.1, 12, .inl ht)), (nC, .inl (cy.2.1, 12, .inl ca)), (nD, .inl (cy.1, 12, .inl dm))]) (xQi D (fun r w => r = oW sr lo ar sh ht dm ca t ∧ w = [(no, .inr (2, [.ref nS, .ref nL, .ref nA, .ref nH, .ref nV, .ref nT, .ref nC, .ref nD, .int (oL sr lo ar sh ht dm ca t)])), (nS, .inl (cy.1, 12, .inl (fun i => nI (sr i)))), (nL, .inl (cy.1, 12, .inl lo)), (nA, .inl (cy.1, 12, .inl ar)), (nH, .inl (cy.1, 12, .inl sh)), (nT, .inl (cy.2.1, 12, .inl (hFun sr sh ht))), (nC, .inl (cy.2.1, 12, .inl (oC sr ar sh ht dm ca t))), (nD, .inl (cy.1, 12, .inl ((oD sr ar sh ht dm t).1)))])) 0 0 := by
  refine xM_of (X := [(no, .inr (2, [.ref nS, .ref nL, .ref nA, .ref nH, .ref nV, .ref nT, .ref nC, .ref nD, .int sl])), (nS, .inl (cy.1, 12, .inl (fun i => nI (sr i)))), (nL, .inl (cy.1, 12, .inl lo)), (nA, .inl (cy.1, 12, .inl ar)), (nH, .inl (cy.1, 12, .inl sh)), (nT, .inl (cy.2.1, 12, .inl ht)), (nC, .inl (cy.2.1, 12, .inl ca)), (nD, .inl (cy.1, 12, .inl dm))]) (pl := []) (nL := 4) (ret := (some .int)) RX2 [(0, .ref no), (1, .int t)] (by decide +kernel) rfl rfl rfl (Nat.le_of_ble_eq_true rfl) (List.append_nil _).symm (fun p e s m args below meth c A C hname hT hZ => ?_)
  refine x_aload_n (q := 1) C 0 rfl dX2_survey_0 rfl ?_
  refine x_CvP (q := 4) C [0, 1, 4, 5] [2, 3, 6, 7] (cx := [(no, .inr (2, [.ref nS, .ref nL, .ref nA, .ref nH, .ref nV, .ref nT, .ref nC, .ref nD, .int sl])), (nS, .inl (cy.1, 12, .inl (fun i => nI (sr i)))), (nH, .inl (cy.1, 12, .inl sh)), (nT, .inl (cy.2.1, 12, .inl ht))]) (wr := [(nL, .inl (cy.1, 12, .inl lo)), (nA, .inl (cy.1, 12, .inl ar)), (nC, .inl (cy.2.1, 12, .inl ca)), (nD, .inl (cy.1, 12, .inl dm))]) (st := []) rfl rfl rfl rfl (by decide) (fun H locs ls hP hPc hDc hS hFc hl => x_runV C (As := []) (c_X2_markHeated no nS nL nA nH nV nT nC nD sr sh ht sl hsr) (cwV 0 C.2.2.2.2.2.1 gX2_survey_X2_markHeated rfl rfl rfl (by decide +kernel) ⟨Nat.le_of_ble_eq_true rfl, Nat.le_of_ble_eq_true rfl⟩) rfl 0 rfl rfl rfl (Nat.le_of_ble_eq_true rfl) dX2_survey_1 ⟨Nat.le_of_ble_eq_true rfl, Nat.le_of_ble_eq_true rfl⟩ (fun h => absurd h (by decide)) hP hPc hDc hS hFc hl) (k := 0) (n := 0) rfl rfl rfl (fun w1 hw => ?_)
  obtain rfl := hw
  refine x_ord [4, 5, 0, 1, 6, 7, 2, 3] [(no, .inr (2, [.ref nS, .ref nL, .ref nA, .ref nH, .ref nV, .ref nT, .ref nC, .ref nD, .int sl])), (nS, .inl (cy.1, 12, .inl (fun i => nI (sr i)))), (nL, .inl (cy.1, 12, .inl lo)), (nA, .inl (cy.1, 12, .inl ar)), (nH, .inl (cy.1, 12, .inl sh)), (nT, .inl (cy.2.1, 12, .inl (hFun sr sh ht))), (nC, .inl (cy.2.1, 12, .inl ca)), (nD, .inl (cy.1, 12, .inl dm))] rfl rfl ?_
  refine x_iconst (q := 5) C 0 rfl dX2_survey_4 rfl ?_
  refine x_istore_n (q := 6) C [(2, .int 0), (0, .ref no), (1, .int t)] dX2_survey_5 (by decide) rfl rfl ?_
  refine x_iconst (q := 7) C 1 rfl dX2_survey_6 rfl ?_
  refine x_istore_n (q := 8) C [(3, .int 1), (2, .int 0), (0, .ref no), (1, .int t)] dX2_survey_7 (by decide) rfl rfl ?_
  refine x_less [0, 1, 2, 3] [(3, .int 1), (2, .int 0), (0, .ref no), (1, .int t)] rfl ?_
  refine x_up (fun j => [(no, .inr (2, [.ref nS, .ref nL, .ref nA, .ref nH, .ref nV, .ref nT, .ref nC, .ref nD, .int sl])), (nS, .inl (cy.1, 12, .inl (fun i => nI (sr i)))), (nL, .inl (cy.1, 12, .inl lo)), (nA, .inl (cy.1, 12, .inl ar)), (nH, .inl (cy.1, 12, .inl sh)), (nT, .inl (cy.2.1, 12, .inl (hFun sr sh ht))), (nC, .inl (cy.2.1, 12, .inl ca)), (nD, .inl (cy.1, 12, .inl ((itr (dStep (hFun sr sh ht) ar t) (dm, 0) j).1)))]) (fun j => [(3, .int (nI (j + 1))), (2, .int ((itr (dStep (hFun sr sh ht) ar t) (dm, 0) j).2)), (0, .ref no), (1, .int t)]) 11 rfl rfl (fun j h_j ih_j => ?_) ?_
  · refine x_iload_n (q := 9) C 0 rfl dX2_survey_8 rfl ?_
    refine x_bipush (q := 11) C 12 rfl dX2_survey_9 rfl ?_
    refine x_icmp_ge_f (q := 14) C 58 dX2_survey_11 (by decide) rfl (nI_ge (a := (j + 1)) (b := 12) (by omega) (by omega)) ?_
    refine x_aload_n (q := 15) C 2 rfl dX2_survey_14 rfl ?_
    refine x_get (q := 18) C (T := TX2) iw_X2_survey_X2 rfl 0 7 rfl (by decide) rfl (by decide +kernel : Cond.fieldLink RX2 34 RX2 "demand" "[I" ∈ wsX2_survey) rfl dX2_survey_15 rfl ?_
    refine x_iload_n (q := 19) C 0 rfl dX2_survey_18 rfl ?_
    refine x_aload_n (q := 20) C 2 rfl dX2_survey_19 rfl ?_
    refine x_get (q := 23) C (T := TX2) iw_X2_survey_X2 rfl 0 5 rfl (by decide) rfl (by decide +kernel : Cond.fieldLink RX2 27 RX2 "heated" "[Z" ∈ wsX2_survey) rfl dX2_survey_20 rfl ?_
    refine x_iload_n (q := 24) C 0 rfl dX2_survey_23 rfl ?_
    refine x_zaldN (q := 25) C (j + 1) 5 ((hFun sr sh ht) (j + 1)) rfl rfl (by omega) (by omega) rfl dX2_survey_24 rfl ?_
    refine x_if_eq (q := 28) C 41 dX2_survey_25 (by decide) rfl (fun c_25 => ?_) (fun c_25 => ?_)
    · refine x_iconst (q := 42) C 0 rfl dX2_survey_41 rfl ?_
      refine x_iastN (q := 43) C (j + 1) 7 (upd ((itr (dStep (hFun sr sh ht) ar t) (dm, 0) j).1) (j + 1) 0) [(no, .inr (2, [.ref nS, .ref nL, .ref nA, .ref nH, .ref nV, .ref nT, .ref nC, .ref nD, .int sl])), (nS, .inl (cy.1, 12, .inl (fun i => nI (sr i)))), (nL, .inl (cy.1, 12, .inl lo)), (nA, .inl (cy.1, 12, .inl ar)), (nH, .inl (cy.1, 12, .inl sh)), (nT, .inl (cy.2.1, 12, .inl (hFun sr sh ht))), (nC, .inl (cy.2.1, 12, .inl ca)), (nD, .inl (cy.1, 12, .inl (upd ((itr (dStep (hFun sr sh ht) ar t) (dm, 0) j).1) (j + 1) 0)))] rfl rfl (by omega) (by omega) rfl rfl dX2_survey_42 rfl ?_
      refine x_iload_n (q := 44) C 1 rfl dX2_survey_43 rfl ?_
      refine x_aload_n (q := 45) C 2 rfl dX2_survey_44 rfl ?_
      refine x_get (q := 48) C (T := TX2) iw_X2_survey_X2 rfl 0 7 rfl (by decide) rfl (by decide +kernel : Cond.fieldLink RX2 34 RX2 "demand" "[I" ∈ wsX2_survey) rfl dX2_survey_45 rfl ?_
      refine x_iload_n (q := 49) C 0 rfl dX2_survey_48 rfl ?_
      refine x_ialdN (q := 50) C (j + 1) 7 0 rfl rfl (by omega) (by omega) pk_us dX2_survey_49 rfl ?_
      refine x_iadd (q := 51) C (((itr (dStep (hFun sr sh ht) ar t) (dm, 0) j).2) + 0) (rfl) dX2_survey_50 rfl ?_
      refine x_istore_n (q := 52) C [(2, .int (((itr (dStep (hFun sr sh ht) ar t) (dm, 0) j).2) + 0)), (3, .int (nI (j + 1))), (0, .ref no), (1, .int t)] dX2_survey_51 (by decide) rfl rfl ?_
      refine x_iinc (q := 55) C 1 (nI ((j + 1) + 1)) [(3, .int (nI ((j + 1) + 1))), (2, .int (((itr (dStep (hFun sr sh ht) ar t) (dm, 0) j).2) + 0)), (0, .ref no), (1, .int t)] dX2_survey_52 rfl (nI_1 _) (by decide) rfl rfl ?_
      refine x_goto C 8 dX2_survey_55 (by decide) ?_
      refine x_less [0, 1, 2, 3] [(3, .int (nI ((j + 1) + 1))), (2, .int (((itr (dStep (hFun sr sh ht) ar t) (dm, 0) j).2) + 0)), (0, .ref no), (1, .int t)] rfl ?_
      have e9 : itr (dStep (hFun sr sh ht) ar t) (dm, 0) (j + 1) = (upd ((itr (dStep (hFun sr sh ht) ar t) (dm, 0) j).1) (j + 1) 0, ((itr (dStep (hFun sr sh ht) ar t) (dm, 0) j).2) + 0) := by
        show dStep (hFun sr sh ht) ar t j (itr (dStep (hFun sr sh ht) ar t) (dm, 0) j) = _
        simp [dStep, c_25]
      refine x_less [0, 1, 2, 3] [(3, .int (nI ((j + 1) + 1))), (2, .int ((itr (dStep (hFun sr sh ht) ar t) (dm, 0) (j + 1)).2)), (0, .ref no), (1, .int t)] (by first | rfl | (rw [e9]; rfl)) ?_
      refine x_world (X' := [(no, .inr (2, [.ref nS, .ref nL, .ref nA, .ref nH, .ref nV, .ref nT, .ref nC, .ref nD, .int sl])), (nS, .inl (cy.1, 12, .inl (fun i => nI (sr i)))), (nL, .inl (cy.1, 12, .inl lo)), (nA, .inl (cy.1, 12, .inl ar)), (nH, .inl (cy.1, 12, .inl sh)), (nT, .inl (cy.2.1, 12, .inl (hFun sr sh ht))), (nC, .inl (cy.2.1, 12, .inl ca)), (nD, .inl (cy.1, 12, .inl ((itr (dStep (hFun sr sh ht) ar t) (dm, 0) (j + 1)).1)))]) (pl' := []) (by first | rfl | rw [e9]) ?_
      exact ih_j
    · refine x_aload_n (q := 29) C 2 rfl dX2_survey_28 rfl ?_
      refine x_get (q := 32) C (T := TX2) iw_X2_survey_X2 rfl 0 2 rfl (by decide) rfl (by decide +kernel : Cond.fieldLink RX2 18 RX2 "area" "[I" ∈ wsX2_survey) rfl dX2_survey_29 rfl ?_
      refine x_iload_n (q := 33) C 0 rfl dX2_survey_32 rfl ?_
      refine x_ialdN (q := 34) C (j + 1) 3 (ar (j + 1)) rfl rfl (by omega) (by omega) rfl dX2_survey_33 rfl ?_
      refine x_iload_n (q := 35) C 3 rfl dX2_survey_34 rfl ?_
      refine x_CiP (q := 38) C [] [0, 1, 2, 3, 4, 5, 6, 7] (cx := []) (wr := [(no, .inr (2, [.ref nS, .ref nL, .ref nA, .ref nH, .ref nV, .ref nT, .ref nC, .ref nD, .int sl])), (nS, .inl (cy.1, 12, .inl (fun i => nI (sr i)))), (nL, .inl (cy.1, 12, .inl lo)), (nA, .inl (cy.1, 12, .inl ar)), (nH, .inl (cy.1, 12, .inl sh)), (nT, .inl (cy.2.1, 12, .inl (hFun sr sh ht))), (nC, .inl (cy.2.1, 12, .inl ca)), (nD, .inl (cy.1, 12, .inl ((itr (dStep (hFun sr sh ht) ar t) (dm, 0) j).1)))]) (st := [.int (nI (j + 1)), .ref nD]) rfl rfl rfl rfl (by decide) (fun H locs ls hP hPc hDc hS hFc hl => x_runSN C (As := [.int (ar (j + 1)), .int t]) (c_X4_wantedHeat (ar (j + 1)) t) (⟨va_cnB 2 C.2.2.2.2.2.1 gX2_survey_X4_wantedHeat_n40 rfl rfl rfl (va_Nw.of rfl (C.2.2.2.2.2.2.1.2.1.use (B := #[]) (by decide +kernel : Cond.methodLinkNest RX2 40 yX4_wantedHeat RX4 ∈ xNest))) (C.2.2.2.2.2.1 _ (by decide +kernel)) (by decide +kernel) ⟨Nat.le_of_ble_eq_true rfl, Nat.le_of_ble_eq_true rfl⟩, C.2.2.2.2.2.1 (Cond.static yX4_wantedHeat) (by decide +kernel), trivial⟩) rfl rfl (Nat.le_of_ble_eq_true rfl) dX2_survey_35 ⟨Nat.le_of_ble_eq_true rfl, Nat.le_of_ble_eq_true rfl⟩ (fun h => absurd h (by decide)) hP hPc hDc hS hFc hl) (k := 0) (n := 0) rfl rfl rfl (fun r_35 w1 hw => ?_)
      obtain ⟨rfl, rfl⟩ := hw
      refine x_ord [0, 1, 2, 3, 4, 5, 6, 7] [(no, .inr (2, [.ref nS, .ref nL, .ref nA, .ref nH, .ref nV, .ref nT, .ref nC, .ref nD, .int sl])), (nS, .inl (cy.1, 12, .inl (fun i => nI (sr i)))), (nL, .inl (cy.1, 12, .inl lo)), (nA, .inl (cy.1, 12, .inl ar)), (nH, .inl (cy.1, 12, .inl sh)), (nT, .inl (cy.2.1, 12, .inl (hFun sr sh ht))), (nC, .inl (cy.2.1, 12, .inl ca)), (nD, .inl (cy.1, 12, .inl ((itr (dStep (hFun sr sh ht) ar t) (dm, 0) j).1)))] rfl rfl ?_
      refine x_goto C 42 dX2_survey_38 (by decide) ?_
      refine x_iastN (q := 43) C (j + 1) 7 (upd ((itr (dStep (hFun sr sh ht) ar t) (dm, 0) j).1) (j + 1) (pWant (ar (j + 1)) t)) [(no, .inr (2, [.ref nS, .ref nL, .ref nA, .ref nH, .ref nV, .ref nT, .ref nC, .ref nD, .int sl])), (nS, .inl (cy.1, 12, .inl (fun i => nI (sr i)))), (nL, .inl (cy.1, 12, .inl lo)), (nA, .inl (cy.1, 12, .inl ar)), (nH, .inl (cy.1, 12, .inl sh)), (nT, .inl (cy.2.1, 12, .inl (hFun sr sh ht))), (nC, .inl (cy.2.1, 12, .inl ca)), (nD, .inl (cy.1, 12, .inl (upd ((itr (dStep (hFun sr sh ht) ar t) (dm, 0) j).1) (j + 1) (pWant (ar (j + 1)) t))))] rfl rfl (by omega) (by omega) rfl rfl dX2_survey_42 rfl ?_
      refine x_iload_n (q := 44) C 1 rfl dX2_survey_43 rfl ?_
      refine x_aload_n (q := 45) C 2 rfl dX2_survey_44 rfl ?_
      refine x_get (q := 48) C (T := TX2) iw_X2_survey_X2 rfl 0 7 rfl (by decide) rfl (by decide +kernel : Cond.fieldLink RX2 34 RX2 "demand" "[I" ∈ wsX2_survey) rfl dX2_survey_45 rfl ?_
      refine x_iload_n (q := 49) C 0 rfl dX2_survey_48 rfl ?_
      refine x_ialdN (q := 50) C (j + 1) 7 (pWant (ar (j + 1)) t) rfl rfl (by omega) (by omega) pk_us dX2_survey_49 rfl ?_
      refine x_iadd (q := 51) C (((itr (dStep (hFun sr sh ht) ar t) (dm, 0) j).2) + (pWant (ar (j + 1)) t)) (rfl) dX2_survey_50 rfl ?_
      refine x_istore_n (q := 52) C [(2, .int (((itr (dStep (hFun sr sh ht) ar t) (dm, 0) j).2) + (pWant (ar (j + 1)) t))), (3, .int (nI (j + 1))), (0, .ref no), (1, .int t)] dX2_survey_51 (by decide) rfl rfl ?_
      refine x_iinc (q := 55) C 1 (nI ((j + 1) + 1)) [(3, .int (nI ((j + 1) + 1))), (2, .int (((itr (dStep (hFun sr sh ht) ar t) (dm, 0) j).2) + (pWant (ar (j + 1)) t))), (0, .ref no), (1, .int t)] dX2_survey_52 rfl (nI_1 _) (by decide) rfl rfl ?_
      refine x_goto C 8 dX2_survey_55 (by decide) ?_
      refine x_less [0, 1, 2, 3] [(3, .int (nI ((j + 1) + 1))), (2, .int (((itr (dStep (hFun sr sh ht) ar t) (dm, 0) j).2) + (pWant (ar (j + 1)) t))), (0, .ref no), (1, .int t)] rfl ?_
      have e9 : itr (dStep (hFun sr sh ht) ar t) (dm, 0) (j + 1) = (upd ((itr (dStep (hFun sr sh ht) ar t) (dm, 0) j).1) (j + 1) (pWant (ar (j + 1)) t), ((itr (dStep (hFun sr sh ht) ar t) (dm, 0) j).2) + (pWant (ar (j + 1)) t)) := by
        show dStep (hFun sr sh ht) ar t j (itr (dStep (hFun sr sh ht) ar t) (dm, 0) j) = _
        simp [dStep, c_25]
      refine x_less [0, 1, 2, 3] [(3, .int (nI ((j + 1) + 1))), (2, .int ((itr (dStep (hFun sr sh ht) ar t) (dm, 0) (j + 1)).2)), (0, .ref no), (1, .int t)] (by first | rfl | (rw [e9]; rfl)) ?_
      refine x_world (X' := [(no, .inr (2, [.ref nS, .ref nL, .ref nA, .ref nH, .ref nV, .ref nT, .ref nC, .ref nD, .int sl])), (nS, .inl (cy.1, 12, .inl (fun i => nI (sr i)))), (nL, .inl (cy.1, 12, .inl lo)), (nA, .inl (cy.1, 12, .inl ar)), (nH, .inl (cy.1, 12, .inl sh)), (nT, .inl (cy.2.1, 12, .inl (hFun sr sh ht))), (nC, .inl (cy.2.1, 12, .inl ca)), (nD, .inl (cy.1, 12, .inl ((itr (dStep (hFun sr sh ht) ar t) (dm, 0) (j + 1)).1)))]) (pl' := []) (by first | rfl | rw [e9]) ?_
      exact ih_j
  · refine x_iload_n (q := 9) C 0 rfl dX2_survey_8 rfl ?_
    refine x_bipush (q := 11) C 12 rfl dX2_survey_9 rfl ?_
    refine x_icmp_ge_t C 58 dX2_survey_11 (by decide) (nI_le (a := 12) (b := (11 + 1)) (by omega) (by omega)) ?_
    refine x_aload_n (q := 59) C 2 rfl dX2_survey_58 rfl ?_
    refine x_CvP (q := 62) C [0, 1, 6, 7] [2, 3, 4, 5] (cx := [(no, .inr (2, [.ref nS, .ref nL, .ref nA, .ref nH, .ref nV, .ref nT, .ref nC, .ref nD, .int sl])), (nS, .inl (cy.1, 12, .inl (fun i => nI (sr i)))), (nC, .inl (cy.2.1, 12, .inl ca)), (nD, .inl (cy.1, 12, .inl ((itr (dStep (hFun sr sh ht) ar t) (dm, 0) 11).1)))]) (wr := [(nL, .inl (cy.1, 12, .inl lo)), (nA, .inl (cy.1, 12, .inl ar)), (nH, .inl (cy.1, 12, .inl sh)), (nT, .inl (cy.2.1, 12, .inl (hFun sr sh ht)))]) (st := []) rfl rfl rfl rfl (by decide) (fun H locs ls hP hPc hDc hS hFc hl => x_runV C (As := []) (c_X2_markCarries no nS nL nA nH nV nT nC nD sr ca ((itr (dStep (hFun sr sh ht) ar t) (dm, 0) 11).1) sl hsr) (cwV 0 C.2.2.2.2.2.1 gX2_survey_X2_markCarries rfl rfl rfl (by decide +kernel) ⟨Nat.le_of_ble_eq_true rfl, Nat.le_of_ble_eq_true rfl⟩) rfl 0 rfl rfl rfl (Nat.le_of_ble_eq_true rfl) dX2_survey_59 ⟨Nat.le_of_ble_eq_true rfl, Nat.le_of_ble_eq_true rfl⟩ (fun h => absurd h (by decide)) hP hPc hDc hS hFc hl) (k := 0) (n := 0) rfl rfl rfl (fun w1 hw => ?_)
    obtain rfl := hw
    refine x_ord [4, 5, 0, 1, 2, 3, 6, 7] [(no, .inr (2, [.ref nS, .ref nL, .ref nA, .ref nH, .ref nV, .ref nT, .ref nC, .ref nD, .int sl])), (nS, .inl (cy.1, 12, .inl (fun i => nI (sr i)))), (nL, .inl (cy.1, 12, .inl lo)), (nA, .inl (cy.1, 12, .inl ar)), (nH, .inl (cy.1, 12, .inl sh)), (nT, .inl (cy.2.1, 12, .inl (hFun sr sh ht))), (nC, .inl (cy.2.1, 12, .inl (cFun sr ((itr (dStep (hFun sr sh ht) ar t) (dm, 0) 11).1) ca))), (nD, .inl (cy.1, 12, .inl ((itr (dStep (hFun sr sh ht) ar t) (dm, 0) 11).1)))] rfl rfl ?_
    refine x_aload_n (q := 63) C 2 rfl dX2_survey_62 rfl ?_
    refine x_iconst (q := 64) C 0 rfl dX2_survey_63 rfl ?_
    refine x_put (q := 67) C (T := TX2) iw_X2_survey_X2 tyX2 tyX2_ok nmX2 rfl 0 8 [(no, .inr (2, [.ref nS, .ref nL, .ref nA, .ref nH, .ref nV, .ref nT, .ref nC, .ref nD, .int 0])), (nS, .inl (cy.1, 12, .inl (fun i => nI (sr i)))), (nL, .inl (cy.1, 12, .inl lo)), (nA, .inl (cy.1, 12, .inl ar)), (nH, .inl (cy.1, 12, .inl sh)), (nT, .inl (cy.2.1, 12, .inl (hFun sr sh ht))), (nC, .inl (cy.2.1, 12, .inl (cFun sr ((itr (dStep (hFun sr sh ht) ar t) (dm, 0) 11).1) ca))), (nD, .inl (cy.1, 12, .inl ((itr (dStep (hFun sr sh ht) ar t) (dm, 0) 11).1)))] rfl rfl (by decide) rfl (by decide +kernel : Cond.fieldLink RX2 47 RX2 "surveyedLosses" "I" ∈ wsX2_survey) rfl .int (by decide +kernel) rfl rfl (Nat.le_of_ble_eq_true rfl) dX2_survey_64 rfl ?_
    refine x_iconst (q := 68) C 1 rfl dX2_survey_67 rfl ?_
    refine x_istore_n (q := 69) C [(3, .int 1), (2, .int ((itr (dStep (hFun sr sh ht) ar t) (dm, 0) 11).2)), (0, .ref no), (1, .int t)] dX2_survey_68 (by decide) rfl rfl ?_
    refine x_less [0, 1, 2, 3] [(3, .int 1), (2, .int ((itr (dStep (hFun sr sh ht) ar t) (dm, 0) 11).2)), (0, .ref no), (1, .int t)] rfl ?_
    refine x_up (fun j => [(no, .inr (2, [.ref nS, .ref nL, .ref nA, .ref nH, .ref nV, .ref nT, .ref nC, .ref nD, .int (itr (lStep (cFun sr (dFun (hFun sr sh ht) ar t dm).1 ca) lo) 0 j)])), (nS, .inl (cy.1, 12, .inl (fun i => nI (sr i)))), (nL, .inl (cy.1, 12, .inl lo)), (nA, .inl (cy.1, 12, .inl ar)), (nH, .inl (cy.1, 12, .inl sh)), (nT, .inl (cy.2.1, 12, .inl (hFun sr sh ht))), (nC, .inl (cy.2.1, 12, .inl (cFun sr (dFun (hFun sr sh ht) ar t dm).1 ca))), (nD, .inl (cy.1, 12, .inl ((dFun (hFun sr sh ht) ar t dm).1)))]) (fun j => [(3, .int (nI (j + 1))), (2, .int ((dFun (hFun sr sh ht) ar t dm).2)), (0, .ref no), (1, .int t)]) 11 rfl rfl (fun j h_j ih_j => ?_) ?_
    · refine x_iload_n (q := 70) C 0 rfl dX2_survey_69 rfl ?_
      refine x_bipush (q := 72) C 12 rfl dX2_survey_70 rfl ?_
      refine x_icmp_ge_f (q := 75) C 95 dX2_survey_72 (by decide) rfl (nI_ge (a := (j + 1)) (b := 12) (by omega) (by omega)) ?_
      refine x_aload_n (q := 76) C 2 rfl dX2_survey_75 rfl ?_
      refine x_dup (q := 77) C rfl dX2_survey_76 rfl ?_
      refine x_get (q := 80) C (T := TX2) iw_X2_survey_X2 rfl 0 8 rfl (by decide) rfl (by decide +kernel : Cond.fieldLink RX2 47 RX2 "surveyedLosses" "I" ∈ wsX2_survey) rfl dX2_survey_77 rfl ?_
      refine x_aload_n (q := 81) C 2 rfl dX2_survey_80 rfl ?_
      refine x_iload_n (q := 82) C 0 rfl dX2_survey_81 rfl ?_
      refine x_CiP (q := 85) C [0, 2, 6] [1, 3, 4, 5, 7] (cx := [(no, .inr (2, [.ref nS, .ref nL, .ref nA, .ref nH, .ref nV, .ref nT, .ref nC, .ref nD, .int (itr (lStep (cFun sr (dFun (hFun sr sh ht) ar t dm).1 ca) lo) 0 j)])), (nL, .inl (cy.1, 12, .inl lo)), (nC, .inl (cy.2.1, 12, .inl (cFun sr (dFun (hFun sr sh ht) ar t dm).1 ca)))]) (wr := [(nS, .inl (cy.1, 12, .inl (fun i => nI (sr i)))), (nA, .inl (cy.1, 12, .inl ar)), (nH, .inl (cy.1, 12, .inl sh)), (nT, .inl (cy.2.1, 12, .inl (hFun sr sh ht))), (nD, .inl (cy.1, 12, .inl ((dFun (hFun sr sh ht) ar t dm).1)))]) (st := [.int (itr (lStep (cFun sr (dFun (hFun sr sh ht) ar t dm).1 ca) lo) 0 j), .ref no]) rfl rfl rfl rfl (by decide) (fun H locs ls hP hPc hDc hS hFc hl => x_runV C (As := [.int (nI (j + 1))]) (c_X2_carriedLoss no nS nL nA nH nV nT nC nD lo (cFun sr (dFun (hFun sr sh ht) ar t dm).1 ca) (itr (lStep (cFun sr (dFun (hFun sr sh ht) ar t dm).1 ca) lo) 0 j) (j + 1) (by omega)) (cwV 1 C.2.2.2.2.2.1 gX2_survey_X2_carriedLoss rfl rfl rfl (by decide +kernel) ⟨Nat.le_of_ble_eq_true rfl, Nat.le_of_ble_eq_true rfl⟩) rfl 0 rfl rfl rfl (Nat.le_of_ble_eq_true rfl) dX2_survey_82 ⟨Nat.le_of_ble_eq_true rfl, Nat.le_of_ble_eq_true rfl⟩ (fun h => absurd h (by decide)) hP hPc hDc hS hFc hl) (k := 0) (n := 0) rfl rfl rfl (fun r_82 w1 hw => ?_)
      obtain ⟨rfl, rfl⟩ := hw
      refine x_ord [5, 0, 6, 1, 2, 3, 7, 4] [(no, .inr (2, [.ref nS, .ref nL, .ref nA, .ref nH, .ref nV, .ref nT, .ref nC, .ref nD, .int (itr (lStep (cFun sr (dFun (hFun sr sh ht) ar t dm).1 ca) lo) 0 j)])), (nS, .inl (cy.1, 12, .inl (fun i => nI (sr i)))), (nL, .inl (cy.1, 12, .inl lo)), (nA, .inl (cy.1, 12, .inl ar)), (nH, .inl (cy.1, 12, .inl sh)), (nT, .inl (cy.2.1, 12, .inl (hFun sr sh ht))), (nC, .inl (cy.2.1, 12, .inl (cFun sr (dFun (hFun sr sh ht) ar t dm).1 ca))), (nD, .inl (cy.1, 12, .inl ((dFun (hFun sr sh ht) ar t dm).1)))] rfl rfl ?_
      refine x_iadd (q := 86) C ((itr (lStep (cFun sr (dFun (hFun sr sh ht) ar t dm).1 ca) lo) 0 j) + (pCL (cFun sr (dFun (hFun sr sh ht) ar t dm).1 ca) lo (j + 1))) (rfl) dX2_survey_85 rfl ?_
      refine x_put (q := 89) C (T := TX2) iw_X2_survey_X2 tyX2 tyX2_ok nmX2 rfl 0 8 [(no, .inr (2, [.ref nS, .ref nL, .ref nA, .ref nH, .ref nV, .ref nT, .ref nC, .ref nD, .int ((itr (lStep (cFun sr (dFun (hFun sr sh ht) ar t dm).1 ca) lo) 0 j) + (pCL (cFun sr (dFun (hFun sr sh ht) ar t dm).1 ca) lo (j + 1)))])), (nS, .inl (cy.1, 12, .inl (fun i => nI (sr i)))), (nL, .inl (cy.1, 12, .inl lo)), (nA, .inl (cy.1, 12, .inl ar)), (nH, .inl (cy.1, 12, .inl sh)), (nT, .inl (cy.2.1, 12, .inl (hFun sr sh ht))), (nC, .inl (cy.2.1, 12, .inl (cFun sr (dFun (hFun sr sh ht) ar t dm).1 ca))), (nD, .inl (cy.1, 12, .inl ((dFun (hFun sr sh ht) ar t dm).1)))] rfl rfl (by decide) rfl (by decide +kernel : Cond.fieldLink RX2 47 RX2 "surveyedLosses" "I" ∈ wsX2_survey) rfl .int (by decide +kernel) rfl rfl (Nat.le_of_ble_eq_true rfl) dX2_survey_86 rfl ?_
      refine x_iinc (q := 92) C 0 (nI ((j + 1) + 1)) [(3, .int (nI ((j + 1) + 1))), (2, .int ((dFun (hFun sr sh ht) ar t dm).2)), (0, .ref no), (1, .int t)] dX2_survey_89 rfl (nI_1 _) (by decide) rfl rfl ?_
      refine x_goto C 69 dX2_survey_92 (by decide) ?_
      refine x_less [0, 1, 2, 3] [(3, .int (nI ((j + 1) + 1))), (2, .int ((dFun (hFun sr sh ht) ar t dm).2)), (0, .ref no), (1, .int t)] rfl ?_
      refine x_less [0, 1, 2, 3] [(3, .int (nI ((j + 1) + 1))), (2, .int ((dFun (hFun sr sh ht) ar t dm).2)), (0, .ref no), (1, .int t)] (by first | rfl | (rw [e9]; rfl)) ?_
      refine x_world (X' := [(no, .inr (2, [.ref nS, .ref nL, .ref nA, .ref nH, .ref nV, .ref nT, .ref nC, .ref nD, .int (itr (lStep (cFun sr (dFun (hFun sr sh ht) ar t dm).1 ca) lo) 0 (j + 1))])), (nS, .inl (cy.1, 12, .inl (fun i => nI (sr i)))), (nL, .inl (cy.1, 12, .inl lo)), (nA, .inl (cy.1, 12, .inl ar)), (nH, .inl (cy.1, 12, .inl sh)), (nT, .inl (cy.2.1, 12, .inl (hFun sr sh ht))), (nC, .inl (cy.2.1, 12, .inl (cFun sr (dFun (hFun sr sh ht) ar t dm).1 ca))), (nD, .inl (cy.1, 12, .inl ((dFun (hFun sr sh ht) ar t dm).1)))]) (pl' := []) (by first | rfl | rw [e9]) ?_
      exact ih_j
    · refine x_iload_n (q := 70) C 0 rfl dX2_survey_69 rfl ?_
      refine x_bipush (q := 72) C 12 rfl dX2_survey_70 rfl ?_
      refine x_icmp_ge_t C 95 dX2_survey_72 (by decide) (nI_le (a := 12) (b := (11 + 1)) (by omega) (by omega)) ?_
      refine x_iload_n (q := 96) C 1 rfl dX2_survey_95 rfl ?_
      refine x_aload_n (q := 97) C 2 rfl dX2_survey_96 rfl ?_
      refine x_get (q := 100) C (T := TX2) iw_X2_survey_X2 rfl 0 8 rfl (by decide) rfl (by decide +kernel : Cond.fieldLink RX2 47 RX2 "surveyedLosses" "I" ∈ wsX2_survey) rfl dX2_survey_97 rfl ?_
      refine x_iadd (q := 101) C (((dFun (hFun sr sh ht) ar t dm).2) + (itr (lStep (cFun sr (dFun (hFun sr sh ht) ar t dm).1 ca) lo) 0 11)) (rfl) dX2_survey_100 rfl ?_
      exact x_iret C .int rfl rfl (⟨rfl, rfl⟩) dX2_survey_101 (Nat.le_of_ble_eq_true rfl) (Nat.le_of_ble_eq_true rfl)

theorem iw_X2_serve_X2 : ∀ w ∈ wsX20, w ∈ wsX2_serve := by decide +kernel
set_option maxHeartbeats 4000000 in
set_option maxRecDepth 100000 in
/-- serve -/
theorem c_X2_serve {l : Launch} {D : va_G} {cy : ClassId × ClassId × ClassId} (no nS nL nA nH nV nT nC nD : Nat) (sv dm : Nat → Int32) (sl w : Int32) : xM false l yX2_serve wsX2_serve ({ frames := 1, cells := 0, slots := 0, locals := 15 }) D cy [.ref no, .int w] ([(no, .inr (2, [.ref nS, .ref nL, .ref nA, .ref nH, .ref nV, .ref nT, .ref nC, .ref nD, .int sl])), (nV, .inl (cy.1, 12, .inl sv)), (nD, .inl (cy.1, 12, .inl dm))]) (xQv D (fun w1 => w1 = [(no, .inr (2, [.ref nS, .ref nL, .ref nA, .ref nH, .ref nV, .ref nT, .ref nC, .ref nD, .int sl])), (nV, .inl (cy.1, 12, .inl (sFun dm sv (imax 0 (w - sl))))), (nD, .inl (cy.1, 12, .inl dm))])) 0 0 := by
  refine xM_of (X := [(no, .inr (2, [.ref nS, .ref nL, .ref nA, .ref nH, .ref nV, .ref nT, .ref nC, .ref nD, .int sl])), (nV, .inl (cy.1, 12, .inl sv)), (nD, .inl (cy.1, 12, .inl dm))]) (pl := []) (nL := 4) (ret := none) RX2 [(0, .ref no), (1, .int w)] (by decide +kernel) rfl rfl rfl (Nat.le_of_ble_eq_true rfl) (List.append_nil _).symm (fun p e s m args below meth c A C hname hT hZ => ?_)
  refine x_iconst (q := 1) C 0 rfl dX2_serve_0 rfl ?_
  refine x_iload_n (q := 2) C 1 rfl dX2_serve_1 rfl ?_
  refine x_aload_n (q := 3) C 0 rfl dX2_serve_2 rfl ?_
  refine x_get (q := 6) C (T := TX2) iw_X2_serve_X2 rfl 0 8 rfl (by decide) rfl (by decide +kernel : Cond.fieldLink RX2 47 RX2 "surveyedLosses" "I" ∈ wsX2_serve) rfl dX2_serve_3 rfl ?_
  refine x_isub (q := 7) C (w - sl) (rfl) dX2_serve_6 rfl ?_
  refine x_mmax (q := 10) C (imax 0 (w - sl)) rfl (by decide +kernel : Cond.methodLink RX2 59 Lib.Math.max.name ∈ wsX2_serve) (by decide +kernel) (by decide +kernel) (by decide +kernel) (Nat.le_of_ble_eq_true rfl) (Nat.le_of_ble_eq_true rfl) (Nat.le_of_ble_eq_true rfl) (Nat.le_of_ble_eq_true rfl) dX2_serve_7 rfl ?_
  refine x_istore_n (q := 11) C [(2, .int (imax 0 (w - sl))), (0, .ref no), (1, .int w)] dX2_serve_10 (by decide) rfl rfl ?_
  refine x_iconst (q := 12) C 1 rfl dX2_serve_11 rfl ?_
  refine x_istore_n (q := 13) C [(3, .int 1), (2, .int (imax 0 (w - sl))), (0, .ref no), (1, .int w)] dX2_serve_12 (by decide) rfl rfl ?_
  refine x_less [0, 1, 2] [(3, .int 1), (2, .int (imax 0 (w - sl))), (0, .ref no)] rfl ?_
  refine x_up (fun j => [(no, .inr (2, [.ref nS, .ref nL, .ref nA, .ref nH, .ref nV, .ref nT, .ref nC, .ref nD, .int sl])), (nV, .inl (cy.1, 12, .inl ((itr (sStep dm) (sv, imax 0 (w - sl)) j).1))), (nD, .inl (cy.1, 12, .inl dm))]) (fun j => [(3, .int (nI (j + 1))), (2, .int ((itr (sStep dm) (sv, imax 0 (w - sl)) j).2)), (0, .ref no)]) 11 rfl rfl (fun j h_j ih_j => ?_) ?_
  · refine x_iload_n (q := 14) C 0 rfl dX2_serve_13 rfl ?_
    refine x_bipush (q := 16) C 12 rfl dX2_serve_14 rfl ?_
    refine x_icmp_ge_f (q := 19) C 50 dX2_serve_16 (by decide) rfl (nI_ge (a := (j + 1)) (b := 12) (by omega) (by omega)) ?_
    refine x_aload_n (q := 20) C 2 rfl dX2_serve_19 rfl ?_
    refine x_get (q := 23) C (T := TX2) iw_X2_serve_X2 rfl 0 4 rfl (by decide) rfl (by decide +kernel : Cond.fieldLink RX2 24 RX2 "served" "[I" ∈ wsX2_serve) rfl dX2_serve_20 rfl ?_
    refine x_iload_n (q := 24) C 0 rfl dX2_serve_23 rfl ?_
    refine x_aload_n (q := 25) C 2 rfl dX2_serve_24 rfl ?_
    refine x_get (q := 28) C (T := TX2) iw_X2_serve_X2 rfl 0 7 rfl (by decide) rfl (by decide +kernel : Cond.fieldLink RX2 34 RX2 "demand" "[I" ∈ wsX2_serve) rfl dX2_serve_25 rfl ?_
    refine x_iload_n (q := 29) C 0 rfl dX2_serve_28 rfl ?_
    refine x_ialdN (q := 30) C (j + 1) 2 (dm (j + 1)) rfl rfl (by omega) (by omega) rfl dX2_serve_29 rfl ?_
    refine x_iload_n (q := 31) C 1 rfl dX2_serve_30 rfl ?_
    refine x_mmin (q := 34) C (imin (dm (j + 1)) ((itr (sStep dm) (sv, imax 0 (w - sl)) j).2)) rfl (by decide +kernel : Cond.methodLink RX2 64 Lib.Math.min.name ∈ wsX2_serve) (by decide +kernel) (by decide +kernel) (by decide +kernel) (Nat.le_of_ble_eq_true rfl) (Nat.le_of_ble_eq_true rfl) (Nat.le_of_ble_eq_true rfl) (Nat.le_of_ble_eq_true rfl) dX2_serve_31 rfl ?_
    refine x_iastN (q := 35) C (j + 1) 1 (upd ((itr (sStep dm) (sv, imax 0 (w - sl)) j).1) (j + 1) (imin (dm (j + 1)) ((itr (sStep dm) (sv, imax 0 (w - sl)) j).2))) [(no, .inr (2, [.ref nS, .ref nL, .ref nA, .ref nH, .ref nV, .ref nT, .ref nC, .ref nD, .int sl])), (nV, .inl (cy.1, 12, .inl (upd ((itr (sStep dm) (sv, imax 0 (w - sl)) j).1) (j + 1) (imin (dm (j + 1)) ((itr (sStep dm) (sv, imax 0 (w - sl)) j).2))))), (nD, .inl (cy.1, 12, .inl dm))] rfl rfl (by omega) (by omega) rfl rfl dX2_serve_34 rfl ?_
    refine x_iload_n (q := 36) C 1 rfl dX2_serve_35 rfl ?_
    refine x_aload_n (q := 37) C 2 rfl dX2_serve_36 rfl ?_
    refine x_get (q := 40) C (T := TX2) iw_X2_serve_X2 rfl 0 4 rfl (by decide) rfl (by decide +kernel : Cond.fieldLink RX2 24 RX2 "served" "[I" ∈ wsX2_serve) rfl dX2_serve_37 rfl ?_
    refine x_iload_n (q := 41) C 0 rfl dX2_serve_40 rfl ?_
    refine x_ialdN (q := 42) C (j + 1) 1 (imin (dm (j + 1)) ((itr (sStep dm) (sv, imax 0 (w - sl)) j).2)) rfl rfl (by omega) (by omega) pk_us dX2_serve_41 rfl ?_
    refine x_isub (q := 43) C (((itr (sStep dm) (sv, imax 0 (w - sl)) j).2) - (imin (dm (j + 1)) ((itr (sStep dm) (sv, imax 0 (w - sl)) j).2))) (rfl) dX2_serve_42 rfl ?_
    refine x_istore_n (q := 44) C [(2, .int (((itr (sStep dm) (sv, imax 0 (w - sl)) j).2) - (imin (dm (j + 1)) ((itr (sStep dm) (sv, imax 0 (w - sl)) j).2)))), (3, .int (nI (j + 1))), (0, .ref no)] dX2_serve_43 (by decide) rfl rfl ?_
    refine x_iinc (q := 47) C 1 (nI ((j + 1) + 1)) [(3, .int (nI ((j + 1) + 1))), (2, .int (((itr (sStep dm) (sv, imax 0 (w - sl)) j).2) - (imin (dm (j + 1)) ((itr (sStep dm) (sv, imax 0 (w - sl)) j).2)))), (0, .ref no)] dX2_serve_44 rfl (nI_1 _) (by decide) rfl rfl ?_
    refine x_goto C 13 dX2_serve_47 (by decide) ?_
    refine x_less [0, 1, 2] [(3, .int (nI ((j + 1) + 1))), (2, .int (((itr (sStep dm) (sv, imax 0 (w - sl)) j).2) - (imin (dm (j + 1)) ((itr (sStep dm) (sv, imax 0 (w - sl)) j).2)))), (0, .ref no)] rfl ?_
    refine x_less [0, 1, 2] [(3, .int (nI ((j + 1) + 1))), (2, .int ((itr (sStep dm) (sv, imax 0 (w - sl)) (j + 1)).2)), (0, .ref no)] (by first | rfl | (rw [e9]; rfl)) ?_
    refine x_world (X' := [(no, .inr (2, [.ref nS, .ref nL, .ref nA, .ref nH, .ref nV, .ref nT, .ref nC, .ref nD, .int sl])), (nV, .inl (cy.1, 12, .inl ((itr (sStep dm) (sv, imax 0 (w - sl)) (j + 1)).1))), (nD, .inl (cy.1, 12, .inl dm))]) (pl' := []) (by first | rfl | rw [e9]) ?_
    exact ih_j
  · refine x_iload_n (q := 14) C 0 rfl dX2_serve_13 rfl ?_
    refine x_bipush (q := 16) C 12 rfl dX2_serve_14 rfl ?_
    refine x_icmp_ge_t C 50 dX2_serve_16 (by decide) (nI_le (a := 12) (b := (11 + 1)) (by omega) (by omega)) ?_
    exact x_vret C rfl (rfl) dX2_serve_50 (Nat.le_of_ble_eq_true rfl) (Nat.le_of_ble_eq_true rfl)

theorem iw_X2_countHousesWithoutHeat_X2 : ∀ w ∈ wsX20, w ∈ wsX2_countHousesWithoutHeat := by decide +kernel
set_option maxHeartbeats 4000000 in
set_option maxRecDepth 100000 in
/-- countHousesWithoutHeat -/
theorem c_X2_countHousesWithoutHeat {l : Launch} {D : va_G} {cy : ClassId × ClassId × ClassId} (no nS nL nA nH nV nT nC nD : Nat) (sr : Nat → Nat) (ar sh ht : Nat → Int32) (sl : Int32) (hsr : ∀ j, 1 ≤ j → j < 12 → sr j < j) : xM false l yX2_countHousesWithoutHeat wsX2_countHousesWithoutHeat ({ frames := 2, cells := 0, slots := 0, locals := 43 }) D cy [.ref no] ([(no, .inr (2, [.ref nS, .ref nL, .ref nA, .ref nH, .ref nV, .ref nT, .ref nC, .ref nD, .int sl])), (nS, .inl (cy.1, 12, .inl (fun i => nI (sr i)))), (nA, .inl (cy.1, 12, .inl ar)), (nH, .inl (cy.1, 12, .inl sh)), (nT, .inl (cy.2.1, 12, .inl ht))]) (xQi D (fun r w => r = nFun ar (hFun sr sh ht) ∧ w = [(no, .inr (2, [.ref nS, .ref nL, .ref nA, .ref nH, .ref nV, .ref nT, .ref nC, .ref nD, .int sl])), (nS, .inl (cy.1, 12, .inl (fun i => nI (sr i)))), (nA, .inl (cy.1, 12, .inl ar)), (nH, .inl (cy.1, 12, .inl sh)), (nT, .inl (cy.2.1, 12, .inl (hFun sr sh ht)))])) 0 0 := by
  refine xM_of (X := [(no, .inr (2, [.ref nS, .ref nL, .ref nA, .ref nH, .ref nV, .ref nT, .ref nC, .ref nD, .int sl])), (nS, .inl (cy.1, 12, .inl (fun i => nI (sr i)))), (nA, .inl (cy.1, 12, .inl ar)), (nH, .inl (cy.1, 12, .inl sh)), (nT, .inl (cy.2.1, 12, .inl ht))]) (pl := []) (nL := 3) (ret := (some .int)) RX2 [(0, .ref no)] (by decide +kernel) rfl rfl rfl (Nat.le_of_ble_eq_true rfl) (List.append_nil _).symm (fun p e s m args below meth c A C hname hT hZ => ?_)
  refine x_aload_n (q := 1) C 0 rfl dX2_countHousesWithoutHeat_0 rfl ?_
  refine x_CvP (q := 4) C [0, 1, 3, 4] [2] (cx := [(no, .inr (2, [.ref nS, .ref nL, .ref nA, .ref nH, .ref nV, .ref nT, .ref nC, .ref nD, .int sl])), (nS, .inl (cy.1, 12, .inl (fun i => nI (sr i)))), (nH, .inl (cy.1, 12, .inl sh)), (nT, .inl (cy.2.1, 12, .inl ht))]) (wr := [(nA, .inl (cy.1, 12, .inl ar))]) (st := []) rfl rfl rfl rfl (by decide) (fun H locs ls hP hPc hDc hS hFc hl => x_runV C (As := []) (c_X2_markHeated no nS nL nA nH nV nT nC nD sr sh ht sl hsr) (cwV 0 C.2.2.2.2.2.1 gX2_countHousesWithoutHeat_X2_markHeated rfl rfl rfl (by decide +kernel) ⟨Nat.le_of_ble_eq_true rfl, Nat.le_of_ble_eq_true rfl⟩) rfl 0 rfl rfl rfl (Nat.le_of_ble_eq_true rfl) dX2_countHousesWithoutHeat_1 ⟨Nat.le_of_ble_eq_true rfl, Nat.le_of_ble_eq_true rfl⟩ (fun h => absurd h (by decide)) hP hPc hDc hS hFc hl) (k := 0) (n := 0) rfl rfl rfl (fun w1 hw => ?_)
  obtain rfl := hw
  refine x_ord [1, 2, 0, 3, 4] [(no, .inr (2, [.ref nS, .ref nL, .ref nA, .ref nH, .ref nV, .ref nT, .ref nC, .ref nD, .int sl])), (nS, .inl (cy.1, 12, .inl (fun i => nI (sr i)))), (nA, .inl (cy.1, 12, .inl ar)), (nH, .inl (cy.1, 12, .inl sh)), (nT, .inl (cy.2.1, 12, .inl (hFun sr sh ht)))] rfl rfl ?_
  refine x_iconst (q := 5) C 0 rfl dX2_countHousesWithoutHeat_4 rfl ?_
  refine x_istore_n (q := 6) C [(1, .int 0), (0, .ref no)] dX2_countHousesWithoutHeat_5 (by decide) rfl rfl ?_
  refine x_iconst (q := 7) C 1 rfl dX2_countHousesWithoutHeat_6 rfl ?_
  refine x_istore_n (q := 8) C [(2, .int 1), (1, .int 0), (0, .ref no)] dX2_countHousesWithoutHeat_7 (by decide) rfl rfl ?_
  refine x_less [0, 1, 2] [(2, .int 1), (1, .int 0), (0, .ref no)] rfl ?_
  refine x_up (fun j => [(no, .inr (2, [.ref nS, .ref nL, .ref nA, .ref nH, .ref nV, .ref nT, .ref nC, .ref nD, .int sl])), (nS, .inl (cy.1, 12, .inl (fun i => nI (sr i)))), (nA, .inl (cy.1, 12, .inl ar)), (nH, .inl (cy.1, 12, .inl sh)), (nT, .inl (cy.2.1, 12, .inl (hFun sr sh ht)))]) (fun j => [(2, .int (nI (j + 1))), (1, .int (itr (nStep ar (hFun sr sh ht)) 0 j)), (0, .ref no)]) 11 rfl rfl (fun j h_j ih_j => ?_) ?_
  · refine x_iload_n (q := 9) C 0 rfl dX2_countHousesWithoutHeat_8 rfl ?_
    refine x_bipush (q := 11) C 12 rfl dX2_countHousesWithoutHeat_9 rfl ?_
    refine x_icmp_ge_f (q := 14) C 41 dX2_countHousesWithoutHeat_11 (by decide) rfl (nI_ge (a := (j + 1)) (b := 12) (by omega) (by omega)) ?_
    refine x_aload_n (q := 15) C 2 rfl dX2_countHousesWithoutHeat_14 rfl ?_
    refine x_get (q := 18) C (T := TX2) iw_X2_countHousesWithoutHeat_X2 rfl 0 2 rfl (by decide) rfl (by decide +kernel : Cond.fieldLink RX2 18 RX2 "area" "[I" ∈ wsX2_countHousesWithoutHeat) rfl dX2_countHousesWithoutHeat_15 rfl ?_
    refine x_iload_n (q := 19) C 0 rfl dX2_countHousesWithoutHeat_18 rfl ?_
    refine x_ialdN (q := 20) C (j + 1) 2 (ar (j + 1)) rfl rfl (by omega) (by omega) rfl dX2_countHousesWithoutHeat_19 rfl ?_
    refine x_if_le (q := 23) C 35 dX2_countHousesWithoutHeat_20 (by decide) rfl (fun c_20 => ?_) (fun c_20 => ?_)
    · refine x_iinc (q := 38) C 0 (nI ((j + 1) + 1)) [(2, .int (nI ((j + 1) + 1))), (1, .int (itr (nStep ar (hFun sr sh ht)) 0 j)), (0, .ref no)] dX2_countHousesWithoutHeat_35 rfl (nI_1 _) (by decide) rfl rfl ?_
      refine x_goto C 8 dX2_countHousesWithoutHeat_38 (by decide) ?_
      refine x_less [0, 1, 2] [(2, .int (nI ((j + 1) + 1))), (1, .int (itr (nStep ar (hFun sr sh ht)) 0 j)), (0, .ref no)] rfl ?_
      have e9 : itr (nStep ar (hFun sr sh ht)) 0 (j + 1) = itr (nStep ar (hFun sr sh ht)) 0 j := by
        show nStep ar (hFun sr sh ht) j (itr (nStep ar (hFun sr sh ht)) 0 j) = _
        simp [nStep, c_20]
      refine x_less [0, 1, 2] [(2, .int (nI ((j + 1) + 1))), (1, .int (itr (nStep ar (hFun sr sh ht)) 0 (j + 1))), (0, .ref no)] (by first | rfl | (rw [e9]; rfl)) ?_
      refine x_world (X' := [(no, .inr (2, [.ref nS, .ref nL, .ref nA, .ref nH, .ref nV, .ref nT, .ref nC, .ref nD, .int sl])), (nS, .inl (cy.1, 12, .inl (fun i => nI (sr i)))), (nA, .inl (cy.1, 12, .inl ar)), (nH, .inl (cy.1, 12, .inl sh)), (nT, .inl (cy.2.1, 12, .inl (hFun sr sh ht)))]) (pl' := []) (by first | rfl | rw [e9]) ?_
      exact ih_j
    · refine x_aload_n (q := 24) C 2 rfl dX2_countHousesWithoutHeat_23 rfl ?_
      refine x_get (q := 27) C (T := TX2) iw_X2_countHousesWithoutHeat_X2 rfl 0 5 rfl (by decide) rfl (by decide +kernel : Cond.fieldLink RX2 27 RX2 "heated" "[Z" ∈ wsX2_countHousesWithoutHeat) rfl dX2_countHousesWithoutHeat_24 rfl ?_
      refine x_iload_n (q := 28) C 0 rfl dX2_countHousesWithoutHeat_27 rfl ?_
      refine x_zaldN (q := 29) C (j + 1) 4 ((hFun sr sh ht) (j + 1)) rfl rfl (by omega) (by omega) rfl dX2_countHousesWithoutHeat_28 rfl ?_
      refine x_if_ne (q := 32) C 35 dX2_countHousesWithoutHeat_29 (by decide) rfl (fun c_29 => ?_) (fun c_29 => ?_)
      · refine x_iinc (q := 38) C 0 (nI ((j + 1) + 1)) [(2, .int (nI ((j + 1) + 1))), (1, .int (itr (nStep ar (hFun sr sh ht)) 0 j)), (0, .ref no)] dX2_countHousesWithoutHeat_35 rfl (nI_1 _) (by decide) rfl rfl ?_
        refine x_goto C 8 dX2_countHousesWithoutHeat_38 (by decide) ?_
        refine x_less [0, 1, 2] [(2, .int (nI ((j + 1) + 1))), (1, .int (itr (nStep ar (hFun sr sh ht)) 0 j)), (0, .ref no)] rfl ?_
        have e9 : itr (nStep ar (hFun sr sh ht)) 0 (j + 1) = itr (nStep ar (hFun sr sh ht)) 0 j := by
          show nStep ar (hFun sr sh ht) j (itr (nStep ar (hFun sr sh ht)) 0 j) = _
          simp [nStep, c_20, c_29]
        refine x_less [0, 1, 2] [(2, .int (nI ((j + 1) + 1))), (1, .int (itr (nStep ar (hFun sr sh ht)) 0 (j + 1))), (0, .ref no)] (by first | rfl | (rw [e9]; rfl)) ?_
        refine x_world (X' := [(no, .inr (2, [.ref nS, .ref nL, .ref nA, .ref nH, .ref nV, .ref nT, .ref nC, .ref nD, .int sl])), (nS, .inl (cy.1, 12, .inl (fun i => nI (sr i)))), (nA, .inl (cy.1, 12, .inl ar)), (nH, .inl (cy.1, 12, .inl sh)), (nT, .inl (cy.2.1, 12, .inl (hFun sr sh ht)))]) (pl' := []) (by first | rfl | rw [e9]) ?_
        exact ih_j
      · refine x_iinc (q := 35) C 1 ((itr (nStep ar (hFun sr sh ht)) 0 j) + 1) [(1, .int ((itr (nStep ar (hFun sr sh ht)) 0 j) + 1)), (2, .int (nI (j + 1))), (0, .ref no)] dX2_countHousesWithoutHeat_32 rfl (rfl) (by decide) rfl rfl ?_
        refine x_iinc (q := 38) C 1 (nI ((j + 1) + 1)) [(2, .int (nI ((j + 1) + 1))), (1, .int ((itr (nStep ar (hFun sr sh ht)) 0 j) + 1)), (0, .ref no)] dX2_countHousesWithoutHeat_35 rfl (nI_1 _) (by decide) rfl rfl ?_
        refine x_goto C 8 dX2_countHousesWithoutHeat_38 (by decide) ?_
        refine x_less [0, 1, 2] [(2, .int (nI ((j + 1) + 1))), (1, .int ((itr (nStep ar (hFun sr sh ht)) 0 j) + 1)), (0, .ref no)] rfl ?_
        have e9 : itr (nStep ar (hFun sr sh ht)) 0 (j + 1) = (itr (nStep ar (hFun sr sh ht)) 0 j) + 1 := by
          show nStep ar (hFun sr sh ht) j (itr (nStep ar (hFun sr sh ht)) 0 j) = _
          simp [nStep, c_20, c_29]
        refine x_less [0, 1, 2] [(2, .int (nI ((j + 1) + 1))), (1, .int (itr (nStep ar (hFun sr sh ht)) 0 (j + 1))), (0, .ref no)] (by first | rfl | (rw [e9]; rfl)) ?_
        refine x_world (X' := [(no, .inr (2, [.ref nS, .ref nL, .ref nA, .ref nH, .ref nV, .ref nT, .ref nC, .ref nD, .int sl])), (nS, .inl (cy.1, 12, .inl (fun i => nI (sr i)))), (nA, .inl (cy.1, 12, .inl ar)), (nH, .inl (cy.1, 12, .inl sh)), (nT, .inl (cy.2.1, 12, .inl (hFun sr sh ht)))]) (pl' := []) (by first | rfl | rw [e9]) ?_
        exact ih_j
  · refine x_iload_n (q := 9) C 0 rfl dX2_countHousesWithoutHeat_8 rfl ?_
    refine x_bipush (q := 11) C 12 rfl dX2_countHousesWithoutHeat_9 rfl ?_
    refine x_icmp_ge_t C 41 dX2_countHousesWithoutHeat_11 (by decide) (nI_le (a := 12) (b := (11 + 1)) (by omega) (by omega)) ?_
    refine x_iload_n (q := 42) C 1 rfl dX2_countHousesWithoutHeat_41 rfl ?_
    exact x_iret C .int rfl rfl (⟨rfl, rfl⟩) dX2_countHousesWithoutHeat_42 (Nat.le_of_ble_eq_true rfl) (Nat.le_of_ble_eq_true rfl)

theorem iw_X2_endHourOfRepairs_X2 : ∀ w ∈ wsX20, w ∈ wsX2_endHourOfRepairs := by decide +kernel
set_option maxHeartbeats 4000000 in
set_option maxRecDepth 100000 in
/-- endHourOfRepairs -/
theorem c_X2_endHourOfRepairs {l : Launch} {D : va_G} {cy : ClassId × ClassId × ClassId} (no nS nL nA nH nV nT nC nD : Nat) (sh : Nat → Int32) (sl : Int32) : xM false l yX2_endHourOfRepairs wsX2_endHourOfRepairs ({ frames := 0, cells := 0, slots := 0, locals := 0 }) D cy [.ref no] ([(no, .inr (2, [.ref nS, .ref nL, .ref nA, .ref nH, .ref nV, .ref nT, .ref nC, .ref nD, .int sl])), (nH, .inl (cy.1, 12, .inl sh))]) (xQv D (fun w => w = [(no, .inr (2, [.ref nS, .ref nL, .ref nA, .ref nH, .ref nV, .ref nT, .ref nC, .ref nD, .int sl])), (nH, .inl (cy.1, 12, .inl (eFun sh)))])) 0 0 := by
  refine xM_of (X := [(no, .inr (2, [.ref nS, .ref nL, .ref nA, .ref nH, .ref nV, .ref nT, .ref nC, .ref nD, .int sl])), (nH, .inl (cy.1, 12, .inl sh))]) (pl := []) (nL := 2) (ret := none) RX2 [(0, .ref no)] (by decide +kernel) rfl rfl rfl (Nat.le_of_ble_eq_true rfl) (List.append_nil _).symm (fun p e s m args below meth c A C hname hT hZ => ?_)
  refine x_iconst (q := 1) C 1 rfl dX2_endHourOfRepairs_0 rfl ?_
  refine x_istore_n (q := 2) C [(1, .int 1), (0, .ref no)] dX2_endHourOfRepairs_1 (by decide) rfl rfl ?_
  refine x_less [0, 1] [(1, .int 1), (0, .ref no)] rfl ?_
  refine x_up (fun j => [(no, .inr (2, [.ref nS, .ref nL, .ref nA, .ref nH, .ref nV, .ref nT, .ref nC, .ref nD, .int sl])), (nH, .inl (cy.1, 12, .inl (itr eStep sh j)))]) (fun j => [(1, .int (nI (j + 1))), (0, .ref no)]) 11 rfl rfl (fun j h_j ih_j => ?_) ?_
  · refine x_iload_n (q := 3) C 0 rfl dX2_endHourOfRepairs_2 rfl ?_
    refine x_bipush (q := 5) C 12 rfl dX2_endHourOfRepairs_3 rfl ?_
    refine x_icmp_ge_f (q := 8) C 33 dX2_endHourOfRepairs_5 (by decide) rfl (nI_ge (a := (j + 1)) (b := 12) (by omega) (by omega)) ?_
    refine x_aload_n (q := 9) C 1 rfl dX2_endHourOfRepairs_8 rfl ?_
    refine x_get (q := 12) C (T := TX2) iw_X2_endHourOfRepairs_X2 rfl 0 3 rfl (by decide) rfl (by decide +kernel : Cond.fieldLink RX2 21 RX2 "shutHours" "[I" ∈ wsX2_endHourOfRepairs) rfl dX2_endHourOfRepairs_9 rfl ?_
    refine x_iload_n (q := 13) C 0 rfl dX2_endHourOfRepairs_12 rfl ?_
    refine x_ialdN (q := 14) C (j + 1) 1 ((itr eStep sh j) (j + 1)) rfl rfl (by omega) (by omega) rfl dX2_endHourOfRepairs_13 rfl ?_
    refine x_if_le (q := 17) C 27 dX2_endHourOfRepairs_14 (by decide) rfl (fun c_14 => ?_) (fun c_14 => ?_)
    · refine x_iinc (q := 30) C 0 (nI ((j + 1) + 1)) [(1, .int (nI ((j + 1) + 1))), (0, .ref no)] dX2_endHourOfRepairs_27 rfl (nI_1 _) (by decide) rfl rfl ?_
      refine x_goto C 2 dX2_endHourOfRepairs_30 (by decide) ?_
      refine x_less [0, 1] [(1, .int (nI ((j + 1) + 1))), (0, .ref no)] rfl ?_
      have e9 : itr eStep sh (j + 1) = itr eStep sh j := by
        show eStep j (itr eStep sh j) = _
        simp [eStep, c_14]
      refine x_less [0, 1] [(1, .int (nI ((j + 1) + 1))), (0, .ref no)] (by first | rfl | (rw [e9]; rfl)) ?_
      refine x_world (X' := [(no, .inr (2, [.ref nS, .ref nL, .ref nA, .ref nH, .ref nV, .ref nT, .ref nC, .ref nD, .int sl])), (nH, .inl (cy.1, 12, .inl (itr eStep sh (j + 1))))]) (pl' := []) (by first | rfl | rw [e9]) ?_
      exact ih_j
    · refine x_aload_n (q := 18) C 1 rfl dX2_endHourOfRepairs_17 rfl ?_
      refine x_get (q := 21) C (T := TX2) iw_X2_endHourOfRepairs_X2 rfl 0 3 rfl (by decide) rfl (by decide +kernel : Cond.fieldLink RX2 21 RX2 "shutHours" "[I" ∈ wsX2_endHourOfRepairs) rfl dX2_endHourOfRepairs_18 rfl ?_
      refine x_iload_n (q := 22) C 0 rfl dX2_endHourOfRepairs_21 rfl ?_
      refine x_dup2 (q := 23) C rfl rfl dX2_endHourOfRepairs_22 rfl ?_
      refine x_ialdN (q := 24) C (j + 1) 1 ((itr eStep sh j) (j + 1)) rfl rfl (by omega) (by omega) rfl dX2_endHourOfRepairs_23 rfl ?_
      refine x_iconst (q := 25) C 1 rfl dX2_endHourOfRepairs_24 rfl ?_
      refine x_isub (q := 26) C (((itr eStep sh j) (j + 1)) - 1) (rfl) dX2_endHourOfRepairs_25 rfl ?_
      refine x_iastN (q := 27) C (j + 1) 1 (upd (itr eStep sh j) (j + 1) (((itr eStep sh j) (j + 1)) - 1)) [(no, .inr (2, [.ref nS, .ref nL, .ref nA, .ref nH, .ref nV, .ref nT, .ref nC, .ref nD, .int sl])), (nH, .inl (cy.1, 12, .inl (upd (itr eStep sh j) (j + 1) (((itr eStep sh j) (j + 1)) - 1))))] rfl rfl (by omega) (by omega) rfl rfl dX2_endHourOfRepairs_26 rfl ?_
      refine x_iinc (q := 30) C 0 (nI ((j + 1) + 1)) [(1, .int (nI ((j + 1) + 1))), (0, .ref no)] dX2_endHourOfRepairs_27 rfl (nI_1 _) (by decide) rfl rfl ?_
      refine x_goto C 2 dX2_endHourOfRepairs_30 (by decide) ?_
      refine x_less [0, 1] [(1, .int (nI ((j + 1) + 1))), (0, .ref no)] rfl ?_
      have e9 : itr eStep sh (j + 1) = upd (itr eStep sh j) (j + 1) (((itr eStep sh j) (j + 1)) - 1) := by
        show eStep j (itr eStep sh j) = _
        simp [eStep, c_14]
      refine x_less [0, 1] [(1, .int (nI ((j + 1) + 1))), (0, .ref no)] (by first | rfl | (rw [e9]; rfl)) ?_
      refine x_world (X' := [(no, .inr (2, [.ref nS, .ref nL, .ref nA, .ref nH, .ref nV, .ref nT, .ref nC, .ref nD, .int sl])), (nH, .inl (cy.1, 12, .inl (itr eStep sh (j + 1))))]) (pl' := []) (by first | rfl | rw [e9]) ?_
      exact ih_j
  · refine x_iload_n (q := 3) C 0 rfl dX2_endHourOfRepairs_2 rfl ?_
    refine x_bipush (q := 5) C 12 rfl dX2_endHourOfRepairs_3 rfl ?_
    refine x_icmp_ge_t C 33 dX2_endHourOfRepairs_5 (by decide) (nI_le (a := 12) (b := (11 + 1)) (by omega) (by omega)) ?_
    exact x_vret C rfl (rfl) dX2_endHourOfRepairs_33 (Nat.le_of_ble_eq_true rfl) (Nat.le_of_ble_eq_true rfl)
end
section
/-! the class's methods as functions: meters, bills, boilers -/
def rIni (sv : Nat → Int32) (n : Nat) (f : (Nat → Int32) × (Nat → Int32)) : (Nat → Int32) × (Nat → Int32) := (upd f.1 (n + 1) (sv (n + 1)), upd f.2 (n + 1) (sv (n + 1)))
/-- told, suspected, flow, accounted -/
def rTold (ca er : Nat → Int32) (j : Nat) (fl : Nat → Int32) : Int32 := if ca j = 0 then 0 else fl j + er j
def rStep (sr : Nat → Nat) (lo ca er : Nat → Int32) (n : Nat) (x : ((Nat → Int32) × (Nat → Int32)) × ((Nat → Int32) × (Nat → Int32))) : ((Nat → Int32) × (Nat → Int32)) × ((Nat → Int32) × (Nat → Int32)) :=
  ((upd x.1.1 (11 - n) (rTold ca er (11 - n) x.2.1), upd x.1.2 (11 - n) (if rTold ca er (11 - n) x.2.1 = x.2.2 (11 - n) then 0 else 1)),
   (if pHouse (nI (sr (11 - n))) = 0 then x.2.1 else upd x.2.1 (sr (11 - n)) (x.2.1 (sr (11 - n)) + (x.2.1 (11 - n) + pCL ca lo (11 - n))),
    if pHouse (nI (sr (11 - n))) = 0 then x.2.2 else upd x.2.2 (sr (11 - n)) (x.2.2 (sr (11 - n)) + (rTold ca er (11 - n) x.2.1 + pCL ca lo (11 - n)))))
def rFun (sr : Nat → Nat) (lo ca er sv to su fl ac : Nat → Int32) : ((Nat → Int32) × (Nat → Int32)) × ((Nat → Int32) × (Nat → Int32)) := itr (rStep sr lo ca er) ((to, su), itr (rIni sv) (fl, ac) 11) 11
def pPeak (w ap : Int32) : Int32 := if 2 * w ≤ ap then 0 else 1
def gStep (ht sv ar : Nat → Int32) (t pr : Int32) (n : Nat) (b : Nat → Int32) : Nat → Int32 := if ht (n + 1) = 0 then (if pWant (ar (n + 1)) t ≤ 0 then b else upd b (n + 1) (b (n + 1) - 3)) else upd b (n + 1) (b (n + 1) + pr * sv (n + 1))
def gFun (ht sv ar : Nat → Int32) (t pk : Int32) (b : Nat → Int32) : Nat → Int32 := itr (gStep ht sv ar t (if pk = 0 then 2 else 3)) b 11
def pf (stp pow left : Int32) : Nat → Int32 → Int32
  | 0, f => f
  | d + 1, f => if stp ≤ f then f else if left ≤ f * pow then f else pf stp pow left d (f + 1)
def pFire (stp pow left : Int32) : Int32 := pf stp pow left 6 0
def pUsed (stp pow left : Int32) : Int32 := imin left (pFire stp pow left * pow)
def lfb (cst : Nat → Int32) (p : Int32) : Option Nat → List Nat → Option Nat
  | last, [] => last
  | last, k :: ks => if p < cst k then last else lfb cst p (some k) ks
def findL (x : Int32) : List Nat → Option Nat
  | [] => none
  | k :: ks => if nI k = x then some k else findL x ks
/-- left, spent, steps fired -/
def fireL (stp pow cst : Nat → Int32) : List Nat → Int32 → Int32 → (Nat → Int32) → Int32 × (Nat → Int32)
  | [], _, s, f => (s, f)
  | k :: ks, l, s, f => fireL stp pow cst ks (l - pUsed (stp k) (pow k) l) (s + pUsed (stp k) (pow k) l * cst k) (va_up f k (pFire (stp k) (pow k) l))
end
section
theorem iw_X2_init_X2 : ∀ w ∈ wsX20, w ∈ wsX2_init := by decide +kernel
set_option maxHeartbeats 4000000 in
set_option maxRecDepth 100000 in
/-- Net() -/
theorem c_X2_init {l : Launch} {D : va_G} {cy : ClassId × ClassId × ClassId} (no : Nat) : xM false l yX2_init wsX2_init ({ frames := 1, cells := 8, slots := 96, locals := 12 }) D cy [.ref no] ([(no, .inr (2, [.null, .null, .null, .null, .null, .null, .null, .null, .int 0]))]) (xQv D (fun w => ∃ o_7 o_15 o_23 o_31 o_39 o_47 o_55 o_63 : Nat, w = [(no, .inr (2, [.ref o_7, .ref o_15, .ref o_23, .ref o_31, .ref o_39, .ref o_47, .ref o_55, .ref o_63, .int 0])), (o_7, .inl (cy.1, 12, .inl (fun _ => 0))), (o_15, .inl (cy.1, 12, .inl (itr lIni (fun _ => 0) 11))), (o_23, .inl (cy.1, 12, .inl (fun _ => 0))), (o_31, .inl (cy.1, 12, .inl (fun _ => 0))), (o_39, .inl (cy.1, 12, .inl (fun _ => 0))), (o_47, .inl (cy.2.1, 12, .inl (fun _ => 0))), (o_55, .inl (cy.2.1, 12, .inl (fun _ => 0))), (o_63, .inl (cy.1, 12, .inl (fun _ => 0)))])) 8 96 := by
  refine xM_of (X := [(no, .inr (2, [.null, .null, .null, .null, .null, .null, .null, .null, .int 0]))]) (pl := []) (nL := 2) (ret := none) RX2 [(0, .ref no)] (by decide +kernel) rfl rfl rfl (Nat.le_of_ble_eq_true rfl) (List.append_nil _).symm (fun p e s m args below meth c A C hname hT hZ => ?_)
  refine x_aload_n (q := 1) C 0 rfl dX2_init_0 rfl ?_
  refine x_objInit (q := 4) C (by decide +kernel : Cond.methodLink RX2 3 Lib.objectInit ∈ wsX2_init) (by decide +kernel) (by decide +kernel) dX2_init_1 (Nat.le_of_ble_eq_true rfl) (Nat.le_of_ble_eq_true rfl) rfl ?_
  refine x_aload_n (q := 5) C 0 rfl dX2_init_4 rfl ?_
  refine x_bipush (q := 7) C 12 rfl dX2_init_5 rfl ?_
  refine x_newI (q := 9) C (N := 12) (by decide +kernel) (by decide) (by decide) (by decide) (Nat.le_of_ble_eq_true rfl) (Nat.le_of_ble_eq_true rfl) dX2_init_7 rfl rfl rfl (fun o_7 => ?_)
  refine x_ord [0, 1] [(no, .inr (2, [.null, .null, .null, .null, .null, .null, .null, .null, .int 0])), (o_7, .inl (cy.1, 12, .inl (fun _ => 0)))] rfl rfl ?_
  refine x_putF (q := 12) C (T := TX2) iw_X2_init_X2 tyX2 tyX2_ok nmX2 rfl 0 0 [(no, .inr (2, [.ref o_7, .null, .null, .null, .null, .null, .null, .null, .int 0])), (o_7, .inl (cy.1, 12, .inl (fun _ => 0)))] rfl rfl (by decide) rfl (by decide +kernel : Cond.fieldLink RX2 9 RX2 "source" "[I" ∈ wsX2_init) rfl hname rfl (.array .int) (by decide +kernel) rfl rfl (Nat.le_of_ble_eq_true rfl) dX2_init_9 rfl ?_
  refine x_aload_n (q := 13) C 0 rfl dX2_init_12 rfl ?_
  refine x_bipush (q := 15) C 12 rfl dX2_init_13 rfl ?_
  refine x_newI (q := 17) C (N := 12) (by decide +kernel) (by decide) (by decide) (by decide) (Nat.le_of_ble_eq_true rfl) (Nat.le_of_ble_eq_true rfl) dX2_init_15 rfl rfl rfl (fun o_15 => ?_)
  refine x_ord [0, 1, 2] [(no, .inr (2, [.ref o_7, .null, .null, .null, .null, .null, .null, .null, .int 0])), (o_7, .inl (cy.1, 12, .inl (fun _ => 0))), (o_15, .inl (cy.1, 12, .inl (fun _ => 0)))] rfl rfl ?_
  refine x_putF (q := 20) C (T := TX2) iw_X2_init_X2 tyX2 tyX2_ok nmX2 rfl 0 1 [(no, .inr (2, [.ref o_7, .ref o_15, .null, .null, .null, .null, .null, .null, .int 0])), (o_7, .inl (cy.1, 12, .inl (fun _ => 0))), (o_15, .inl (cy.1, 12, .inl (fun _ => 0)))] rfl rfl (by decide) rfl (by decide +kernel : Cond.fieldLink RX2 15 RX2 "loss" "[I" ∈ wsX2_init) rfl hname rfl (.array .int) (by decide +kernel) rfl rfl (Nat.le_of_ble_eq_true rfl) dX2_init_17 rfl ?_
  refine x_aload_n (q := 21) C 0 rfl dX2_init_20 rfl ?_
  refine x_bipush (q := 23) C 12 rfl dX2_init_21 rfl ?_
  refine x_newI (q := 25) C (N := 12) (by decide +kernel) (by decide) (by decide) (by decide) (Nat.le_of_ble_eq_true rfl) (Nat.le_of_ble_eq_true rfl) dX2_init_23 rfl rfl rfl (fun o_23 => ?_)
  refine x_ord [0, 1, 2, 3] [(no, .inr (2, [.ref o_7, .ref o_15, .null, .null, .null, .null, .null, .null, .int 0])), (o_7, .inl (cy.1, 12, .inl (fun _ => 0))), (o_15, .inl (cy.1, 12, .inl (fun _ => 0))), (o_23, .inl (cy.1, 12, .inl (fun _ => 0)))] rfl rfl ?_
  refine x_putF (q := 28) C (T := TX2) iw_X2_init_X2 tyX2 tyX2_ok nmX2 rfl 0 2 [(no, .inr (2, [.ref o_7, .ref o_15, .ref o_23, .null, .null, .null, .null, .null, .int 0])), (o_7, .inl (cy.1, 12, .inl (fun _ => 0))), (o_15, .inl (cy.1, 12, .inl (fun _ => 0))), (o_23, .inl (cy.1, 12, .inl (fun _ => 0)))] rfl rfl (by decide) rfl (by decide +kernel : Cond.fieldLink RX2 18 RX2 "area" "[I" ∈ wsX2_init) rfl hname rfl (.array .int) (by decide +kernel) rfl rfl (Nat.le_of_ble_eq_true rfl) dX2_init_25 rfl ?_
  refine x_aload_n (q := 29) C 0 rfl dX2_init_28 rfl ?_
  refine x_bipush (q := 31) C 12 rfl dX2_init_29 rfl ?_
  refine x_newI (q := 33) C (N := 12) (by decide +kernel) (by decide) (by decide) (by decide) (Nat.le_of_ble_eq_true rfl) (Nat.le_of_ble_eq_true rfl) dX2_init_31 rfl rfl rfl (fun o_31 => ?_)
  refine x_ord [0, 1, 2, 3, 4] [(no, .inr (2, [.ref o_7, .ref o_15, .ref o_23, .null, .null, .null, .null, .null, .int 0])), (o_7, .inl (cy.1, 12, .inl (fun _ => 0))), (o_15, .inl (cy.1, 12, .inl (fun _ => 0))), (o_23, .inl (cy.1, 12, .inl (fun _ => 0))), (o_31, .inl (cy.1, 12, .inl (fun _ => 0)))] rfl rfl ?_
  refine x_putF (q := 36) C (T := TX2) iw_X2_init_X2 tyX2 tyX2_ok nmX2 rfl 0 3 [(no, .inr (2, [.ref o_7, .ref o_15, .ref o_23, .ref o_31, .null, .null, .null, .null, .int 0])), (o_7, .inl (cy.1, 12, .inl (fun _ => 0))), (o_15, .inl (cy.1, 12, .inl (fun _ => 0))), (o_23, .inl (cy.1, 12, .inl (fun _ => 0))), (o_31, .inl (cy.1, 12, .inl (fun _ => 0)))] rfl rfl (by decide) rfl (by decide +kernel : Cond.fieldLink RX2 21 RX2 "shutHours" "[I" ∈ wsX2_init) rfl hname rfl (.array .int) (by decide +kernel) rfl rfl (Nat.le_of_ble_eq_true rfl) dX2_init_33 rfl ?_
  refine x_aload_n (q := 37) C 0 rfl dX2_init_36 rfl ?_
  refine x_bipush (q := 39) C 12 rfl dX2_init_37 rfl ?_
  refine x_newI (q := 41) C (N := 12) (by decide +kernel) (by decide) (by decide) (by decide) (Nat.le_of_ble_eq_true rfl) (Nat.le_of_ble_eq_true rfl) dX2_init_39 rfl rfl rfl (fun o_39 => ?_)
  refine x_ord [0, 1, 2, 3, 4, 5] [(no, .inr (2, [.ref o_7, .ref o_15, .ref o_23, .ref o_31, .null, .null, .null, .null, .int 0])), (o_7, .inl (cy.1, 12, .inl (fun _ => 0))), (o_15, .inl (cy.1, 12, .inl (fun _ => 0))), (o_23, .inl (cy.1, 12, .inl (fun _ => 0))), (o_31, .inl (cy.1, 12, .inl (fun _ => 0))), (o_39, .inl (cy.1, 12, .inl (fun _ => 0)))] rfl rfl ?_
  refine x_putF (q := 44) C (T := TX2) iw_X2_init_X2 tyX2 tyX2_ok nmX2 rfl 0 4 [(no, .inr (2, [.ref o_7, .ref o_15, .ref o_23, .ref o_31, .ref o_39, .null, .null, .null, .int 0])), (o_7, .inl (cy.1, 12, .inl (fun _ => 0))), (o_15, .inl (cy.1, 12, .inl (fun _ => 0))), (o_23, .inl (cy.1, 12, .inl (fun _ => 0))), (o_31, .inl (cy.1, 12, .inl (fun _ => 0))), (o_39, .inl (cy.1, 12, .inl (fun _ => 0)))] rfl rfl (by decide) rfl (by decide +kernel : Cond.fieldLink RX2 24 RX2 "served" "[I" ∈ wsX2_init) rfl hname rfl (.array .int) (by decide +kernel) rfl rfl (Nat.le_of_ble_eq_true rfl) dX2_init_41 rfl ?_
  refine x_aload_n (q := 45) C 0 rfl dX2_init_44 rfl ?_
  refine x_bipush (q := 47) C 12 rfl dX2_init_45 rfl ?_
  refine x_newZ (q := 49) C (N := 12) (by decide +kernel) (by decide) (by decide) (by decide) (Nat.le_of_ble_eq_true rfl) (Nat.le_of_ble_eq_true rfl) dX2_init_47 rfl rfl rfl (fun o_47 => ?_)
  refine x_ord [0, 1, 2, 3, 4, 5, 6] [(no, .inr (2, [.ref o_7, .ref o_15, .ref o_23, .ref o_31, .ref o_39, .null, .null, .null, .int 0])), (o_7, .inl (cy.1, 12, .inl (fun _ => 0))), (o_15, .inl (cy.1, 12, .inl (fun _ => 0))), (o_23, .inl (cy.1, 12, .inl (fun _ => 0))), (o_31, .inl (cy.1, 12, .inl (fun _ => 0))), (o_39, .inl (cy.1, 12, .inl (fun _ => 0))), (o_47, .inl (cy.2.1, 12, .inl (fun _ => 0)))] rfl rfl ?_
  refine x_putF (q := 52) C (T := TX2) iw_X2_init_X2 tyX2 tyX2_ok nmX2 rfl 0 5 [(no, .inr (2, [.ref o_7, .ref o_15, .ref o_23, .ref o_31, .ref o_39, .ref o_47, .null, .null, .int 0])), (o_7, .inl (cy.1, 12, .inl (fun _ => 0))), (o_15, .inl (cy.1, 12, .inl (fun _ => 0))), (o_23, .inl (cy.1, 12, .inl (fun _ => 0))), (o_31, .inl (cy.1, 12, .inl (fun _ => 0))), (o_39, .inl (cy.1, 12, .inl (fun _ => 0))), (o_47, .inl (cy.2.1, 12, .inl (fun _ => 0)))] rfl rfl (by decide) rfl (by decide +kernel : Cond.fieldLink RX2 27 RX2 "heated" "[Z" ∈ wsX2_init) rfl hname rfl (.array .boolean) (by decide +kernel) rfl rfl (Nat.le_of_ble_eq_true rfl) dX2_init_49 rfl ?_
  refine x_aload_n (q := 53) C 0 rfl dX2_init_52 rfl ?_
  refine x_bipush (q := 55) C 12 rfl dX2_init_53 rfl ?_
  refine x_newZ (q := 57) C (N := 12) (by decide +kernel) (by decide) (by decide) (by decide) (Nat.le_of_ble_eq_true rfl) (Nat.le_of_ble_eq_true rfl) dX2_init_55 rfl rfl rfl (fun o_55 => ?_)
  refine x_ord [0, 1, 2, 3, 4, 5, 6, 7] [(no, .inr (2, [.ref o_7, .ref o_15, .ref o_23, .ref o_31, .ref o_39, .ref o_47, .null, .null, .int 0])), (o_7, .inl (cy.1, 12, .inl (fun _ => 0))), (o_15, .inl (cy.1, 12, .inl (fun _ => 0))), (o_23, .inl (cy.1, 12, .inl (fun _ => 0))), (o_31, .inl (cy.1, 12, .inl (fun _ => 0))), (o_39, .inl (cy.1, 12, .inl (fun _ => 0))), (o_47, .inl (cy.2.1, 12, .inl (fun _ => 0))), (o_55, .inl (cy.2.1, 12, .inl (fun _ => 0)))] rfl rfl ?_
  refine x_putF (q := 60) C (T := TX2) iw_X2_init_X2 tyX2 tyX2_ok nmX2 rfl 0 6 [(no, .inr (2, [.ref o_7, .ref o_15, .ref o_23, .ref o_31, .ref o_39, .ref o_47, .ref o_55, .null, .int 0])), (o_7, .inl (cy.1, 12, .inl (fun _ => 0))), (o_15, .inl (cy.1, 12, .inl (fun _ => 0))), (o_23, .inl (cy.1, 12, .inl (fun _ => 0))), (o_31, .inl (cy.1, 12, .inl (fun _ => 0))), (o_39, .inl (cy.1, 12, .inl (fun _ => 0))), (o_47, .inl (cy.2.1, 12, .inl (fun _ => 0))), (o_55, .inl (cy.2.1, 12, .inl (fun _ => 0)))] rfl rfl (by decide) rfl (by decide +kernel : Cond.fieldLink RX2 31 RX2 "carries" "[Z" ∈ wsX2_init) rfl hname rfl (.array .boolean) (by decide +kernel) rfl rfl (Nat.le_of_ble_eq_true rfl) dX2_init_57 rfl ?_
  refine x_aload_n (q := 61) C 0 rfl dX2_init_60 rfl ?_
  refine x_bipush (q := 63) C 12 rfl dX2_init_61 rfl ?_
  refine x_newI (q := 65) C (N := 12) (by decide +kernel) (by decide) (by decide) (by decide) (Nat.le_of_ble_eq_true rfl) (Nat.le_of_ble_eq_true rfl) dX2_init_63 rfl rfl rfl (fun o_63 => ?_)
  refine x_ord [0, 1, 2, 3, 4, 5, 6, 7, 8] [(no, .inr (2, [.ref o_7, .ref o_15, .ref o_23, .ref o_31, .ref o_39, .ref o_47, .ref o_55, .null, .int 0])), (o_7, .inl (cy.1, 12, .inl (fun _ => 0))), (o_15, .inl (cy.1, 12, .inl (fun _ => 0))), (o_23, .inl (cy.1, 12, .inl (fun _ => 0))), (o_31, .inl (cy.1, 12, .inl (fun _ => 0))), (o_39, .inl (cy.1, 12, .inl (fun _ => 0))), (o_47, .inl (cy.2.1, 12, .inl (fun _ => 0))), (o_55, .inl (cy.2.1, 12, .inl (fun _ => 0))), (o_63, .inl (cy.1, 12, .inl (fun _ => 0)))] rfl rfl ?_
  refine x_putF (q := 68) C (T := TX2) iw_X2_init_X2 tyX2 tyX2_ok nmX2 rfl 0 7 [(no, .inr (2, [.ref o_7, .ref o_15, .ref o_23, .ref o_31, .ref o_39, .ref o_47, .ref o_55, .ref o_63, .int 0])), (o_7, .inl (cy.1, 12, .inl (fun _ => 0))), (o_15, .inl (cy.1, 12, .inl (fun _ => 0))), (o_23, .inl (cy.1, 12, .inl (fun _ => 0))), (o_31, .inl (cy.1, 12, .inl (fun _ => 0))), (o_39, .inl (cy.1, 12, .inl (fun _ => 0))), (o_47, .inl (cy.2.1, 12, .inl (fun _ => 0))), (o_55, .inl (cy.2.1, 12, .inl (fun _ => 0))), (o_63, .inl (cy.1, 12, .inl (fun _ => 0)))] rfl rfl (by decide) rfl (by decide +kernel : Cond.fieldLink RX2 34 RX2 "demand" "[I" ∈ wsX2_init) rfl hname rfl (.array .int) (by decide +kernel) rfl rfl (Nat.le_of_ble_eq_true rfl) dX2_init_65 rfl ?_
  refine x_iconst (q := 69) C 1 rfl dX2_init_68 rfl ?_
  refine x_istore_n (q := 70) C [(1, .int 1), (0, .ref no)] dX2_init_69 (by decide) rfl rfl ?_
  refine x_less [0, 1] [(1, .int 1), (0, .ref no)] rfl ?_
  refine x_up (fun j => [(no, .inr (2, [.ref o_7, .ref o_15, .ref o_23, .ref o_31, .ref o_39, .ref o_47, .ref o_55, .ref o_63, .int 0])), (o_7, .inl (cy.1, 12, .inl (fun _ => 0))), (o_15, .inl (cy.1, 12, .inl (itr lIni (fun _ => 0) j))), (o_23, .inl (cy.1, 12, .inl (fun _ => 0))), (o_31, .inl (cy.1, 12, .inl (fun _ => 0))), (o_39, .inl (cy.1, 12, .inl (fun _ => 0))), (o_47, .inl (cy.2.1, 12, .inl (fun _ => 0))), (o_55, .inl (cy.2.1, 12, .inl (fun _ => 0))), (o_63, .inl (cy.1, 12, .inl (fun _ => 0)))]) (fun j => [(1, .int (nI (j + 1))), (0, .ref no)]) 11 rfl rfl (fun j h_j ih_j => ?_) ?_
  · refine x_iload_n (q := 71) C 0 rfl dX2_init_70 rfl ?_
    refine x_bipush (q := 73) C 12 rfl dX2_init_71 rfl ?_
    refine x_icmp_ge_f (q := 76) C 89 dX2_init_73 (by decide) rfl (nI_ge (a := (j + 1)) (b := 12) (by omega) (by omega)) ?_
    refine x_aload_n (q := 77) C 1 rfl dX2_init_76 rfl ?_
    refine x_get (q := 80) C (T := TX2) iw_X2_init_X2 rfl 0 1 rfl (by decide) rfl (by decide +kernel : Cond.fieldLink RX2 15 RX2 "loss" "[I" ∈ wsX2_init) rfl dX2_init_77 rfl ?_
    refine x_iload_n (q := 81) C 0 rfl dX2_init_80 rfl ?_
    refine x_iconst (q := 82) C 1 rfl dX2_init_81 rfl ?_
    refine x_iastN (q := 83) C (j + 1) 2 (upd (itr lIni (fun _ => 0) j) (j + 1) 1) [(no, .inr (2, [.ref o_7, .ref o_15, .ref o_23, .ref o_31, .ref o_39, .ref o_47, .ref o_55, .ref o_63, .int 0])), (o_7, .inl (cy.1, 12, .inl (fun _ => 0))), (o_15, .inl (cy.1, 12, .inl (upd (itr lIni (fun _ => 0) j) (j + 1) 1))), (o_23, .inl (cy.1, 12, .inl (fun _ => 0))), (o_31, .inl (cy.1, 12, .inl (fun _ => 0))), (o_39, .inl (cy.1, 12, .inl (fun _ => 0))), (o_47, .inl (cy.2.1, 12, .inl (fun _ => 0))), (o_55, .inl (cy.2.1, 12, .inl (fun _ => 0))), (o_63, .inl (cy.1, 12, .inl (fun _ => 0)))] rfl rfl (by omega) (by omega) rfl rfl dX2_init_82 rfl ?_
    refine x_iinc (q := 86) C 0 (nI ((j + 1) + 1)) [(1, .int (nI ((j + 1) + 1))), (0, .ref no)] dX2_init_83 rfl (nI_1 _) (by decide) rfl rfl ?_
    refine x_goto C 70 dX2_init_86 (by decide) ?_
    refine x_less [0, 1] [(1, .int (nI ((j + 1) + 1))), (0, .ref no)] rfl ?_
    refine x_less [0, 1] [(1, .int (nI ((j + 1) + 1))), (0, .ref no)] (by first | rfl | (rw [e9]; rfl)) ?_
    refine x_world (X' := [(no, .inr (2, [.ref o_7, .ref o_15, .ref o_23, .ref o_31, .ref o_39, .ref o_47, .ref o_55, .ref o_63, .int 0])), (o_7, .inl (cy.1, 12, .inl (fun _ => 0))), (o_15, .inl (cy.1, 12, .inl (itr lIni (fun _ => 0) (j + 1)))), (o_23, .inl (cy.1, 12, .inl (fun _ => 0))), (o_31, .inl (cy.1, 12, .inl (fun _ => 0))), (o_39, .inl (cy.1, 12, .inl (fun _ => 0))), (o_47, .inl (cy.2.1, 12, .inl (fun _ => 0))), (o_55, .inl (cy.2.1, 12, .inl (fun _ => 0))), (o_63, .inl (cy.1, 12, .inl (fun _ => 0)))]) (pl' := []) (by first | rfl | rw [e9]) ?_
    exact ih_j
  · refine x_iload_n (q := 71) C 0 rfl dX2_init_70 rfl ?_
    refine x_bipush (q := 73) C 12 rfl dX2_init_71 rfl ?_
    refine x_icmp_ge_t C 89 dX2_init_73 (by decide) (nI_le (a := 12) (b := (11 + 1)) (by omega) (by omega)) ?_
    exact x_vret C rfl (⟨o_7, o_15, o_23, o_31, o_39, o_47, o_55, o_63, rfl⟩) dX2_init_89 (Nat.le_of_ble_eq_true rfl) (Nat.le_of_ble_eq_true rfl)

theorem iw_X1_init_X1 : ∀ w ∈ wsX10, w ∈ wsX1_init := by decide +kernel
set_option maxHeartbeats 4000000 in
set_option maxRecDepth 100000 in
/-- Meters() -/
theorem c_X1_init {l : Launch} {D : va_G} {cy : ClassId × ClassId × ClassId} (mo : Nat) : xM false l yX1_init wsX1_init ({ frames := 1, cells := 5, slots := 60, locals := 12 }) D cy [.ref mo] ([(mo, .inr (1, [.null, .null, .null, .null, .null]))]) (xQv D (fun w => ∃ o_7 o_15 o_23 o_31 o_39 : Nat, w = [(mo, .inr (1, [.ref o_7, .ref o_15, .ref o_23, .ref o_31, .ref o_39])), (o_7, .inl (cy.1, 12, .inl (fun _ => 0))), (o_15, .inl (cy.1, 12, .inl (fun _ => 0))), (o_23, .inl (cy.2.1, 12, .inl (fun _ => 0))), (o_31, .inl (cy.1, 12, .inl (fun _ => 0))), (o_39, .inl (cy.1, 12, .inl (fun _ => 0)))])) 5 60 := by
  refine xM_of (X := [(mo, .inr (1, [.null, .null, .null, .null, .null]))]) (pl := []) (nL := 1) (ret := none) RX1 [(0, .ref mo)] (by decide +kernel) rfl rfl rfl (Nat.le_of_ble_eq_true rfl) (List.append_nil _).symm (fun p e s m args below meth c A C hname hT hZ => ?_)
  refine x_aload_n (q := 1) C 0 rfl dX1_init_0 rfl ?_
  refine x_objInit (q := 4) C (by decide +kernel : Cond.methodLink RX1 3 Lib.objectInit ∈ wsX1_init) (by decide +kernel) (by decide +kernel) dX1_init_1 (Nat.le_of_ble_eq_true rfl) (Nat.le_of_ble_eq_true rfl) rfl ?_
  refine x_aload_n (q := 5) C 0 rfl dX1_init_4 rfl ?_
  refine x_bipush (q := 7) C 12 rfl dX1_init_5 rfl ?_
  refine x_newI (q := 9) C (N := 12) (by decide +kernel) (by decide) (by decide) (by decide) (Nat.le_of_ble_eq_true rfl) (Nat.le_of_ble_eq_true rfl) dX1_init_7 rfl rfl rfl (fun o_7 => ?_)
  refine x_ord [0, 1] [(mo, .inr (1, [.null, .null, .null, .null, .null])), (o_7, .inl (cy.1, 12, .inl (fun _ => 0)))] rfl rfl ?_
  refine x_putF (q := 12) C (T := TX1) iw_X1_init_X1 tyX1 tyX1_ok nmX1 rfl 0 0 [(mo, .inr (1, [.ref o_7, .null, .null, .null, .null])), (o_7, .inl (cy.1, 12, .inl (fun _ => 0)))] rfl rfl (by decide) rfl (by decide +kernel : Cond.fieldLink RX1 9 RX1 "error" "[I" ∈ wsX1_init) rfl hname rfl (.array .int) (by decide +kernel) rfl rfl (Nat.le_of_ble_eq_true rfl) dX1_init_9 rfl ?_
  refine x_aload_n (q := 13) C 0 rfl dX1_init_12 rfl ?_
  refine x_bipush (q := 15) C 12 rfl dX1_init_13 rfl ?_
  refine x_newI (q := 17) C (N := 12) (by decide +kernel) (by decide) (by decide) (by decide) (Nat.le_of_ble_eq_true rfl) (Nat.le_of_ble_eq_true rfl) dX1_init_15 rfl rfl rfl (fun o_15 => ?_)
  refine x_ord [0, 1, 2] [(mo, .inr (1, [.ref o_7, .null, .null, .null, .null])), (o_7, .inl (cy.1, 12, .inl (fun _ => 0))), (o_15, .inl (cy.1, 12, .inl (fun _ => 0)))] rfl rfl ?_
  refine x_putF (q := 20) C (T := TX1) iw_X1_init_X1 tyX1 tyX1_ok nmX1 rfl 0 1 [(mo, .inr (1, [.ref o_7, .ref o_15, .null, .null, .null])), (o_7, .inl (cy.1, 12, .inl (fun _ => 0))), (o_15, .inl (cy.1, 12, .inl (fun _ => 0)))] rfl rfl (by decide) rfl (by decide +kernel : Cond.fieldLink RX1 15 RX1 "told" "[I" ∈ wsX1_init) rfl hname rfl (.array .int) (by decide +kernel) rfl rfl (Nat.le_of_ble_eq_true rfl) dX1_init_17 rfl ?_
  refine x_aload_n (q := 21) C 0 rfl dX1_init_20 rfl ?_
  refine x_bipush (q := 23) C 12 rfl dX1_init_21 rfl ?_
  refine x_newZ (q := 25) C (N := 12) (by decide +kernel) (by decide) (by decide) (by decide) (Nat.le_of_ble_eq_true rfl) (Nat.le_of_ble_eq_true rfl) dX1_init_23 rfl rfl rfl (fun o_23 => ?_)
  refine x_ord [0, 1, 2, 3] [(mo, .inr (1, [.ref o_7, .ref o_15, .null, .null, .null])), (o_7, .inl (cy.1, 12, .inl (fun _ => 0))), (o_15, .inl (cy.1, 12, .inl (fun _ => 0))), (o_23, .inl (cy.2.1, 12, .inl (fun _ => 0)))] rfl rfl ?_
  refine x_putF (q := 28) C (T := TX1) iw_X1_init_X1 tyX1 tyX1_ok nmX1 rfl 0 2 [(mo, .inr (1, [.ref o_7, .ref o_15, .ref o_23, .null, .null])), (o_7, .inl (cy.1, 12, .inl (fun _ => 0))), (o_15, .inl (cy.1, 12, .inl (fun _ => 0))), (o_23, .inl (cy.2.1, 12, .inl (fun _ => 0)))] rfl rfl (by decide) rfl (by decide +kernel : Cond.fieldLink RX1 18 RX1 "suspected" "[Z" ∈ wsX1_init) rfl hname rfl (.array .boolean) (by decide +kernel) rfl rfl (Nat.le_of_ble_eq_true rfl) dX1_init_25 rfl ?_
  refine x_aload_n (q := 29) C 0 rfl dX1_init_28 rfl ?_
  refine x_bipush (q := 31) C 12 rfl dX1_init_29 rfl ?_
  refine x_newI (q := 33) C (N := 12) (by decide +kernel) (by decide) (by decide) (by decide) (Nat.le_of_ble_eq_true rfl) (Nat.le_of_ble_eq_true rfl) dX1_init_31 rfl rfl rfl (fun o_31 => ?_)
  refine x_ord [0, 1, 2, 3, 4] [(mo, .inr (1, [.ref o_7, .ref o_15, .ref o_23, .null, .null])), (o_7, .inl (cy.1, 12, .inl (fun _ => 0))), (o_15, .inl (cy.1, 12, .inl (fun _ => 0))), (o_23, .inl (cy.2.1, 12, .inl (fun _ => 0))), (o_31, .inl (cy.1, 12, .inl (fun _ => 0)))] rfl rfl ?_
  refine x_putF (q := 36) C (T := TX1) iw_X1_init_X1 tyX1 tyX1_ok nmX1 rfl 0 3 [(mo, .inr (1, [.ref o_7, .ref o_15, .ref o_23, .ref o_31, .null])), (o_7, .inl (cy.1, 12, .inl (fun _ => 0))), (o_15, .inl (cy.1, 12, .inl (fun _ => 0))), (o_23, .inl (cy.2.1, 12, .inl (fun _ => 0))), (o_31, .inl (cy.1, 12, .inl (fun _ => 0)))] rfl rfl (by decide) rfl (by decide +kernel : Cond.fieldLink RX1 22 RX1 "flow" "[I" ∈ wsX1_init) rfl hname rfl (.array .int) (by decide +kernel) rfl rfl (Nat.le_of_ble_eq_true rfl) dX1_init_33 rfl ?_
  refine x_aload_n (q := 37) C 0 rfl dX1_init_36 rfl ?_
  refine x_bipush (q := 39) C 12 rfl dX1_init_37 rfl ?_
  refine x_newI (q := 41) C (N := 12) (by decide +kernel) (by decide) (by decide) (by decide) (Nat.le_of_ble_eq_true rfl) (Nat.le_of_ble_eq_true rfl) dX1_init_39 rfl rfl rfl (fun o_39 => ?_)
  refine x_ord [0, 1, 2, 3, 4, 5] [(mo, .inr (1, [.ref o_7, .ref o_15, .ref o_23, .ref o_31, .null])), (o_7, .inl (cy.1, 12, .inl (fun _ => 0))), (o_15, .inl (cy.1, 12, .inl (fun _ => 0))), (o_23, .inl (cy.2.1, 12, .inl (fun _ => 0))), (o_31, .inl (cy.1, 12, .inl (fun _ => 0))), (o_39, .inl (cy.1, 12, .inl (fun _ => 0)))] rfl rfl ?_
  refine x_putF (q := 44) C (T := TX1) iw_X1_init_X1 tyX1 tyX1_ok nmX1 rfl 0 4 [(mo, .inr (1, [.ref o_7, .ref o_15, .ref o_23, .ref o_31, .ref o_39])), (o_7, .inl (cy.1, 12, .inl (fun _ => 0))), (o_15, .inl (cy.1, 12, .inl (fun _ => 0))), (o_23, .inl (cy.2.1, 12, .inl (fun _ => 0))), (o_31, .inl (cy.1, 12, .inl (fun _ => 0))), (o_39, .inl (cy.1, 12, .inl (fun _ => 0)))] rfl rfl (by decide) rfl (by decide +kernel : Cond.fieldLink RX1 25 RX1 "accounted" "[I" ∈ wsX1_init) rfl hname rfl (.array .int) (by decide +kernel) rfl rfl (Nat.le_of_ble_eq_true rfl) dX1_init_41 rfl ?_
  exact x_vret C rfl (⟨o_7, o_15, o_23, o_31, o_39, rfl⟩) dX1_init_44 (Nat.le_of_ble_eq_true rfl) (Nat.le_of_ble_eq_true rfl)

theorem iw_X1_read_X1 : ∀ w ∈ wsX10, w ∈ wsX1_read := by decide +kernel
theorem iw_X1_read_X2 : ∀ w ∈ wsX20, w ∈ wsX1_read := by decide +kernel
set_option maxHeartbeats 4000000 in
set_option maxRecDepth 100000 in
/-- Meters.read -/
theorem c_X1_read {l : Launch} {D : va_G} {cy : ClassId × ClassId × ClassId} (mo mE mT mS mF mA no nS nL nA nH nV nT nC nD : Nat) (sr : Nat → Nat) (er to su fl ac lo sv ca : Nat → Int32) (sl : Int32) (hsr : ∀ j, 1 ≤ j → j < 12 → sr j < j) : xM false l yX1_read wsX1_read ({ frames := 2, cells := 0, slots := 0, locals := 41 }) D cy [.ref mo, .ref no] ([(mo, .inr (1, [.ref mE, .ref mT, .ref mS, .ref mF, .ref mA])), (mE, .inl (cy.1, 12, .inl er)), (mT, .inl (cy.1, 12, .inl to)), (mS, .inl (cy.2.1, 12, .inl su)), (mF, .inl (cy.1, 12, .inl fl)), (mA, .inl (cy.1, 12, .inl ac)), (no, .inr (2, [.ref nS, .ref nL, .ref nA, .ref nH, .ref nV, .ref nT, .ref nC, .ref nD, .int sl])), (nS, .inl (cy.1, 12, .inl (fun i => nI (sr i)))), (nL, .inl (cy.1, 12, .inl lo)), (nV, .inl (cy.1, 12, .inl sv)), (nC, .inl (cy.2.1, 12, .inl ca))]) (xQv D (fun w => w = [(mo, .inr (1, [.ref mE, .ref mT, .ref mS, .ref mF, .ref mA])), (mE, .inl (cy.1, 12, .inl er)), (mT, .inl (cy.1, 12, .inl ((rFun sr lo ca er sv to su fl ac).1.1))), (mS, .inl (cy.2.1, 12, .inl ((rFun sr lo ca er sv to su fl ac).1.2))), (mF, .inl (cy.1, 12, .inl ((rFun sr lo ca er sv to su fl ac).2.1))), (mA, .inl (cy.1, 12, .inl ((rFun sr lo ca er sv to su fl ac).2.2))), (no, .inr (2, [.ref nS, .ref nL, .ref nA, .ref nH, .ref nV, .ref nT, .ref nC, .ref nD, .int sl])), (nS, .inl (cy.1, 12, .inl (fun i => nI (sr i)))), (nL, .inl (cy.1, 12, .inl lo)), (nV, .inl (cy.1, 12, .inl sv)), (nC, .inl (cy.2.1, 12, .inl ca))])) 0 0 := by
  refine xM_of (X := [(mo, .inr (1, [.ref mE, .ref mT, .ref mS, .ref mF, .ref mA])), (mE, .inl (cy.1, 12, .inl er)), (mT, .inl (cy.1, 12, .inl to)), (mS, .inl (cy.2.1, 12, .inl su)), (mF, .inl (cy.1, 12, .inl fl)), (mA, .inl (cy.1, 12, .inl ac)), (no, .inr (2, [.ref nS, .ref nL, .ref nA, .ref nH, .ref nV, .ref nT, .ref nC, .ref nD, .int sl])), (nS, .inl (cy.1, 12, .inl (fun i => nI (sr i)))), (nL, .inl (cy.1, 12, .inl lo)), (nV, .inl (cy.1, 12, .inl sv)), (nC, .inl (cy.2.1, 12, .inl ca))]) (pl := []) (nL := 5) (ret := none) RX1 [(0, .ref mo), (1, .ref no)] (by decide +kernel) rfl rfl rfl (Nat.le_of_ble_eq_true rfl) (List.append_nil _).symm (fun p e s m args below meth c A C hname hT hZ => ?_)
  refine x_iconst (q := 1) C 1 rfl dX1_read_0 rfl ?_
  refine x_istore_n (q := 2) C [(2, .int 1), (0, .ref mo), (1, .ref no)] dX1_read_1 (by decide) rfl rfl ?_
  refine x_less [0, 1, 2] [(2, .int 1), (0, .ref mo), (1, .ref no)] rfl ?_
  refine x_up (fun j => [(mo, .inr (1, [.ref mE, .ref mT, .ref mS, .ref mF, .ref mA])), (mE, .inl (cy.1, 12, .inl er)), (mT, .inl (cy.1, 12, .inl to)), (mS, .inl (cy.2.1, 12, .inl su)), (mF, .inl (cy.1, 12, .inl ((itr (rIni sv) (fl, ac) j).1))), (mA, .inl (cy.1, 12, .inl ((itr (rIni sv) (fl, ac) j).2))), (no, .inr (2, [.ref nS, .ref nL, .ref nA, .ref nH, .ref nV, .ref nT, .ref nC, .ref nD, .int sl])), (nS, .inl (cy.1, 12, .inl (fun i => nI (sr i)))), (nL, .inl (cy.1, 12, .inl lo)), (nV, .inl (cy.1, 12, .inl sv)), (nC, .inl (cy.2.1, 12, .inl ca))]) (fun j => [(2, .int (nI (j + 1))), (0, .ref mo), (1, .ref no)]) 11 rfl rfl (fun j h_j ih_j => ?_) ?_
  · refine x_iload_n (q := 3) C 0 rfl dX1_read_2 rfl ?_
    refine x_bipush (q := 5) C 12 rfl dX1_read_3 rfl ?_
    refine x_icmp_ge_f (q := 8) C 38 dX1_read_5 (by decide) rfl (nI_ge (a := (j + 1)) (b := 12) (by omega) (by omega)) ?_
    refine x_aload_n (q := 9) C 1 rfl dX1_read_8 rfl ?_
    refine x_get (q := 12) C (T := TX1) iw_X1_read_X1 rfl 0 3 rfl (by decide) rfl (by decide +kernel : Cond.fieldLink RX1 22 RX1 "flow" "[I" ∈ wsX1_read) rfl dX1_read_9 rfl ?_
    refine x_iload_n (q := 13) C 0 rfl dX1_read_12 rfl ?_
    refine x_aload_n (q := 14) C 2 rfl dX1_read_13 rfl ?_
    refine x_getN (q := 17) C (T := TX2) iw_X1_read_X2 rfl 6 4 rfl (by decide) rfl (by decide +kernel : Cond.fieldLinkNest RX1 28 RX2 "served" "[I" RX4 ∈ xNest) rfl dX1_read_14 rfl ?_
    refine x_iload_n (q := 18) C 0 rfl dX1_read_17 rfl ?_
    refine x_ialdN (q := 19) C (j + 1) 9 (sv (j + 1)) rfl rfl (by omega) (by omega) rfl dX1_read_18 rfl ?_
    refine x_iastN (q := 20) C (j + 1) 4 (upd ((itr (rIni sv) (fl, ac) j).1) (j + 1) (sv (j + 1))) [(mo, .inr (1, [.ref mE, .ref mT, .ref mS, .ref mF, .ref mA])), (mE, .inl (cy.1, 12, .inl er)), (mT, .inl (cy.1, 12, .inl to)), (mS, .inl (cy.2.1, 12, .inl su)), (mF, .inl (cy.1, 12, .inl (upd ((itr (rIni sv) (fl, ac) j).1) (j + 1) (sv (j + 1))))), (mA, .inl (cy.1, 12, .inl ((itr (rIni sv) (fl, ac) j).2))), (no, .inr (2, [.ref nS, .ref nL, .ref nA, .ref nH, .ref nV, .ref nT, .ref nC, .ref nD, .int sl])), (nS, .inl (cy.1, 12, .inl (fun i => nI (sr i)))), (nL, .inl (cy.1, 12, .inl lo)), (nV, .inl (cy.1, 12, .inl sv)), (nC, .inl (cy.2.1, 12, .inl ca))] rfl rfl (by omega) (by omega) rfl rfl dX1_read_19 rfl ?_
    refine x_aload_n (q := 21) C 1 rfl dX1_read_20 rfl ?_
    refine x_get (q := 24) C (T := TX1) iw_X1_read_X1 rfl 0 4 rfl (by decide) rfl (by decide +kernel : Cond.fieldLink RX1 25 RX1 "accounted" "[I" ∈ wsX1_read) rfl dX1_read_21 rfl ?_
    refine x_iload_n (q := 25) C 0 rfl dX1_read_24 rfl ?_
    refine x_aload_n (q := 26) C 2 rfl dX1_read_25 rfl ?_
    refine x_getN (q := 29) C (T := TX2) iw_X1_read_X2 rfl 6 4 rfl (by decide) rfl (by decide +kernel : Cond.fieldLinkNest RX1 28 RX2 "served" "[I" RX4 ∈ xNest) rfl dX1_read_26 rfl ?_
    refine x_iload_n (q := 30) C 0 rfl dX1_read_29 rfl ?_
    refine x_ialdN (q := 31) C (j + 1) 9 (sv (j + 1)) rfl rfl (by omega) (by omega) rfl dX1_read_30 rfl ?_
    refine x_iastN (q := 32) C (j + 1) 5 (upd ((itr (rIni sv) (fl, ac) j).2) (j + 1) (sv (j + 1))) [(mo, .inr (1, [.ref mE, .ref mT, .ref mS, .ref mF, .ref mA])), (mE, .inl (cy.1, 12, .inl er)), (mT, .inl (cy.1, 12, .inl to)), (mS, .inl (cy.2.1, 12, .inl su)), (mF, .inl (cy.1, 12, .inl (upd ((itr (rIni sv) (fl, ac) j).1) (j + 1) (sv (j + 1))))), (mA, .inl (cy.1, 12, .inl (upd ((itr (rIni sv) (fl, ac) j).2) (j + 1) (sv (j + 1))))), (no, .inr (2, [.ref nS, .ref nL, .ref nA, .ref nH, .ref nV, .ref nT, .ref nC, .ref nD, .int sl])), (nS, .inl (cy.1, 12, .inl (fun i => nI (sr i)))), (nL, .inl (cy.1, 12, .inl lo)), (nV, .inl (cy.1, 12, .inl sv)), (nC, .inl (cy.2.1, 12, .inl ca))] rfl rfl (by omega) (by omega) rfl rfl dX1_read_31 rfl ?_
    refine x_iinc (q := 35) C 0 (nI ((j + 1) + 1)) [(2, .int (nI ((j + 1) + 1))), (0, .ref mo), (1, .ref no)] dX1_read_32 rfl (nI_1 _) (by decide) rfl rfl ?_
    refine x_goto C 2 dX1_read_35 (by decide) ?_
    refine x_less [0, 1, 2] [(2, .int (nI ((j + 1) + 1))), (0, .ref mo), (1, .ref no)] rfl ?_
    refine x_less [0, 1, 2] [(2, .int (nI ((j + 1) + 1))), (0, .ref mo), (1, .ref no)] (by first | rfl | (rw [e9]; rfl)) ?_
    refine x_world (X' := [(mo, .inr (1, [.ref mE, .ref mT, .ref mS, .ref mF, .ref mA])), (mE, .inl (cy.1, 12, .inl er)), (mT, .inl (cy.1, 12, .inl to)), (mS, .inl (cy.2.1, 12, .inl su)), (mF, .inl (cy.1, 12, .inl ((itr (rIni sv) (fl, ac) (j + 1)).1))), (mA, .inl (cy.1, 12, .inl ((itr (rIni sv) (fl, ac) (j + 1)).2))), (no, .inr (2, [.ref nS, .ref nL, .ref nA, .ref nH, .ref nV, .ref nT, .ref nC, .ref nD, .int sl])), (nS, .inl (cy.1, 12, .inl (fun i => nI (sr i)))), (nL, .inl (cy.1, 12, .inl lo)), (nV, .inl (cy.1, 12, .inl sv)), (nC, .inl (cy.2.1, 12, .inl ca))]) (pl' := []) (by first | rfl | rw [e9]) ?_
    exact ih_j
  · refine x_iload_n (q := 3) C 0 rfl dX1_read_2 rfl ?_
    refine x_bipush (q := 5) C 12 rfl dX1_read_3 rfl ?_
    refine x_icmp_ge_t C 38 dX1_read_5 (by decide) (nI_le (a := 12) (b := (11 + 1)) (by omega) (by omega)) ?_
    refine x_bipush (q := 40) C 11 rfl dX1_read_38 rfl ?_
    refine x_istore_n (q := 41) C [(2, .int 11), (0, .ref mo), (1, .ref no)] dX1_read_40 (by decide) rfl rfl ?_
    refine x_less [0, 1, 2] [(2, .int 11), (0, .ref mo), (1, .ref no)] rfl ?_
    refine x_up (fun j => [(mo, .inr (1, [.ref mE, .ref mT, .ref mS, .ref mF, .ref mA])), (mE, .inl (cy.1, 12, .inl er)), (mT, .inl (cy.1, 12, .inl ((itr (rStep sr lo ca er) ((to, su), itr (rIni sv) (fl, ac) 11) j).1.1))), (mS, .inl (cy.2.1, 12, .inl ((itr (rStep sr lo ca er) ((to, su), itr (rIni sv) (fl, ac) 11) j).1.2))), (mF, .inl (cy.1, 12, .inl ((itr (rStep sr lo ca er) ((to, su), itr (rIni sv) (fl, ac) 11) j).2.1))), (mA, .inl (cy.1, 12, .inl ((itr (rStep sr lo ca er) ((to, su), itr (rIni sv) (fl, ac) 11) j).2.2))), (no, .inr (2, [.ref nS, .ref nL, .ref nA, .ref nH, .ref nV, .ref nT, .ref nC, .ref nD, .int sl])), (nS, .inl (cy.1, 12, .inl (fun i => nI (sr i)))), (nL, .inl (cy.1, 12, .inl lo)), (nV, .inl (cy.1, 12, .inl sv)), (nC, .inl (cy.2.1, 12, .inl ca))]) (fun j => [(2, .int (nI (11 - j))), (0, .ref mo), (1, .ref no)]) 11 rfl rfl (fun j h_j ih_j => ?_) ?_
    · refine x_iload_n (q := 42) C 0 rfl dX1_read_41 rfl ?_
      refine x_iconst (q := 43) C 1 rfl dX1_read_42 rfl ?_
      refine x_icmp_lt_f (q := 46) C 167 dX1_read_43 (by decide) rfl (nI_nlt (a := (11 - j)) (b := 1) (by omega) (by omega)) ?_
      refine x_aload_n (q := 47) C 1 rfl dX1_read_46 rfl ?_
      refine x_get (q := 50) C (T := TX1) iw_X1_read_X1 rfl 0 1 rfl (by decide) rfl (by decide +kernel : Cond.fieldLink RX1 15 RX1 "told" "[I" ∈ wsX1_read) rfl dX1_read_47 rfl ?_
      refine x_iload_n (q := 51) C 0 rfl dX1_read_50 rfl ?_
      refine x_aload_n (q := 52) C 2 rfl dX1_read_51 rfl ?_
      refine x_getN (q := 55) C (T := TX2) iw_X1_read_X2 rfl 6 6 rfl (by decide) rfl (by decide +kernel : Cond.fieldLinkNest RX1 33 RX2 "carries" "[Z" RX4 ∈ xNest) rfl dX1_read_52 rfl ?_
      refine x_iload_n (q := 56) C 0 rfl dX1_read_55 rfl ?_
      refine x_zaldN (q := 57) C (11 - j) 10 (ca (11 - j)) rfl rfl (by omega) (by omega) rfl dX1_read_56 rfl ?_
      refine x_if_eq (q := 60) C 76 dX1_read_57 (by decide) rfl (fun c_57 => ?_) (fun c_57 => ?_)
      · refine x_iconst (q := 77) C 0 rfl dX1_read_76 rfl ?_
        refine x_iastN (q := 78) C (11 - j) 2 (upd ((itr (rStep sr lo ca er) ((to, su), itr (rIni sv) (fl, ac) 11) j).1.1) (11 - j) 0) [(mo, .inr (1, [.ref mE, .ref mT, .ref mS, .ref mF, .ref mA])), (mE, .inl (cy.1, 12, .inl er)), (mT, .inl (cy.1, 12, .inl (upd ((itr (rStep sr lo ca er) ((to, su), itr (rIni sv) (fl, ac) 11) j).1.1) (11 - j) 0))), (mS, .inl (cy.2.1, 12, .inl ((itr (rStep sr lo ca er) ((to, su), itr (rIni sv) (fl, ac) 11) j).1.2))), (mF, .inl (cy.1, 12, .inl ((itr (rStep sr lo ca er) ((to, su), itr (rIni sv) (fl, ac) 11) j).2.1))), (mA, .inl (cy.1, 12, .inl ((itr (rStep sr lo ca er) ((to, su), itr (rIni sv) (fl, ac) 11) j).2.2))), (no, .inr (2, [.ref nS, .ref nL, .ref nA, .ref nH, .ref nV, .ref nT, .ref nC, .ref nD, .int sl])), (nS, .inl (cy.1, 12, .inl (fun i => nI (sr i)))), (nL, .inl (cy.1, 12, .inl lo)), (nV, .inl (cy.1, 12, .inl sv)), (nC, .inl (cy.2.1, 12, .inl ca))] rfl rfl (by omega) (by omega) rfl rfl dX1_read_77 rfl ?_
        refine x_aload_n (q := 79) C 1 rfl dX1_read_78 rfl ?_
        refine x_get (q := 82) C (T := TX1) iw_X1_read_X1 rfl 0 2 rfl (by decide) rfl (by decide +kernel : Cond.fieldLink RX1 18 RX1 "suspected" "[Z" ∈ wsX1_read) rfl dX1_read_79 rfl ?_
        refine x_iload_n (q := 83) C 0 rfl dX1_read_82 rfl ?_
        refine x_aload_n (q := 84) C 1 rfl dX1_read_83 rfl ?_
        refine x_get (q := 87) C (T := TX1) iw_X1_read_X1 rfl 0 1 rfl (by decide) rfl (by decide +kernel : Cond.fieldLink RX1 15 RX1 "told" "[I" ∈ wsX1_read) rfl dX1_read_84 rfl ?_
        refine x_iload_n (q := 88) C 0 rfl dX1_read_87 rfl ?_
        refine x_ialdN (q := 89) C (11 - j) 2 0 rfl rfl (by omega) (by omega) pk_us dX1_read_88 rfl ?_
        refine x_aload_n (q := 90) C 1 rfl dX1_read_89 rfl ?_
        refine x_get (q := 93) C (T := TX1) iw_X1_read_X1 rfl 0 4 rfl (by decide) rfl (by decide +kernel : Cond.fieldLink RX1 25 RX1 "accounted" "[I" ∈ wsX1_read) rfl dX1_read_90 rfl ?_
        refine x_iload_n (q := 94) C 0 rfl dX1_read_93 rfl ?_
        refine x_ialdN (q := 95) C (11 - j) 5 (((itr (rStep sr lo ca er) ((to, su), itr (rIni sv) (fl, ac) 11) j).2.2) (11 - j)) rfl rfl (by omega) (by omega) rfl dX1_read_94 rfl ?_
        refine x_icmp_eq (q := 98) C 102 dX1_read_95 (by decide) rfl (fun c_95 => ?_) (fun c_95 => ?_)
        · refine x_iconst (q := 103) C 0 rfl dX1_read_102 rfl ?_
          refine x_zastN (q := 104) C (11 - j) 3 (upd ((itr (rStep sr lo ca er) ((to, su), itr (rIni sv) (fl, ac) 11) j).1.2) (11 - j) 0) [(mo, .inr (1, [.ref mE, .ref mT, .ref mS, .ref mF, .ref mA])), (mE, .inl (cy.1, 12, .inl er)), (mT, .inl (cy.1, 12, .inl (upd ((itr (rStep sr lo ca er) ((to, su), itr (rIni sv) (fl, ac) 11) j).1.1) (11 - j) 0))), (mS, .inl (cy.2.1, 12, .inl (upd ((itr (rStep sr lo ca er) ((to, su), itr (rIni sv) (fl, ac) 11) j).1.2) (11 - j) 0))), (mF, .inl (cy.1, 12, .inl ((itr (rStep sr lo ca er) ((to, su), itr (rIni sv) (fl, ac) 11) j).2.1))), (mA, .inl (cy.1, 12, .inl ((itr (rStep sr lo ca er) ((to, su), itr (rIni sv) (fl, ac) 11) j).2.2))), (no, .inr (2, [.ref nS, .ref nL, .ref nA, .ref nH, .ref nV, .ref nT, .ref nC, .ref nD, .int sl])), (nS, .inl (cy.1, 12, .inl (fun i => nI (sr i)))), (nL, .inl (cy.1, 12, .inl lo)), (nV, .inl (cy.1, 12, .inl sv)), (nC, .inl (cy.2.1, 12, .inl ca))] rfl rfl (by omega) (by omega) (congrArg _ vpz0) rfl dX1_read_103 rfl ?_
          refine x_aload_n (q := 105) C 2 rfl dX1_read_104 rfl ?_
          refine x_getN (q := 108) C (T := TX2) iw_X1_read_X2 rfl 6 0 rfl (by decide) rfl (by decide +kernel : Cond.fieldLinkNest RX1 36 RX2 "source" "[I" RX4 ∈ xNest) rfl dX1_read_105 rfl ?_
          refine x_iload_n (q := 109) C 0 rfl dX1_read_108 rfl ?_
          refine x_ialdN (q := 110) C (11 - j) 7 (nI (sr (11 - j))) rfl rfl (by omega) (by omega) rfl dX1_read_109 rfl ?_
          refine x_istore_n (q := 111) C [(3, .int (nI (sr (11 - j)))), (2, .int (nI (11 - j))), (0, .ref mo), (1, .ref no)] dX1_read_110 (by decide) rfl rfl ?_
          refine x_iload_n (q := 112) C 0 rfl dX1_read_111 rfl ?_
          refine x_CiP (q := 115) C [] [0, 1, 2, 3, 4, 5, 6, 7, 8, 9, 10] (cx := []) (wr := [(mo, .inr (1, [.ref mE, .ref mT, .ref mS, .ref mF, .ref mA])), (mE, .inl (cy.1, 12, .inl er)), (mT, .inl (cy.1, 12, .inl (upd ((itr (rStep sr lo ca er) ((to, su), itr (rIni sv) (fl, ac) 11) j).1.1) (11 - j) 0))), (mS, .inl (cy.2.1, 12, .inl (upd ((itr (rStep sr lo ca er) ((to, su), itr (rIni sv) (fl, ac) 11) j).1.2) (11 - j) 0))), (mF, .inl (cy.1, 12, .inl ((itr (rStep sr lo ca er) ((to, su), itr (rIni sv) (fl, ac) 11) j).2.1))), (mA, .inl (cy.1, 12, .inl ((itr (rStep sr lo ca er) ((to, su), itr (rIni sv) (fl, ac) 11) j).2.2))), (no, .inr (2, [.ref nS, .ref nL, .ref nA, .ref nH, .ref nV, .ref nT, .ref nC, .ref nD, .int sl])), (nS, .inl (cy.1, 12, .inl (fun i => nI (sr i)))), (nL, .inl (cy.1, 12, .inl lo)), (nV, .inl (cy.1, 12, .inl sv)), (nC, .inl (cy.2.1, 12, .inl ca))]) (st := []) rfl rfl rfl rfl (by decide) (fun H locs ls hP hPc hDc hS hFc hl => x_runSN C (As := [.int (nI (sr (11 - j)))]) (c_X4_isHouse (nI (sr (11 - j)))) (⟨va_cnB 1 C.2.2.2.2.2.1 gX1_read_X4_isHouse_n39 rfl rfl rfl (va_Nw.of rfl (C.2.2.2.2.2.2.1.2.1.use (B := #[]) (by decide +kernel : Cond.methodLinkNest RX1 39 yX4_isHouse RX4 ∈ xNest))) (C.2.2.2.2.2.1 _ (by decide +kernel)) (by decide +kernel) ⟨Nat.le_of_ble_eq_true rfl, Nat.le_of_ble_eq_true rfl⟩, C.2.2.2.2.2.1 (Cond.static yX4_isHouse) (by decide +kernel), trivial⟩) rfl rfl (Nat.le_of_ble_eq_true rfl) dX1_read_112 ⟨Nat.le_of_ble_eq_true rfl, Nat.le_of_ble_eq_true rfl⟩ (fun h => absurd h (by decide)) hP hPc hDc hS hFc hl) (k := 0) (n := 0) rfl rfl rfl (fun r_112 w1 hw => ?_)
          obtain ⟨rfl, rfl⟩ := hw
          refine x_ord [0, 1, 2, 3, 4, 5, 6, 7, 8, 9, 10] [(mo, .inr (1, [.ref mE, .ref mT, .ref mS, .ref mF, .ref mA])), (mE, .inl (cy.1, 12, .inl er)), (mT, .inl (cy.1, 12, .inl (upd ((itr (rStep sr lo ca er) ((to, su), itr (rIni sv) (fl, ac) 11) j).1.1) (11 - j) 0))), (mS, .inl (cy.2.1, 12, .inl (upd ((itr (rStep sr lo ca er) ((to, su), itr (rIni sv) (fl, ac) 11) j).1.2) (11 - j) 0))), (mF, .inl (cy.1, 12, .inl ((itr (rStep sr lo ca er) ((to, su), itr (rIni sv) (fl, ac) 11) j).2.1))), (mA, .inl (cy.1, 12, .inl ((itr (rStep sr lo ca er) ((to, su), itr (rIni sv) (fl, ac) 11) j).2.2))), (no, .inr (2, [.ref nS, .ref nL, .ref nA, .ref nH, .ref nV, .ref nT, .ref nC, .ref nD, .int sl])), (nS, .inl (cy.1, 12, .inl (fun i => nI (sr i)))), (nL, .inl (cy.1, 12, .inl lo)), (nV, .inl (cy.1, 12, .inl sv)), (nC, .inl (cy.2.1, 12, .inl ca))] rfl rfl ?_
          refine x_if_eq (q := 118) C 161 dX1_read_115 (by decide) rfl (fun c_115 => ?_) (fun c_115 => ?_)
          · refine x_iinc (q := 164) C 1 (nI (11 - (j + 1))) [(2, .int (nI (11 - (j + 1)))), (3, .int (nI (sr (11 - j)))), (0, .ref mo), (1, .ref no)] dX1_read_161 rfl (nI_dn h_j) (by decide) rfl rfl ?_
            refine x_goto C 41 dX1_read_164 (by decide) ?_
            refine x_less [0, 2, 3] [(2, .int (nI (11 - (j + 1)))), (0, .ref mo), (1, .ref no)] rfl ?_
            have e9 : (itr (rStep sr lo ca er) ((to, su), itr (rIni sv) (fl, ac) 11) (j + 1)) = ((upd ((itr (rStep sr lo ca er) ((to, su), itr (rIni sv) (fl, ac) 11) j).1.1) (11 - j) 0, upd ((itr (rStep sr lo ca er) ((to, su), itr (rIni sv) (fl, ac) 11) j).1.2) (11 - j) 0), ((itr (rStep sr lo ca er) ((to, su), itr (rIni sv) (fl, ac) 11) j).2.1, (itr (rStep sr lo ca er) ((to, su), itr (rIni sv) (fl, ac) 11) j).2.2)) := by
              show rStep sr lo ca er j (itr (rStep sr lo ca er) ((to, su), itr (rIni sv) (fl, ac) 11) j) = _
              simp only [rStep, rTold, if_pos c_57, if_pos c_95, if_pos c_115]
            refine x_less [0, 1, 2] [(2, .int (nI (11 - (j + 1)))), (0, .ref mo), (1, .ref no)] (by first | rfl | (rw [e9]; rfl)) ?_
            refine x_world (X' := [(mo, .inr (1, [.ref mE, .ref mT, .ref mS, .ref mF, .ref mA])), (mE, .inl (cy.1, 12, .inl er)), (mT, .inl (cy.1, 12, .inl ((itr (rStep sr lo ca er) ((to, su), itr (rIni sv) (fl, ac) 11) (j + 1)).1.1))), (mS, .inl (cy.2.1, 12, .inl ((itr (rStep sr lo ca er) ((to, su), itr (rIni sv) (fl, ac) 11) (j + 1)).1.2))), (mF, .inl (cy.1, 12, .inl ((itr (rStep sr lo ca er) ((to, su), itr (rIni sv) (fl, ac) 11) (j + 1)).2.1))), (mA, .inl (cy.1, 12, .inl ((itr (rStep sr lo ca er) ((to, su), itr (rIni sv) (fl, ac) 11) (j + 1)).2.2))), (no, .inr (2, [.ref nS, .ref nL, .ref nA, .ref nH, .ref nV, .ref nT, .ref nC, .ref nD, .int sl])), (nS, .inl (cy.1, 12, .inl (fun i => nI (sr i)))), (nL, .inl (cy.1, 12, .inl lo)), (nV, .inl (cy.1, 12, .inl sv)), (nC, .inl (cy.2.1, 12, .inl ca))]) (pl' := []) (by first | rfl | rw [e9]) ?_
            exact ih_j
          · refine x_aload_n (q := 119) C 3 rfl dX1_read_118 rfl ?_
            refine x_iload_n (q := 120) C 1 rfl dX1_read_119 rfl ?_
            refine x_CiP (q := 123) C [6, 8, 10] [0, 1, 2, 3, 4, 5, 7, 9] (cx := [(no, .inr (2, [.ref nS, .ref nL, .ref nA, .ref nH, .ref nV, .ref nT, .ref nC, .ref nD, .int sl])), (nL, .inl (cy.1, 12, .inl lo)), (nC, .inl (cy.2.1, 12, .inl ca))]) (wr := [(mo, .inr (1, [.ref mE, .ref mT, .ref mS, .ref mF, .ref mA])), (mE, .inl (cy.1, 12, .inl er)), (mT, .inl (cy.1, 12, .inl (upd ((itr (rStep sr lo ca er) ((to, su), itr (rIni sv) (fl, ac) 11) j).1.1) (11 - j) 0))), (mS, .inl (cy.2.1, 12, .inl (upd ((itr (rStep sr lo ca er) ((to, su), itr (rIni sv) (fl, ac) 11) j).1.2) (11 - j) 0))), (mF, .inl (cy.1, 12, .inl ((itr (rStep sr lo ca er) ((to, su), itr (rIni sv) (fl, ac) 11) j).2.1))), (mA, .inl (cy.1, 12, .inl ((itr (rStep sr lo ca er) ((to, su), itr (rIni sv) (fl, ac) 11) j).2.2))), (nS, .inl (cy.1, 12, .inl (fun i => nI (sr i)))), (nV, .inl (cy.1, 12, .inl sv))]) (st := []) rfl rfl rfl rfl (by decide) (fun H locs ls hP hPc hDc hS hFc hl => x_runVN C (As := [.int (nI (11 - j))]) (c_X2_carriedLoss no nS nL nA nH nV nT nC nD lo ca sl (11 - j) (by omega)) (⟨va_cnB 1 C.2.2.2.2.2.1 gX1_read_X2_carriedLoss_n43 rfl rfl rfl (va_Nw.of rfl (C.2.2.2.2.2.2.1.2.1.use (B := #[]) (by decide +kernel : Cond.methodLinkNest RX1 43 yX2_carriedLoss RX4 ∈ xNest))) (C.2.2.2.2.2.1 _ (by decide +kernel)) (by decide +kernel) ⟨Nat.le_of_ble_eq_true rfl, Nat.le_of_ble_eq_true rfl⟩, C.2.2.2.2.2.1 (Cond.instanceMethod yX2_carriedLoss) (by decide +kernel), C.2.2.2.2.2.1 (Cond.selects RX2 yX2_carriedLoss yX2_carriedLoss) (by decide +kernel)⟩) rfl 6 rfl rfl rfl (Nat.le_of_ble_eq_true rfl) dX1_read_120 ⟨Nat.le_of_ble_eq_true rfl, Nat.le_of_ble_eq_true rfl⟩ (fun h => absurd h (by decide)) hP hPc hDc hS hFc hl) (k := 0) (n := 0) rfl rfl rfl (fun r_120 w1 hw => ?_)
            obtain ⟨rfl, rfl⟩ := hw
            refine x_ord [0, 1, 2, 3, 4, 5, 8, 6, 9, 7, 10] [(mo, .inr (1, [.ref mE, .ref mT, .ref mS, .ref mF, .ref mA])), (mE, .inl (cy.1, 12, .inl er)), (mT, .inl (cy.1, 12, .inl (upd ((itr (rStep sr lo ca er) ((to, su), itr (rIni sv) (fl, ac) 11) j).1.1) (11 - j) 0))), (mS, .inl (cy.2.1, 12, .inl (upd ((itr (rStep sr lo ca er) ((to, su), itr (rIni sv) (fl, ac) 11) j).1.2) (11 - j) 0))), (mF, .inl (cy.1, 12, .inl ((itr (rStep sr lo ca er) ((to, su), itr (rIni sv) (fl, ac) 11) j).2.1))), (mA, .inl (cy.1, 12, .inl ((itr (rStep sr lo ca er) ((to, su), itr (rIni sv) (fl, ac) 11) j).2.2))), (no, .inr (2, [.ref nS, .ref nL, .ref nA, .ref nH, .ref nV, .ref nT, .ref nC, .ref nD, .int sl])), (nS, .inl (cy.1, 12, .inl (fun i => nI (sr i)))), (nL, .inl (cy.1, 12, .inl lo)), (nV, .inl (cy.1, 12, .inl sv)), (nC, .inl (cy.2.1, 12, .inl ca))] rfl rfl ?_
            refine x_istore (q := 125) C [(4, .int (pCL ca lo (11 - j))), (3, .int (nI (sr (11 - j)))), (2, .int (nI (11 - j))), (0, .ref mo), (1, .ref no)] dX1_read_123 (by decide) rfl rfl ?_
            refine x_aload_n (q := 126) C 3 rfl dX1_read_125 rfl ?_
            refine x_get (q := 129) C (T := TX1) iw_X1_read_X1 rfl 0 3 rfl (by decide) rfl (by decide +kernel : Cond.fieldLink RX1 22 RX1 "flow" "[I" ∈ wsX1_read) rfl dX1_read_126 rfl ?_
            refine x_iload_n (q := 130) C 1 rfl dX1_read_129 rfl ?_
            refine x_dup2 (q := 131) C rfl rfl dX1_read_130 rfl ?_
            refine x_ialdN (q := 132) C (sr (11 - j)) 4 (((itr (rStep sr lo ca er) ((to, su), itr (rIni sv) (fl, ac) 11) j).2.1) (sr (11 - j))) rfl rfl (by have := hsr (11 - j) (by omega) (by omega); omega) (by omega) rfl dX1_read_131 rfl ?_
            refine x_aload_n (q := 133) C 3 rfl dX1_read_132 rfl ?_
            refine x_get (q := 136) C (T := TX1) iw_X1_read_X1 rfl 0 3 rfl (by decide) rfl (by decide +kernel : Cond.fieldLink RX1 22 RX1 "flow" "[I" ∈ wsX1_read) rfl dX1_read_133 rfl ?_
            refine x_iload_n (q := 137) C 2 rfl dX1_read_136 rfl ?_
            refine x_ialdN (q := 138) C (11 - j) 4 (((itr (rStep sr lo ca er) ((to, su), itr (rIni sv) (fl, ac) 11) j).2.1) (11 - j)) rfl rfl (by omega) (by omega) rfl dX1_read_137 rfl ?_
            refine x_iload (q := 140) C 0 rfl dX1_read_138 rfl ?_
            refine x_iadd (q := 141) C ((((itr (rStep sr lo ca er) ((to, su), itr (rIni sv) (fl, ac) 11) j).2.1) (11 - j)) + (pCL ca lo (11 - j))) (rfl) dX1_read_140 rfl ?_
            refine x_iadd (q := 142) C ((((itr (rStep sr lo ca er) ((to, su), itr (rIni sv) (fl, ac) 11) j).2.1) (sr (11 - j))) + ((((itr (rStep sr lo ca er) ((to, su), itr (rIni sv) (fl, ac) 11) j).2.1) (11 - j)) + (pCL ca lo (11 - j)))) (rfl) dX1_read_141 rfl ?_
            refine x_iastN (q := 143) C (sr (11 - j)) 4 (upd ((itr (rStep sr lo ca er) ((to, su), itr (rIni sv) (fl, ac) 11) j).2.1) (sr (11 - j)) ((((itr (rStep sr lo ca er) ((to, su), itr (rIni sv) (fl, ac) 11) j).2.1) (sr (11 - j))) + ((((itr (rStep sr lo ca er) ((to, su), itr (rIni sv) (fl, ac) 11) j).2.1) (11 - j)) + (pCL ca lo (11 - j))))) [(mo, .inr (1, [.ref mE, .ref mT, .ref mS, .ref mF, .ref mA])), (mE, .inl (cy.1, 12, .inl er)), (mT, .inl (cy.1, 12, .inl (upd ((itr (rStep sr lo ca er) ((to, su), itr (rIni sv) (fl, ac) 11) j).1.1) (11 - j) 0))), (mS, .inl (cy.2.1, 12, .inl (upd ((itr (rStep sr lo ca er) ((to, su), itr (rIni sv) (fl, ac) 11) j).1.2) (11 - j) 0))), (mF, .inl (cy.1, 12, .inl (upd ((itr (rStep sr lo ca er) ((to, su), itr (rIni sv) (fl, ac) 11) j).2.1) (sr (11 - j)) ((((itr (rStep sr lo ca er) ((to, su), itr (rIni sv) (fl, ac) 11) j).2.1) (sr (11 - j))) + ((((itr (rStep sr lo ca er) ((to, su), itr (rIni sv) (fl, ac) 11) j).2.1) (11 - j)) + (pCL ca lo (11 - j))))))), (mA, .inl (cy.1, 12, .inl ((itr (rStep sr lo ca er) ((to, su), itr (rIni sv) (fl, ac) 11) j).2.2))), (no, .inr (2, [.ref nS, .ref nL, .ref nA, .ref nH, .ref nV, .ref nT, .ref nC, .ref nD, .int sl])), (nS, .inl (cy.1, 12, .inl (fun i => nI (sr i)))), (nL, .inl (cy.1, 12, .inl lo)), (nV, .inl (cy.1, 12, .inl sv)), (nC, .inl (cy.2.1, 12, .inl ca))] rfl rfl (by have := hsr (11 - j) (by omega) (by omega); omega) (by omega) rfl rfl dX1_read_142 rfl ?_
            refine x_aload_n (q := 144) C 3 rfl dX1_read_143 rfl ?_
            refine x_get (q := 147) C (T := TX1) iw_X1_read_X1 rfl 0 4 rfl (by decide) rfl (by decide +kernel : Cond.fieldLink RX1 25 RX1 "accounted" "[I" ∈ wsX1_read) rfl dX1_read_144 rfl ?_
            refine x_iload_n (q := 148) C 1 rfl dX1_read_147 rfl ?_
            refine x_dup2 (q := 149) C rfl rfl dX1_read_148 rfl ?_
            refine x_ialdN (q := 150) C (sr (11 - j)) 5 (((itr (rStep sr lo ca er) ((to, su), itr (rIni sv) (fl, ac) 11) j).2.2) (sr (11 - j))) rfl rfl (by have := hsr (11 - j) (by omega) (by omega); omega) (by omega) rfl dX1_read_149 rfl ?_
            refine x_aload_n (q := 151) C 3 rfl dX1_read_150 rfl ?_
            refine x_get (q := 154) C (T := TX1) iw_X1_read_X1 rfl 0 1 rfl (by decide) rfl (by decide +kernel : Cond.fieldLink RX1 15 RX1 "told" "[I" ∈ wsX1_read) rfl dX1_read_151 rfl ?_
            refine x_iload_n (q := 155) C 2 rfl dX1_read_154 rfl ?_
            refine x_ialdN (q := 156) C (11 - j) 2 0 rfl rfl (by omega) (by omega) pk_us dX1_read_155 rfl ?_
            refine x_iload (q := 158) C 0 rfl dX1_read_156 rfl ?_
            refine x_iadd (q := 159) C (0 + (pCL ca lo (11 - j))) (rfl) dX1_read_158 rfl ?_
            refine x_iadd (q := 160) C ((((itr (rStep sr lo ca er) ((to, su), itr (rIni sv) (fl, ac) 11) j).2.2) (sr (11 - j))) + (0 + (pCL ca lo (11 - j)))) (rfl) dX1_read_159 rfl ?_
            refine x_iastN (q := 161) C (sr (11 - j)) 5 (upd ((itr (rStep sr lo ca er) ((to, su), itr (rIni sv) (fl, ac) 11) j).2.2) (sr (11 - j)) ((((itr (rStep sr lo ca er) ((to, su), itr (rIni sv) (fl, ac) 11) j).2.2) (sr (11 - j))) + (0 + (pCL ca lo (11 - j))))) [(mo, .inr (1, [.ref mE, .ref mT, .ref mS, .ref mF, .ref mA])), (mE, .inl (cy.1, 12, .inl er)), (mT, .inl (cy.1, 12, .inl (upd ((itr (rStep sr lo ca er) ((to, su), itr (rIni sv) (fl, ac) 11) j).1.1) (11 - j) 0))), (mS, .inl (cy.2.1, 12, .inl (upd ((itr (rStep sr lo ca er) ((to, su), itr (rIni sv) (fl, ac) 11) j).1.2) (11 - j) 0))), (mF, .inl (cy.1, 12, .inl (upd ((itr (rStep sr lo ca er) ((to, su), itr (rIni sv) (fl, ac) 11) j).2.1) (sr (11 - j)) ((((itr (rStep sr lo ca er) ((to, su), itr (rIni sv) (fl, ac) 11) j).2.1) (sr (11 - j))) + ((((itr (rStep sr lo ca er) ((to, su), itr (rIni sv) (fl, ac) 11) j).2.1) (11 - j)) + (pCL ca lo (11 - j))))))), (mA, .inl (cy.1, 12, .inl (upd ((itr (rStep sr lo ca er) ((to, su), itr (rIni sv) (fl, ac) 11) j).2.2) (sr (11 - j)) ((((itr (rStep sr lo ca er) ((to, su), itr (rIni sv) (fl, ac) 11) j).2.2) (sr (11 - j))) + (0 + (pCL ca lo (11 - j))))))), (no, .inr (2, [.ref nS, .ref nL, .ref nA, .ref nH, .ref nV, .ref nT, .ref nC, .ref nD, .int sl])), (nS, .inl (cy.1, 12, .inl (fun i => nI (sr i)))), (nL, .inl (cy.1, 12, .inl lo)), (nV, .inl (cy.1, 12, .inl sv)), (nC, .inl (cy.2.1, 12, .inl ca))] rfl rfl (by have := hsr (11 - j) (by omega) (by omega); omega) (by omega) rfl rfl dX1_read_160 rfl ?_
            refine x_iinc (q := 164) C 2 (nI (11 - (j + 1))) [(2, .int (nI (11 - (j + 1)))), (4, .int (pCL ca lo (11 - j))), (3, .int (nI (sr (11 - j)))), (0, .ref mo), (1, .ref no)] dX1_read_161 rfl (nI_dn h_j) (by decide) rfl rfl ?_
            refine x_goto C 41 dX1_read_164 (by decide) ?_
            refine x_less [0, 3, 4] [(2, .int (nI (11 - (j + 1)))), (0, .ref mo), (1, .ref no)] rfl ?_
            have e9 : (itr (rStep sr lo ca er) ((to, su), itr (rIni sv) (fl, ac) 11) (j + 1)) = ((upd ((itr (rStep sr lo ca er) ((to, su), itr (rIni sv) (fl, ac) 11) j).1.1) (11 - j) 0, upd ((itr (rStep sr lo ca er) ((to, su), itr (rIni sv) (fl, ac) 11) j).1.2) (11 - j) 0), (upd ((itr (rStep sr lo ca er) ((to, su), itr (rIni sv) (fl, ac) 11) j).2.1) (sr (11 - j)) ((((itr (rStep sr lo ca er) ((to, su), itr (rIni sv) (fl, ac) 11) j).2.1) (sr (11 - j))) + ((((itr (rStep sr lo ca er) ((to, su), itr (rIni sv) (fl, ac) 11) j).2.1) (11 - j)) + (pCL ca lo (11 - j)))), upd ((itr (rStep sr lo ca er) ((to, su), itr (rIni sv) (fl, ac) 11) j).2.2) (sr (11 - j)) ((((itr (rStep sr lo ca er) ((to, su), itr (rIni sv) (fl, ac) 11) j).2.2) (sr (11 - j))) + (0 + (pCL ca lo (11 - j)))))) := by
              show rStep sr lo ca er j (itr (rStep sr lo ca er) ((to, su), itr (rIni sv) (fl, ac) 11) j) = _
              simp only [rStep, rTold, if_pos c_57, if_pos c_95, if_neg c_115]
            refine x_less [0, 1, 2] [(2, .int (nI (11 - (j + 1)))), (0, .ref mo), (1, .ref no)] (by first | rfl | (rw [e9]; rfl)) ?_
            refine x_world (X' := [(mo, .inr (1, [.ref mE, .ref mT, .ref mS, .ref mF, .ref mA])), (mE, .inl (cy.1, 12, .inl er)), (mT, .inl (cy.1, 12, .inl ((itr (rStep sr lo ca er) ((to, su), itr (rIni sv) (fl, ac) 11) (j + 1)).1.1))), (mS, .inl (cy.2.1, 12, .inl ((itr (rStep sr lo ca er) ((to, su), itr (rIni sv) (fl, ac) 11) (j + 1)).1.2))), (mF, .inl (cy.1, 12, .inl ((itr (rStep sr lo ca er) ((to, su), itr (rIni sv) (fl, ac) 11) (j + 1)).2.1))), (mA, .inl (cy.1, 12, .inl ((itr (rStep sr lo ca er) ((to, su), itr (rIni sv) (fl, ac) 11) (j + 1)).2.2))), (no, .inr (2, [.ref nS, .ref nL, .ref nA, .ref nH, .ref nV, .ref nT, .ref nC, .ref nD, .int sl])), (nS, .inl (cy.1, 12, .inl (fun i => nI (sr i)))), (nL, .inl (cy.1, 12, .inl lo)), (nV, .inl (cy.1, 12, .inl sv)), (nC, .inl (cy.2.1, 12, .inl ca))]) (pl' := []) (by first | rfl | rw [e9]) ?_
            exact ih_j
        · refine x_iconst (q := 99) C 1 rfl dX1_read_98 rfl ?_
          refine x_goto C 103 dX1_read_99 (by decide) ?_
          refine x_zastN (q := 104) C (11 - j) 3 (upd ((itr (rStep sr lo ca er) ((to, su), itr (rIni sv) (fl, ac) 11) j).1.2) (11 - j) 1) [(mo, .inr (1, [.ref mE, .ref mT, .ref mS, .ref mF, .ref mA])), (mE, .inl (cy.1, 12, .inl er)), (mT, .inl (cy.1, 12, .inl (upd ((itr (rStep sr lo ca er) ((to, su), itr (rIni sv) (fl, ac) 11) j).1.1) (11 - j) 0))), (mS, .inl (cy.2.1, 12, .inl (upd ((itr (rStep sr lo ca er) ((to, su), itr (rIni sv) (fl, ac) 11) j).1.2) (11 - j) 1))), (mF, .inl (cy.1, 12, .inl ((itr (rStep sr lo ca er) ((to, su), itr (rIni sv) (fl, ac) 11) j).2.1))), (mA, .inl (cy.1, 12, .inl ((itr (rStep sr lo ca er) ((to, su), itr (rIni sv) (fl, ac) 11) j).2.2))), (no, .inr (2, [.ref nS, .ref nL, .ref nA, .ref nH, .ref nV, .ref nT, .ref nC, .ref nD, .int sl])), (nS, .inl (cy.1, 12, .inl (fun i => nI (sr i)))), (nL, .inl (cy.1, 12, .inl lo)), (nV, .inl (cy.1, 12, .inl sv)), (nC, .inl (cy.2.1, 12, .inl ca))] rfl rfl (by omega) (by omega) (congrArg _ vpz1) rfl dX1_read_103 rfl ?_
          refine x_aload_n (q := 105) C 2 rfl dX1_read_104 rfl ?_
          refine x_getN (q := 108) C (T := TX2) iw_X1_read_X2 rfl 6 0 rfl (by decide) rfl (by decide +kernel : Cond.fieldLinkNest RX1 36 RX2 "source" "[I" RX4 ∈ xNest) rfl dX1_read_105 rfl ?_
          refine x_iload_n (q := 109) C 0 rfl dX1_read_108 rfl ?_
          refine x_ialdN (q := 110) C (11 - j) 7 (nI (sr (11 - j))) rfl rfl (by omega) (by omega) rfl dX1_read_109 rfl ?_
          refine x_istore_n (q := 111) C [(3, .int (nI (sr (11 - j)))), (2, .int (nI (11 - j))), (0, .ref mo), (1, .ref no)] dX1_read_110 (by decide) rfl rfl ?_
          refine x_iload_n (q := 112) C 0 rfl dX1_read_111 rfl ?_
          refine x_CiP (q := 115) C [] [0, 1, 2, 3, 4, 5, 6, 7, 8, 9, 10] (cx := []) (wr := [(mo, .inr (1, [.ref mE, .ref mT, .ref mS, .ref mF, .ref mA])), (mE, .inl (cy.1, 12, .inl er)), (mT, .inl (cy.1, 12, .inl (upd ((itr (rStep sr lo ca er) ((to, su), itr (rIni sv) (fl, ac) 11) j).1.1) (11 - j) 0))), (mS, .inl (cy.2.1, 12, .inl (upd ((itr (rStep sr lo ca er) ((to, su), itr (rIni sv) (fl, ac) 11) j).1.2) (11 - j) 1))), (mF, .inl (cy.1, 12, .inl ((itr (rStep sr lo ca er) ((to, su), itr (rIni sv) (fl, ac) 11) j).2.1))), (mA, .inl (cy.1, 12, .inl ((itr (rStep sr lo ca er) ((to, su), itr (rIni sv) (fl, ac) 11) j).2.2))), (no, .inr (2, [.ref nS, .ref nL, .ref nA, .ref nH, .ref nV, .ref nT, .ref nC, .ref nD, .int sl])), (nS, .inl (cy.1, 12, .inl (fun i => nI (sr i)))), (nL, .inl (cy.1, 12, .inl lo)), (nV, .inl (cy.1, 12, .inl sv)), (nC, .inl (cy.2.1, 12, .inl ca))]) (st := []) rfl rfl rfl rfl (by decide) (fun H locs ls hP hPc hDc hS hFc hl => x_runSN C (As := [.int (nI (sr (11 - j)))]) (c_X4_isHouse (nI (sr (11 - j)))) (⟨va_cnB 1 C.2.2.2.2.2.1 gX1_read_X4_isHouse_n39 rfl rfl rfl (va_Nw.of rfl (C.2.2.2.2.2.2.1.2.1.use (B := #[]) (by decide +kernel : Cond.methodLinkNest RX1 39 yX4_isHouse RX4 ∈ xNest))) (C.2.2.2.2.2.1 _ (by decide +kernel)) (by decide +kernel) ⟨Nat.le_of_ble_eq_true rfl, Nat.le_of_ble_eq_true rfl⟩, C.2.2.2.2.2.1 (Cond.static yX4_isHouse) (by decide +kernel), trivial⟩) rfl rfl (Nat.le_of_ble_eq_true rfl) dX1_read_112 ⟨Nat.le_of_ble_eq_true rfl, Nat.le_of_ble_eq_true rfl⟩ (fun h => absurd h (by decide)) hP hPc hDc hS hFc hl) (k := 0) (n := 0) rfl rfl rfl (fun r_112 w1 hw => ?_)
          obtain ⟨rfl, rfl⟩ := hw
          refine x_ord [0, 1, 2, 3, 4, 5, 6, 7, 8, 9, 10] [(mo, .inr (1, [.ref mE, .ref mT, .ref mS, .ref mF, .ref mA])), (mE, .inl (cy.1, 12, .inl er)), (mT, .inl (cy.1, 12, .inl (upd ((itr (rStep sr lo ca er) ((to, su), itr (rIni sv) (fl, ac) 11) j).1.1) (11 - j) 0))), (mS, .inl (cy.2.1, 12, .inl (upd ((itr (rStep sr lo ca er) ((to, su), itr (rIni sv) (fl, ac) 11) j).1.2) (11 - j) 1))), (mF, .inl (cy.1, 12, .inl ((itr (rStep sr lo ca er) ((to, su), itr (rIni sv) (fl, ac) 11) j).2.1))), (mA, .inl (cy.1, 12, .inl ((itr (rStep sr lo ca er) ((to, su), itr (rIni sv) (fl, ac) 11) j).2.2))), (no, .inr (2, [.ref nS, .ref nL, .ref nA, .ref nH, .ref nV, .ref nT, .ref nC, .ref nD, .int sl])), (nS, .inl (cy.1, 12, .inl (fun i => nI (sr i)))), (nL, .inl (cy.1, 12, .inl lo)), (nV, .inl (cy.1, 12, .inl sv)), (nC, .inl (cy.2.1, 12, .inl ca))] rfl rfl ?_
          refine x_if_eq (q := 118) C 161 dX1_read_115 (by decide) rfl (fun c_115 => ?_) (fun c_115 => ?_)
          · refine x_iinc (q := 164) C 1 (nI (11 - (j + 1))) [(2, .int (nI (11 - (j + 1)))), (3, .int (nI (sr (11 - j)))), (0, .ref mo), (1, .ref no)] dX1_read_161 rfl (nI_dn h_j) (by decide) rfl rfl ?_
            refine x_goto C 41 dX1_read_164 (by decide) ?_
            refine x_less [0, 2, 3] [(2, .int (nI (11 - (j + 1)))), (0, .ref mo), (1, .ref no)] rfl ?_
            have e9 : (itr (rStep sr lo ca er) ((to, su), itr (rIni sv) (fl, ac) 11) (j + 1)) = ((upd ((itr (rStep sr lo ca er) ((to, su), itr (rIni sv) (fl, ac) 11) j).1.1) (11 - j) 0, upd ((itr (rStep sr lo ca er) ((to, su), itr (rIni sv) (fl, ac) 11) j).1.2) (11 - j) 1), ((itr (rStep sr lo ca er) ((to, su), itr (rIni sv) (fl, ac) 11) j).2.1, (itr (rStep sr lo ca er) ((to, su), itr (rIni sv) (fl, ac) 11) j).2.2)) := by
              show rStep sr lo ca er j (itr (rStep sr lo ca er) ((to, su), itr (rIni sv) (fl, ac) 11) j) = _
              simp only [rStep, rTold, if_pos c_57, if_neg c_95, if_pos c_115]
            refine x_less [0, 1, 2] [(2, .int (nI (11 - (j + 1)))), (0, .ref mo), (1, .ref no)] (by first | rfl | (rw [e9]; rfl)) ?_
            refine x_world (X' := [(mo, .inr (1, [.ref mE, .ref mT, .ref mS, .ref mF, .ref mA])), (mE, .inl (cy.1, 12, .inl er)), (mT, .inl (cy.1, 12, .inl ((itr (rStep sr lo ca er) ((to, su), itr (rIni sv) (fl, ac) 11) (j + 1)).1.1))), (mS, .inl (cy.2.1, 12, .inl ((itr (rStep sr lo ca er) ((to, su), itr (rIni sv) (fl, ac) 11) (j + 1)).1.2))), (mF, .inl (cy.1, 12, .inl ((itr (rStep sr lo ca er) ((to, su), itr (rIni sv) (fl, ac) 11) (j + 1)).2.1))), (mA, .inl (cy.1, 12, .inl ((itr (rStep sr lo ca er) ((to, su), itr (rIni sv) (fl, ac) 11) (j + 1)).2.2))), (no, .inr (2, [.ref nS, .ref nL, .ref nA, .ref nH, .ref nV, .ref nT, .ref nC, .ref nD, .int sl])), (nS, .inl (cy.1, 12, .inl (fun i => nI (sr i)))), (nL, .inl (cy.1, 12, .inl lo)), (nV, .inl (cy.1, 12, .inl sv)), (nC, .inl (cy.2.1, 12, .inl ca))]) (pl' := []) (by first | rfl | rw [e9]) ?_
            exact ih_j
          · refine x_aload_n (q := 119) C 3 rfl dX1_read_118 rfl ?_
            refine x_iload_n (q := 120) C 1 rfl dX1_read_119 rfl ?_
            refine x_CiP (q := 123) C [6, 8, 10] [0, 1, 2, 3, 4, 5, 7, 9] (cx := [(no, .inr (2, [.ref nS, .ref nL, .ref nA, .ref nH, .ref nV, .ref nT, .ref nC, .ref nD, .int sl])), (nL, .inl (cy.1, 12, .inl lo)), (nC, .inl (cy.2.1, 12, .inl ca))]) (wr := [(mo, .inr (1, [.ref mE, .ref mT, .ref mS, .ref mF, .ref mA])), (mE, .inl (cy.1, 12, .inl er)), (mT, .inl (cy.1, 12, .inl (upd ((itr (rStep sr lo ca er) ((to, su), itr (rIni sv) (fl, ac) 11) j).1.1) (11 - j) 0))), (mS, .inl (cy.2.1, 12, .inl (upd ((itr (rStep sr lo ca er) ((to, su), itr (rIni sv) (fl, ac) 11) j).1.2) (11 - j) 1))), (mF, .inl (cy.1, 12, .inl ((itr (rStep sr lo ca er) ((to, su), itr (rIni sv) (fl, ac) 11) j).2.1))), (mA, .inl (cy.1, 12, .inl ((itr (rStep sr lo ca er) ((to, su), itr (rIni sv) (fl, ac) 11) j).2.2))), (nS, .inl (cy.1, 12, .inl (fun i => nI (sr i)))), (nV, .inl (cy.1, 12, .inl sv))]) (st := []) rfl rfl rfl rfl (by decide) (fun H locs ls hP hPc hDc hS hFc hl => x_runVN C (As := [.int (nI (11 - j))]) (c_X2_carriedLoss no nS nL nA nH nV nT nC nD lo ca sl (11 - j) (by omega)) (⟨va_cnB 1 C.2.2.2.2.2.1 gX1_read_X2_carriedLoss_n43 rfl rfl rfl (va_Nw.of rfl (C.2.2.2.2.2.2.1.2.1.use (B := #[]) (by decide +kernel : Cond.methodLinkNest RX1 43 yX2_carriedLoss RX4 ∈ xNest))) (C.2.2.2.2.2.1 _ (by decide +kernel)) (by decide +kernel) ⟨Nat.le_of_ble_eq_true rfl, Nat.le_of_ble_eq_true rfl⟩, C.2.2.2.2.2.1 (Cond.instanceMethod yX2_carriedLoss) (by decide +kernel), C.2.2.2.2.2.1 (Cond.selects RX2 yX2_carriedLoss yX2_carriedLoss) (by decide +kernel)⟩) rfl 6 rfl rfl rfl (Nat.le_of_ble_eq_true rfl) dX1_read_120 ⟨Nat.le_of_ble_eq_true rfl, Nat.le_of_ble_eq_true rfl⟩ (fun h => absurd h (by decide)) hP hPc hDc hS hFc hl) (k := 0) (n := 0) rfl rfl rfl (fun r_120 w1 hw => ?_)
            obtain ⟨rfl, rfl⟩ := hw
            refine x_ord [0, 1, 2, 3, 4, 5, 8, 6, 9, 7, 10] [(mo, .inr (1, [.ref mE, .ref mT, .ref mS, .ref mF, .ref mA])), (mE, .inl (cy.1, 12, .inl er)), (mT, .inl (cy.1, 12, .inl (upd ((itr (rStep sr lo ca er) ((to, su), itr (rIni sv) (fl, ac) 11) j).1.1) (11 - j) 0))), (mS, .inl (cy.2.1, 12, .inl (upd ((itr (rStep sr lo ca er) ((to, su), itr (rIni sv) (fl, ac) 11) j).1.2) (11 - j) 1))), (mF, .inl (cy.1, 12, .inl ((itr (rStep sr lo ca er) ((to, su), itr (rIni sv) (fl, ac) 11) j).2.1))), (mA, .inl (cy.1, 12, .inl ((itr (rStep sr lo ca er) ((to, su), itr (rIni sv) (fl, ac) 11) j).2.2))), (no, .inr (2, [.ref nS, .ref nL, .ref nA, .ref nH, .ref nV, .ref nT, .ref nC, .ref nD, .int sl])), (nS, .inl (cy.1, 12, .inl (fun i => nI (sr i)))), (nL, .inl (cy.1, 12, .inl lo)), (nV, .inl (cy.1, 12, .inl sv)), (nC, .inl (cy.2.1, 12, .inl ca))] rfl rfl ?_
            refine x_istore (q := 125) C [(4, .int (pCL ca lo (11 - j))), (3, .int (nI (sr (11 - j)))), (2, .int (nI (11 - j))), (0, .ref mo), (1, .ref no)] dX1_read_123 (by decide) rfl rfl ?_
            refine x_aload_n (q := 126) C 3 rfl dX1_read_125 rfl ?_
            refine x_get (q := 129) C (T := TX1) iw_X1_read_X1 rfl 0 3 rfl (by decide) rfl (by decide +kernel : Cond.fieldLink RX1 22 RX1 "flow" "[I" ∈ wsX1_read) rfl dX1_read_126 rfl ?_
            refine x_iload_n (q := 130) C 1 rfl dX1_read_129 rfl ?_
            refine x_dup2 (q := 131) C rfl rfl dX1_read_130 rfl ?_
            refine x_ialdN (q := 132) C (sr (11 - j)) 4 (((itr (rStep sr lo ca er) ((to, su), itr (rIni sv) (fl, ac) 11) j).2.1) (sr (11 - j))) rfl rfl (by have := hsr (11 - j) (by omega) (by omega); omega) (by omega) rfl dX1_read_131 rfl ?_
            refine x_aload_n (q := 133) C 3 rfl dX1_read_132 rfl ?_
            refine x_get (q := 136) C (T := TX1) iw_X1_read_X1 rfl 0 3 rfl (by decide) rfl (by decide +kernel : Cond.fieldLink RX1 22 RX1 "flow" "[I" ∈ wsX1_read) rfl dX1_read_133 rfl ?_
            refine x_iload_n (q := 137) C 2 rfl dX1_read_136 rfl ?_
            refine x_ialdN (q := 138) C (11 - j) 4 (((itr (rStep sr lo ca er) ((to, su), itr (rIni sv) (fl, ac) 11) j).2.1) (11 - j)) rfl rfl (by omega) (by omega) rfl dX1_read_137 rfl ?_
            refine x_iload (q := 140) C 0 rfl dX1_read_138 rfl ?_
            refine x_iadd (q := 141) C ((((itr (rStep sr lo ca er) ((to, su), itr (rIni sv) (fl, ac) 11) j).2.1) (11 - j)) + (pCL ca lo (11 - j))) (rfl) dX1_read_140 rfl ?_
            refine x_iadd (q := 142) C ((((itr (rStep sr lo ca er) ((to, su), itr (rIni sv) (fl, ac) 11) j).2.1) (sr (11 - j))) + ((((itr (rStep sr lo ca er) ((to, su), itr (rIni sv) (fl, ac) 11) j).2.1) (11 - j)) + (pCL ca lo (11 - j)))) (rfl) dX1_read_141 rfl ?_
            refine x_iastN (q := 143) C (sr (11 - j)) 4 (upd ((itr (rStep sr lo ca er) ((to, su), itr (rIni sv) (fl, ac) 11) j).2.1) (sr (11 - j)) ((((itr (rStep sr lo ca er) ((to, su), itr (rIni sv) (fl, ac) 11) j).2.1) (sr (11 - j))) + ((((itr (rStep sr lo ca er) ((to, su), itr (rIni sv) (fl, ac) 11) j).2.1) (11 - j)) + (pCL ca lo (11 - j))))) [(mo, .inr (1, [.ref mE, .ref mT, .ref mS, .ref mF, .ref mA])), (mE, .inl (cy.1, 12, .inl er)), (mT, .inl (cy.1, 12, .inl (upd ((itr (rStep sr lo ca er) ((to, su), itr (rIni sv) (fl, ac) 11) j).1.1) (11 - j) 0))), (mS, .inl (cy.2.1, 12, .inl (upd ((itr (rStep sr lo ca er) ((to, su), itr (rIni sv) (fl, ac) 11) j).1.2) (11 - j) 1))), (mF, .inl (cy.1, 12, .inl (upd ((itr (rStep sr lo ca er) ((to, su), itr (rIni sv) (fl, ac) 11) j).2.1) (sr (11 - j)) ((((itr (rStep sr lo ca er) ((to, su), itr (rIni sv) (fl, ac) 11) j).2.1) (sr (11 - j))) + ((((itr (rStep sr lo ca er) ((to, su), itr (rIni sv) (fl, ac) 11) j).2.1) (11 - j)) + (pCL ca lo (11 - j))))))), (mA, .inl (cy.1, 12, .inl ((itr (rStep sr lo ca er) ((to, su), itr (rIni sv) (fl, ac) 11) j).2.2))), (no, .inr (2, [.ref nS, .ref nL, .ref nA, .ref nH, .ref nV, .ref nT, .ref nC, .ref nD, .int sl])), (nS, .inl (cy.1, 12, .inl (fun i => nI (sr i)))), (nL, .inl (cy.1, 12, .inl lo)), (nV, .inl (cy.1, 12, .inl sv)), (nC, .inl (cy.2.1, 12, .inl ca))] rfl rfl (by have := hsr (11 - j) (by omega) (by omega); omega) (by omega) rfl rfl dX1_read_142 rfl ?_
            refine x_aload_n (q := 144) C 3 rfl dX1_read_143 rfl ?_
            refine x_get (q := 147) C (T := TX1) iw_X1_read_X1 rfl 0 4 rfl (by decide) rfl (by decide +kernel : Cond.fieldLink RX1 25 RX1 "accounted" "[I" ∈ wsX1_read) rfl dX1_read_144 rfl ?_
            refine x_iload_n (q := 148) C 1 rfl dX1_read_147 rfl ?_
            refine x_dup2 (q := 149) C rfl rfl dX1_read_148 rfl ?_
            refine x_ialdN (q := 150) C (sr (11 - j)) 5 (((itr (rStep sr lo ca er) ((to, su), itr (rIni sv) (fl, ac) 11) j).2.2) (sr (11 - j))) rfl rfl (by have := hsr (11 - j) (by omega) (by omega); omega) (by omega) rfl dX1_read_149 rfl ?_
            refine x_aload_n (q := 151) C 3 rfl dX1_read_150 rfl ?_
            refine x_get (q := 154) C (T := TX1) iw_X1_read_X1 rfl 0 1 rfl (by decide) rfl (by decide +kernel : Cond.fieldLink RX1 15 RX1 "told" "[I" ∈ wsX1_read) rfl dX1_read_151 rfl ?_
            refine x_iload_n (q := 155) C 2 rfl dX1_read_154 rfl ?_
            refine x_ialdN (q := 156) C (11 - j) 2 0 rfl rfl (by omega) (by omega) pk_us dX1_read_155 rfl ?_
            refine x_iload (q := 158) C 0 rfl dX1_read_156 rfl ?_
            refine x_iadd (q := 159) C (0 + (pCL ca lo (11 - j))) (rfl) dX1_read_158 rfl ?_
            refine x_iadd (q := 160) C ((((itr (rStep sr lo ca er) ((to, su), itr (rIni sv) (fl, ac) 11) j).2.2) (sr (11 - j))) + (0 + (pCL ca lo (11 - j)))) (rfl) dX1_read_159 rfl ?_
            refine x_iastN (q := 161) C (sr (11 - j)) 5 (upd ((itr (rStep sr lo ca er) ((to, su), itr (rIni sv) (fl, ac) 11) j).2.2) (sr (11 - j)) ((((itr (rStep sr lo ca er) ((to, su), itr (rIni sv) (fl, ac) 11) j).2.2) (sr (11 - j))) + (0 + (pCL ca lo (11 - j))))) [(mo, .inr (1, [.ref mE, .ref mT, .ref mS, .ref mF, .ref mA])), (mE, .inl (cy.1, 12, .inl er)), (mT, .inl (cy.1, 12, .inl (upd ((itr (rStep sr lo ca er) ((to, su), itr (rIni sv) (fl, ac) 11) j).1.1) (11 - j) 0))), (mS, .inl (cy.2.1, 12, .inl (upd ((itr (rStep sr lo ca er) ((to, su), itr (rIni sv) (fl, ac) 11) j).1.2) (11 - j) 1))), (mF, .inl (cy.1, 12, .inl (upd ((itr (rStep sr lo ca er) ((to, su), itr (rIni sv) (fl, ac) 11) j).2.1) (sr (11 - j)) ((((itr (rStep sr lo ca er) ((to, su), itr (rIni sv) (fl, ac) 11) j).2.1) (sr (11 - j))) + ((((itr (rStep sr lo ca er) ((to, su), itr (rIni sv) (fl, ac) 11) j).2.1) (11 - j)) + (pCL ca lo (11 - j))))))), (mA, .inl (cy.1, 12, .inl (upd ((itr (rStep sr lo ca er) ((to, su), itr (rIni sv) (fl, ac) 11) j).2.2) (sr (11 - j)) ((((itr (rStep sr lo ca er) ((to, su), itr (rIni sv) (fl, ac) 11) j).2.2) (sr (11 - j))) + (0 + (pCL ca lo (11 - j))))))), (no, .inr (2, [.ref nS, .ref nL, .ref nA, .ref nH, .ref nV, .ref nT, .ref nC, .ref nD, .int sl])), (nS, .inl (cy.1, 12, .inl (fun i => nI (sr i)))), (nL, .inl (cy.1, 12, .inl lo)), (nV, .inl (cy.1, 12, .inl sv)), (nC, .inl (cy.2.1, 12, .inl ca))] rfl rfl (by have := hsr (11 - j) (by omega) (by omega); omega) (by omega) rfl rfl dX1_read_160 rfl ?_
            refine x_iinc (q := 164) C 2 (nI (11 - (j + 1))) [(2, .int (nI (11 - (j + 1)))), (4, .int (pCL ca lo (11 - j))), (3, .int (nI (sr (11 - j)))), (0, .ref mo), (1, .ref no)] dX1_read_161 rfl (nI_dn h_j) (by decide) rfl rfl ?_
            refine x_goto C 41 dX1_read_164 (by decide) ?_
            refine x_less [0, 3, 4] [(2, .int (nI (11 - (j + 1)))), (0, .ref mo), (1, .ref no)] rfl ?_
            have e9 : (itr (rStep sr lo ca er) ((to, su), itr (rIni sv) (fl, ac) 11) (j + 1)) = ((upd ((itr (rStep sr lo ca er) ((to, su), itr (rIni sv) (fl, ac) 11) j).1.1) (11 - j) 0, upd ((itr (rStep sr lo ca er) ((to, su), itr (rIni sv) (fl, ac) 11) j).1.2) (11 - j) 1), (upd ((itr (rStep sr lo ca er) ((to, su), itr (rIni sv) (fl, ac) 11) j).2.1) (sr (11 - j)) ((((itr (rStep sr lo ca er) ((to, su), itr (rIni sv) (fl, ac) 11) j).2.1) (sr (11 - j))) + ((((itr (rStep sr lo ca er) ((to, su), itr (rIni sv) (fl, ac) 11) j).2.1) (11 - j)) + (pCL ca lo (11 - j)))), upd ((itr (rStep sr lo ca er) ((to, su), itr (rIni sv) (fl, ac) 11) j).2.2) (sr (11 - j)) ((((itr (rStep sr lo ca er) ((to, su), itr (rIni sv) (fl, ac) 11) j).2.2) (sr (11 - j))) + (0 + (pCL ca lo (11 - j)))))) := by
              show rStep sr lo ca er j (itr (rStep sr lo ca er) ((to, su), itr (rIni sv) (fl, ac) 11) j) = _
              simp only [rStep, rTold, if_pos c_57, if_neg c_95, if_neg c_115]
            refine x_less [0, 1, 2] [(2, .int (nI (11 - (j + 1)))), (0, .ref mo), (1, .ref no)] (by first | rfl | (rw [e9]; rfl)) ?_
            refine x_world (X' := [(mo, .inr (1, [.ref mE, .ref mT, .ref mS, .ref mF, .ref mA])), (mE, .inl (cy.1, 12, .inl er)), (mT, .inl (cy.1, 12, .inl ((itr (rStep sr lo ca er) ((to, su), itr (rIni sv) (fl, ac) 11) (j + 1)).1.1))), (mS, .inl (cy.2.1, 12, .inl ((itr (rStep sr lo ca er) ((to, su), itr (rIni sv) (fl, ac) 11) (j + 1)).1.2))), (mF, .inl (cy.1, 12, .inl ((itr (rStep sr lo ca er) ((to, su), itr (rIni sv) (fl, ac) 11) (j + 1)).2.1))), (mA, .inl (cy.1, 12, .inl ((itr (rStep sr lo ca er) ((to, su), itr (rIni sv) (fl, ac) 11) (j + 1)).2.2))), (no, .inr (2, [.ref nS, .ref nL, .ref nA, .ref nH, .ref nV, .ref nT, .ref nC, .ref nD, .int sl])), (nS, .inl (cy.1, 12, .inl (fun i => nI (sr i)))), (nL, .inl (cy.1, 12, .inl lo)), (nV, .inl (cy.1, 12, .inl sv)), (nC, .inl (cy.2.1, 12, .inl ca))]) (pl' := []) (by first | rfl | rw [e9]) ?_
            exact ih_j
      · refine x_aload_n (q := 61) C 1 rfl dX1_read_60 rfl ?_
        refine x_get (q := 64) C (T := TX1) iw_X1_read_X1 rfl 0 3 rfl (by decide) rfl (by decide +kernel : Cond.fieldLink RX1 22 RX1 "flow" "[I" ∈ wsX1_read) rfl dX1_read_61 rfl ?_
        refine x_iload_n (q := 65) C 0 rfl dX1_read_64 rfl ?_
        refine x_ialdN (q := 66) C (11 - j) 4 (((itr (rStep sr lo ca er) ((to, su), itr (rIni sv) (fl, ac) 11) j).2.1) (11 - j)) rfl rfl (by omega) (by omega) rfl dX1_read_65 rfl ?_
        refine x_aload_n (q := 67) C 1 rfl dX1_read_66 rfl ?_
        refine x_get (q := 70) C (T := TX1) iw_X1_read_X1 rfl 0 0 rfl (by decide) rfl (by decide +kernel : Cond.fieldLink RX1 9 RX1 "error" "[I" ∈ wsX1_read) rfl dX1_read_67 rfl ?_
        refine x_iload_n (q := 71) C 0 rfl dX1_read_70 rfl ?_
        refine x_ialdN (q := 72) C (11 - j) 1 (er (11 - j)) rfl rfl (by omega) (by omega) rfl dX1_read_71 rfl ?_
        refine x_iadd (q := 73) C ((((itr (rStep sr lo ca er) ((to, su), itr (rIni sv) (fl, ac) 11) j).2.1) (11 - j)) + (er (11 - j))) (rfl) dX1_read_72 rfl ?_
        refine x_goto C 77 dX1_read_73 (by decide) ?_
        refine x_iastN (q := 78) C (11 - j) 2 (upd ((itr (rStep sr lo ca er) ((to, su), itr (rIni sv) (fl, ac) 11) j).1.1) (11 - j) ((((itr (rStep sr lo ca er) ((to, su), itr (rIni sv) (fl, ac) 11) j).2.1) (11 - j)) + (er (11 - j)))) [(mo, .inr (1, [.ref mE, .ref mT, .ref mS, .ref mF, .ref mA])), (mE, .inl (cy.1, 12, .inl er)), (mT, .inl (cy.1, 12, .inl (upd ((itr (rStep sr lo ca er) ((to, su), itr (rIni sv) (fl, ac) 11) j).1.1) (11 - j) ((((itr (rStep sr lo ca er) ((to, su), itr (rIni sv) (fl, ac) 11) j).2.1) (11 - j)) + (er (11 - j)))))), (mS, .inl (cy.2.1, 12, .inl ((itr (rStep sr lo ca er) ((to, su), itr (rIni sv) (fl, ac) 11) j).1.2))), (mF, .inl (cy.1, 12, .inl ((itr (rStep sr lo ca er) ((to, su), itr (rIni sv) (fl, ac) 11) j).2.1))), (mA, .inl (cy.1, 12, .inl ((itr (rStep sr lo ca er) ((to, su), itr (rIni sv) (fl, ac) 11) j).2.2))), (no, .inr (2, [.ref nS, .ref nL, .ref nA, .ref nH, .ref nV, .ref nT, .ref nC, .ref nD, .int sl])), (nS, .inl (cy.1, 12, .inl (fun i => nI (sr i)))), (nL, .inl (cy.1, 12, .inl lo)), (nV, .inl (cy.1, 12, .inl sv)), (nC, .inl (cy.2.1, 12, .inl ca))] rfl rfl (by omega) (by omega) rfl rfl dX1_read_77 rfl ?_
        refine x_aload_n (q := 79) C 1 rfl dX1_read_78 rfl ?_
        refine x_get (q := 82) C (T := TX1) iw_X1_read_X1 rfl 0 2 rfl (by decide) rfl (by decide +kernel : Cond.fieldLink RX1 18 RX1 "suspected" "[Z" ∈ wsX1_read) rfl dX1_read_79 rfl ?_
        refine x_iload_n (q := 83) C 0 rfl dX1_read_82 rfl ?_
        refine x_aload_n (q := 84) C 1 rfl dX1_read_83 rfl ?_
        refine x_get (q := 87) C (T := TX1) iw_X1_read_X1 rfl 0 1 rfl (by decide) rfl (by decide +kernel : Cond.fieldLink RX1 15 RX1 "told" "[I" ∈ wsX1_read) rfl dX1_read_84 rfl ?_
        refine x_iload_n (q := 88) C 0 rfl dX1_read_87 rfl ?_
        refine x_ialdN (q := 89) C (11 - j) 2 ((((itr (rStep sr lo ca er) ((to, su), itr (rIni sv) (fl, ac) 11) j).2.1) (11 - j)) + (er (11 - j))) rfl rfl (by omega) (by omega) pk_us dX1_read_88 rfl ?_
        refine x_aload_n (q := 90) C 1 rfl dX1_read_89 rfl ?_
        refine x_get (q := 93) C (T := TX1) iw_X1_read_X1 rfl 0 4 rfl (by decide) rfl (by decide +kernel : Cond.fieldLink RX1 25 RX1 "accounted" "[I" ∈ wsX1_read) rfl dX1_read_90 rfl ?_
        refine x_iload_n (q := 94) C 0 rfl dX1_read_93 rfl ?_
        refine x_ialdN (q := 95) C (11 - j) 5 (((itr (rStep sr lo ca er) ((to, su), itr (rIni sv) (fl, ac) 11) j).2.2) (11 - j)) rfl rfl (by omega) (by omega) rfl dX1_read_94 rfl ?_
        refine x_icmp_eq (q := 98) C 102 dX1_read_95 (by decide) rfl (fun c_95 => ?_) (fun c_95 => ?_)
        · refine x_iconst (q := 103) C 0 rfl dX1_read_102 rfl ?_
          refine x_zastN (q := 104) C (11 - j) 3 (upd ((itr (rStep sr lo ca er) ((to, su), itr (rIni sv) (fl, ac) 11) j).1.2) (11 - j) 0) [(mo, .inr (1, [.ref mE, .ref mT, .ref mS, .ref mF, .ref mA])), (mE, .inl (cy.1, 12, .inl er)), (mT, .inl (cy.1, 12, .inl (upd ((itr (rStep sr lo ca er) ((to, su), itr (rIni sv) (fl, ac) 11) j).1.1) (11 - j) ((((itr (rStep sr lo ca er) ((to, su), itr (rIni sv) (fl, ac) 11) j).2.1) (11 - j)) + (er (11 - j)))))), (mS, .inl (cy.2.1, 12, .inl (upd ((itr (rStep sr lo ca er) ((to, su), itr (rIni sv) (fl, ac) 11) j).1.2) (11 - j) 0))), (mF, .inl (cy.1, 12, .inl ((itr (rStep sr lo ca er) ((to, su), itr (rIni sv) (fl, ac) 11) j).2.1))), (mA, .inl (cy.1, 12, .inl ((itr (rStep sr lo ca er) ((to, su), itr (rIni sv) (fl, ac) 11) j).2.2))), (no, .inr (2, [.ref nS, .ref nL, .ref nA, .ref nH, .ref nV, .ref nT, .ref nC, .ref nD, .int sl])), (nS, .inl (cy.1, 12, .inl (fun i => nI (sr i)))), (nL, .inl (cy.1, 12, .inl lo)), (nV, .inl (cy.1, 12, .inl sv)), (nC, .inl (cy.2.1, 12, .inl ca))] rfl rfl (by omega) (by omega) (congrArg _ vpz0) rfl dX1_read_103 rfl ?_
          refine x_aload_n (q := 105) C 2 rfl dX1_read_104 rfl ?_
          refine x_getN (q := 108) C (T := TX2) iw_X1_read_X2 rfl 6 0 rfl (by decide) rfl (by decide +kernel : Cond.fieldLinkNest RX1 36 RX2 "source" "[I" RX4 ∈ xNest) rfl dX1_read_105 rfl ?_
          refine x_iload_n (q := 109) C 0 rfl dX1_read_108 rfl ?_
          refine x_ialdN (q := 110) C (11 - j) 7 (nI (sr (11 - j))) rfl rfl (by omega) (by omega) rfl dX1_read_109 rfl ?_
          refine x_istore_n (q := 111) C [(3, .int (nI (sr (11 - j)))), (2, .int (nI (11 - j))), (0, .ref mo), (1, .ref no)] dX1_read_110 (by decide) rfl rfl ?_
          refine x_iload_n (q := 112) C 0 rfl dX1_read_111 rfl ?_
          refine x_CiP (q := 115) C [] [0, 1, 2, 3, 4, 5, 6, 7, 8, 9, 10] (cx := []) (wr := [(mo, .inr (1, [.ref mE, .ref mT, .ref mS, .ref mF, .ref mA])), (mE, .inl (cy.1, 12, .inl er)), (mT, .inl (cy.1, 12, .inl (upd ((itr (rStep sr lo ca er) ((to, su), itr (rIni sv) (fl, ac) 11) j).1.1) (11 - j) ((((itr (rStep sr lo ca er) ((to, su), itr (rIni sv) (fl, ac) 11) j).2.1) (11 - j)) + (er (11 - j)))))), (mS, .inl (cy.2.1, 12, .inl (upd ((itr (rStep sr lo ca er) ((to, su), itr (rIni sv) (fl, ac) 11) j).1.2) (11 - j) 0))), (mF, .inl (cy.1, 12, .inl ((itr (rStep sr lo ca er) ((to, su), itr (rIni sv) (fl, ac) 11) j).2.1))), (mA, .inl (cy.1, 12, .inl ((itr (rStep sr lo ca er) ((to, su), itr (rIni sv) (fl, ac) 11) j).2.2))), (no, .inr (2, [.ref nS, .ref nL, .ref nA, .ref nH, .ref nV, .ref nT, .ref nC, .ref nD, .int sl])), (nS, .inl (cy.1, 12, .inl (fun i => nI (sr i)))), (nL, .inl (cy.1, 12, .inl lo)), (nV, .inl (cy.1, 12, .inl sv)), (nC, .inl (cy.2.1, 12, .inl ca))]) (st := []) rfl rfl rfl rfl (by decide) (fun H locs ls hP hPc hDc hS hFc hl => x_runSN C (As := [.int (nI (sr (11 - j)))]) (c_X4_isHouse (nI (sr (11 - j)))) (⟨va_cnB 1 C.2.2.2.2.2.1 gX1_read_X4_isHouse_n39 rfl rfl rfl (va_Nw.of rfl (C.2.2.2.2.2.2.1.2.1.use (B := #[]) (by decide +kernel : Cond.methodLinkNest RX1 39 yX4_isHouse RX4 ∈ xNest))) (C.2.2.2.2.2.1 _ (by decide +kernel)) (by decide +kernel) ⟨Nat.le_of_ble_eq_true rfl, Nat.le_of_ble_eq_true rfl⟩, C.2.2.2.2.2.1 (Cond.static yX4_isHouse) (by decide +kernel), trivial⟩) rfl rfl (Nat.le_of_ble_eq_true rfl) dX1_read_112 ⟨Nat.le_of_ble_eq_true rfl, Nat.le_of_ble_eq_true rfl⟩ (fun h => absurd h (by decide)) hP hPc hDc hS hFc hl) (k := 0) (n := 0) rfl rfl rfl (fun r_112 w1 hw => ?_)
          obtain ⟨rfl, rfl⟩ := hw
          refine x_ord [0, 1, 2, 3, 4, 5, 6, 7, 8, 9, 10] [(mo, .inr (1, [.ref mE, .ref mT, .ref mS, .ref mF, .ref mA])), (mE, .inl (cy.1, 12, .inl er)), (mT, .inl (cy.1, 12, .inl (upd ((itr (rStep sr lo ca er) ((to, su), itr (rIni sv) (fl, ac) 11) j).1.1) (11 - j) ((((itr (rStep sr lo ca er) ((to, su), itr (rIni sv) (fl, ac) 11) j).2.1) (11 - j)) + (er (11 - j)))))), (mS, .inl (cy.2.1, 12, .inl (upd ((itr (rStep sr lo ca er) ((to, su), itr (rIni sv) (fl, ac) 11) j).1.2) (11 - j) 0))), (mF, .inl (cy.1, 12, .inl ((itr (rStep sr lo ca er) ((to, su), itr (rIni sv) (fl, ac) 11) j).2.1))), (mA, .inl (cy.1, 12, .inl ((itr (rStep sr lo ca er) ((to, su), itr (rIni sv) (fl, ac) 11) j).2.2))), (no, .inr (2, [.ref nS, .ref nL, .ref nA, .ref nH, .ref nV, .ref nT, .ref nC, .ref nD, .int sl])), (nS, .inl (cy.1, 12, .inl (fun i => nI (sr i)))), (nL, .inl (cy.1, 12, .inl lo)), (nV, .inl (cy.1, 12, .inl sv)), (nC, .inl (cy.2.1, 12, .inl ca))] rfl rfl ?_
          refine x_if_eq (q := 118) C 161 dX1_read_115 (by decide) rfl (fun c_115 => ?_) (fun c_115 => ?_)
          · refine x_iinc (q := 164) C 1 (nI (11 - (j + 1))) [(2, .int (nI (11 - (j + 1)))), (3, .int (nI (sr (11 - j)))), (0, .ref mo), (1, .ref no)] dX1_read_161 rfl (nI_dn h_j) (by decide) rfl rfl ?_
            refine x_goto C 41 dX1_read_164 (by decide) ?_
            refine x_less [0, 2, 3] [(2, .int (nI (11 - (j + 1)))), (0, .ref mo), (1, .ref no)] rfl ?_
            have e9 : (itr (rStep sr lo ca er) ((to, su), itr (rIni sv) (fl, ac) 11) (j + 1)) = ((upd ((itr (rStep sr lo ca er) ((to, su), itr (rIni sv) (fl, ac) 11) j).1.1) (11 - j) ((((itr (rStep sr lo ca er) ((to, su), itr (rIni sv) (fl, ac) 11) j).2.1) (11 - j)) + (er (11 - j))), upd ((itr (rStep sr lo ca er) ((to, su), itr (rIni sv) (fl, ac) 11) j).1.2) (11 - j) 0), ((itr (rStep sr lo ca er) ((to, su), itr (rIni sv) (fl, ac) 11) j).2.1, (itr (rStep sr lo ca er) ((to, su), itr (rIni sv) (fl, ac) 11) j).2.2)) := by
              show rStep sr lo ca er j (itr (rStep sr lo ca er) ((to, su), itr (rIni sv) (fl, ac) 11) j) = _
              simp only [rStep, rTold, if_neg c_57, if_pos c_95, if_pos c_115]
            refine x_less [0, 1, 2] [(2, .int (nI (11 - (j + 1)))), (0, .ref mo), (1, .ref no)] (by first | rfl | (rw [e9]; rfl)) ?_
            refine x_world (X' := [(mo, .inr (1, [.ref mE, .ref mT, .ref mS, .ref mF, .ref mA])), (mE, .inl (cy.1, 12, .inl er)), (mT, .inl (cy.1, 12, .inl ((itr (rStep sr lo ca er) ((to, su), itr (rIni sv) (fl, ac) 11) (j + 1)).1.1))), (mS, .inl (cy.2.1, 12, .inl ((itr (rStep sr lo ca er) ((to, su), itr (rIni sv) (fl, ac) 11) (j + 1)).1.2))), (mF, .inl (cy.1, 12, .inl ((itr (rStep sr lo ca er) ((to, su), itr (rIni sv) (fl, ac) 11) (j + 1)).2.1))), (mA, .inl (cy.1, 12, .inl ((itr (rStep sr lo ca er) ((to, su), itr (rIni sv) (fl, ac) 11) (j + 1)).2.2))), (no, .inr (2, [.ref nS, .ref nL, .ref nA, .ref nH, .ref nV, .ref nT, .ref nC, .ref nD, .int sl])), (nS, .inl (cy.1, 12, .inl (fun i => nI (sr i)))), (nL, .inl (cy.1, 12, .inl lo)), (nV, .inl (cy.1, 12, .inl sv)), (nC, .inl (cy.2.1, 12, .inl ca))]) (pl' := []) (by first | rfl | rw [e9]) ?_
            exact ih_j
          · refine x_aload_n (q := 119) C 3 rfl dX1_read_118 rfl ?_
            refine x_iload_n (q := 120) C 1 rfl dX1_read_119 rfl ?_
            refine x_CiP (q := 123) C [6, 8, 10] [0, 1, 2, 3, 4, 5, 7, 9] (cx := [(no, .inr (2, [.ref nS, .ref nL, .ref nA, .ref nH, .ref nV, .ref nT, .ref nC, .ref nD, .int sl])), (nL, .inl (cy.1, 12, .inl lo)), (nC, .inl (cy.2.1, 12, .inl ca))]) (wr := [(mo, .inr (1, [.ref mE, .ref mT, .ref mS, .ref mF, .ref mA])), (mE, .inl (cy.1, 12, .inl er)), (mT, .inl (cy.1, 12, .inl (upd ((itr (rStep sr lo ca er) ((to, su), itr (rIni sv) (fl, ac) 11) j).1.1) (11 - j) ((((itr (rStep sr lo ca er) ((to, su), itr (rIni sv) (fl, ac) 11) j).2.1) (11 - j)) + (er (11 - j)))))), (mS, .inl (cy.2.1, 12, .inl (upd ((itr (rStep sr lo ca er) ((to, su), itr (rIni sv) (fl, ac) 11) j).1.2) (11 - j) 0))), (mF, .inl (cy.1, 12, .inl ((itr (rStep sr lo ca er) ((to, su), itr (rIni sv) (fl, ac) 11) j).2.1))), (mA, .inl (cy.1, 12, .inl ((itr (rStep sr lo ca er) ((to, su), itr (rIni sv) (fl, ac) 11) j).2.2))), (nS, .inl (cy.1, 12, .inl (fun i => nI (sr i)))), (nV, .inl (cy.1, 12, .inl sv))]) (st := []) rfl rfl rfl rfl (by decide) (fun H locs ls hP hPc hDc hS hFc hl => x_runVN C (As := [.int (nI (11 - j))]) (c_X2_carriedLoss no nS nL nA nH nV nT nC nD lo ca sl (11 - j) (by omega)) (⟨va_cnB 1 C.2.2.2.2.2.1 gX1_read_X2_carriedLoss_n43 rfl rfl rfl (va_Nw.of rfl (C.2.2.2.2.2.2.1.2.1.use (B := #[]) (by decide +kernel : Cond.methodLinkNest RX1 43 yX2_carriedLoss RX4 ∈ xNest))) (C.2.2.2.2.2.1 _ (by decide +kernel)) (by decide +kernel) ⟨Nat.le_of_ble_eq_true rfl, Nat.le_of_ble_eq_true rfl⟩, C.2.2.2.2.2.1 (Cond.instanceMethod yX2_carriedLoss) (by decide +kernel), C.2.2.2.2.2.1 (Cond.selects RX2 yX2_carriedLoss yX2_carriedLoss) (by decide +kernel)⟩) rfl 6 rfl rfl rfl (Nat.le_of_ble_eq_true rfl) dX1_read_120 ⟨Nat.le_of_ble_eq_true rfl, Nat.le_of_ble_eq_true rfl⟩ (fun h => absurd h (by decide)) hP hPc hDc hS hFc hl) (k := 0) (n := 0) rfl rfl rfl (fun r_120 w1 hw => ?_)
            obtain ⟨rfl, rfl⟩ := hw
            refine x_ord [0, 1, 2, 3, 4, 5, 8, 6, 9, 7, 10] [(mo, .inr (1, [.ref mE, .ref mT, .ref mS, .ref mF, .ref mA])), (mE, .inl (cy.1, 12, .inl er)), (mT, .inl (cy.1, 12, .inl (upd ((itr (rStep sr lo ca er) ((to, su), itr (rIni sv) (fl, ac) 11) j).1.1) (11 - j) ((((itr (rStep sr lo ca er) ((to, su), itr (rIni sv) (fl, ac) 11) j).2.1) (11 - j)) + (er (11 - j)))))), (mS, .inl (cy.2.1, 12, .inl (upd ((itr (rStep sr lo ca er) ((to, su), itr (rIni sv) (fl, ac) 11) j).1.2) (11 - j) 0))), (mF, .inl (cy.1, 12, .inl ((itr (rStep sr lo ca er) ((to, su), itr (rIni sv) (fl, ac) 11) j).2.1))), (mA, .inl (cy.1, 12, .inl ((itr (rStep sr lo ca er) ((to, su), itr (rIni sv) (fl, ac) 11) j).2.2))), (no, .inr (2, [.ref nS, .ref nL, .ref nA, .ref nH, .ref nV, .ref nT, .ref nC, .ref nD, .int sl])), (nS, .inl (cy.1, 12, .inl (fun i => nI (sr i)))), (nL, .inl (cy.1, 12, .inl lo)), (nV, .inl (cy.1, 12, .inl sv)), (nC, .inl (cy.2.1, 12, .inl ca))] rfl rfl ?_
            refine x_istore (q := 125) C [(4, .int (pCL ca lo (11 - j))), (3, .int (nI (sr (11 - j)))), (2, .int (nI (11 - j))), (0, .ref mo), (1, .ref no)] dX1_read_123 (by decide) rfl rfl ?_
            refine x_aload_n (q := 126) C 3 rfl dX1_read_125 rfl ?_
            refine x_get (q := 129) C (T := TX1) iw_X1_read_X1 rfl 0 3 rfl (by decide) rfl (by decide +kernel : Cond.fieldLink RX1 22 RX1 "flow" "[I" ∈ wsX1_read) rfl dX1_read_126 rfl ?_
            refine x_iload_n (q := 130) C 1 rfl dX1_read_129 rfl ?_
            refine x_dup2 (q := 131) C rfl rfl dX1_read_130 rfl ?_
            refine x_ialdN (q := 132) C (sr (11 - j)) 4 (((itr (rStep sr lo ca er) ((to, su), itr (rIni sv) (fl, ac) 11) j).2.1) (sr (11 - j))) rfl rfl (by have := hsr (11 - j) (by omega) (by omega); omega) (by omega) rfl dX1_read_131 rfl ?_
            refine x_aload_n (q := 133) C 3 rfl dX1_read_132 rfl ?_
            refine x_get (q := 136) C (T := TX1) iw_X1_read_X1 rfl 0 3 rfl (by decide) rfl (by decide +kernel : Cond.fieldLink RX1 22 RX1 "flow" "[I" ∈ wsX1_read) rfl dX1_read_133 rfl ?_
            refine x_iload_n (q := 137) C 2 rfl dX1_read_136 rfl ?_
            refine x_ialdN (q := 138) C (11 - j) 4 (((itr (rStep sr lo ca er) ((to, su), itr (rIni sv) (fl, ac) 11) j).2.1) (11 - j)) rfl rfl (by omega) (by omega) rfl dX1_read_137 rfl ?_
            refine x_iload (q := 140) C 0 rfl dX1_read_138 rfl ?_
            refine x_iadd (q := 141) C ((((itr (rStep sr lo ca er) ((to, su), itr (rIni sv) (fl, ac) 11) j).2.1) (11 - j)) + (pCL ca lo (11 - j))) (rfl) dX1_read_140 rfl ?_
            refine x_iadd (q := 142) C ((((itr (rStep sr lo ca er) ((to, su), itr (rIni sv) (fl, ac) 11) j).2.1) (sr (11 - j))) + ((((itr (rStep sr lo ca er) ((to, su), itr (rIni sv) (fl, ac) 11) j).2.1) (11 - j)) + (pCL ca lo (11 - j)))) (rfl) dX1_read_141 rfl ?_
            refine x_iastN (q := 143) C (sr (11 - j)) 4 (upd ((itr (rStep sr lo ca er) ((to, su), itr (rIni sv) (fl, ac) 11) j).2.1) (sr (11 - j)) ((((itr (rStep sr lo ca er) ((to, su), itr (rIni sv) (fl, ac) 11) j).2.1) (sr (11 - j))) + ((((itr (rStep sr lo ca er) ((to, su), itr (rIni sv) (fl, ac) 11) j).2.1) (11 - j)) + (pCL ca lo (11 - j))))) [(mo, .inr (1, [.ref mE, .ref mT, .ref mS, .ref mF, .ref mA])), (mE, .inl (cy.1, 12, .inl er)), (mT, .inl (cy.1, 12, .inl (upd ((itr (rStep sr lo ca er) ((to, su), itr (rIni sv) (fl, ac) 11) j).1.1) (11 - j) ((((itr (rStep sr lo ca er) ((to, su), itr (rIni sv) (fl, ac) 11) j).2.1) (11 - j)) + (er (11 - j)))))), (mS, .inl (cy.2.1, 12, .inl (upd ((itr (rStep sr lo ca er) ((to, su), itr (rIni sv) (fl, ac) 11) j).1.2) (11 - j) 0))), (mF, .inl (cy.1, 12, .inl (upd ((itr (rStep sr lo ca er) ((to, su), itr (rIni sv) (fl, ac) 11) j).2.1) (sr (11 - j)) ((((itr (rStep sr lo ca er) ((to, su), itr (rIni sv) (fl, ac) 11) j).2.1) (sr (11 - j))) + ((((itr (rStep sr lo ca er) ((to, su), itr (rIni sv) (fl, ac) 11) j).2.1) (11 - j)) + (pCL ca lo (11 - j))))))), (mA, .inl (cy.1, 12, .inl ((itr (rStep sr lo ca er) ((to, su), itr (rIni sv) (fl, ac) 11) j).2.2))), (no, .inr (2, [.ref nS, .ref nL, .ref nA, .ref nH, .ref nV, .ref nT, .ref nC, .ref nD, .int sl])), (nS, .inl (cy.1, 12, .inl (fun i => nI (sr i)))), (nL, .inl (cy.1, 12, .inl lo)), (nV, .inl (cy.1, 12, .inl sv)), (nC, .inl (cy.2.1, 12, .inl ca))] rfl rfl (by have := hsr (11 - j) (by omega) (by omega); omega) (by omega) rfl rfl dX1_read_142 rfl ?_
            refine x_aload_n (q := 144) C 3 rfl dX1_read_143 rfl ?_
            refine x_get (q := 147) C (T := TX1) iw_X1_read_X1 rfl 0 4 rfl (by decide) rfl (by decide +kernel : Cond.fieldLink RX1 25 RX1 "accounted" "[I" ∈ wsX1_read) rfl dX1_read_144 rfl ?_
            refine x_iload_n (q := 148) C 1 rfl dX1_read_147 rfl ?_
            refine x_dup2 (q := 149) C rfl rfl dX1_read_148 rfl ?_
            refine x_ialdN (q := 150) C (sr (11 - j)) 5 (((itr (rStep sr lo ca er) ((to, su), itr (rIni sv) (fl, ac) 11) j).2.2) (sr (11 - j))) rfl rfl (by have := hsr (11 - j) (by omega) (by omega); omega) (by omega) rfl dX1_read_149 rfl ?_
            refine x_aload_n (q := 151) C 3 rfl dX1_read_150 rfl ?_
            refine x_get (q := 154) C (T := TX1) iw_X1_read_X1 rfl 0 1 rfl (by decide) rfl (by decide +kernel : Cond.fieldLink RX1 15 RX1 "told" "[I" ∈ wsX1_read) rfl dX1_read_151 rfl ?_
            refine x_iload_n (q := 155) C 2 rfl dX1_read_154 rfl ?_
            refine x_ialdN (q := 156) C (11 - j) 2 ((((itr (rStep sr lo ca er) ((to, su), itr (rIni sv) (fl, ac) 11) j).2.1) (11 - j)) + (er (11 - j))) rfl rfl (by omega) (by omega) pk_us dX1_read_155 rfl ?_
            refine x_iload (q := 158) C 0 rfl dX1_read_156 rfl ?_
            refine x_iadd (q := 159) C (((((itr (rStep sr lo ca er) ((to, su), itr (rIni sv) (fl, ac) 11) j).2.1) (11 - j)) + (er (11 - j))) + (pCL ca lo (11 - j))) (rfl) dX1_read_158 rfl ?_
            refine x_iadd (q := 160) C ((((itr (rStep sr lo ca er) ((to, su), itr (rIni sv) (fl, ac) 11) j).2.2) (sr (11 - j))) + (((((itr (rStep sr lo ca er) ((to, su), itr (rIni sv) (fl, ac) 11) j).2.1) (11 - j)) + (er (11 - j))) + (pCL ca lo (11 - j)))) (rfl) dX1_read_159 rfl ?_
            refine x_iastN (q := 161) C (sr (11 - j)) 5 (upd ((itr (rStep sr lo ca er) ((to, su), itr (rIni sv) (fl, ac) 11) j).2.2) (sr (11 - j)) ((((itr (rStep sr lo ca er) ((to, su), itr (rIni sv) (fl, ac) 11) j).2.2) (sr (11 - j))) + (((((itr (rStep sr lo ca er) ((to, su), itr (rIni sv) (fl, ac) 11) j).2.1) (11 - j)) + (er (11 - j))) + (pCL ca lo (11 - j))))) [(mo, .inr (1, [.ref mE, .ref mT, .ref mS, .ref mF, .ref mA])), (mE, .inl (cy.1, 12, .inl er)), (mT, .inl (cy.1, 12, .inl (upd ((itr (rStep sr lo ca er) ((to, su), itr (rIni sv) (fl, ac) 11) j).1.1) (11 - j) ((((itr (rStep sr lo ca er) ((to, su), itr (rIni sv) (fl, ac) 11) j).2.1) (11 - j)) + (er (11 - j)))))), (mS, .inl (cy.2.1, 12, .inl (upd ((itr (rStep sr lo ca er) ((to, su), itr (rIni sv) (fl, ac) 11) j).1.2) (11 - j) 0))), (mF, .inl (cy.1, 12, .inl (upd ((itr (rStep sr lo ca er) ((to, su), itr (rIni sv) (fl, ac) 11) j).2.1) (sr (11 - j)) ((((itr (rStep sr lo ca er) ((to, su), itr (rIni sv) (fl, ac) 11) j).2.1) (sr (11 - j))) + ((((itr (rStep sr lo ca er) ((to, su), itr (rIni sv) (fl, ac) 11) j).2.1) (11 - j)) + (pCL ca lo (11 - j))))))), (mA, .inl (cy.1, 12, .inl (upd ((itr (rStep sr lo ca er) ((to, su), itr (rIni sv) (fl, ac) 11) j).2.2) (sr (11 - j)) ((((itr (rStep sr lo ca er) ((to, su), itr (rIni sv) (fl, ac) 11) j).2.2) (sr (11 - j))) + (((((itr (rStep sr lo ca er) ((to, su), itr (rIni sv) (fl, ac) 11) j).2.1) (11 - j)) + (er (11 - j))) + (pCL ca lo (11 - j))))))), (no, .inr (2, [.ref nS, .ref nL, .ref nA, .ref nH, .ref nV, .ref nT, .ref nC, .ref nD, .int sl])), (nS, .inl (cy.1, 12, .inl (fun i => nI (sr i)))), (nL, .inl (cy.1, 12, .inl lo)), (nV, .inl (cy.1, 12, .inl sv)), (nC, .inl (cy.2.1, 12, .inl ca))] rfl rfl (by have := hsr (11 - j) (by omega) (by omega); omega) (by omega) rfl rfl dX1_read_160 rfl ?_
            refine x_iinc (q := 164) C 2 (nI (11 - (j + 1))) [(2, .int (nI (11 - (j + 1)))), (4, .int (pCL ca lo (11 - j))), (3, .int (nI (sr (11 - j)))), (0, .ref mo), (1, .ref no)] dX1_read_161 rfl (nI_dn h_j) (by decide) rfl rfl ?_
            refine x_goto C 41 dX1_read_164 (by decide) ?_
            refine x_less [0, 3, 4] [(2, .int (nI (11 - (j + 1)))), (0, .ref mo), (1, .ref no)] rfl ?_
            have e9 : (itr (rStep sr lo ca er) ((to, su), itr (rIni sv) (fl, ac) 11) (j + 1)) = ((upd ((itr (rStep sr lo ca er) ((to, su), itr (rIni sv) (fl, ac) 11) j).1.1) (11 - j) ((((itr (rStep sr lo ca er) ((to, su), itr (rIni sv) (fl, ac) 11) j).2.1) (11 - j)) + (er (11 - j))), upd ((itr (rStep sr lo ca er) ((to, su), itr (rIni sv) (fl, ac) 11) j).1.2) (11 - j) 0), (upd ((itr (rStep sr lo ca er) ((to, su), itr (rIni sv) (fl, ac) 11) j).2.1) (sr (11 - j)) ((((itr (rStep sr lo ca er) ((to, su), itr (rIni sv) (fl, ac) 11) j).2.1) (sr (11 - j))) + ((((itr (rStep sr lo ca er) ((to, su), itr (rIni sv) (fl, ac) 11) j).2.1) (11 - j)) + (pCL ca lo (11 - j)))), upd ((itr (rStep sr lo ca er) ((to, su), itr (rIni sv) (fl, ac) 11) j).2.2) (sr (11 - j)) ((((itr (rStep sr lo ca er) ((to, su), itr (rIni sv) (fl, ac) 11) j).2.2) (sr (11 - j))) + (((((itr (rStep sr lo ca er) ((to, su), itr (rIni sv) (fl, ac) 11) j).2.1) (11 - j)) + (er (11 - j))) + (pCL ca lo (11 - j)))))) := by
              show rStep sr lo ca er j (itr (rStep sr lo ca er) ((to, su), itr (rIni sv) (fl, ac) 11) j) = _
              simp only [rStep, rTold, if_neg c_57, if_pos c_95, if_neg c_115]
            refine x_less [0, 1, 2] [(2, .int (nI (11 - (j + 1)))), (0, .ref mo), (1, .ref no)] (by first | rfl | (rw [e9]; rfl)) ?_
            refine x_world (X' := [(mo, .inr (1, [.ref mE, .ref mT, .ref mS, .ref mF, .ref mA])), (mE, .inl (cy.1, 12, .inl er)), (mT, .inl (cy.1, 12, .inl ((itr (rStep sr lo ca er) ((to, su), itr (rIni sv) (fl, ac) 11) (j + 1)).1.1))), (mS, .inl (cy.2.1, 12, .inl ((itr (rStep sr lo ca er) ((to, su), itr (rIni sv) (fl, ac) 11) (j + 1)).1.2))), (mF, .inl (cy.1, 12, .inl ((itr (rStep sr lo ca er) ((to, su), itr (rIni sv) (fl, ac) 11) (j + 1)).2.1))), (mA, .inl (cy.1, 12, .inl ((itr (rStep sr lo ca er) ((to, su), itr (rIni sv) (fl, ac) 11) (j + 1)).2.2))), (no, .inr (2, [.ref nS, .ref nL, .ref nA, .ref nH, .ref nV, .ref nT, .ref nC, .ref nD, .int sl])), (nS, .inl (cy.1, 12, .inl (fun i => nI (sr i)))), (nL, .inl (cy.1, 12, .inl lo)), (nV, .inl (cy.1, 12, .inl sv)), (nC, .inl (cy.2.1, 12, .inl ca))]) (pl' := []) (by first | rfl | rw [e9]) ?_
            exact ih_j
        · refine x_iconst (q := 99) C 1 rfl dX1_read_98 rfl ?_
          refine x_goto C 103 dX1_read_99 (by decide) ?_
          refine x_zastN (q := 104) C (11 - j) 3 (upd ((itr (rStep sr lo ca er) ((to, su), itr (rIni sv) (fl, ac) 11) j).1.2) (11 - j) 1) [(mo, .inr (1, [.ref mE, .ref mT, .ref mS, .ref mF, .ref mA])), (mE, .inl (cy.1, 12, .inl er)), (mT, .inl (cy.1, 12, .inl (upd ((itr (rStep sr lo ca er) ((to, su), itr (rIni sv) (fl, ac) 11) j).1.1) (11 - j) ((((itr (rStep sr lo ca er) ((to, su), itr (rIni sv) (fl, ac) 11) j).2.1) (11 - j)) + (er (11 - j)))))), (mS, .inl (cy.2.1, 12, .inl (upd ((itr (rStep sr lo ca er) ((to, su), itr (rIni sv) (fl, ac) 11) j).1.2) (11 - j) 1))), (mF, .inl (cy.1, 12, .inl ((itr (rStep sr lo ca er) ((to, su), itr (rIni sv) (fl, ac) 11) j).2.1))), (mA, .inl (cy.1, 12, .inl ((itr (rStep sr lo ca er) ((to, su), itr (rIni sv) (fl, ac) 11) j).2.2))), (no, .inr (2, [.ref nS, .ref nL, .ref nA, .ref nH, .ref nV, .ref nT, .ref nC, .ref nD, .int sl])), (nS, .inl (cy.1, 12, .inl (fun i => nI (sr i)))), (nL, .inl (cy.1, 12, .inl lo)), (nV, .inl (cy.1, 12, .inl sv)), (nC, .inl (cy.2.1, 12, .inl ca))] rfl rfl (by omega) (by omega) (congrArg _ vpz1) rfl dX1_read_103 rfl ?_
          refine x_aload_n (q := 105) C 2 rfl dX1_read_104 rfl ?_
          refine x_getN (q := 108) C (T := TX2) iw_X1_read_X2 rfl 6 0 rfl (by decide) rfl (by decide +kernel : Cond.fieldLinkNest RX1 36 RX2 "source" "[I" RX4 ∈ xNest) rfl dX1_read_105 rfl ?_
          refine x_iload_n (q := 109) C 0 rfl dX1_read_108 rfl ?_
          refine x_ialdN (q := 110) C (11 - j) 7 (nI (sr (11 - j))) rfl rfl (by omega) (by omega) rfl dX1_read_109 rfl ?_
          refine x_istore_n (q := 111) C [(3, .int (nI (sr (11 - j)))), (2, .int (nI (11 - j))), (0, .ref mo), (1, .ref no)] dX1_read_110 (by decide) rfl rfl ?_
          refine x_iload_n (q := 112) C 0 rfl dX1_read_111 rfl ?_
          refine x_CiP (q := 115) C [] [0, 1, 2, 3, 4, 5, 6, 7, 8, 9, 10] (cx := []) (wr := [(mo, .inr (1, [.ref mE, .ref mT, .ref mS, .ref mF, .ref mA])), (mE, .inl (cy.1, 12, .inl er)), (mT, .inl (cy.1, 12, .inl (upd ((itr (rStep sr lo ca er) ((to, su), itr (rIni sv) (fl, ac) 11) j).1.1) (11 - j) ((((itr (rStep sr lo ca er) ((to, su), itr (rIni sv) (fl, ac) 11) j).2.1) (11 - j)) + (er (11 - j)))))), (mS, .inl (cy.2.1, 12, .inl (upd ((itr (rStep sr lo ca er) ((to, su), itr (rIni sv) (fl, ac) 11) j).1.2) (11 - j) 1))), (mF, .inl (cy.1, 12, .inl ((itr (rStep sr lo ca er) ((to, su), itr (rIni sv) (fl, ac) 11) j).2.1))), (mA, .inl (cy.1, 12, .inl ((itr (rStep sr lo ca er) ((to, su), itr (rIni sv) (fl, ac) 11) j).2.2))), (no, .inr (2, [.ref nS, .ref nL, .ref nA, .ref nH, .ref nV, .ref nT, .ref nC, .ref nD, .int sl])), (nS, .inl (cy.1, 12, .inl (fun i => nI (sr i)))), (nL, .inl (cy.1, 12, .inl lo)), (nV, .inl (cy.1, 12, .inl sv)), (nC, .inl (cy.2.1, 12, .inl ca))]) (st := []) rfl rfl rfl rfl (by decide) (fun H locs ls hP hPc hDc hS hFc hl => x_runSN C (As := [.int (nI (sr (11 - j)))]) (c_X4_isHouse (nI (sr (11 - j)))) (⟨va_cnB 1 C.2.2.2.2.2.1 gX1_read_X4_isHouse_n39 rfl rfl rfl (va_Nw.of rfl (C.2.2.2.2.2.2.1.2.1.use (B := #[]) (by decide +kernel : Cond.methodLinkNest RX1 39 yX4_isHouse RX4 ∈ xNest))) (C.2.2.2.2.2.1 _ (by decide +kernel)) (by decide +kernel) ⟨Nat.le_of_ble_eq_true rfl, Nat.le_of_ble_eq_true rfl⟩, C.2.2.2.2.2.1 (Cond.static yX4_isHouse) (by decide +kernel), trivial⟩) rfl rfl (Nat.le_of_ble_eq_true rfl) dX1_read_112 ⟨Nat.le_of_ble_eq_true rfl, Nat.le_of_ble_eq_true rfl⟩ (fun h => absurd h (by decide)) hP hPc hDc hS hFc hl) (k := 0) (n := 0) rfl rfl rfl (fun r_112 w1 hw => ?_)
          obtain ⟨rfl, rfl⟩ := hw
          refine x_ord [0, 1, 2, 3, 4, 5, 6, 7, 8, 9, 10] [(mo, .inr (1, [.ref mE, .ref mT, .ref mS, .ref mF, .ref mA])), (mE, .inl (cy.1, 12, .inl er)), (mT, .inl (cy.1, 12, .inl (upd ((itr (rStep sr lo ca er) ((to, su), itr (rIni sv) (fl, ac) 11) j).1.1) (11 - j) ((((itr (rStep sr lo ca er) ((to, su), itr (rIni sv) (fl, ac) 11) j).2.1) (11 - j)) + (er (11 - j)))))), (mS, .inl (cy.2.1, 12, .inl (upd ((itr (rStep sr lo ca er) ((to, su), itr (rIni sv) (fl, ac) 11) j).1.2) (11 - j) 1))), (mF, .inl (cy.1, 12, .inl ((itr (rStep sr lo ca er) ((to, su), itr (rIni sv) (fl, ac) 11) j).2.1))), (mA, .inl (cy.1, 12, .inl ((itr (rStep sr lo ca er) ((to, su), itr (rIni sv) (fl, ac) 11) j).2.2))), (no, .inr (2, [.ref nS, .ref nL, .ref nA, .ref nH, .ref nV, .ref nT, .ref nC, .ref nD, .int sl])), (nS, .inl (cy.1, 12, .inl (fun i => nI (sr i)))), (nL, .inl (cy.1, 12, .inl lo)), (nV, .inl (cy.1, 12, .inl sv)), (nC, .inl (cy.2.1, 12, .inl ca))] rfl rfl ?_
          refine x_if_eq (q := 118) C 161 dX1_read_115 (by decide) rfl (fun c_115 => ?_) (fun c_115 => ?_)
          · refine x_iinc (q := 164) C 1 (nI (11 - (j + 1))) [(2, .int (nI (11 - (j + 1)))), (3, .int (nI (sr (11 - j)))), (0, .ref mo), (1, .ref no)] dX1_read_161 rfl (nI_dn h_j) (by decide) rfl rfl ?_
            refine x_goto C 41 dX1_read_164 (by decide) ?_
            refine x_less [0, 2, 3] [(2, .int (nI (11 - (j + 1)))), (0, .ref mo), (1, .ref no)] rfl ?_
            have e9 : (itr (rStep sr lo ca er) ((to, su), itr (rIni sv) (fl, ac) 11) (j + 1)) = ((upd ((itr (rStep sr lo ca er) ((to, su), itr (rIni sv) (fl, ac) 11) j).1.1) (11 - j) ((((itr (rStep sr lo ca er) ((to, su), itr (rIni sv) (fl, ac) 11) j).2.1) (11 - j)) + (er (11 - j))), upd ((itr (rStep sr lo ca er) ((to, su), itr (rIni sv) (fl, ac) 11) j).1.2) (11 - j) 1), ((itr (rStep sr lo ca er) ((to, su), itr (rIni sv) (fl, ac) 11) j).2.1, (itr (rStep sr lo ca er) ((to, su), itr (rIni sv) (fl, ac) 11) j).2.2)) := by
              show rStep sr lo ca er j (itr (rStep sr lo ca er) ((to, su), itr (rIni sv) (fl, ac) 11) j) = _
              simp only [rStep, rTold, if_neg c_57, if_neg c_95, if_pos c_115]
            refine x_less [0, 1, 2] [(2, .int (nI (11 - (j + 1)))), (0, .ref mo), (1, .ref no)] (by first | rfl | (rw [e9]; rfl)) ?_
            refine x_world (X' := [(mo, .inr (1, [.ref mE, .ref mT, .ref mS, .ref mF, .ref mA])), (mE, .inl (cy.1, 12, .inl er)), (mT, .inl (cy.1, 12, .inl ((itr (rStep sr lo ca er) ((to, su), itr (rIni sv) (fl, ac) 11) (j + 1)).1.1))), (mS, .inl (cy.2.1, 12, .inl ((itr (rStep sr lo ca er) ((to, su), itr (rIni sv) (fl, ac) 11) (j + 1)).1.2))), (mF, .inl (cy.1, 12, .inl ((itr (rStep sr lo ca er) ((to, su), itr (rIni sv) (fl, ac) 11) (j + 1)).2.1))), (mA, .inl (cy.1, 12, .inl ((itr (rStep sr lo ca er) ((to, su), itr (rIni sv) (fl, ac) 11) (j + 1)).2.2))), (no, .inr (2, [.ref nS, .ref nL, .ref nA, .ref nH, .ref nV, .ref nT, .ref nC, .ref nD, .int sl])), (nS, .inl (cy.1, 12, .inl (fun i => nI (sr i)))), (nL, .inl (cy.1, 12, .inl lo)), (nV, .inl (cy.1, 12, .inl sv)), (nC, .inl (cy.2.1, 12, .inl ca))]) (pl' := []) (by first | rfl | rw [e9]) ?_
            exact ih_j
          · refine x_aload_n (q := 119) C 3 rfl dX1_read_118 rfl ?_
            refine x_iload_n (q := 120) C 1 rfl dX1_read_119 rfl ?_
            refine x_CiP (q := 123) C [6, 8, 10] [0, 1, 2, 3, 4, 5, 7, 9] (cx := [(no, .inr (2, [.ref nS, .ref nL, .ref nA, .ref nH, .ref nV, .ref nT, .ref nC, .ref nD, .int sl])), (nL, .inl (cy.1, 12, .inl lo)), (nC, .inl (cy.2.1, 12, .inl ca))]) (wr := [(mo, .inr (1, [.ref mE, .ref mT, .ref mS, .ref mF, .ref mA])), (mE, .inl (cy.1, 12, .inl er)), (mT, .inl (cy.1, 12, .inl (upd ((itr (rStep sr lo ca er) ((to, su), itr (rIni sv) (fl, ac) 11) j).1.1) (11 - j) ((((itr (rStep sr lo ca er) ((to, su), itr (rIni sv) (fl, ac) 11) j).2.1) (11 - j)) + (er (11 - j)))))), (mS, .inl (cy.2.1, 12, .inl (upd ((itr (rStep sr lo ca er) ((to, su), itr (rIni sv) (fl, ac) 11) j).1.2) (11 - j) 1))), (mF, .inl (cy.1, 12, .inl ((itr (rStep sr lo ca er) ((to, su), itr (rIni sv) (fl, ac) 11) j).2.1))), (mA, .inl (cy.1, 12, .inl ((itr (rStep sr lo ca er) ((to, su), itr (rIni sv) (fl, ac) 11) j).2.2))), (nS, .inl (cy.1, 12, .inl (fun i => nI (sr i)))), (nV, .inl (cy.1, 12, .inl sv))]) (st := []) rfl rfl rfl rfl (by decide) (fun H locs ls hP hPc hDc hS hFc hl => x_runVN C (As := [.int (nI (11 - j))]) (c_X2_carriedLoss no nS nL nA nH nV nT nC nD lo ca sl (11 - j) (by omega)) (⟨va_cnB 1 C.2.2.2.2.2.1 gX1_read_X2_carriedLoss_n43 rfl rfl rfl (va_Nw.of rfl (C.2.2.2.2.2.2.1.2.1.use (B := #[]) (by decide +kernel : Cond.methodLinkNest RX1 43 yX2_carriedLoss RX4 ∈ xNest))) (C.2.2.2.2.2.1 _ (by decide +kernel)) (by decide +kernel) ⟨Nat.le_of_ble_eq_true rfl, Nat.le_of_ble_eq_true rfl⟩, C.2.2.2.2.2.1 (Cond.instanceMethod yX2_carriedLoss) (by decide +kernel), C.2.2.2.2.2.1 (Cond.selects RX2 yX2_carriedLoss yX2_carriedLoss) (by decide +kernel)⟩) rfl 6 rfl rfl rfl (Nat.le_of_ble_eq_true rfl) dX1_read_120 ⟨Nat.le_of_ble_eq_true rfl, Nat.le_of_ble_eq_true rfl⟩ (fun h => absurd h (by decide)) hP hPc hDc hS hFc hl) (k := 0) (n := 0) rfl rfl rfl (fun r_120 w1 hw => ?_)
            obtain ⟨rfl, rfl⟩ := hw
            refine x_ord [0, 1, 2, 3, 4, 5, 8, 6, 9, 7, 10] [(mo, .inr (1, [.ref mE, .ref mT, .ref mS, .ref mF, .ref mA])), (mE, .inl (cy.1, 12, .inl er)), (mT, .inl (cy.1, 12, .inl (upd ((itr (rStep sr lo ca er) ((to, su), itr (rIni sv) (fl, ac) 11) j).1.1) (11 - j) ((((itr (rStep sr lo ca er) ((to, su), itr (rIni sv) (fl, ac) 11) j).2.1) (11 - j)) + (er (11 - j)))))), (mS, .inl (cy.2.1, 12, .inl (upd ((itr (rStep sr lo ca er) ((to, su), itr (rIni sv) (fl, ac) 11) j).1.2) (11 - j) 1))), (mF, .inl (cy.1, 12, .inl ((itr (rStep sr lo ca er) ((to, su), itr (rIni sv) (fl, ac) 11) j).2.1))), (mA, .inl (cy.1, 12, .inl ((itr (rStep sr lo ca er) ((to, su), itr (rIni sv) (fl, ac) 11) j).2.2))), (no, .inr (2, [.ref nS, .ref nL, .ref nA, .ref nH, .ref nV, .ref nT, .ref nC, .ref nD, .int sl])), (nS, .inl (cy.1, 12, .inl (fun i => nI (sr i)))), (nL, .inl (cy.1, 12, .inl lo)), (nV, .inl (cy.1, 12, .inl sv)), (nC, .inl (cy.2.1, 12, .inl ca))] rfl rfl ?_
            refine x_istore (q := 125) C [(4, .int (pCL ca lo (11 - j))), (3, .int (nI (sr (11 - j)))), (2, .int (nI (11 - j))), (0, .ref mo), (1, .ref no)] dX1_read_123 (by decide) rfl rfl ?_
            refine x_aload_n (q := 126) C 3 rfl dX1_read_125 rfl ?_
            refine x_get (q := 129) C (T := TX1) iw_X1_read_X1 rfl 0 3 rfl (by decide) rfl (by decide +kernel : Cond.fieldLink RX1 22 RX1 "flow" "[I" ∈ wsX1_read) rfl dX1_read_126 rfl ?_
            refine x_iload_n (q := 130) C 1 rfl dX1_read_129 rfl ?_
            refine x_dup2 (q := 131) C rfl rfl dX1_read_130 rfl ?_
            refine x_ialdN (q := 132) C (sr (11 - j)) 4 (((itr (rStep sr lo ca er) ((to, su), itr (rIni sv) (fl, ac) 11) j).2.1) (sr (11 - j))) rfl rfl (by have := hsr (11 - j) (by omega) (by omega); omega) (by omega) rfl dX1_read_131 rfl ?_
            refine x_aload_n (q := 133) C 3 rfl dX1_read_132 rfl ?_
            refine x_get (q := 136) C (T := TX1) iw_X1_read_X1 rfl 0 3 rfl (by decide) rfl (by decide +kernel : Cond.fieldLink RX1 22 RX1 "flow" "[I" ∈ wsX1_read) rfl dX1_read_133 rfl ?_
            refine x_iload_n (q := 137) C 2 rfl dX1_read_136 rfl ?_
            refine x_ialdN (q := 138) C (11 - j) 4 (((itr (rStep sr lo ca er) ((to, su), itr (rIni sv) (fl, ac) 11) j).2.1) (11 - j)) rfl rfl (by omega) (by omega) rfl dX1_read_137 rfl ?_
            refine x_iload (q := 140) C 0 rfl dX1_read_138 rfl ?_
            refine x_iadd (q := 141) C ((((itr (rStep sr lo ca er) ((to, su), itr (rIni sv) (fl, ac) 11) j).2.1) (11 - j)) + (pCL ca lo (11 - j))) (rfl) dX1_read_140 rfl ?_
            refine x_iadd (q := 142) C ((((itr (rStep sr lo ca er) ((to, su), itr (rIni sv) (fl, ac) 11) j).2.1) (sr (11 - j))) + ((((itr (rStep sr lo ca er) ((to, su), itr (rIni sv) (fl, ac) 11) j).2.1) (11 - j)) + (pCL ca lo (11 - j)))) (rfl) dX1_read_141 rfl ?_
            refine x_iastN (q := 143) C (sr (11 - j)) 4 (upd ((itr (rStep sr lo ca er) ((to, su), itr (rIni sv) (fl, ac) 11) j).2.1) (sr (11 - j)) ((((itr (rStep sr lo ca er) ((to, su), itr (rIni sv) (fl, ac) 11) j).2.1) (sr (11 - j))) + ((((itr (rStep sr lo ca er) ((to, su), itr (rIni sv) (fl, ac) 11) j).2.1) (11 - j)) + (pCL ca lo (11 - j))))) [(mo, .inr (1, [.ref mE, .ref mT, .ref mS, .ref mF, .ref mA])), (mE, .inl (cy.1, 12, .inl er)), (mT, .inl (cy.1, 12, .inl (upd ((itr (rStep sr lo ca er) ((to, su), itr (rIni sv) (fl, ac) 11) j).1.1) (11 - j) ((((itr (rStep sr lo ca er) ((to, su), itr (rIni sv) (fl, ac) 11) j).2.1) (11 - j)) + (er (11 - j)))))), (mS, .inl (cy.2.1, 12, .inl (upd ((itr (rStep sr lo ca er) ((to, su), itr (rIni sv) (fl, ac) 11) j).1.2) (11 - j) 1))), (mF, .inl (cy.1, 12, .inl (upd ((itr (rStep sr lo ca er) ((to, su), itr (rIni sv) (fl, ac) 11) j).2.1) (sr (11 - j)) ((((itr (rStep sr lo ca er) ((to, su), itr (rIni sv) (fl, ac) 11) j).2.1) (sr (11 - j))) + ((((itr (rStep sr lo ca er) ((to, su), itr (rIni sv) (fl, ac) 11) j).2.1) (11 - j)) + (pCL ca lo (11 - j))))))), (mA, .inl (cy.1, 12, .inl ((itr (rStep sr lo ca er) ((to, su), itr (rIni sv) (fl, ac) 11) j).2.2))), (no, .inr (2, [.ref nS, .ref nL, .ref nA, .ref nH, .ref nV, .ref nT, .ref nC, .ref nD, .int sl])), (nS, .inl (cy.1, 12, .inl (fun i => nI (sr i)))), (nL, .inl (cy.1, 12, .inl lo)), (nV, .inl (cy.1, 12, .inl sv)), (nC, .inl (cy.2.1, 12, .inl ca))] rfl rfl (by have := hsr (11 - j) (by omega) (by omega); omega) (by omega) rfl rfl dX1_read_142 rfl ?_
            refine x_aload_n (q := 144) C 3 rfl dX1_read_143 rfl ?_
            refine x_get (q := 147) C (T := TX1) iw_X1_read_X1 rfl 0 4 rfl (by decide) rfl (by decide +kernel : Cond.fieldLink RX1 25 RX1 "accounted" "[I" ∈ wsX1_read) rfl dX1_read_144 rfl ?_
            refine x_iload_n (q := 148) C 1 rfl dX1_read_147 rfl ?_
            refine x_dup2 (q := 149) C rfl rfl dX1_read_148 rfl ?_
            refine x_ialdN (q := 150) C (sr (11 - j)) 5 (((itr (rStep sr lo ca er) ((to, su), itr (rIni sv) (fl, ac) 11) j).2.2) (sr (11 - j))) rfl rfl (by have := hsr (11 - j) (by omega) (by omega); omega) (by omega) rfl dX1_read_149 rfl ?_
            refine x_aload_n (q := 151) C 3 rfl dX1_read_150 rfl ?_
            refine x_get (q := 154) C (T := TX1) iw_X1_read_X1 rfl 0 1 rfl (by decide) rfl (by decide +kernel : Cond.fieldLink RX1 15 RX1 "told" "[I" ∈ wsX1_read) rfl dX1_read_151 rfl ?_
            refine x_iload_n (q := 155) C 2 rfl dX1_read_154 rfl ?_
            refine x_ialdN (q := 156) C (11 - j) 2 ((((itr (rStep sr lo ca er) ((to, su), itr (rIni sv) (fl, ac) 11) j).2.1) (11 - j)) + (er (11 - j))) rfl rfl (by omega) (by omega) pk_us dX1_read_155 rfl ?_
            refine x_iload (q := 158) C 0 rfl dX1_read_156 rfl ?_
            refine x_iadd (q := 159) C (((((itr (rStep sr lo ca er) ((to, su), itr (rIni sv) (fl, ac) 11) j).2.1) (11 - j)) + (er (11 - j))) + (pCL ca lo (11 - j))) (rfl) dX1_read_158 rfl ?_
            refine x_iadd (q := 160) C ((((itr (rStep sr lo ca er) ((to, su), itr (rIni sv) (fl, ac) 11) j).2.2) (sr (11 - j))) + (((((itr (rStep sr lo ca er) ((to, su), itr (rIni sv) (fl, ac) 11) j).2.1) (11 - j)) + (er (11 - j))) + (pCL ca lo (11 - j)))) (rfl) dX1_read_159 rfl ?_
            refine x_iastN (q := 161) C (sr (11 - j)) 5 (upd ((itr (rStep sr lo ca er) ((to, su), itr (rIni sv) (fl, ac) 11) j).2.2) (sr (11 - j)) ((((itr (rStep sr lo ca er) ((to, su), itr (rIni sv) (fl, ac) 11) j).2.2) (sr (11 - j))) + (((((itr (rStep sr lo ca er) ((to, su), itr (rIni sv) (fl, ac) 11) j).2.1) (11 - j)) + (er (11 - j))) + (pCL ca lo (11 - j))))) [(mo, .inr (1, [.ref mE, .ref mT, .ref mS, .ref mF, .ref mA])), (mE, .inl (cy.1, 12, .inl er)), (mT, .inl (cy.1, 12, .inl (upd ((itr (rStep sr lo ca er) ((to, su), itr (rIni sv) (fl, ac) 11) j).1.1) (11 - j) ((((itr (rStep sr lo ca er) ((to, su), itr (rIni sv) (fl, ac) 11) j).2.1) (11 - j)) + (er (11 - j)))))), (mS, .inl (cy.2.1, 12, .inl (upd ((itr (rStep sr lo ca er) ((to, su), itr (rIni sv) (fl, ac) 11) j).1.2) (11 - j) 1))), (mF, .inl (cy.1, 12, .inl (upd ((itr (rStep sr lo ca er) ((to, su), itr (rIni sv) (fl, ac) 11) j).2.1) (sr (11 - j)) ((((itr (rStep sr lo ca er) ((to, su), itr (rIni sv) (fl, ac) 11) j).2.1) (sr (11 - j))) + ((((itr (rStep sr lo ca er) ((to, su), itr (rIni sv) (fl, ac) 11) j).2.1) (11 - j)) + (pCL ca lo (11 - j))))))), (mA, .inl (cy.1, 12, .inl (upd ((itr (rStep sr lo ca er) ((to, su), itr (rIni sv) (fl, ac) 11) j).2.2) (sr (11 - j)) ((((itr (rStep sr lo ca er) ((to, su), itr (rIni sv) (fl, ac) 11) j).2.2) (sr (11 - j))) + (((((itr (rStep sr lo ca er) ((to, su), itr (rIni sv) (fl, ac) 11) j).2.1) (11 - j)) + (er (11 - j))) + (pCL ca lo (11 - j))))))), (no, .inr (2, [.ref nS, .ref nL, .ref nA, .ref nH, .ref nV, .ref nT, .ref nC, .ref nD, .int sl])), (nS, .inl (cy.1, 12, .inl (fun i => nI (sr i)))), (nL, .inl (cy.1, 12, .inl lo)), (nV, .inl (cy.1, 12, .inl sv)), (nC, .inl (cy.2.1, 12, .inl ca))] rfl rfl (by have := hsr (11 - j) (by omega) (by omega); omega) (by omega) rfl rfl dX1_read_160 rfl ?_
            refine x_iinc (q := 164) C 2 (nI (11 - (j + 1))) [(2, .int (nI (11 - (j + 1)))), (4, .int (pCL ca lo (11 - j))), (3, .int (nI (sr (11 - j)))), (0, .ref mo), (1, .ref no)] dX1_read_161 rfl (nI_dn h_j) (by decide) rfl rfl ?_
            refine x_goto C 41 dX1_read_164 (by decide) ?_
            refine x_less [0, 3, 4] [(2, .int (nI (11 - (j + 1)))), (0, .ref mo), (1, .ref no)] rfl ?_
            have e9 : (itr (rStep sr lo ca er) ((to, su), itr (rIni sv) (fl, ac) 11) (j + 1)) = ((upd ((itr (rStep sr lo ca er) ((to, su), itr (rIni sv) (fl, ac) 11) j).1.1) (11 - j) ((((itr (rStep sr lo ca er) ((to, su), itr (rIni sv) (fl, ac) 11) j).2.1) (11 - j)) + (er (11 - j))), upd ((itr (rStep sr lo ca er) ((to, su), itr (rIni sv) (fl, ac) 11) j).1.2) (11 - j) 1), (upd ((itr (rStep sr lo ca er) ((to, su), itr (rIni sv) (fl, ac) 11) j).2.1) (sr (11 - j)) ((((itr (rStep sr lo ca er) ((to, su), itr (rIni sv) (fl, ac) 11) j).2.1) (sr (11 - j))) + ((((itr (rStep sr lo ca er) ((to, su), itr (rIni sv) (fl, ac) 11) j).2.1) (11 - j)) + (pCL ca lo (11 - j)))), upd ((itr (rStep sr lo ca er) ((to, su), itr (rIni sv) (fl, ac) 11) j).2.2) (sr (11 - j)) ((((itr (rStep sr lo ca er) ((to, su), itr (rIni sv) (fl, ac) 11) j).2.2) (sr (11 - j))) + (((((itr (rStep sr lo ca er) ((to, su), itr (rIni sv) (fl, ac) 11) j).2.1) (11 - j)) + (er (11 - j))) + (pCL ca lo (11 - j)))))) := by
              show rStep sr lo ca er j (itr (rStep sr lo ca er) ((to, su), itr (rIni sv) (fl, ac) 11) j) = _
              simp only [rStep, rTold, if_neg c_57, if_neg c_95, if_neg c_115]
            refine x_less [0, 1, 2] [(2, .int (nI (11 - (j + 1)))), (0, .ref mo), (1, .ref no)] (by first | rfl | (rw [e9]; rfl)) ?_
            refine x_world (X' := [(mo, .inr (1, [.ref mE, .ref mT, .ref mS, .ref mF, .ref mA])), (mE, .inl (cy.1, 12, .inl er)), (mT, .inl (cy.1, 12, .inl ((itr (rStep sr lo ca er) ((to, su), itr (rIni sv) (fl, ac) 11) (j + 1)).1.1))), (mS, .inl (cy.2.1, 12, .inl ((itr (rStep sr lo ca er) ((to, su), itr (rIni sv) (fl, ac) 11) (j + 1)).1.2))), (mF, .inl (cy.1, 12, .inl ((itr (rStep sr lo ca er) ((to, su), itr (rIni sv) (fl, ac) 11) (j + 1)).2.1))), (mA, .inl (cy.1, 12, .inl ((itr (rStep sr lo ca er) ((to, su), itr (rIni sv) (fl, ac) 11) (j + 1)).2.2))), (no, .inr (2, [.ref nS, .ref nL, .ref nA, .ref nH, .ref nV, .ref nT, .ref nC, .ref nD, .int sl])), (nS, .inl (cy.1, 12, .inl (fun i => nI (sr i)))), (nL, .inl (cy.1, 12, .inl lo)), (nV, .inl (cy.1, 12, .inl sv)), (nC, .inl (cy.2.1, 12, .inl ca))]) (pl' := []) (by first | rfl | rw [e9]) ?_
            exact ih_j
    · refine x_iload_n (q := 42) C 0 rfl dX1_read_41 rfl ?_
      refine x_iconst (q := 43) C 1 rfl dX1_read_42 rfl ?_
      refine x_icmp_lt_t C 167 dX1_read_43 (by decide) (nI_lt (a := (11 - 11)) (b := 1) (by omega) (by omega)) ?_
      exact x_vret C rfl (rfl) dX1_read_167 (Nat.le_of_ble_eq_true rfl) (Nat.le_of_ble_eq_true rfl)

theorem iw_X4_isPeak_X4 : ∀ w ∈ wsX40, w ∈ wsX4_isPeak := by decide +kernel
theorem iw_X4_isPeak_X3 : ∀ w ∈ wsX30, w ∈ wsX4_isPeak := by decide +kernel
set_option maxHeartbeats 4000000 in
set_option maxRecDepth 100000 in
/-- isPeak -/
theorem c_X4_isPeak {l : Launch} {D : va_G} {cy : ClassId × ClassId × ClassId} (go no po mo gB : Nat) (fst : Option Nat) (ph lt ll cn ap sp w : Int32) : xM false l yX4_isPeak wsX4_isPeak ({ frames := 0, cells := 0, slots := 0, locals := 0 }) D cy [.ref go, .int w] ([(go, .inr (4, [.ref no, .ref po, .ref mo, .ref gB, .int ph, .int lt, .int ll])), (po, .inr (3, [va_rf fst, .int cn, .int ap, .int sp]))]) (xQi D (fun r w1 => r = pPeak w ap ∧ w1 = [(go, .inr (4, [.ref no, .ref po, .ref mo, .ref gB, .int ph, .int lt, .int ll])), (po, .inr (3, [va_rf fst, .int cn, .int ap, .int sp]))])) 0 0 := by
  refine xM_of (X := [(go, .inr (4, [.ref no, .ref po, .ref mo, .ref gB, .int ph, .int lt, .int ll])), (po, .inr (3, [va_rf fst, .int cn, .int ap, .int sp]))]) (pl := []) (nL := 2) (ret := (some .boolean)) RX4 [(0, .ref go), (1, .int w)] (by decide +kernel) rfl rfl rfl (Nat.le_of_ble_eq_true rfl) (List.append_nil _).symm (fun p e s m args below meth c A C hname hT hZ => ?_)
  refine x_iconst (q := 1) C 2 rfl dX4_isPeak_0 rfl ?_
  refine x_iload_n (q := 2) C 1 rfl dX4_isPeak_1 rfl ?_
  refine x_imul (q := 3) C (2 * w) (rfl) dX4_isPeak_2 rfl ?_
  refine x_aload_n (q := 4) C 0 rfl dX4_isPeak_3 rfl ?_
  refine x_get (q := 7) C (T := TX4) iw_X4_isPeak_X4 rfl 0 1 rfl (by decide) rfl (by decide +kernel : Cond.fieldLink RX4 19 RX4 "plant" "LHeatGuild$Plant;" ∈ wsX4_isPeak) rfl dX4_isPeak_4 rfl ?_
  refine x_getN (q := 10) C (T := TX3) iw_X4_isPeak_X3 rfl 1 2 rfl (by decide) rfl (by decide +kernel : Cond.fieldLinkNest RX4 109 RX3 "allPower" "I" RX4 ∈ xNest) rfl dX4_isPeak_7 rfl ?_
  refine x_icmp_le (q := 13) C 17 dX4_isPeak_10 (by decide) rfl (fun c_10 => ?_) (fun c_10 => ?_)
  · refine x_iconst (q := 18) C 0 rfl dX4_isPeak_17 rfl ?_
    exact x_iret C .boolean rfl rfl (⟨by simp [pPeak, c_10], rfl⟩) dX4_isPeak_18 (Nat.le_of_ble_eq_true rfl) (Nat.le_of_ble_eq_true rfl)
  · refine x_iconst (q := 14) C 1 rfl dX4_isPeak_13 rfl ?_
    refine x_goto C 18 dX4_isPeak_14 (by decide) ?_
    exact x_iret C .boolean rfl rfl (⟨by simp [pPeak, c_10], rfl⟩) dX4_isPeak_18 (Nat.le_of_ble_eq_true rfl) (Nat.le_of_ble_eq_true rfl)

theorem iw_X4_charge_X4 : ∀ w ∈ wsX40, w ∈ wsX4_charge := by decide +kernel
theorem iw_X4_charge_X2 : ∀ w ∈ wsX20, w ∈ wsX4_charge := by decide +kernel
set_option maxHeartbeats 4000000 in
set_option maxRecDepth 100000 in
/-- charge -/
theorem c_X4_charge {l : Launch} {D : va_G} {cy : ClassId × ClassId × ClassId} (go no po mo gB nS nL nA nH nV nT nC nD : Nat) (b ar sv ht : Nat → Int32) (ph lt ll sl t pk : Int32) : xM false l yX4_charge wsX4_charge ({ frames := 1, cells := 0, slots := 0, locals := 21 }) D cy [.ref go, .int t, .int pk] ([(go, .inr (4, [.ref no, .ref po, .ref mo, .ref gB, .int ph, .int lt, .int ll])), (gB, .inl (cy.1, 12, .inl b)), (no, .inr (2, [.ref nS, .ref nL, .ref nA, .ref nH, .ref nV, .ref nT, .ref nC, .ref nD, .int sl])), (nA, .inl (cy.1, 12, .inl ar)), (nV, .inl (cy.1, 12, .inl sv)), (nT, .inl (cy.2.1, 12, .inl ht))]) (xQv D (fun w => w = [(go, .inr (4, [.ref no, .ref po, .ref mo, .ref gB, .int ph, .int lt, .int ll])), (gB, .inl (cy.1, 12, .inl (gFun ht sv ar t pk b))), (no, .inr (2, [.ref nS, .ref nL, .ref nA, .ref nH, .ref nV, .ref nT, .ref nC, .ref nD, .int sl])), (nA, .inl (cy.1, 12, .inl ar)), (nV, .inl (cy.1, 12, .inl sv)), (nT, .inl (cy.2.1, 12, .inl ht))])) 0 0 := by
  refine xM_of (X := [(go, .inr (4, [.ref no, .ref po, .ref mo, .ref gB, .int ph, .int lt, .int ll])), (gB, .inl (cy.1, 12, .inl b)), (no, .inr (2, [.ref nS, .ref nL, .ref nA, .ref nH, .ref nV, .ref nT, .ref nC, .ref nD, .int sl])), (nA, .inl (cy.1, 12, .inl ar)), (nV, .inl (cy.1, 12, .inl sv)), (nT, .inl (cy.2.1, 12, .inl ht))]) (pl := []) (nL := 5) (ret := none) RX4 [(0, .ref go), (1, .int t), (2, .int pk)] (by decide +kernel) rfl rfl rfl (Nat.le_of_ble_eq_true rfl) (List.append_nil _).symm (fun p e s m args below meth c A C hname hT hZ => ?_)
  refine x_iload_n (q := 1) C 2 rfl dX4_charge_0 rfl ?_
  refine x_if_eq (q := 4) C 8 dX4_charge_1 (by decide) rfl (fun c_1 => ?_) (fun c_1 => ?_)
  · refine x_iconst (q := 9) C 2 rfl dX4_charge_8 rfl ?_
    refine x_istore_n (q := 10) C [(3, .int 2), (0, .ref go), (1, .int t), (2, .int pk)] dX4_charge_9 (by decide) rfl rfl ?_
    refine x_iconst (q := 11) C 1 rfl dX4_charge_10 rfl ?_
    refine x_istore (q := 13) C [(4, .int 1), (3, .int 2), (0, .ref go), (1, .int t), (2, .int pk)] dX4_charge_11 (by decide) rfl rfl ?_
    refine x_less [0, 1, 2, 3] [(4, .int 1), (3, .int 2), (0, .ref go), (1, .int t)] rfl ?_
    refine x_up (fun j => [(go, .inr (4, [.ref no, .ref po, .ref mo, .ref gB, .int ph, .int lt, .int ll])), (gB, .inl (cy.1, 12, .inl (itr (gStep ht sv ar t 2) b j))), (no, .inr (2, [.ref nS, .ref nL, .ref nA, .ref nH, .ref nV, .ref nT, .ref nC, .ref nD, .int sl])), (nA, .inl (cy.1, 12, .inl ar)), (nV, .inl (cy.1, 12, .inl sv)), (nT, .inl (cy.2.1, 12, .inl ht))]) (fun j => [(4, .int (nI (j + 1))), (3, .int 2), (0, .ref go), (1, .int t)]) 11 rfl rfl (fun j h_j ih_j => ?_) ?_
    · refine x_iload (q := 15) C 0 rfl dX4_charge_13 rfl ?_
      refine x_bipush (q := 17) C 12 rfl dX4_charge_15 rfl ?_
      refine x_icmp_ge_f (q := 20) C 92 dX4_charge_17 (by decide) rfl (nI_ge (a := (j + 1)) (b := 12) (by omega) (by omega)) ?_
      refine x_aload_n (q := 21) C 2 rfl dX4_charge_20 rfl ?_
      refine x_get (q := 24) C (T := TX4) iw_X4_charge_X4 rfl 0 0 rfl (by decide) rfl (by decide +kernel : Cond.fieldLink RX4 10 RX4 "net" "LHeatGuild$Net;" ∈ wsX4_charge) rfl dX4_charge_21 rfl ?_
      refine x_getN (q := 27) C (T := TX2) iw_X4_charge_X2 rfl 2 5 rfl (by decide) rfl (by decide +kernel : Cond.fieldLinkNest RX4 167 RX2 "heated" "[Z" RX4 ∈ xNest) rfl dX4_charge_24 rfl ?_
      refine x_iload (q := 29) C 0 rfl dX4_charge_27 rfl ?_
      refine x_zaldN (q := 30) C (j + 1) 5 (ht (j + 1)) rfl rfl (by omega) (by omega) rfl dX4_charge_29 rfl ?_
      refine x_if_eq (q := 33) C 58 dX4_charge_30 (by decide) rfl (fun c_30 => ?_) (fun c_30 => ?_)
      · refine x_aload_n (q := 59) C 2 rfl dX4_charge_58 rfl ?_
        refine x_get (q := 62) C (T := TX4) iw_X4_charge_X4 rfl 0 0 rfl (by decide) rfl (by decide +kernel : Cond.fieldLink RX4 10 RX4 "net" "LHeatGuild$Net;" ∈ wsX4_charge) rfl dX4_charge_59 rfl ?_
        refine x_getN (q := 65) C (T := TX2) iw_X4_charge_X2 rfl 2 2 rfl (by decide) rfl (by decide +kernel : Cond.fieldLinkNest RX4 66 RX2 "area" "[I" RX4 ∈ xNest) rfl dX4_charge_62 rfl ?_
        refine x_iload (q := 67) C 0 rfl dX4_charge_65 rfl ?_
        refine x_ialdN (q := 68) C (j + 1) 3 (ar (j + 1)) rfl rfl (by omega) (by omega) rfl dX4_charge_67 rfl ?_
        refine x_iload_n (q := 69) C 3 rfl dX4_charge_68 rfl ?_
        refine x_CiP (q := 72) C [] [0, 1, 2, 3, 4, 5] (cx := []) (wr := [(go, .inr (4, [.ref no, .ref po, .ref mo, .ref gB, .int ph, .int lt, .int ll])), (gB, .inl (cy.1, 12, .inl (itr (gStep ht sv ar t 2) b j))), (no, .inr (2, [.ref nS, .ref nL, .ref nA, .ref nH, .ref nV, .ref nT, .ref nC, .ref nD, .int sl])), (nA, .inl (cy.1, 12, .inl ar)), (nV, .inl (cy.1, 12, .inl sv)), (nT, .inl (cy.2.1, 12, .inl ht))]) (st := []) rfl rfl rfl rfl (by decide) (fun H locs ls hP hPc hDc hS hFc hl => x_runS C (As := [.int (ar (j + 1)), .int t]) (c_X4_wantedHeat (ar (j + 1)) t) (va_cwS 2 C.2.2.2.2.2.1 gX4_charge_X4_wantedHeat rfl rfl rfl (by decide +kernel) ⟨Nat.le_of_ble_eq_true rfl, Nat.le_of_ble_eq_true rfl⟩) rfl rfl (Nat.le_of_ble_eq_true rfl) dX4_charge_69 ⟨Nat.le_of_ble_eq_true rfl, Nat.le_of_ble_eq_true rfl⟩ (fun h => absurd h (by decide)) hP hPc hDc hS hFc hl) (k := 0) (n := 0) rfl rfl rfl (fun r_69 w1 hw => ?_)
        obtain ⟨rfl, rfl⟩ := hw
        refine x_ord [0, 1, 2, 3, 4, 5] [(go, .inr (4, [.ref no, .ref po, .ref mo, .ref gB, .int ph, .int lt, .int ll])), (gB, .inl (cy.1, 12, .inl (itr (gStep ht sv ar t 2) b j))), (no, .inr (2, [.ref nS, .ref nL, .ref nA, .ref nH, .ref nV, .ref nT, .ref nC, .ref nD, .int sl])), (nA, .inl (cy.1, 12, .inl ar)), (nV, .inl (cy.1, 12, .inl sv)), (nT, .inl (cy.2.1, 12, .inl ht))] rfl rfl ?_
        refine x_if_le (q := 75) C 86 dX4_charge_72 (by decide) rfl (fun c_72 => ?_) (fun c_72 => ?_)
        · refine x_iinc (q := 89) C 0 (nI ((j + 1) + 1)) [(4, .int (nI ((j + 1) + 1))), (3, .int 2), (0, .ref go), (1, .int t)] dX4_charge_86 rfl (nI_1 _) (by decide) rfl rfl ?_
          refine x_goto C 13 dX4_charge_89 (by decide) ?_
          refine x_less [0, 1, 2, 3] [(4, .int (nI ((j + 1) + 1))), (3, .int 2), (0, .ref go), (1, .int t)] rfl ?_
          have e9 : itr (gStep ht sv ar t 2) b (j + 1) = itr (gStep ht sv ar t 2) b j := by
            show gStep ht sv ar t 2 j (itr (gStep ht sv ar t 2) b j) = _
            simp [gStep, c_1, c_30, c_72]
          refine x_less [0, 1, 2, 3] [(4, .int (nI ((j + 1) + 1))), (3, .int 2), (0, .ref go), (1, .int t)] (by first | rfl | (rw [e9]; rfl)) ?_
          refine x_world (X' := [(go, .inr (4, [.ref no, .ref po, .ref mo, .ref gB, .int ph, .int lt, .int ll])), (gB, .inl (cy.1, 12, .inl (itr (gStep ht sv ar t 2) b (j + 1)))), (no, .inr (2, [.ref nS, .ref nL, .ref nA, .ref nH, .ref nV, .ref nT, .ref nC, .ref nD, .int sl])), (nA, .inl (cy.1, 12, .inl ar)), (nV, .inl (cy.1, 12, .inl sv)), (nT, .inl (cy.2.1, 12, .inl ht))]) (pl' := []) (by first | rfl | rw [e9]) ?_
          exact ih_j
        · refine x_aload_n (q := 76) C 2 rfl dX4_charge_75 rfl ?_
          refine x_get (q := 79) C (T := TX4) iw_X4_charge_X4 rfl 0 3 rfl (by decide) rfl (by decide +kernel : Cond.fieldLink RX4 30 RX4 "billed" "[I" ∈ wsX4_charge) rfl dX4_charge_76 rfl ?_
          refine x_iload (q := 81) C 0 rfl dX4_charge_79 rfl ?_
          refine x_dup2 (q := 82) C rfl rfl dX4_charge_81 rfl ?_
          refine x_ialdN (q := 83) C (j + 1) 1 ((itr (gStep ht sv ar t 2) b j) (j + 1)) rfl rfl (by omega) (by omega) rfl dX4_charge_82 rfl ?_
          refine x_iconst (q := 84) C 3 rfl dX4_charge_83 rfl ?_
          refine x_isub (q := 85) C (((itr (gStep ht sv ar t 2) b j) (j + 1)) - 3) (rfl) dX4_charge_84 rfl ?_
          refine x_iastN (q := 86) C (j + 1) 1 (upd (itr (gStep ht sv ar t 2) b j) (j + 1) (((itr (gStep ht sv ar t 2) b j) (j + 1)) - 3)) [(go, .inr (4, [.ref no, .ref po, .ref mo, .ref gB, .int ph, .int lt, .int ll])), (gB, .inl (cy.1, 12, .inl (upd (itr (gStep ht sv ar t 2) b j) (j + 1) (((itr (gStep ht sv ar t 2) b j) (j + 1)) - 3)))), (no, .inr (2, [.ref nS, .ref nL, .ref nA, .ref nH, .ref nV, .ref nT, .ref nC, .ref nD, .int sl])), (nA, .inl (cy.1, 12, .inl ar)), (nV, .inl (cy.1, 12, .inl sv)), (nT, .inl (cy.2.1, 12, .inl ht))] rfl rfl (by omega) (by omega) rfl rfl dX4_charge_85 rfl ?_
          refine x_iinc (q := 89) C 0 (nI ((j + 1) + 1)) [(4, .int (nI ((j + 1) + 1))), (3, .int 2), (0, .ref go), (1, .int t)] dX4_charge_86 rfl (nI_1 _) (by decide) rfl rfl ?_
          refine x_goto C 13 dX4_charge_89 (by decide) ?_
          refine x_less [0, 1, 2, 3] [(4, .int (nI ((j + 1) + 1))), (3, .int 2), (0, .ref go), (1, .int t)] rfl ?_
          have e9 : itr (gStep ht sv ar t 2) b (j + 1) = upd (itr (gStep ht sv ar t 2) b j) (j + 1) (((itr (gStep ht sv ar t 2) b j) (j + 1)) - 3) := by
            show gStep ht sv ar t 2 j (itr (gStep ht sv ar t 2) b j) = _
            simp [gStep, c_1, c_30, c_72]
          refine x_less [0, 1, 2, 3] [(4, .int (nI ((j + 1) + 1))), (3, .int 2), (0, .ref go), (1, .int t)] (by first | rfl | (rw [e9]; rfl)) ?_
          refine x_world (X' := [(go, .inr (4, [.ref no, .ref po, .ref mo, .ref gB, .int ph, .int lt, .int ll])), (gB, .inl (cy.1, 12, .inl (itr (gStep ht sv ar t 2) b (j + 1)))), (no, .inr (2, [.ref nS, .ref nL, .ref nA, .ref nH, .ref nV, .ref nT, .ref nC, .ref nD, .int sl])), (nA, .inl (cy.1, 12, .inl ar)), (nV, .inl (cy.1, 12, .inl sv)), (nT, .inl (cy.2.1, 12, .inl ht))]) (pl' := []) (by first | rfl | rw [e9]) ?_
          exact ih_j
      · refine x_aload_n (q := 34) C 2 rfl dX4_charge_33 rfl ?_
        refine x_get (q := 37) C (T := TX4) iw_X4_charge_X4 rfl 0 3 rfl (by decide) rfl (by decide +kernel : Cond.fieldLink RX4 30 RX4 "billed" "[I" ∈ wsX4_charge) rfl dX4_charge_34 rfl ?_
        refine x_iload (q := 39) C 0 rfl dX4_charge_37 rfl ?_
        refine x_dup2 (q := 40) C rfl rfl dX4_charge_39 rfl ?_
        refine x_ialdN (q := 41) C (j + 1) 1 ((itr (gStep ht sv ar t 2) b j) (j + 1)) rfl rfl (by omega) (by omega) rfl dX4_charge_40 rfl ?_
        refine x_iload_n (q := 42) C 1 rfl dX4_charge_41 rfl ?_
        refine x_aload_n (q := 43) C 2 rfl dX4_charge_42 rfl ?_
        refine x_get (q := 46) C (T := TX4) iw_X4_charge_X4 rfl 0 0 rfl (by decide) rfl (by decide +kernel : Cond.fieldLink RX4 10 RX4 "net" "LHeatGuild$Net;" ∈ wsX4_charge) rfl dX4_charge_43 rfl ?_
        refine x_getN (q := 49) C (T := TX2) iw_X4_charge_X2 rfl 2 4 rfl (by decide) rfl (by decide +kernel : Cond.fieldLinkNest RX4 154 RX2 "served" "[I" RX4 ∈ xNest) rfl dX4_charge_46 rfl ?_
        refine x_iload (q := 51) C 0 rfl dX4_charge_49 rfl ?_
        refine x_ialdN (q := 52) C (j + 1) 4 (sv (j + 1)) rfl rfl (by omega) (by omega) rfl dX4_charge_51 rfl ?_
        refine x_imul (q := 53) C (2 * (sv (j + 1))) (rfl) dX4_charge_52 rfl ?_
        refine x_iadd (q := 54) C (((itr (gStep ht sv ar t 2) b j) (j + 1)) + (2 * (sv (j + 1)))) (rfl) dX4_charge_53 rfl ?_
        refine x_iastN (q := 55) C (j + 1) 1 (upd (itr (gStep ht sv ar t 2) b j) (j + 1) (((itr (gStep ht sv ar t 2) b j) (j + 1)) + (2 * (sv (j + 1))))) [(go, .inr (4, [.ref no, .ref po, .ref mo, .ref gB, .int ph, .int lt, .int ll])), (gB, .inl (cy.1, 12, .inl (upd (itr (gStep ht sv ar t 2) b j) (j + 1) (((itr (gStep ht sv ar t 2) b j) (j + 1)) + (2 * (sv (j + 1))))))), (no, .inr (2, [.ref nS, .ref nL, .ref nA, .ref nH, .ref nV, .ref nT, .ref nC, .ref nD, .int sl])), (nA, .inl (cy.1, 12, .inl ar)), (nV, .inl (cy.1, 12, .inl sv)), (nT, .inl (cy.2.1, 12, .inl ht))] rfl rfl (by omega) (by omega) rfl rfl dX4_charge_54 rfl ?_
        refine x_goto C 86 dX4_charge_55 (by decide) ?_
        refine x_iinc (q := 89) C 0 (nI ((j + 1) + 1)) [(4, .int (nI ((j + 1) + 1))), (3, .int 2), (0, .ref go), (1, .int t)] dX4_charge_86 rfl (nI_1 _) (by decide) rfl rfl ?_
        refine x_goto C 13 dX4_charge_89 (by decide) ?_
        refine x_less [0, 1, 2, 3] [(4, .int (nI ((j + 1) + 1))), (3, .int 2), (0, .ref go), (1, .int t)] rfl ?_
        have e9 : itr (gStep ht sv ar t 2) b (j + 1) = upd (itr (gStep ht sv ar t 2) b j) (j + 1) (((itr (gStep ht sv ar t 2) b j) (j + 1)) + (2 * (sv (j + 1)))) := by
          show gStep ht sv ar t 2 j (itr (gStep ht sv ar t 2) b j) = _
          simp [gStep, c_1, c_30]
        refine x_less [0, 1, 2, 3] [(4, .int (nI ((j + 1) + 1))), (3, .int 2), (0, .ref go), (1, .int t)] (by first | rfl | (rw [e9]; rfl)) ?_
        refine x_world (X' := [(go, .inr (4, [.ref no, .ref po, .ref mo, .ref gB, .int ph, .int lt, .int ll])), (gB, .inl (cy.1, 12, .inl (itr (gStep ht sv ar t 2) b (j + 1)))), (no, .inr (2, [.ref nS, .ref nL, .ref nA, .ref nH, .ref nV, .ref nT, .ref nC, .ref nD, .int sl])), (nA, .inl (cy.1, 12, .inl ar)), (nV, .inl (cy.1, 12, .inl sv)), (nT, .inl (cy.2.1, 12, .inl ht))]) (pl' := []) (by first | rfl | rw [e9]) ?_
        exact ih_j
    · refine x_iload (q := 15) C 0 rfl dX4_charge_13 rfl ?_
      refine x_bipush (q := 17) C 12 rfl dX4_charge_15 rfl ?_
      refine x_icmp_ge_t C 92 dX4_charge_17 (by decide) (nI_le (a := 12) (b := (11 + 1)) (by omega) (by omega)) ?_
      exact x_vret C rfl (by simp [gFun, c_1]) dX4_charge_92 (Nat.le_of_ble_eq_true rfl) (Nat.le_of_ble_eq_true rfl)
  · refine x_iconst (q := 5) C 3 rfl dX4_charge_4 rfl ?_
    refine x_goto C 9 dX4_charge_5 (by decide) ?_
    refine x_istore_n (q := 10) C [(3, .int 3), (0, .ref go), (1, .int t), (2, .int pk)] dX4_charge_9 (by decide) rfl rfl ?_
    refine x_iconst (q := 11) C 1 rfl dX4_charge_10 rfl ?_
    refine x_istore (q := 13) C [(4, .int 1), (3, .int 3), (0, .ref go), (1, .int t), (2, .int pk)] dX4_charge_11 (by decide) rfl rfl ?_
    refine x_less [0, 1, 2, 3] [(4, .int 1), (3, .int 3), (0, .ref go), (1, .int t)] rfl ?_
    refine x_up (fun j => [(go, .inr (4, [.ref no, .ref po, .ref mo, .ref gB, .int ph, .int lt, .int ll])), (gB, .inl (cy.1, 12, .inl (itr (gStep ht sv ar t 3) b j))), (no, .inr (2, [.ref nS, .ref nL, .ref nA, .ref nH, .ref nV, .ref nT, .ref nC, .ref nD, .int sl])), (nA, .inl (cy.1, 12, .inl ar)), (nV, .inl (cy.1, 12, .inl sv)), (nT, .inl (cy.2.1, 12, .inl ht))]) (fun j => [(4, .int (nI (j + 1))), (3, .int 3), (0, .ref go), (1, .int t)]) 11 rfl rfl (fun j h_j ih_j => ?_) ?_
    · refine x_iload (q := 15) C 0 rfl dX4_charge_13 rfl ?_
      refine x_bipush (q := 17) C 12 rfl dX4_charge_15 rfl ?_
      refine x_icmp_ge_f (q := 20) C 92 dX4_charge_17 (by decide) rfl (nI_ge (a := (j + 1)) (b := 12) (by omega) (by omega)) ?_
      refine x_aload_n (q := 21) C 2 rfl dX4_charge_20 rfl ?_
      refine x_get (q := 24) C (T := TX4) iw_X4_charge_X4 rfl 0 0 rfl (by decide) rfl (by decide +kernel : Cond.fieldLink RX4 10 RX4 "net" "LHeatGuild$Net;" ∈ wsX4_charge) rfl dX4_charge_21 rfl ?_
      refine x_getN (q := 27) C (T := TX2) iw_X4_charge_X2 rfl 2 5 rfl (by decide) rfl (by decide +kernel : Cond.fieldLinkNest RX4 167 RX2 "heated" "[Z" RX4 ∈ xNest) rfl dX4_charge_24 rfl ?_
      refine x_iload (q := 29) C 0 rfl dX4_charge_27 rfl ?_
      refine x_zaldN (q := 30) C (j + 1) 5 (ht (j + 1)) rfl rfl (by omega) (by omega) rfl dX4_charge_29 rfl ?_
      refine x_if_eq (q := 33) C 58 dX4_charge_30 (by decide) rfl (fun c_30 => ?_) (fun c_30 => ?_)
      · refine x_aload_n (q := 59) C 2 rfl dX4_charge_58 rfl ?_
        refine x_get (q := 62) C (T := TX4) iw_X4_charge_X4 rfl 0 0 rfl (by decide) rfl (by decide +kernel : Cond.fieldLink RX4 10 RX4 "net" "LHeatGuild$Net;" ∈ wsX4_charge) rfl dX4_charge_59 rfl ?_
        refine x_getN (q := 65) C (T := TX2) iw_X4_charge_X2 rfl 2 2 rfl (by decide) rfl (by decide +kernel : Cond.fieldLinkNest RX4 66 RX2 "area" "[I" RX4 ∈ xNest) rfl dX4_charge_62 rfl ?_
        refine x_iload (q := 67) C 0 rfl dX4_charge_65 rfl ?_
        refine x_ialdN (q := 68) C (j + 1) 3 (ar (j + 1)) rfl rfl (by omega) (by omega) rfl dX4_charge_67 rfl ?_
        refine x_iload_n (q := 69) C 3 rfl dX4_charge_68 rfl ?_
        refine x_CiP (q := 72) C [] [0, 1, 2, 3, 4, 5] (cx := []) (wr := [(go, .inr (4, [.ref no, .ref po, .ref mo, .ref gB, .int ph, .int lt, .int ll])), (gB, .inl (cy.1, 12, .inl (itr (gStep ht sv ar t 3) b j))), (no, .inr (2, [.ref nS, .ref nL, .ref nA, .ref nH, .ref nV, .ref nT, .ref nC, .ref nD, .int sl])), (nA, .inl (cy.1, 12, .inl ar)), (nV, .inl (cy.1, 12, .inl sv)), (nT, .inl (cy.2.1, 12, .inl ht))]) (st := []) rfl rfl rfl rfl (by decide) (fun H locs ls hP hPc hDc hS hFc hl => x_runS C (As := [.int (ar (j + 1)), .int t]) (c_X4_wantedHeat (ar (j + 1)) t) (va_cwS 2 C.2.2.2.2.2.1 gX4_charge_X4_wantedHeat rfl rfl rfl (by decide +kernel) ⟨Nat.le_of_ble_eq_true rfl, Nat.le_of_ble_eq_true rfl⟩) rfl rfl (Nat.le_of_ble_eq_true rfl) dX4_charge_69 ⟨Nat.le_of_ble_eq_true rfl, Nat.le_of_ble_eq_true rfl⟩ (fun h => absurd h (by decide)) hP hPc hDc hS hFc hl) (k := 0) (n := 0) rfl rfl rfl (fun r_69 w1 hw => ?_)
        obtain ⟨rfl, rfl⟩ := hw
        refine x_ord [0, 1, 2, 3, 4, 5] [(go, .inr (4, [.ref no, .ref po, .ref mo, .ref gB, .int ph, .int lt, .int ll])), (gB, .inl (cy.1, 12, .inl (itr (gStep ht sv ar t 3) b j))), (no, .inr (2, [.ref nS, .ref nL, .ref nA, .ref nH, .ref nV, .ref nT, .ref nC, .ref nD, .int sl])), (nA, .inl (cy.1, 12, .inl ar)), (nV, .inl (cy.1, 12, .inl sv)), (nT, .inl (cy.2.1, 12, .inl ht))] rfl rfl ?_
        refine x_if_le (q := 75) C 86 dX4_charge_72 (by decide) rfl (fun c_72 => ?_) (fun c_72 => ?_)
        · refine x_iinc (q := 89) C 0 (nI ((j + 1) + 1)) [(4, .int (nI ((j + 1) + 1))), (3, .int 3), (0, .ref go), (1, .int t)] dX4_charge_86 rfl (nI_1 _) (by decide) rfl rfl ?_
          refine x_goto C 13 dX4_charge_89 (by decide) ?_
          refine x_less [0, 1, 2, 3] [(4, .int (nI ((j + 1) + 1))), (3, .int 3), (0, .ref go), (1, .int t)] rfl ?_
          have e9 : itr (gStep ht sv ar t 3) b (j + 1) = itr (gStep ht sv ar t 3) b j := by
            show gStep ht sv ar t 3 j (itr (gStep ht sv ar t 3) b j) = _
            simp [gStep, c_1, c_30, c_72]
          refine x_less [0, 1, 2, 3] [(4, .int (nI ((j + 1) + 1))), (3, .int 3), (0, .ref go), (1, .int t)] (by first | rfl | (rw [e9]; rfl)) ?_
          refine x_world (X' := [(go, .inr (4, [.ref no, .ref po, .ref mo, .ref gB, .int ph, .int lt, .int ll])), (gB, .inl (cy.1, 12, .inl (itr (gStep ht sv ar t 3) b (j + 1)))), (no, .inr (2, [.ref nS, .ref nL, .ref nA, .ref nH, .ref nV, .ref nT, .ref nC, .ref nD, .int sl])), (nA, .inl (cy.1, 12, .inl ar)), (nV, .inl (cy.1, 12, .inl sv)), (nT, .inl (cy.2.1, 12, .inl ht))]) (pl' := []) (by first | rfl | rw [e9]) ?_
          exact ih_j
        · refine x_aload_n (q := 76) C 2 rfl dX4_charge_75 rfl ?_
          refine x_get (q := 79) C (T := TX4) iw_X4_charge_X4 rfl 0 3 rfl (by decide) rfl (by decide +kernel : Cond.fieldLink RX4 30 RX4 "billed" "[I" ∈ wsX4_charge) rfl dX4_charge_76 rfl ?_
          refine x_iload (q := 81) C 0 rfl dX4_charge_79 rfl ?_
          refine x_dup2 (q := 82) C rfl rfl dX4_charge_81 rfl ?_
          refine x_ialdN (q := 83) C (j + 1) 1 ((itr (gStep ht sv ar t 3) b j) (j + 1)) rfl rfl (by omega) (by omega) rfl dX4_charge_82 rfl ?_
          refine x_iconst (q := 84) C 3 rfl dX4_charge_83 rfl ?_
          refine x_isub (q := 85) C (((itr (gStep ht sv ar t 3) b j) (j + 1)) - 3) (rfl) dX4_charge_84 rfl ?_
          refine x_iastN (q := 86) C (j + 1) 1 (upd (itr (gStep ht sv ar t 3) b j) (j + 1) (((itr (gStep ht sv ar t 3) b j) (j + 1)) - 3)) [(go, .inr (4, [.ref no, .ref po, .ref mo, .ref gB, .int ph, .int lt, .int ll])), (gB, .inl (cy.1, 12, .inl (upd (itr (gStep ht sv ar t 3) b j) (j + 1) (((itr (gStep ht sv ar t 3) b j) (j + 1)) - 3)))), (no, .inr (2, [.ref nS, .ref nL, .ref nA, .ref nH, .ref nV, .ref nT, .ref nC, .ref nD, .int sl])), (nA, .inl (cy.1, 12, .inl ar)), (nV, .inl (cy.1, 12, .inl sv)), (nT, .inl (cy.2.1, 12, .inl ht))] rfl rfl (by omega) (by omega) rfl rfl dX4_charge_85 rfl ?_
          refine x_iinc (q := 89) C 0 (nI ((j + 1) + 1)) [(4, .int (nI ((j + 1) + 1))), (3, .int 3), (0, .ref go), (1, .int t)] dX4_charge_86 rfl (nI_1 _) (by decide) rfl rfl ?_
          refine x_goto C 13 dX4_charge_89 (by decide) ?_
          refine x_less [0, 1, 2, 3] [(4, .int (nI ((j + 1) + 1))), (3, .int 3), (0, .ref go), (1, .int t)] rfl ?_
          have e9 : itr (gStep ht sv ar t 3) b (j + 1) = upd (itr (gStep ht sv ar t 3) b j) (j + 1) (((itr (gStep ht sv ar t 3) b j) (j + 1)) - 3) := by
            show gStep ht sv ar t 3 j (itr (gStep ht sv ar t 3) b j) = _
            simp [gStep, c_1, c_30, c_72]
          refine x_less [0, 1, 2, 3] [(4, .int (nI ((j + 1) + 1))), (3, .int 3), (0, .ref go), (1, .int t)] (by first | rfl | (rw [e9]; rfl)) ?_
          refine x_world (X' := [(go, .inr (4, [.ref no, .ref po, .ref mo, .ref gB, .int ph, .int lt, .int ll])), (gB, .inl (cy.1, 12, .inl (itr (gStep ht sv ar t 3) b (j + 1)))), (no, .inr (2, [.ref nS, .ref nL, .ref nA, .ref nH, .ref nV, .ref nT, .ref nC, .ref nD, .int sl])), (nA, .inl (cy.1, 12, .inl ar)), (nV, .inl (cy.1, 12, .inl sv)), (nT, .inl (cy.2.1, 12, .inl ht))]) (pl' := []) (by first | rfl | rw [e9]) ?_
          exact ih_j
      · refine x_aload_n (q := 34) C 2 rfl dX4_charge_33 rfl ?_
        refine x_get (q := 37) C (T := TX4) iw_X4_charge_X4 rfl 0 3 rfl (by decide) rfl (by decide +kernel : Cond.fieldLink RX4 30 RX4 "billed" "[I" ∈ wsX4_charge) rfl dX4_charge_34 rfl ?_
        refine x_iload (q := 39) C 0 rfl dX4_charge_37 rfl ?_
        refine x_dup2 (q := 40) C rfl rfl dX4_charge_39 rfl ?_
        refine x_ialdN (q := 41) C (j + 1) 1 ((itr (gStep ht sv ar t 3) b j) (j + 1)) rfl rfl (by omega) (by omega) rfl dX4_charge_40 rfl ?_
        refine x_iload_n (q := 42) C 1 rfl dX4_charge_41 rfl ?_
        refine x_aload_n (q := 43) C 2 rfl dX4_charge_42 rfl ?_
        refine x_get (q := 46) C (T := TX4) iw_X4_charge_X4 rfl 0 0 rfl (by decide) rfl (by decide +kernel : Cond.fieldLink RX4 10 RX4 "net" "LHeatGuild$Net;" ∈ wsX4_charge) rfl dX4_charge_43 rfl ?_
        refine x_getN (q := 49) C (T := TX2) iw_X4_charge_X2 rfl 2 4 rfl (by decide) rfl (by decide +kernel : Cond.fieldLinkNest RX4 154 RX2 "served" "[I" RX4 ∈ xNest) rfl dX4_charge_46 rfl ?_
        refine x_iload (q := 51) C 0 rfl dX4_charge_49 rfl ?_
        refine x_ialdN (q := 52) C (j + 1) 4 (sv (j + 1)) rfl rfl (by omega) (by omega) rfl dX4_charge_51 rfl ?_
        refine x_imul (q := 53) C (3 * (sv (j + 1))) (rfl) dX4_charge_52 rfl ?_
        refine x_iadd (q := 54) C (((itr (gStep ht sv ar t 3) b j) (j + 1)) + (3 * (sv (j + 1)))) (rfl) dX4_charge_53 rfl ?_
        refine x_iastN (q := 55) C (j + 1) 1 (upd (itr (gStep ht sv ar t 3) b j) (j + 1) (((itr (gStep ht sv ar t 3) b j) (j + 1)) + (3 * (sv (j + 1))))) [(go, .inr (4, [.ref no, .ref po, .ref mo, .ref gB, .int ph, .int lt, .int ll])), (gB, .inl (cy.1, 12, .inl (upd (itr (gStep ht sv ar t 3) b j) (j + 1) (((itr (gStep ht sv ar t 3) b j) (j + 1)) + (3 * (sv (j + 1))))))), (no, .inr (2, [.ref nS, .ref nL, .ref nA, .ref nH, .ref nV, .ref nT, .ref nC, .ref nD, .int sl])), (nA, .inl (cy.1, 12, .inl ar)), (nV, .inl (cy.1, 12, .inl sv)), (nT, .inl (cy.2.1, 12, .inl ht))] rfl rfl (by omega) (by omega) rfl rfl dX4_charge_54 rfl ?_
        refine x_goto C 86 dX4_charge_55 (by decide) ?_
        refine x_iinc (q := 89) C 0 (nI ((j + 1) + 1)) [(4, .int (nI ((j + 1) + 1))), (3, .int 3), (0, .ref go), (1, .int t)] dX4_charge_86 rfl (nI_1 _) (by decide) rfl rfl ?_
        refine x_goto C 13 dX4_charge_89 (by decide) ?_
        refine x_less [0, 1, 2, 3] [(4, .int (nI ((j + 1) + 1))), (3, .int 3), (0, .ref go), (1, .int t)] rfl ?_
        have e9 : itr (gStep ht sv ar t 3) b (j + 1) = upd (itr (gStep ht sv ar t 3) b j) (j + 1) (((itr (gStep ht sv ar t 3) b j) (j + 1)) + (3 * (sv (j + 1)))) := by
          show gStep ht sv ar t 3 j (itr (gStep ht sv ar t 3) b j) = _
          simp [gStep, c_1, c_30]
        refine x_less [0, 1, 2, 3] [(4, .int (nI ((j + 1) + 1))), (3, .int 3), (0, .ref go), (1, .int t)] (by first | rfl | (rw [e9]; rfl)) ?_
        refine x_world (X' := [(go, .inr (4, [.ref no, .ref po, .ref mo, .ref gB, .int ph, .int lt, .int ll])), (gB, .inl (cy.1, 12, .inl (itr (gStep ht sv ar t 3) b (j + 1)))), (no, .inr (2, [.ref nS, .ref nL, .ref nA, .ref nH, .ref nV, .ref nT, .ref nC, .ref nD, .int sl])), (nA, .inl (cy.1, 12, .inl ar)), (nV, .inl (cy.1, 12, .inl sv)), (nT, .inl (cy.2.1, 12, .inl ht))]) (pl' := []) (by first | rfl | rw [e9]) ?_
        exact ih_j
    · refine x_iload (q := 15) C 0 rfl dX4_charge_13 rfl ?_
      refine x_bipush (q := 17) C 12 rfl dX4_charge_15 rfl ?_
      refine x_icmp_ge_t C 92 dX4_charge_17 (by decide) (nI_le (a := 12) (b := (11 + 1)) (by omega) (by omega)) ?_
      exact x_vret C rfl (by simp [gFun, c_1]) dX4_charge_92 (Nat.le_of_ble_eq_true rfl) (Nat.le_of_ble_eq_true rfl)
end
section
/-! the chain of boilers: rows -/
def addNx (nx : Nat → Option Nat) (n : Nat) (fst : Option Nat) : Option Nat → (Nat → Option Nat)
  | none => va_up nx n fst
  | some b => va_up (va_up nx n (nx b)) b (some n)
def addFst (n : Nat) (fst : Option Nat) : Option Nat → Option Nat
  | none => some n
  | some _ => fst
theorem lfb_mem {cst : Nat → Int32} {p : Int32} : ∀ {ord : List Nat} {last : Option Nat} {b : Nat}, lfb cst p last ord = some b → last = some b ∨ b ∈ ord := by
  intro ord
  induction ord with
  | nil => intro last b h; exact Or.inl h
  | cons k ks ih =>
    intro last b h
    simp only [lfb] at h
    split at h
    · exact Or.inl h
    · rcases ih h with h1 | h1
      · cases h1; exact Or.inr List.mem_cons_self
      · exact Or.inr (List.mem_cons_of_mem _ h1)
theorem bl_push {X : va_W} {ad ad' : Nat → Nat} {stp pow cst frd stp' pow' cst' frd' : Nat → Int32} {nx nx' : Nat → Option Nat} {n : Nat} {q : Nat × va_E} (hq : q = bcell ad' stp' pow' cst' frd' nx' n) (h : ∀ k, k < n → bcell ad stp pow cst frd nx k = bcell ad' stp' pow' cst' frd' nx' k) : ((X ++ [q]) ++ bl ad stp pow cst frd nx n).Perm (X ++ bl ad' stp' pow' cst' frd' nx' (n + 1)) := by
  rw [bl_congr h, hq, List.append_assoc]
  refine List.Perm.append_left X ?_
  rw [show bl ad' stp' pow' cst' frd' nx' (n + 1) = bl ad' stp' pow' cst' frd' nx' n ++ [bcell ad' stp' pow' cst' frd' nx' n] by simp [bl, List.range_succ]]
  exact List.perm_append_comm
theorem bl_push2 {X : va_W} {ad ad' : Nat → Nat} {stp pow cst frd stp' pow' cst' frd' : Nat → Int32} {nx nx' : Nat → Option Nat} {n b : Nat} {q1 q2 : Nat × va_E} (hb : b < n) (hq1 : q1 = bcell ad' stp' pow' cst' frd' nx' n) (hq2 : q2 = bcell ad' stp' pow' cst' frd' nx' b) (h : ∀ k, k < n → k ≠ b → bcell ad stp pow cst frd nx k = bcell ad' stp' pow' cst' frd' nx' k) : ((X ++ [q1, q2]) ++ blr ad stp pow cst frd nx n b).Perm (X ++ bl ad' stp' pow' cst' frd' nx' (n + 1)) := by
  have e : blr ad stp pow cst frd nx n b = blr ad' stp' pow' cst' frd' nx' n b := by
    refine List.map_congr_left (fun j hj => ?_)
    obtain ⟨hne, hm⟩ := (List.nodup_range).mem_erase_iff.mp hj
    exact h j (List.mem_range.mp hm) hne
  rw [e, hq1, hq2]
  have h1 : (X ++ [bcell ad' stp' pow' cst' frd' nx' n, bcell ad' stp' pow' cst' frd' nx' b]) ++ blr ad' stp' pow' cst' frd' nx' n b = (X ++ [bcell ad' stp' pow' cst' frd' nx' n]) ++ ([bcell ad' stp' pow' cst' frd' nx' b] ++ blr ad' stp' pow' cst' frd' nx' n b) := by simp
  rw [h1]
  refine (List.Perm.append_left _ ?_).trans (bl_push rfl (fun _ _ => rfl))
  exact (bl_out (X := []) hb).symm
theorem map_up {ad : Nat → Nat} {n o : Nat} {r : Option Nat} (h : ∀ j, r = some j → j < n) : r.map (va_up ad n o) = r.map ad := by
  cases r with
  | none => rfl
  | some j => simp [va_up, Nat.ne_of_lt (h j rfl)]
theorem add_cell {ad : Nat → Nat} {stp pow cst frd : Nat → Int32} {nx nx' : Nat → Option Nat} {n o k : Nat} {a b c : Int32} (hk : k < n) (hn : nx' k = nx k) (hx : ∀ j, nx k = some j → j < n) : bcell ad stp pow cst frd nx k = bcell (va_up ad n o) (va_up stp n a) (va_up pow n b) (va_up cst n c) (va_up frd n 0) nx' k := by
  have hne : k ≠ n := by omega
  simp [bcell, va_up, hne, hn, ← map_up (ad := ad) (o := o) hx]
end
section
theorem iw_X0_init_X0 : ∀ w ∈ wsX00, w ∈ wsX0_init := by decide +kernel
set_option maxHeartbeats 4000000 in
set_option maxRecDepth 100000 in
/-- Boiler(..) -/
theorem c_X0_init {l : Launch} {D : va_G} {cy : ClassId × ClassId × ClassId} (o : Nat) (nu st po pr : Int32) : xM false l yX0_init wsX0_init ({ frames := 1, cells := 0, slots := 0, locals := 12 }) D cy [.ref o, .int nu, .int st, .int po, .int pr] ([(o, .inr (0, [.int 0, .int 0, .int 0, .int 0, .int 0, .null]))]) (xQv D (fun w => w = [(o, .inr (0, [.int nu, .int st, .int po, .int pr, .int 0, .null]))])) 0 0 := by
  refine xM_of (X := [(o, .inr (0, [.int 0, .int 0, .int 0, .int 0, .int 0, .null]))]) (pl := []) (nL := 5) (ret := none) RX0 [(0, .ref o), (1, .int nu), (2, .int st), (3, .int po), (4, .int pr)] (by decide +kernel) rfl rfl rfl (Nat.le_of_ble_eq_true rfl) (List.append_nil _).symm (fun p e s m args below meth c A C hname hT hZ => ?_)
  refine x_aload_n (q := 1) C 0 rfl dX0_init_0 rfl ?_
  refine x_objInit (q := 4) C (by decide +kernel : Cond.methodLink RX0 1 Lib.objectInit ∈ wsX0_init) (by decide +kernel) (by decide +kernel) dX0_init_1 (Nat.le_of_ble_eq_true rfl) (Nat.le_of_ble_eq_true rfl) rfl ?_
  refine x_aload_n (q := 5) C 0 rfl dX0_init_4 rfl ?_
  refine x_iload_n (q := 6) C 1 rfl dX0_init_5 rfl ?_
  refine x_putF (q := 9) C (T := TX0) iw_X0_init_X0 tyX0 tyX0_ok nmX0 rfl 0 0 [(o, .inr (0, [.int nu, .int 0, .int 0, .int 0, .int 0, .null]))] rfl rfl (by decide) rfl (by decide +kernel : Cond.fieldLink RX0 7 RX0 "number" "I" ∈ wsX0_init) rfl hname rfl .int (by decide +kernel) rfl rfl (Nat.le_of_ble_eq_true rfl) dX0_init_6 rfl ?_
  refine x_aload_n (q := 10) C 0 rfl dX0_init_9 rfl ?_
  refine x_iload_n (q := 11) C 2 rfl dX0_init_10 rfl ?_
  refine x_putF (q := 14) C (T := TX0) iw_X0_init_X0 tyX0 tyX0_ok nmX0 rfl 0 1 [(o, .inr (0, [.int nu, .int st, .int 0, .int 0, .int 0, .null]))] rfl rfl (by decide) rfl (by decide +kernel : Cond.fieldLink RX0 13 RX0 "steps" "I" ∈ wsX0_init) rfl hname rfl .int (by decide +kernel) rfl rfl (Nat.le_of_ble_eq_true rfl) dX0_init_11 rfl ?_
  refine x_aload_n (q := 15) C 0 rfl dX0_init_14 rfl ?_
  refine x_iload_n (q := 16) C 3 rfl dX0_init_15 rfl ?_
  refine x_putF (q := 19) C (T := TX0) iw_X0_init_X0 tyX0 tyX0_ok nmX0 rfl 0 2 [(o, .inr (0, [.int nu, .int st, .int po, .int 0, .int 0, .null]))] rfl rfl (by decide) rfl (by decide +kernel : Cond.fieldLink RX0 16 RX0 "power" "I" ∈ wsX0_init) rfl hname rfl .int (by decide +kernel) rfl rfl (Nat.le_of_ble_eq_true rfl) dX0_init_16 rfl ?_
  refine x_aload_n (q := 20) C 0 rfl dX0_init_19 rfl ?_
  refine x_iload (q := 22) C 4 rfl dX0_init_20 rfl ?_
  refine x_putF (q := 25) C (T := TX0) iw_X0_init_X0 tyX0 tyX0_ok nmX0 rfl 0 3 [(o, .inr (0, [.int nu, .int st, .int po, .int pr, .int 0, .null]))] rfl rfl (by decide) rfl (by decide +kernel : Cond.fieldLink RX0 19 RX0 "price" "I" ∈ wsX0_init) rfl hname rfl .int (by decide +kernel) rfl rfl (Nat.le_of_ble_eq_true rfl) dX0_init_22 rfl ?_
  exact x_vret C rfl (rfl) dX0_init_25 (Nat.le_of_ble_eq_true rfl) (Nat.le_of_ble_eq_true rfl)

theorem iw_X0_fireFor_X0 : ∀ w ∈ wsX00, w ∈ wsX0_fireFor := by decide +kernel
set_option maxHeartbeats 4000000 in
set_option maxRecDepth 100000 in
/-- Boiler.fireFor -/
theorem c_X0_fireFor {l : Launch} {D : va_G} {cy : ClassId × ClassId × ClassId} (o : Nat) (nu stp pow pr f0 w : Int32) (nx : Option Nat) (hst : stp ≤ 5) : xM false l yX0_fireFor wsX0_fireFor ({ frames := 1, cells := 0, slots := 0, locals := 13 }) D cy [.ref o, .int w] ([(o, .inr (0, [.int nu, .int stp, .int pow, .int pr, .int f0, va_rf nx]))]) (xQi D (fun r w1 => r = pUsed stp pow w ∧ w1 = [(o, .inr (0, [.int nu, .int stp, .int pow, .int pr, .int (pFire stp pow w), va_rf nx]))])) 0 0 := by
  refine xM_of (X := [(o, .inr (0, [.int nu, .int stp, .int pow, .int pr, .int f0, va_rf nx]))]) (pl := []) (nL := 2) (ret := (some .int)) RX0 [(0, .ref o), (1, .int w)] (by decide +kernel) rfl rfl rfl (Nat.le_of_ble_eq_true rfl) (List.append_nil _).symm (fun p e s m args below meth c A C hname hT hZ => ?_)
  refine x_aload_n (q := 1) C 0 rfl dX0_fireFor_0 rfl ?_
  refine x_iconst (q := 2) C 0 rfl dX0_fireFor_1 rfl ?_
  refine x_put (q := 5) C (T := TX0) iw_X0_fireFor_X0 tyX0 tyX0_ok nmX0 rfl 0 4 [(o, .inr (0, [.int nu, .int stp, .int pow, .int pr, .int 0, va_rf nx]))] rfl rfl (by decide) rfl (by decide +kernel : Cond.fieldLink RX0 22 RX0 "firedSteps" "I" ∈ wsX0_fireFor) rfl .int (by decide +kernel) rfl rfl (Nat.le_of_ble_eq_true rfl) dX0_fireFor_2 rfl ?_
  refine x_rec (fun i : Nat => 6 - i) (fun i => i ≤ 5 ∧ pf stp pow w (6 - i) (nI i) = pFire stp pow w) (fun i => [(o, .inr (0, [.int nu, .int stp, .int pow, .int pr, .int (nI i), va_rf nx]))]) (fun _ => []) (fun _ => [(0, .ref o), (1, .int w)]) 0 rfl rfl rfl ⟨by omega, rfl⟩ (fun i hI ih => ?_)
  refine x_aload_n (q := 6) C 0 rfl dX0_fireFor_5 rfl ?_
  refine x_get (q := 9) C (T := TX0) iw_X0_fireFor_X0 rfl 0 4 rfl (by decide) rfl (by decide +kernel : Cond.fieldLink RX0 22 RX0 "firedSteps" "I" ∈ wsX0_fireFor) rfl dX0_fireFor_6 rfl ?_
  refine x_aload_n (q := 10) C 0 rfl dX0_fireFor_9 rfl ?_
  refine x_get (q := 13) C (T := TX0) iw_X0_fireFor_X0 rfl 0 1 rfl (by decide) rfl (by decide +kernel : Cond.fieldLink RX0 13 RX0 "steps" "I" ∈ wsX0_fireFor) rfl dX0_fireFor_10 rfl ?_
  refine x_icmp_ge (q := 16) C 42 dX0_fireFor_13 (by decide) rfl (fun c_13 => ?_) (fun c_13 => ?_)
  · have e9 : nI i = pFire stp pow w := by have h9 := hI.2; have h1 := hI.1; rw [show 6 - i = (6 - (i + 1)) + 1 by omega, pf, if_pos c_13] at h9; exact h9
    refine x_world (X' := [(o, .inr (0, [.int nu, .int stp, .int pow, .int pr, .int (pFire stp pow w), va_rf nx]))]) (pl' := []) (by rw [e9]) ?_
    refine x_iload_n (q := 43) C 1 rfl dX0_fireFor_42 rfl ?_
    refine x_aload_n (q := 44) C 0 rfl dX0_fireFor_43 rfl ?_
    refine x_get (q := 47) C (T := TX0) iw_X0_fireFor_X0 rfl 0 4 rfl (by decide) rfl (by decide +kernel : Cond.fieldLink RX0 22 RX0 "firedSteps" "I" ∈ wsX0_fireFor) rfl dX0_fireFor_44 rfl ?_
    refine x_aload_n (q := 48) C 0 rfl dX0_fireFor_47 rfl ?_
    refine x_get (q := 51) C (T := TX0) iw_X0_fireFor_X0 rfl 0 2 rfl (by decide) rfl (by decide +kernel : Cond.fieldLink RX0 16 RX0 "power" "I" ∈ wsX0_fireFor) rfl dX0_fireFor_48 rfl ?_
    refine x_imul (q := 52) C ((pFire stp pow w) * pow) (rfl) dX0_fireFor_51 rfl ?_
    refine x_mmin (q := 55) C (pUsed stp pow w) rfl (by decide +kernel : Cond.methodLink RX0 25 Lib.Math.min.name ∈ wsX0_fireFor) (by decide +kernel) (by decide +kernel) (by decide +kernel) (Nat.le_of_ble_eq_true rfl) (Nat.le_of_ble_eq_true rfl) (Nat.le_of_ble_eq_true rfl) (Nat.le_of_ble_eq_true rfl) dX0_fireFor_52 rfl ?_
    exact x_iret C .int rfl rfl (⟨rfl, rfl⟩) dX0_fireFor_55 (Nat.le_of_ble_eq_true rfl) (Nat.le_of_ble_eq_true rfl)
  · refine x_aload_n (q := 17) C 0 rfl dX0_fireFor_16 rfl ?_
    refine x_get (q := 20) C (T := TX0) iw_X0_fireFor_X0 rfl 0 4 rfl (by decide) rfl (by decide +kernel : Cond.fieldLink RX0 22 RX0 "firedSteps" "I" ∈ wsX0_fireFor) rfl dX0_fireFor_17 rfl ?_
    refine x_aload_n (q := 21) C 0 rfl dX0_fireFor_20 rfl ?_
    refine x_get (q := 24) C (T := TX0) iw_X0_fireFor_X0 rfl 0 2 rfl (by decide) rfl (by decide +kernel : Cond.fieldLink RX0 16 RX0 "power" "I" ∈ wsX0_fireFor) rfl dX0_fireFor_21 rfl ?_
    refine x_imul (q := 25) C ((nI i) * pow) (rfl) dX0_fireFor_24 rfl ?_
    refine x_iload_n (q := 26) C 1 rfl dX0_fireFor_25 rfl ?_
    refine x_icmp_ge (q := 29) C 42 dX0_fireFor_26 (by decide) rfl (fun c_26 => ?_) (fun c_26 => ?_)
    · have e9 : nI i = pFire stp pow w := by have h9 := hI.2; have h1 := hI.1; rw [show 6 - i = (6 - (i + 1)) + 1 by omega, pf, if_neg c_13, if_pos c_26] at h9; exact h9
      refine x_world (X' := [(o, .inr (0, [.int nu, .int stp, .int pow, .int pr, .int (pFire stp pow w), va_rf nx]))]) (pl' := []) (by rw [e9]) ?_
      refine x_iload_n (q := 43) C 1 rfl dX0_fireFor_42 rfl ?_
      refine x_aload_n (q := 44) C 0 rfl dX0_fireFor_43 rfl ?_
      refine x_get (q := 47) C (T := TX0) iw_X0_fireFor_X0 rfl 0 4 rfl (by decide) rfl (by decide +kernel : Cond.fieldLink RX0 22 RX0 "firedSteps" "I" ∈ wsX0_fireFor) rfl dX0_fireFor_44 rfl ?_
      refine x_aload_n (q := 48) C 0 rfl dX0_fireFor_47 rfl ?_
      refine x_get (q := 51) C (T := TX0) iw_X0_fireFor_X0 rfl 0 2 rfl (by decide) rfl (by decide +kernel : Cond.fieldLink RX0 16 RX0 "power" "I" ∈ wsX0_fireFor) rfl dX0_fireFor_48 rfl ?_
      refine x_imul (q := 52) C ((pFire stp pow w) * pow) (rfl) dX0_fireFor_51 rfl ?_
      refine x_mmin (q := 55) C (pUsed stp pow w) rfl (by decide +kernel : Cond.methodLink RX0 25 Lib.Math.min.name ∈ wsX0_fireFor) (by decide +kernel) (by decide +kernel) (by decide +kernel) (Nat.le_of_ble_eq_true rfl) (Nat.le_of_ble_eq_true rfl) (Nat.le_of_ble_eq_true rfl) (Nat.le_of_ble_eq_true rfl) dX0_fireFor_52 rfl ?_
      exact x_iret C .int rfl rfl (⟨rfl, rfl⟩) dX0_fireFor_55 (Nat.le_of_ble_eq_true rfl) (Nat.le_of_ble_eq_true rfl)
    · refine x_aload_n (q := 30) C 0 rfl dX0_fireFor_29 rfl ?_
      refine x_dup (q := 31) C rfl dX0_fireFor_30 rfl ?_
      refine x_get (q := 34) C (T := TX0) iw_X0_fireFor_X0 rfl 0 4 rfl (by decide) rfl (by decide +kernel : Cond.fieldLink RX0 22 RX0 "firedSteps" "I" ∈ wsX0_fireFor) rfl dX0_fireFor_31 rfl ?_
      refine x_iconst (q := 35) C 1 rfl dX0_fireFor_34 rfl ?_
      refine x_iadd (q := 36) C (nI (i + 1)) (nI_1 i) dX0_fireFor_35 rfl ?_
      refine x_put (q := 39) C (T := TX0) iw_X0_fireFor_X0 tyX0 tyX0_ok nmX0 rfl 0 4 [(o, .inr (0, [.int nu, .int stp, .int pow, .int pr, .int (nI (i + 1)), va_rf nx]))] rfl rfl (by decide) rfl (by decide +kernel : Cond.fieldLink RX0 22 RX0 "firedSteps" "I" ∈ wsX0_fireFor) rfl .int (by decide +kernel) rfl rfl (Nat.le_of_ble_eq_true rfl) dX0_fireFor_36 rfl ?_
      refine x_goto C 5 dX0_fireFor_39 (by decide) ?_
      exact ih (i + 1) ⟨by have h1 := hI.1; have h2 := hst; have h3 := c_13; rw [Int32.le_iff_toInt_le, nI_toInt (by omega)] at h3; rw [Int32.le_iff_toInt_le, show (5 : Int32).toInt = 5 from rfl] at h2; omega, by have h9 := hI.2; have h1 := hI.1; rw [show 6 - i = (6 - (i + 1)) + 1 by omega, pf, if_neg c_13, if_neg c_26, nI_1] at h9; exact h9⟩ (by have h1 := hI.1; show 6 - (i + 1) < 6 - i; omega)

theorem iw_X3_lastFiredBefore_X3 : ∀ w ∈ wsX30, w ∈ wsX3_lastFiredBefore := by decide +kernel
theorem iw_X3_lastFiredBefore_X0 : ∀ w ∈ wsX00, w ∈ wsX3_lastFiredBefore := by decide +kernel
set_option maxHeartbeats 4000000 in
set_option maxRecDepth 100000 in
/-- Plant.lastFiredBefore -/
theorem c_X3_lastFiredBefore {l : Launch} {D : va_G} {cy : ClassId × ClassId × ClassId} (po n : Nat) (ad : Nat → Nat) (stp pow cst frd : Nat → Int32) (nx : Nat → Option Nat) (ord : List Nat) (cn ap sp : Int32) (p9 : Int32) (hch : chn nx ord) (hlt : ∀ k ∈ ord, k < n) : xM false l yX3_lastFiredBefore wsX3_lastFiredBefore ({ frames := 0, cells := 0, slots := 0, locals := 0 }) D cy [.ref po, .int p9] ([(po, .inr (3, [va_rf (Option.map ad ord.head?), .int cn, .int ap, .int sp]))] ++ bl ad stp pow cst frd nx n) (xQq2 D (fun r w => r = Option.map ad (lfb cst p9 none ord) ∧ w = ([(po, .inr (3, [va_rf (Option.map ad ord.head?), .int cn, .int ap, .int sp]))], bl ad stp pow cst frd nx n))) 0 0 := by
  refine xM_of (X := [(po, .inr (3, [va_rf (Option.map ad ord.head?), .int cn, .int ap, .int sp]))]) (pl := bl ad stp pow cst frd nx n) (nL := 4) (ret := (some (.object "HeatGuild$Boiler"))) RX3 [(0, .ref po), (1, .int p9)] (by decide +kernel) rfl rfl rfl (Nat.le_of_ble_eq_true rfl) rfl (fun p e s m args below meth c A C hname hT hZ => ?_)
  refine x_null (q := 1) C dX3_lastFiredBefore_0 rfl ?_
  refine x_astore_nN (q := 2) C [(2, .null), (0, .ref po), (1, .int p9)] dX3_lastFiredBefore_1 (by decide) rfl rfl ?_
  refine x_aload_n (q := 3) C 1 rfl dX3_lastFiredBefore_2 rfl ?_
  refine x_get (q := 6) C (T := TX3) iw_X3_lastFiredBefore_X3 rfl 0 0 rfl (by decide) rfl (by decide +kernel : Cond.fieldLink RX3 22 RX3 "first" "LHeatGuild$Boiler;" ∈ wsX3_lastFiredBefore) rfl dX3_lastFiredBefore_3 rfl ?_
  refine x_astore_nO (q := 7) C (Option.map ad ord.head?) [(3, va_rf (Option.map ad ord.head?)), (2, .null), (0, .ref po), (1, .int p9)] dX3_lastFiredBefore_6 (by decide) rfl rfl ?_
  refine x_less [0, 1, 2, 3] [(3, va_rf (Option.map ad ord.head?)), (2, .null), (0, .ref po), (1, .int p9)] rfl ?_
  refine x_rec (σ := List Nat × Option Nat) (fun x => x.1.length) (fun x => chn nx x.1 ∧ (∀ k ∈ x.1, k < n) ∧ lfb cst p9 x.2 x.1 = lfb cst p9 none ord) (fun _ => [(po, .inr (3, [va_rf (Option.map ad ord.head?), .int cn, .int ap, .int sp]))]) (fun _ => bl ad stp pow cst frd nx n) (fun x => [(3, va_rf (Option.map ad x.1.head?)), (2, va_rf (Option.map ad x.2)), (0, .ref po), (1, .int p9)]) (ord, none) rfl rfl rfl ⟨hch, hlt, rfl⟩ (fun x hI ih => ?_)
  obtain ⟨ord1, last⟩ := x
  rcases ord1 with _ | ⟨k, ks⟩
  · refine x_aload_nN (q := 8) C 0 rfl dX3_lastFiredBefore_7 rfl ?_
    refine x_ifnull_t C 29 dX3_lastFiredBefore_8 (by decide) ?_
    refine x_aload_nO (q := 30) C (Option.map ad last) 1 rfl dX3_lastFiredBefore_29 rfl ?_
    exact x_qretT C "HeatGuild$Boiler" rfl (Option.map ad last) rfl (⟨by rw [← hI.2.2]; rfl, rfl⟩) dX3_lastFiredBefore_30 (Nat.le_of_ble_eq_true rfl) (Nat.le_of_ble_eq_true rfl)
  · refine x_aload_n (q := 8) C 0 rfl dX3_lastFiredBefore_7 rfl ?_
    refine x_ifnull_f (q := 11) C dX3_lastFiredBefore_8 rfl ?_
    refine x_aload_n (q := 12) C 0 rfl dX3_lastFiredBefore_11 rfl ?_
    refine x_getN (q := 15) C (T := TX0) iw_X3_lastFiredBefore_X0 rfl _ 3 (bl_at (hI.2.1 k List.mem_cons_self)) (by decide) rfl (by decide +kernel : Cond.fieldLinkNest RX3 35 RX0 "price" "I" RX4 ∈ xNest) (v := .int (cst k)) rfl dX3_lastFiredBefore_12 rfl ?_
    refine x_iload_n (q := 16) C 3 rfl dX3_lastFiredBefore_15 rfl ?_
    refine x_icmp_gt (q := 19) C 29 dX3_lastFiredBefore_16 (by decide) rfl (fun c_16 => ?_) (fun c_16 => ?_)
    · refine x_aload_nO (q := 30) C (Option.map ad last) 1 rfl dX3_lastFiredBefore_29 rfl ?_
      exact x_qretT C "HeatGuild$Boiler" rfl (Option.map ad last) rfl (⟨by rw [← hI.2.2]; simp only [lfb, if_pos c_16], rfl⟩) dX3_lastFiredBefore_30 (Nat.le_of_ble_eq_true rfl) (Nat.le_of_ble_eq_true rfl)
    · refine x_aload_n (q := 20) C 0 rfl dX3_lastFiredBefore_19 rfl ?_
      refine x_astore_n (q := 21) C [(2, .ref (ad k)), (3, .ref (ad k)), (0, .ref po), (1, .int p9)] dX3_lastFiredBefore_20 (by decide) rfl rfl ?_
      refine x_aload_n (q := 22) C 1 rfl dX3_lastFiredBefore_21 rfl ?_
      refine x_getN (q := 25) C (T := TX0) iw_X3_lastFiredBefore_X0 rfl _ 5 (bl_at (hI.2.1 k List.mem_cons_self)) (by decide) rfl (by decide +kernel : Cond.fieldLinkNest RX3 26 RX0 "next" "LHeatGuild$Boiler;" RX4 ∈ xNest) (v := va_rf (Option.map ad (ks.head?))) (congrArg (fun z => some (va_rf (Option.map ad z))) hI.1.1) dX3_lastFiredBefore_22 rfl ?_
      refine x_astore_nO (q := 26) C (Option.map ad (ks.head?)) [(3, va_rf (Option.map ad (ks.head?))), (2, .ref (ad k)), (0, .ref po), (1, .int p9)] dX3_lastFiredBefore_25 (by decide) rfl rfl ?_
      refine x_goto C 7 dX3_lastFiredBefore_26 (by decide) ?_
      refine x_less [0, 1, 2, 3] [(3, va_rf (Option.map ad (ks.head?))), (2, .ref (ad k)), (0, .ref po), (1, .int p9)] rfl ?_
      exact ih (ks, some k) ⟨hI.1.2, fun j hj => hI.2.1 j (List.mem_cons_of_mem _ hj), by rw [← hI.2.2]; simp only [lfb, if_neg c_16]⟩ (by simp)

theorem iw_X3_find_X3 : ∀ w ∈ wsX30, w ∈ wsX3_find := by decide +kernel
theorem iw_X3_find_X0 : ∀ w ∈ wsX00, w ∈ wsX3_find := by decide +kernel
set_option maxHeartbeats 4000000 in
set_option maxRecDepth 100000 in
/-- Plant.find -/
theorem c_X3_find {l : Launch} {D : va_G} {cy : ClassId × ClassId × ClassId} (po n : Nat) (ad : Nat → Nat) (stp pow cst frd : Nat → Int32) (nx : Nat → Option Nat) (ord : List Nat) (cn ap sp : Int32) (x9 : Int32) (hch : chn nx ord) (hlt : ∀ k ∈ ord, k < n) : xM false l yX3_find wsX3_find ({ frames := 0, cells := 0, slots := 0, locals := 0 }) D cy [.ref po, .int x9] ([(po, .inr (3, [va_rf (Option.map ad ord.head?), .int cn, .int ap, .int sp]))] ++ bl ad stp pow cst frd nx n) (xQq2 D (fun r w => r = Option.map ad (findL x9 ord) ∧ w = ([(po, .inr (3, [va_rf (Option.map ad ord.head?), .int cn, .int ap, .int sp]))], bl ad stp pow cst frd nx n))) 0 0 := by
  refine xM_of (X := [(po, .inr (3, [va_rf (Option.map ad ord.head?), .int cn, .int ap, .int sp]))]) (pl := bl ad stp pow cst frd nx n) (nL := 3) (ret := (some (.object "HeatGuild$Boiler"))) RX3 [(0, .ref po), (1, .int x9)] (by decide +kernel) rfl rfl rfl (Nat.le_of_ble_eq_true rfl) rfl (fun p e s m args below meth c A C hname hT hZ => ?_)
  refine x_aload_n (q := 1) C 0 rfl dX3_find_0 rfl ?_
  refine x_get (q := 4) C (T := TX3) iw_X3_find_X3 rfl 0 0 rfl (by decide) rfl (by decide +kernel : Cond.fieldLink RX3 22 RX3 "first" "LHeatGuild$Boiler;" ∈ wsX3_find) rfl dX3_find_1 rfl ?_
  refine x_astore_nO (q := 5) C (Option.map ad ord.head?) [(2, va_rf (Option.map ad ord.head?)), (0, .ref po), (1, .int x9)] dX3_find_4 (by decide) rfl rfl ?_
  refine x_less [0, 1, 2] [(2, va_rf (Option.map ad ord.head?)), (0, .ref po), (1, .int x9)] rfl ?_
  refine x_rec (σ := List Nat) (fun x => x.length) (fun x => chn nx x ∧ (∀ k ∈ x, k < n) ∧ findL x9 x = findL x9 ord) (fun _ => [(po, .inr (3, [va_rf (Option.map ad ord.head?), .int cn, .int ap, .int sp]))]) (fun _ => bl ad stp pow cst frd nx n) (fun x => [(2, va_rf (Option.map ad x.head?)), (0, .ref po), (1, .int x9)]) ord rfl rfl rfl ⟨hch, hlt, rfl⟩ (fun x hI ih => ?_)
  rcases x with _ | ⟨k, ks⟩
  · refine x_aload_nN (q := 6) C 0 rfl dX3_find_5 rfl ?_
    refine x_ifnull_t C 27 dX3_find_6 (by decide) ?_
    refine x_null (q := 28) C dX3_find_27 rfl ?_
    exact x_qretT C "HeatGuild$Boiler" rfl none rfl (⟨by rw [← hI.2.2]; rfl, rfl⟩) dX3_find_28 (Nat.le_of_ble_eq_true rfl) (Nat.le_of_ble_eq_true rfl)
  · refine x_aload_n (q := 6) C 0 rfl dX3_find_5 rfl ?_
    refine x_ifnull_f (q := 9) C dX3_find_6 rfl ?_
    refine x_aload_n (q := 10) C 0 rfl dX3_find_9 rfl ?_
    refine x_getN (q := 13) C (T := TX0) iw_X3_find_X0 rfl _ 0 (bl_at (hI.2.1 k List.mem_cons_self)) (by decide) rfl (by decide +kernel : Cond.fieldLinkNest RX3 32 RX0 "number" "I" RX4 ∈ xNest) (v := .int (nI k)) rfl dX3_find_10 rfl ?_
    refine x_iload_n (q := 14) C 2 rfl dX3_find_13 rfl ?_
    refine x_icmp_ne (q := 17) C 19 dX3_find_14 (by decide) rfl (fun c_14 => ?_) (fun c_14 => ?_)
    · refine x_aload_n (q := 20) C 0 rfl dX3_find_19 rfl ?_
      refine x_getN (q := 23) C (T := TX0) iw_X3_find_X0 rfl _ 5 (bl_at (hI.2.1 k List.mem_cons_self)) (by decide) rfl (by decide +kernel : Cond.fieldLinkNest RX3 26 RX0 "next" "LHeatGuild$Boiler;" RX4 ∈ xNest) (v := va_rf (Option.map ad (ks.head?))) (congrArg (fun z => some (va_rf (Option.map ad z))) hI.1.1) dX3_find_20 rfl ?_
      refine x_astore_nO (q := 24) C (Option.map ad (ks.head?)) [(2, va_rf (Option.map ad (ks.head?))), (0, .ref po), (1, .int x9)] dX3_find_23 (by decide) rfl rfl ?_
      refine x_goto C 5 dX3_find_24 (by decide) ?_
      refine x_less [0, 1, 2] [(2, va_rf (Option.map ad (ks.head?))), (0, .ref po), (1, .int x9)] rfl ?_
      exact ih ks ⟨hI.1.2, fun j hj => hI.2.1 j (List.mem_cons_of_mem _ hj), by rw [← hI.2.2]; simp only [findL, if_neg c_14]⟩ (by simp)
    · refine x_aload_n (q := 18) C 0 rfl dX3_find_17 rfl ?_
      exact x_qretT C "HeatGuild$Boiler" rfl (some (ad k)) rfl (⟨by rw [← hI.2.2]; simp only [findL, if_pos c_14]; rfl, rfl⟩) dX3_find_18 (Nat.le_of_ble_eq_true rfl) (Nat.le_of_ble_eq_true rfl)

theorem iw_X3_fire_X3 : ∀ w ∈ wsX30, w ∈ wsX3_fire := by decide +kernel
theorem iw_X3_fire_X0 : ∀ w ∈ wsX00, w ∈ wsX3_fire := by decide +kernel
set_option maxHeartbeats 4000000 in
set_option maxRecDepth 100000 in
/-- Plant.fire -/
theorem c_X3_fire {l : Launch} {D : va_G} {cy : ClassId × ClassId × ClassId} (po n : Nat) (ad : Nat → Nat) (stp pow cst frd : Nat → Int32) (nx : Nat → Option Nat) (ord : List Nat) (cn ap sp : Int32) (w9 : Int32) (hch : chn nx ord) (hlt : ∀ k ∈ ord, k < n) (hst : ∀ k, k < n → stp k ≤ 5) : xM false l yX3_fire wsX3_fire ({ frames := 2, cells := 0, slots := 0, locals := 34 }) D cy [.ref po, .int w9] ([(po, .inr (3, [va_rf (Option.map ad ord.head?), .int cn, .int ap, .int sp]))] ++ bl ad stp pow cst frd nx n) (xQv2 D (fun w => w = ([(po, .inr (3, [va_rf (Option.map ad ord.head?), .int cn, .int ap, .int ((fireL stp pow cst ord w9 sp frd).1)]))], bl ad stp pow cst (fireL stp pow cst ord w9 sp frd).2 nx n))) 0 0 := by
  refine xM_of (X := [(po, .inr (3, [va_rf (Option.map ad ord.head?), .int cn, .int ap, .int sp]))]) (pl := bl ad stp pow cst frd nx n) (nL := 5) (ret := none) RX3 [(0, .ref po), (1, .int w9)] (by decide +kernel) rfl rfl rfl (Nat.le_of_ble_eq_true rfl) rfl (fun p e s m args below meth c A C hname hT hZ => ?_)
  refine x_iload_n (q := 1) C 1 rfl dX3_fire_0 rfl ?_
  refine x_istore_n (q := 2) C [(2, .int w9), (0, .ref po), (1, .int w9)] dX3_fire_1 (by decide) rfl rfl ?_
  refine x_aload_n (q := 3) C 1 rfl dX3_fire_2 rfl ?_
  refine x_get (q := 6) C (T := TX3) iw_X3_fire_X3 rfl 0 0 rfl (by decide) rfl (by decide +kernel : Cond.fieldLink RX3 22 RX3 "first" "LHeatGuild$Boiler;" ∈ wsX3_fire) rfl dX3_fire_3 rfl ?_
  refine x_astore_nO (q := 7) C (Option.map ad ord.head?) [(3, va_rf (Option.map ad ord.head?)), (2, .int w9), (0, .ref po), (1, .int w9)] dX3_fire_6 (by decide) rfl rfl ?_
  refine x_less [0, 1, 2] [(3, va_rf (Option.map ad ord.head?)), (2, .int w9), (0, .ref po)] rfl ?_
  refine x_rec (σ := List Nat × Int32 × Int32 × (Nat → Int32)) (fun x => x.1.length) (fun x => chn nx x.1 ∧ (∀ k ∈ x.1, k < n) ∧ fireL stp pow cst x.1 x.2.1 x.2.2.1 x.2.2.2 = fireL stp pow cst ord w9 sp frd) (fun x => [(po, .inr (3, [va_rf (Option.map ad ord.head?), .int cn, .int ap, .int x.2.2.1]))]) (fun x => bl ad stp pow cst x.2.2.2 nx n) (fun x => [(3, va_rf (Option.map ad x.1.head?)), (2, .int x.2.1), (0, .ref po)]) (ord, w9, sp, frd) rfl rfl rfl ⟨hch, hlt, rfl⟩ (fun x hI ih => ?_)
  obtain ⟨ord1, l1, s1, f1⟩ := x
  rcases ord1 with _ | ⟨k, ks⟩
  · refine x_aload_nN (q := 8) C 0 rfl dX3_fire_7 rfl ?_
    refine x_ifnull_t C 47 dX3_fire_8 (by decide) ?_
    exact x_vretT C rfl (by rw [show fireL stp pow cst ord w9 sp frd = (s1, f1) from hI.2.2.symm]) dX3_fire_47 (Nat.le_of_ble_eq_true rfl) (Nat.le_of_ble_eq_true rfl)
  · refine x_aload_n (q := 8) C 0 rfl dX3_fire_7 rfl ?_
    refine x_ifnull_f (q := 11) C dX3_fire_8 rfl ?_
    refine x_perm [(po, .inr (3, [va_rf (Option.map ad ord.head?), .int cn, .int ap, .int s1])), ((ad k), .inr (0, [.int (nI k), .int (stp k), .int (pow k), .int (cst k), .int (f1 k), va_rf (Option.map ad (nx k))]))] (blr ad stp pow cst f1 nx n k) (bl_out (X := [(po, .inr (3, [va_rf (Option.map ad ord.head?), .int cn, .int ap, .int s1]))]) (hI.2.1 k List.mem_cons_self)) ?_
    refine x_aload_n (q := 12) C 0 rfl dX3_fire_11 rfl ?_
    refine x_iload_n (q := 13) C 1 rfl dX3_fire_12 rfl ?_
    refine x_CiP (q := 16) C [1] [0] (cx := [((ad k), .inr (0, [.int (nI k), .int (stp k), .int (pow k), .int (cst k), .int (f1 k), va_rf (Option.map ad (nx k))]))]) (wr := [(po, .inr (3, [va_rf (Option.map ad ord.head?), .int cn, .int ap, .int s1]))]) (st := []) rfl rfl rfl rfl (by decide) (fun H locs ls hP hPc hDc hS hFc hl => x_runVN C (As := [.int l1]) (c_X0_fireFor (ad k) (nI k) (stp k) (pow k) (cst k) (f1 k) l1 (Option.map ad (nx k)) (hst k (hI.2.1 k List.mem_cons_self))) (⟨va_cnB 1 C.2.2.2.2.2.1 gX3_fire_X0_fireFor_n38 rfl rfl rfl (va_Nw.of rfl (C.2.2.2.2.2.2.1.2.1.use (B := #[]) (by decide +kernel : Cond.methodLinkNest RX3 38 yX0_fireFor RX4 ∈ xNest))) (C.2.2.2.2.2.1 _ (by decide +kernel)) (by decide +kernel) ⟨Nat.le_of_ble_eq_true rfl, Nat.le_of_ble_eq_true rfl⟩, C.2.2.2.2.2.1 (Cond.instanceMethod yX0_fireFor) (by decide +kernel), C.2.2.2.2.2.1 (Cond.selects RX0 yX0_fireFor yX0_fireFor) (by decide +kernel)⟩) rfl 1 rfl rfl rfl (Nat.le_of_ble_eq_true rfl) dX3_fire_13 ⟨Nat.le_of_ble_eq_true rfl, Nat.le_of_ble_eq_true rfl⟩ (fun h => absurd h (by decide)) hP hPc hDc hS hFc hl) (k := 0) (n := 0) rfl rfl rfl (fun r_13 w1 hw => ?_)
    obtain ⟨rfl, rfl⟩ := hw
    refine x_ord [0, 1] [(po, .inr (3, [va_rf (Option.map ad ord.head?), .int cn, .int ap, .int s1])), ((ad k), .inr (0, [.int (nI k), .int (stp k), .int (pow k), .int (cst k), .int (pFire (stp k) (pow k) l1), va_rf (Option.map ad (nx k))]))] rfl rfl ?_
    refine x_perm [(po, .inr (3, [va_rf (Option.map ad ord.head?), .int cn, .int ap, .int s1]))] (bl ad stp pow cst (va_up f1 k (pFire (stp k) (pow k) l1)) nx n) (bl_in (X := [(po, .inr (3, [va_rf (Option.map ad ord.head?), .int cn, .int ap, .int s1]))]) (hI.2.1 k List.mem_cons_self) (by simp [bcell, va_up]) (fun j hj => by simp [va_up, hj]) (fun _ _ => rfl)) ?_
    refine x_istore (q := 18) C [(4, .int (pUsed (stp k) (pow k) l1)), (3, .ref (ad k)), (2, .int l1), (0, .ref po)] dX3_fire_16 (by decide) rfl rfl ?_
    refine x_aload_n (q := 19) C 3 rfl dX3_fire_18 rfl ?_
    refine x_dup (q := 20) C rfl dX3_fire_19 rfl ?_
    refine x_get (q := 23) C (T := TX3) iw_X3_fire_X3 rfl 0 3 rfl (by decide) rfl (by decide +kernel : Cond.fieldLink RX3 42 RX3 "spent" "I" ∈ wsX3_fire) rfl dX3_fire_20 rfl ?_
    refine x_iload (q := 25) C 0 rfl dX3_fire_23 rfl ?_
    refine x_aload_n (q := 26) C 1 rfl dX3_fire_25 rfl ?_
    refine x_getN (q := 29) C (T := TX0) iw_X3_fire_X0 rfl _ 3 (bl_at (hI.2.1 k List.mem_cons_self)) (by decide) rfl (by decide +kernel : Cond.fieldLinkNest RX3 35 RX0 "price" "I" RX4 ∈ xNest) (v := .int (cst k)) rfl dX3_fire_26 rfl ?_
    refine x_imul (q := 30) C ((pUsed (stp k) (pow k) l1) * (cst k)) (rfl) dX3_fire_29 rfl ?_
    refine x_iadd (q := 31) C (s1 + ((pUsed (stp k) (pow k) l1) * (cst k))) (rfl) dX3_fire_30 rfl ?_
    refine x_put (q := 34) C (T := TX3) iw_X3_fire_X3 tyX3 tyX3_ok nmX3 rfl 0 3 [(po, .inr (3, [va_rf (Option.map ad ord.head?), .int cn, .int ap, .int (s1 + ((pUsed (stp k) (pow k) l1) * (cst k)))]))] rfl rfl (by decide) rfl (by decide +kernel : Cond.fieldLink RX3 42 RX3 "spent" "I" ∈ wsX3_fire) rfl .int (by decide +kernel) rfl rfl (Nat.le_of_ble_eq_true rfl) dX3_fire_31 rfl ?_
    refine x_iload_n (q := 35) C 2 rfl dX3_fire_34 rfl ?_
    refine x_iload (q := 37) C 0 rfl dX3_fire_35 rfl ?_
    refine x_isub (q := 38) C (l1 - (pUsed (stp k) (pow k) l1)) (rfl) dX3_fire_37 rfl ?_
    refine x_istore_n (q := 39) C [(2, .int (l1 - (pUsed (stp k) (pow k) l1))), (4, .int (pUsed (stp k) (pow k) l1)), (3, .ref (ad k)), (0, .ref po)] dX3_fire_38 (by decide) rfl rfl ?_
    refine x_aload_n (q := 40) C 2 rfl dX3_fire_39 rfl ?_
    refine x_getN (q := 43) C (T := TX0) iw_X3_fire_X0 rfl _ 5 (bl_at (hI.2.1 k List.mem_cons_self)) (by decide) rfl (by decide +kernel : Cond.fieldLinkNest RX3 26 RX0 "next" "LHeatGuild$Boiler;" RX4 ∈ xNest) (v := va_rf (Option.map ad (ks.head?))) (congrArg (fun z => some (va_rf (Option.map ad z))) hI.1.1) dX3_fire_40 rfl ?_
    refine x_astore_nO (q := 44) C (Option.map ad (ks.head?)) [(3, va_rf (Option.map ad (ks.head?))), (2, .int (l1 - (pUsed (stp k) (pow k) l1))), (4, .int (pUsed (stp k) (pow k) l1)), (0, .ref po)] dX3_fire_43 (by decide) rfl rfl ?_
    refine x_goto C 7 dX3_fire_44 (by decide) ?_
    refine x_less [0, 1, 3] [(3, va_rf (Option.map ad (ks.head?))), (2, .int (l1 - (pUsed (stp k) (pow k) l1))), (0, .ref po)] rfl ?_
    exact ih (ks, l1 - pUsed (stp k) (pow k) l1, s1 + pUsed (stp k) (pow k) l1 * cst k, va_up f1 k (pFire (stp k) (pow k) l1)) ⟨hI.1.2, fun j hj => hI.2.1 j (List.mem_cons_of_mem _ hj), hI.2.2⟩ (by simp)

set_option maxHeartbeats 4000000 in
set_option maxRecDepth 100000 in
/-- Plant() -/
theorem c_X3_init {l : Launch} {D : va_G} {cy : ClassId × ClassId × ClassId} (po : Nat) : xM false l yX3_init wsX3_init ({ frames := 1, cells := 0, slots := 0, locals := 12 }) D cy [.ref po] ([(po, .inr (3, [.null, .int 0, .int 0, .int 0]))]) (xQv D (fun w => w = [(po, .inr (3, [.null, .int 0, .int 0, .int 0]))])) 0 0 := by
  refine xM_of (X := [(po, .inr (3, [.null, .int 0, .int 0, .int 0]))]) (pl := []) (nL := 1) (ret := none) RX3 [(0, .ref po)] (by decide +kernel) rfl rfl rfl (Nat.le_of_ble_eq_true rfl) (List.append_nil _).symm (fun p e s m args below meth c A C hname hT hZ => ?_)
  refine x_aload_n (q := 1) C 0 rfl dX3_init_0 rfl ?_
  refine x_objInit (q := 4) C (by decide +kernel : Cond.methodLink RX3 1 Lib.objectInit ∈ wsX3_init) (by decide +kernel) (by decide +kernel) dX3_init_1 (Nat.le_of_ble_eq_true rfl) (Nat.le_of_ble_eq_true rfl) rfl ?_
  exact x_vret C rfl (rfl) dX3_init_4 (Nat.le_of_ble_eq_true rfl) (Nat.le_of_ble_eq_true rfl)

theorem iw_X3_add_X0 : ∀ w ∈ wsX00, w ∈ wsX3_add := by decide +kernel
theorem iw_X3_add_X3 : ∀ w ∈ wsX30, w ∈ wsX3_add := by decide +kernel
set_option maxHeartbeats 4000000 in
set_option maxRecDepth 100000 in
/-- Plant.add -/
theorem c_X3_add {l : Launch} {D : va_G} {cy : ClassId × ClassId × ClassId} (po n : Nat) (ad : Nat → Nat) (stp pow cst frd : Nat → Int32) (nx : Nat → Option Nat) (ord : List Nat) (ap sp S9 P9 C9 : Int32) (hch : chn nx ord) (hlt : ∀ k ∈ ord, k < n) (hnx : ∀ k, k < n → ∀ j, nx k = some j → j < n) (hhd : ∀ j, ord.head? = some j → j < n) : xM false l yX3_add wsX3_add ({ frames := 2, cells := 1, slots := 6, locals := 36 }) D cy [.ref po, .int S9, .int P9, .int C9] ([(po, .inr (3, [va_rf (Option.map ad ord.head?), .int (nI n), .int ap, .int sp]))] ++ bl ad stp pow cst frd nx n) (xQi2 D (fun r w => r = nI n ∧ ∃ o_0 : Nat, w = ([(po, .inr (3, [va_rf (Option.map (va_up ad n o_0) (addFst n ord.head? (lfb cst C9 none ord))), .int (nI (n + 1)), .int (ap + S9 * P9), .int sp]))], bl (va_up ad n o_0) (va_up stp n S9) (va_up pow n P9) (va_up cst n C9) (va_up frd n 0) (addNx nx n ord.head? (lfb cst C9 none ord)) (n + 1)))) 1 6 := by
  refine xM_of (X := [(po, .inr (3, [va_rf (Option.map ad ord.head?), .int (nI n), .int ap, .int sp]))]) (pl := bl ad stp pow cst frd nx n) (nL := 6) (ret := (some .int)) RX3 [(0, .ref po), (1, .int S9), (2, .int P9), (3, .int C9)] (by decide +kernel) rfl rfl rfl (Nat.le_of_ble_eq_true rfl) rfl (fun p e s m args below meth c A C hname hT hZ => ?_)
  refine x_new (q := 3) C (T := TX0) (ci := 0) iw_X3_add_X0 tyX0 tyX0_ok (by decide +kernel : Cond.classLink RX3 7 RX0 ∈ wsX3_add) (by decide +kernel) (by decide +kernel) rfl [.int 0, .int 0, .int 0, .int 0, .int 0, .null] (fun j hj => by rcases (show j = 0 ∨ j = 1 ∨ j = 2 ∨ j = 3 ∨ j = 4 ∨ j = 5 by omega) with rfl | rfl | rfl | rfl | rfl | rfl <;> rfl) (Nat.le_of_ble_eq_true rfl) (Nat.le_of_ble_eq_true rfl) dX3_add_0 rfl rfl rfl (fun o_0 => ?_)
  refine x_ord [0, 1] [(po, .inr (3, [va_rf (Option.map ad ord.head?), .int (nI n), .int ap, .int sp])), (o_0, .inr (0, [.int 0, .int 0, .int 0, .int 0, .int 0, .null]))] rfl rfl ?_
  refine x_dup (q := 4) C rfl dX3_add_3 rfl ?_
  refine x_aload_n (q := 5) C 0 rfl dX3_add_4 rfl ?_
  refine x_get (q := 8) C (T := TX3) iw_X3_add_X3 rfl 0 1 rfl (by decide) rfl (by decide +kernel : Cond.fieldLink RX3 9 RX3 "count" "I" ∈ wsX3_add) rfl dX3_add_5 rfl ?_
  refine x_iload_n (q := 9) C 1 rfl dX3_add_8 rfl ?_
  refine x_iload_n (q := 10) C 2 rfl dX3_add_9 rfl ?_
  refine x_iload_n (q := 11) C 3 rfl dX3_add_10 rfl ?_
  refine x_CvP (q := 14) C [1] [0] (cx := [(o_0, .inr (0, [.int 0, .int 0, .int 0, .int 0, .int 0, .null]))]) (wr := [(po, .inr (3, [va_rf (Option.map ad ord.head?), .int (nI n), .int ap, .int sp]))]) (st := [.ref o_0]) rfl rfl rfl rfl (by decide) (fun H locs ls hP hPc hDc hS hFc hl => x_runIN C (As := [.int (nI n), .int S9, .int P9, .int C9]) (c_X0_init o_0 (nI n) S9 P9 C9) (⟨va_cnB 4 C.2.2.2.2.2.1 gX3_add_X0_init_n15 rfl rfl rfl (va_Nw.of rfl (C.2.2.2.2.2.2.1.2.1.use (B := #[]) (by decide +kernel : Cond.methodLinkNest RX3 15 yX0_init RX4 ∈ xNest))) (C.2.2.2.2.2.1 _ (by decide +kernel)) (by decide +kernel) ⟨Nat.le_of_ble_eq_true rfl, Nat.le_of_ble_eq_true rfl⟩, rfl, C.2.2.2.2.2.1 (Cond.instanceMethod yX0_init) (by decide +kernel)⟩) rfl rfl (Nat.le_of_ble_eq_true rfl) dX3_add_11 ⟨Nat.le_of_ble_eq_true rfl, Nat.le_of_ble_eq_true rfl⟩ (fun h => absurd h (by decide)) hP hPc hDc hS hFc hl) (k := 1) (n := 6) rfl rfl rfl (fun w1 hw => ?_)
  obtain rfl := hw
  refine x_ord [0, 1] [(po, .inr (3, [va_rf (Option.map ad ord.head?), .int (nI n), .int ap, .int sp])), (o_0, .inr (0, [.int (nI n), .int S9, .int P9, .int C9, .int 0, .null]))] rfl rfl ?_
  refine x_astore (q := 16) C [(4, .ref o_0), (0, .ref po), (1, .int S9), (2, .int P9), (3, .int C9)] dX3_add_14 (by decide) rfl rfl ?_
  refine x_aload_n (q := 17) C 1 rfl dX3_add_16 rfl ?_
  refine x_iload_n (q := 18) C 4 rfl dX3_add_17 rfl ?_
  refine x_CqT (q := 21) C [0] [1] (cx := [(po, .inr (3, [va_rf (Option.map ad ord.head?), .int (nI n), .int ap, .int sp]))]) (wr := [(o_0, .inr (0, [.int (nI n), .int S9, .int P9, .int C9, .int 0, .null]))]) (st := []) rfl rfl rfl rfl (by decide) (fun H locs ls hP hPc hDc hS hFc hl => x_runV C (As := [.int C9]) (c_X3_lastFiredBefore po n ad stp pow cst frd nx ord (nI n) ap sp C9  hch hlt) (cwV 1 C.2.2.2.2.2.1 gX3_add_X3_lastFiredBefore rfl rfl rfl (by decide +kernel) ⟨Nat.le_of_ble_eq_true rfl, Nat.le_of_ble_eq_true rfl⟩) rfl 0 rfl rfl rfl (Nat.le_of_ble_eq_true rfl) dX3_add_18 ⟨Nat.le_of_ble_eq_true rfl, Nat.le_of_ble_eq_true rfl⟩ (fun h => absurd h (by decide)) hP hPc hDc hS hFc hl) (k := 1) (n := 6) rfl rfl rfl (fun r_18 x1 pl1 hw => ?_)
  obtain ⟨rfl, hw⟩ := hw
  obtain ⟨rfl, rfl⟩ := Prod.mk.inj hw
  refine x_ord [1, 0] [(po, .inr (3, [va_rf (Option.map ad ord.head?), .int (nI n), .int ap, .int sp])), (o_0, .inr (0, [.int (nI n), .int S9, .int P9, .int C9, .int 0, .null]))] rfl rfl ?_
  refine x_astoreO (q := 23) C (Option.map ad (lfb cst C9 none ord)) [(5, va_rf (Option.map ad (lfb cst C9 none ord))), (4, .ref o_0), (0, .ref po), (1, .int S9), (2, .int P9), (3, .int C9)] dX3_add_21 (by decide) rfl rfl ?_
  rcases hb : lfb cst C9 none ord with _ | b
  · refine x_aloadN (q := 25) C 0 rfl dX3_add_23 rfl ?_
    refine x_ifnonnull_f (q := 28) C dX3_add_25 rfl ?_
    refine x_aload (q := 30) C 1 rfl dX3_add_28 rfl ?_
    refine x_aload_n (q := 31) C 2 rfl dX3_add_30 rfl ?_
    refine x_get (q := 34) C (T := TX3) iw_X3_add_X3 rfl 0 0 rfl (by decide) rfl (by decide +kernel : Cond.fieldLink RX3 22 RX3 "first" "LHeatGuild$Boiler;" ∈ wsX3_add) rfl dX3_add_31 rfl ?_
    refine x_putN (q := 37) C (T := TX0) iw_X3_add_X0 tyX0 tyX0_ok nmX0 rfl 1 5 [(po, .inr (3, [va_rf (Option.map ad ord.head?), .int (nI n), .int ap, .int sp])), (o_0, .inr (0, [.int (nI n), .int S9, .int P9, .int C9, .int 0, va_rf (Option.map ad ord.head?)]))] rfl rfl (by decide) rfl (by decide +kernel : Cond.fieldLinkNest RX3 26 RX0 "next" "LHeatGuild$Boiler;" RX4 ∈ xNest) rfl (.object "HeatGuild$Boiler") (by decide +kernel) (by cases (Option.map ad ord.head?) <;> rfl) (by cases (Option.map ad ord.head?) <;> rfl) (Nat.le_of_ble_eq_true rfl) dX3_add_34 rfl ?_
    refine x_aload_n (q := 38) C 2 rfl dX3_add_37 rfl ?_
    refine x_aload (q := 40) C 1 rfl dX3_add_38 rfl ?_
    refine x_put (q := 43) C (T := TX3) iw_X3_add_X3 tyX3 tyX3_ok nmX3 rfl 0 0 [(po, .inr (3, [.ref o_0, .int (nI n), .int ap, .int sp])), (o_0, .inr (0, [.int (nI n), .int S9, .int P9, .int C9, .int 0, va_rf (Option.map ad ord.head?)]))] rfl rfl (by decide) rfl (by decide +kernel : Cond.fieldLink RX3 22 RX3 "first" "LHeatGuild$Boiler;" ∈ wsX3_add) rfl (.object "HeatGuild$Boiler") (by decide +kernel) rfl rfl (Nat.le_of_ble_eq_true rfl) dX3_add_40 rfl ?_
    refine x_goto C 63 dX3_add_43 (by decide) ?_
    refine x_aload_n (q := 64) C 2 rfl dX3_add_63 rfl ?_
    refine x_dup (q := 65) C rfl dX3_add_64 rfl ?_
    refine x_get (q := 68) C (T := TX3) iw_X3_add_X3 rfl 0 1 rfl (by decide) rfl (by decide +kernel : Cond.fieldLink RX3 9 RX3 "count" "I" ∈ wsX3_add) rfl dX3_add_65 rfl ?_
    refine x_iconst (q := 69) C 1 rfl dX3_add_68 rfl ?_
    refine x_iadd (q := 70) C (nI (n + 1)) (nI_1 n) dX3_add_69 rfl ?_
    refine x_put (q := 73) C (T := TX3) iw_X3_add_X3 tyX3 tyX3_ok nmX3 rfl 0 1 [(po, .inr (3, [.ref o_0, .int (nI (n + 1)), .int ap, .int sp])), (o_0, .inr (0, [.int (nI n), .int S9, .int P9, .int C9, .int 0, va_rf (Option.map ad ord.head?)]))] rfl rfl (by decide) rfl (by decide +kernel : Cond.fieldLink RX3 9 RX3 "count" "I" ∈ wsX3_add) rfl .int (by decide +kernel) rfl rfl (Nat.le_of_ble_eq_true rfl) dX3_add_70 rfl ?_
    refine x_aload_n (q := 74) C 2 rfl dX3_add_73 rfl ?_
    refine x_dup (q := 75) C rfl dX3_add_74 rfl ?_
    refine x_get (q := 78) C (T := TX3) iw_X3_add_X3 rfl 0 2 rfl (by decide) rfl (by decide +kernel : Cond.fieldLink RX3 29 RX3 "allPower" "I" ∈ wsX3_add) rfl dX3_add_75 rfl ?_
    refine x_iload_n (q := 79) C 3 rfl dX3_add_78 rfl ?_
    refine x_iload_n (q := 80) C 4 rfl dX3_add_79 rfl ?_
    refine x_imul (q := 81) C (S9 * P9) (rfl) dX3_add_80 rfl ?_
    refine x_iadd (q := 82) C (ap + (S9 * P9)) (rfl) dX3_add_81 rfl ?_
    refine x_put (q := 85) C (T := TX3) iw_X3_add_X3 tyX3 tyX3_ok nmX3 rfl 0 2 [(po, .inr (3, [.ref o_0, .int (nI (n + 1)), .int (ap + (S9 * P9)), .int sp])), (o_0, .inr (0, [.int (nI n), .int S9, .int P9, .int C9, .int 0, va_rf (Option.map ad ord.head?)]))] rfl rfl (by decide) rfl (by decide +kernel : Cond.fieldLink RX3 29 RX3 "allPower" "I" ∈ wsX3_add) rfl .int (by decide +kernel) rfl rfl (Nat.le_of_ble_eq_true rfl) dX3_add_82 rfl ?_
    refine x_aload (q := 87) C 1 rfl dX3_add_85 rfl ?_
    refine x_getN (q := 90) C (T := TX0) iw_X3_add_X0 rfl 1 0 rfl (by decide) rfl (by decide +kernel : Cond.fieldLinkNest RX3 32 RX0 "number" "I" RX4 ∈ xNest) rfl dX3_add_87 rfl ?_
    refine x_world (X' := [(po, .inr (3, [va_rf (Option.map (va_up ad n o_0) (addFst n ord.head? none)), .int (nI (n + 1)), .int (ap + (S9 * P9)), .int sp])), (o_0, .inr (0, [.int (nI n), .int S9, .int P9, .int C9, .int 0, va_rf (Option.map ad ord.head?)]))]) (pl' := bl ad stp pow cst frd nx n) (by simp [addFst, va_up]; rfl) ?_
    refine x_perm [(po, .inr (3, [va_rf (Option.map (va_up ad n o_0) (addFst n ord.head? none)), .int (nI (n + 1)), .int (ap + (S9 * P9)), .int sp]))] (bl (va_up ad n o_0) (va_up stp n S9) (va_up pow n P9) (va_up cst n C9) (va_up frd n 0) (addNx nx n ord.head? none) (n + 1)) (bl_push (X := [(po, .inr (3, [va_rf (Option.map (va_up ad n o_0) (addFst n ord.head? none)), .int (nI (n + 1)), .int (ap + (S9 * P9)), .int sp]))]) (by simp [bcell, addNx, va_up_self, map_up hhd]) (fun k hk => add_cell hk (by simp [addNx, va_up, Nat.ne_of_lt hk]) (hnx k hk))) ?_
    exact x_iretT C .int rfl rfl (⟨rfl, o_0, rfl⟩) dX3_add_90 (Nat.le_of_ble_eq_true rfl) (Nat.le_of_ble_eq_true rfl)
  · have hbn : b < n := by
      rcases lfb_mem hb with h | h
      · cases h
      · exact hlt b h
    refine x_aload (q := 25) C 0 rfl dX3_add_23 rfl ?_
    refine x_ifnonnull_t C 46 dX3_add_25 (by decide) ?_
    refine x_aload (q := 48) C 1 rfl dX3_add_46 rfl ?_
    refine x_aload (q := 50) C 0 rfl dX3_add_48 rfl ?_
    refine x_getN (q := 53) C (T := TX0) iw_X3_add_X0 rfl _ 5 (bl_at hbn) (by decide) rfl (by decide +kernel : Cond.fieldLinkNest RX3 26 RX0 "next" "LHeatGuild$Boiler;" RX4 ∈ xNest) (v := va_rf (Option.map ad (nx b))) (congrArg (fun z => some (va_rf (Option.map ad z))) rfl) dX3_add_50 rfl ?_
    refine x_putN (q := 56) C (T := TX0) iw_X3_add_X0 tyX0 tyX0_ok nmX0 rfl 1 5 [(po, .inr (3, [va_rf (Option.map ad ord.head?), .int (nI n), .int ap, .int sp])), (o_0, .inr (0, [.int (nI n), .int S9, .int P9, .int C9, .int 0, va_rf (Option.map ad (nx b))]))] rfl rfl (by decide) rfl (by decide +kernel : Cond.fieldLinkNest RX3 26 RX0 "next" "LHeatGuild$Boiler;" RX4 ∈ xNest) rfl (.object "HeatGuild$Boiler") (by decide +kernel) (by cases (Option.map ad (nx b)) <;> rfl) (by cases (Option.map ad (nx b)) <;> rfl) (Nat.le_of_ble_eq_true rfl) dX3_add_53 rfl ?_
    refine x_perm [(po, .inr (3, [va_rf (Option.map ad ord.head?), .int (nI n), .int ap, .int sp])), (o_0, .inr (0, [.int (nI n), .int S9, .int P9, .int C9, .int 0, va_rf (Option.map ad (nx b))])), ((ad b), .inr (0, [.int (nI b), .int (stp b), .int (pow b), .int (cst b), .int (frd b), va_rf (Option.map ad (nx b))]))] (blr ad stp pow cst frd nx n b) (bl_out (X := [(po, .inr (3, [va_rf (Option.map ad ord.head?), .int (nI n), .int ap, .int sp])), (o_0, .inr (0, [.int (nI n), .int S9, .int P9, .int C9, .int 0, va_rf (Option.map ad (nx b))]))]) hbn) ?_
    refine x_aload (q := 58) C 0 rfl dX3_add_56 rfl ?_
    refine x_aload (q := 60) C 1 rfl dX3_add_58 rfl ?_
    refine x_putN (q := 63) C (T := TX0) iw_X3_add_X0 tyX0 tyX0_ok nmX0 rfl 2 5 [(po, .inr (3, [va_rf (Option.map ad ord.head?), .int (nI n), .int ap, .int sp])), (o_0, .inr (0, [.int (nI n), .int S9, .int P9, .int C9, .int 0, va_rf (Option.map ad (nx b))])), ((ad b), .inr (0, [.int (nI b), .int (stp b), .int (pow b), .int (cst b), .int (frd b), .ref o_0]))] rfl rfl (by decide) rfl (by decide +kernel : Cond.fieldLinkNest RX3 26 RX0 "next" "LHeatGuild$Boiler;" RX4 ∈ xNest) rfl (.object "HeatGuild$Boiler") (by decide +kernel) rfl rfl (Nat.le_of_ble_eq_true rfl) dX3_add_60 rfl ?_
    refine x_aload_n (q := 64) C 2 rfl dX3_add_63 rfl ?_
    refine x_dup (q := 65) C rfl dX3_add_64 rfl ?_
    refine x_get (q := 68) C (T := TX3) iw_X3_add_X3 rfl 0 1 rfl (by decide) rfl (by decide +kernel : Cond.fieldLink RX3 9 RX3 "count" "I" ∈ wsX3_add) rfl dX3_add_65 rfl ?_
    refine x_iconst (q := 69) C 1 rfl dX3_add_68 rfl ?_
    refine x_iadd (q := 70) C (nI (n + 1)) (nI_1 n) dX3_add_69 rfl ?_
    refine x_put (q := 73) C (T := TX3) iw_X3_add_X3 tyX3 tyX3_ok nmX3 rfl 0 1 [(po, .inr (3, [va_rf (Option.map ad ord.head?), .int (nI (n + 1)), .int ap, .int sp])), (o_0, .inr (0, [.int (nI n), .int S9, .int P9, .int C9, .int 0, va_rf (Option.map ad (nx b))])), ((ad b), .inr (0, [.int (nI b), .int (stp b), .int (pow b), .int (cst b), .int (frd b), .ref o_0]))] rfl rfl (by decide) rfl (by decide +kernel : Cond.fieldLink RX3 9 RX3 "count" "I" ∈ wsX3_add) rfl .int (by decide +kernel) rfl rfl (Nat.le_of_ble_eq_true rfl) dX3_add_70 rfl ?_
    refine x_aload_n (q := 74) C 2 rfl dX3_add_73 rfl ?_
    refine x_dup (q := 75) C rfl dX3_add_74 rfl ?_
    refine x_get (q := 78) C (T := TX3) iw_X3_add_X3 rfl 0 2 rfl (by decide) rfl (by decide +kernel : Cond.fieldLink RX3 29 RX3 "allPower" "I" ∈ wsX3_add) rfl dX3_add_75 rfl ?_
    refine x_iload_n (q := 79) C 3 rfl dX3_add_78 rfl ?_
    refine x_iload_n (q := 80) C 4 rfl dX3_add_79 rfl ?_
    refine x_imul (q := 81) C (S9 * P9) (rfl) dX3_add_80 rfl ?_
    refine x_iadd (q := 82) C (ap + (S9 * P9)) (rfl) dX3_add_81 rfl ?_
    refine x_put (q := 85) C (T := TX3) iw_X3_add_X3 tyX3 tyX3_ok nmX3 rfl 0 2 [(po, .inr (3, [va_rf (Option.map ad ord.head?), .int (nI (n + 1)), .int (ap + (S9 * P9)), .int sp])), (o_0, .inr (0, [.int (nI n), .int S9, .int P9, .int C9, .int 0, va_rf (Option.map ad (nx b))])), ((ad b), .inr (0, [.int (nI b), .int (stp b), .int (pow b), .int (cst b), .int (frd b), .ref o_0]))] rfl rfl (by decide) rfl (by decide +kernel : Cond.fieldLink RX3 29 RX3 "allPower" "I" ∈ wsX3_add) rfl .int (by decide +kernel) rfl rfl (Nat.le_of_ble_eq_true rfl) dX3_add_82 rfl ?_
    refine x_aload (q := 87) C 1 rfl dX3_add_85 rfl ?_
    refine x_getN (q := 90) C (T := TX0) iw_X3_add_X0 rfl 1 0 rfl (by decide) rfl (by decide +kernel : Cond.fieldLinkNest RX3 32 RX0 "number" "I" RX4 ∈ xNest) rfl dX3_add_87 rfl ?_
    refine x_world (X' := [(po, .inr (3, [va_rf (Option.map (va_up ad n o_0) (addFst n ord.head? (some b))), .int (nI (n + 1)), .int (ap + (S9 * P9)), .int sp])), (o_0, .inr (0, [.int (nI n), .int S9, .int P9, .int C9, .int 0, va_rf (Option.map ad (nx b))])), ((ad b), .inr (0, [.int (nI b), .int (stp b), .int (pow b), .int (cst b), .int (frd b), .ref o_0]))]) (pl' := blr ad stp pow cst frd nx n b) (by simp only [addFst]; rw [map_up hhd]) ?_
    refine x_perm [(po, .inr (3, [va_rf (Option.map (va_up ad n o_0) (addFst n ord.head? (some b))), .int (nI (n + 1)), .int (ap + (S9 * P9)), .int sp]))] (bl (va_up ad n o_0) (va_up stp n S9) (va_up pow n P9) (va_up cst n C9) (va_up frd n 0) (addNx nx n ord.head? (some b)) (n + 1)) (bl_push2 (X := [(po, .inr (3, [va_rf (Option.map (va_up ad n o_0) (addFst n ord.head? (some b))), .int (nI (n + 1)), .int (ap + (S9 * P9)), .int sp]))]) hbn (by simp [bcell, addNx, va_up, Nat.ne_of_gt hbn]; rw [map_up (hnx b hbn)]) (by simp [bcell, addNx, va_up, Nat.ne_of_lt hbn]; rfl) (fun k hk hkb => add_cell hk (by simp [addNx, va_up, hkb, Nat.ne_of_lt hk]) (hnx k hk))) ?_
    exact x_iretT C .int rfl rfl (⟨rfl, o_0, rfl⟩) dX3_add_90 (Nat.le_of_ble_eq_true rfl) (Nat.le_of_ble_eq_true rfl)
end
section
/-! the class's answers: which exception is due (0: none) -/
def cdH (j : Int32) : Int32 := if pHouse j = 0 then 1 else 0
def cdFeed (j f lo ph : Int32) : Int32 := if pHouse j = 0 then 1 else if pWithin f 0 (j - 1) = 0 then 1 else if pWithin lo 0 20 = 0 then 1 else if ph ≤ 0 then 0 else 2
def cdIn (j v a b : Int32) : Int32 := if pHouse j = 0 then 1 else if pWithin v a b = 0 then 1 else 0
def cdBoiler (s p c cn : Int32) : Int32 := if pWithin s 1 5 = 0 then 1 else if pWithin p 1 100 = 0 then 1 else if pWithin c 1 100 = 0 then 1 else if cn < 4 then 0 else 2
def cdRepair (j h sh ph lt : Int32) : Int32 := if pHouse j = 0 then 1 else if pWithin h 1 20 = 0 then 1 else if sh ≤ 0 then (if ph ≤ 0 then 0 else if 10 ≤ lt then 0 else 2) else 2
def cdTemp (t : Int32) : Int32 := if pWithin t (-20) 30 = 0 then 1 else 0
def cdFired (x : Int32) (ord : List Nat) : Int32 := match findL x ord with
  | none => 1
  | some _ => 0
theorem pHouse_in {x : Int32} (h : ¬ pHouse x = 0) : vp_in x 12 := by
  rw [vp_in_iff]
  simp only [pHouse] at h
  split at h
  · simp at h
  · split at h
    · simp at h
    · rename_i h1 h2
      rw [Int32.lt_iff_toInt_lt, show (1 : Int32).toInt = 1 from rfl] at h1
      rw [Int32.le_iff_toInt_le, show (12 : Int32).toInt = 12 from rfl] at h2
      omega
theorem findL_mem {x : Int32} : ∀ {ord : List Nat} {k : Nat}, findL x ord = some k → k ∈ ord := by
  intro ord
  induction ord with
  | nil => intro k h; cases h
  | cons a ks ih =>
    intro k h
    simp only [findL] at h
    split at h
    · cases h; exact List.mem_cons_self
    · exact List.mem_cons_of_mem _ (ih h)
theorem atN_46 : ∀ w ∈ (vx_atS RX4 46 "java/lang/IllegalArgumentException" ["java/lang/RuntimeException", "java/lang/Exception"]).filter (fun w => !goodWord w), w ∈ xNest := by decide +kernel
theorem atG_46 : (Cond.classLink RX4 42 "java/lang/IllegalArgumentException" :: Cond.initialized "java/lang/IllegalArgumentException" :: vx_atS RX4 46 "java/lang/IllegalArgumentException" ["java/lang/RuntimeException", "java/lang/Exception"]).all vx_ot = true := by decide +kernel
theorem atN_57 : ∀ w ∈ (vx_atS RX4 57 "java/lang/IllegalStateException" ["java/lang/RuntimeException", "java/lang/Exception"]).filter (fun w => !goodWord w), w ∈ xNest := by decide +kernel
theorem atG_57 : (Cond.classLink RX4 53 "java/lang/IllegalStateException" :: Cond.initialized "java/lang/IllegalStateException" :: vx_atS RX4 57 "java/lang/IllegalStateException" ["java/lang/RuntimeException", "java/lang/Exception"]).all vx_ot = true := by decide +kernel
theorem atN_146 : ∀ w ∈ (vx_atS RX4 146 "java/lang/IndexOutOfBoundsException" ["java/lang/RuntimeException", "java/lang/Exception"]).filter (fun w => !goodWord w), w ∈ xNest := by decide +kernel
theorem atG_146 : (Cond.classLink RX4 142 "java/lang/IndexOutOfBoundsException" :: Cond.initialized "java/lang/IndexOutOfBoundsException" :: vx_atS RX4 146 "java/lang/IndexOutOfBoundsException" ["java/lang/RuntimeException", "java/lang/Exception"]).all vx_ot = true := by decide +kernel
end
section
theorem iw_X4_init_X2 : ∀ w ∈ wsX20, w ∈ wsX4_init := by decide +kernel
theorem iw_X4_init_X4 : ∀ w ∈ wsX40, w ∈ wsX4_init := by decide +kernel
theorem iw_X4_init_X3 : ∀ w ∈ wsX30, w ∈ wsX4_init := by decide +kernel
theorem iw_X4_init_X1 : ∀ w ∈ wsX10, w ∈ wsX4_init := by decide +kernel
set_option maxHeartbeats 4000000 in
set_option maxRecDepth 100000 in
/-- HeatGuild() -/
theorem c_X4_init {l : Launch} {D : va_G} {cy : ClassId × ClassId × ClassId} (go : Nat) : xM false l yX4_init wsX4_init ({ frames := 2, cells := 17, slots := 186, locals := 33 }) D cy [.ref go] ([(go, .inr (4, [.null, .null, .null, .null, .int 0, .int 0, .int 0]))]) (xQv D (fun w => ∃ nS nL nA nH nV nT nC nD mE mT mS mF mA o_5 o_16 o_27 o_40 : Nat, w = [(go, .inr (4, [.ref o_5, .ref o_16, .ref o_27, .ref o_40, .int 0, .int 0, .int 0])), (o_5, .inr (2, [.ref nS, .ref nL, .ref nA, .ref nH, .ref nV, .ref nT, .ref nC, .ref nD, .int 0])), (nS, .inl (cy.1, 12, .inl (fun _ => 0))), (nL, .inl (cy.1, 12, .inl (itr lIni (fun _ => 0) 11))), (nA, .inl (cy.1, 12, .inl (fun _ => 0))), (nH, .inl (cy.1, 12, .inl (fun _ => 0))), (nV, .inl (cy.1, 12, .inl (fun _ => 0))), (nT, .inl (cy.2.1, 12, .inl (fun _ => 0))), (nC, .inl (cy.2.1, 12, .inl (fun _ => 0))), (nD, .inl (cy.1, 12, .inl (fun _ => 0))), (o_16, .inr (3, [.null, .int 0, .int 0, .int 0])), (o_27, .inr (1, [.ref mE, .ref mT, .ref mS, .ref mF, .ref mA])), (mE, .inl (cy.1, 12, .inl (fun _ => 0))), (mT, .inl (cy.1, 12, .inl (fun _ => 0))), (mS, .inl (cy.2.1, 12, .inl (fun _ => 0))), (mF, .inl (cy.1, 12, .inl (fun _ => 0))), (mA, .inl (cy.1, 12, .inl (fun _ => 0))), (o_40, .inl (cy.1, 12, .inl (fun _ => 0)))])) 17 186 := by
  refine xM_of (X := [(go, .inr (4, [.null, .null, .null, .null, .int 0, .int 0, .int 0]))]) (pl := []) (nL := 1) (ret := none) RX4 [(0, .ref go)] (by decide +kernel) rfl rfl rfl (Nat.le_of_ble_eq_true rfl) (List.append_nil _).symm (fun p e s m args below meth c A C hname hT hZ => ?_)
  refine x_aload_n (q := 1) C 0 rfl dX4_init_0 rfl ?_
  refine x_objInit (q := 4) C (by decide +kernel : Cond.methodLink RX4 1 Lib.objectInit ∈ wsX4_init) (by decide +kernel) (by decide +kernel) dX4_init_1 (Nat.le_of_ble_eq_true rfl) (Nat.le_of_ble_eq_true rfl) rfl ?_
  refine x_aload_n (q := 5) C 0 rfl dX4_init_4 rfl ?_
  refine x_new (q := 8) C (T := TX2) (ci := 2) iw_X4_init_X2 tyX2 tyX2_ok (by decide +kernel : Cond.classLink RX4 7 RX2 ∈ wsX4_init) (by decide +kernel) (by decide +kernel) rfl [.null, .null, .null, .null, .null, .null, .null, .null, .int 0] (fun j hj => by rcases (show j = 0 ∨ j = 1 ∨ j = 2 ∨ j = 3 ∨ j = 4 ∨ j = 5 ∨ j = 6 ∨ j = 7 ∨ j = 8 by omega) with rfl | rfl | rfl | rfl | rfl | rfl | rfl | rfl | rfl <;> rfl) (Nat.le_of_ble_eq_true rfl) (Nat.le_of_ble_eq_true rfl) dX4_init_5 rfl rfl rfl (fun o_5 => ?_)
  refine x_ord [0, 1] [(go, .inr (4, [.null, .null, .null, .null, .int 0, .int 0, .int 0])), (o_5, .inr (2, [.null, .null, .null, .null, .null, .null, .null, .null, .int 0]))] rfl rfl ?_
  refine x_dup (q := 9) C rfl dX4_init_8 rfl ?_
  refine x_CvP (q := 12) C [1] [0] (cx := [(o_5, .inr (2, [.null, .null, .null, .null, .null, .null, .null, .null, .int 0]))]) (wr := [(go, .inr (4, [.null, .null, .null, .null, .int 0, .int 0, .int 0]))]) (st := [.ref o_5, .ref go]) rfl rfl rfl rfl (by decide) (fun H locs ls hP hPc hDc hS hFc hl => x_runIN C (As := []) (c_X2_init o_5) (⟨va_cnB 0 C.2.2.2.2.2.1 gX4_init_X2_init_n9 rfl rfl rfl (va_Nw.of rfl (C.2.2.2.2.2.2.1.2.1.use (B := #[]) (by decide +kernel : Cond.methodLinkNest RX4 9 yX2_init RX4 ∈ xNest))) (C.2.2.2.2.2.1 _ (by decide +kernel)) (by decide +kernel) ⟨Nat.le_of_ble_eq_true rfl, Nat.le_of_ble_eq_true rfl⟩, rfl, C.2.2.2.2.2.1 (Cond.instanceMethod yX2_init) (by decide +kernel)⟩) rfl rfl (Nat.le_of_ble_eq_true rfl) dX4_init_9 ⟨Nat.le_of_ble_eq_true rfl, Nat.le_of_ble_eq_true rfl⟩ (fun h => absurd h (by decide)) hP hPc hDc hS hFc hl) (k := 9) (n := 105) rfl rfl rfl (fun w1 hw => ?_)
  obtain ⟨nS, nL, nA, nH, nV, nT, nC, nD, rfl⟩ := hw
  refine x_ord [0, 1, 2, 3, 4, 5, 6, 7, 8, 9] [(go, .inr (4, [.null, .null, .null, .null, .int 0, .int 0, .int 0])), (o_5, .inr (2, [.ref nS, .ref nL, .ref nA, .ref nH, .ref nV, .ref nT, .ref nC, .ref nD, .int 0])), (nS, .inl (cy.1, 12, .inl (fun _ => 0))), (nL, .inl (cy.1, 12, .inl (itr lIni (fun _ => 0) 11))), (nA, .inl (cy.1, 12, .inl (fun _ => 0))), (nH, .inl (cy.1, 12, .inl (fun _ => 0))), (nV, .inl (cy.1, 12, .inl (fun _ => 0))), (nT, .inl (cy.2.1, 12, .inl (fun _ => 0))), (nC, .inl (cy.2.1, 12, .inl (fun _ => 0))), (nD, .inl (cy.1, 12, .inl (fun _ => 0)))] rfl rfl ?_
  refine x_putF (q := 15) C (T := TX4) iw_X4_init_X4 tyX4 tyX4_ok nmX4 rfl 0 0 [(go, .inr (4, [.ref o_5, .null, .null, .null, .int 0, .int 0, .int 0])), (o_5, .inr (2, [.ref nS, .ref nL, .ref nA, .ref nH, .ref nV, .ref nT, .ref nC, .ref nD, .int 0])), (nS, .inl (cy.1, 12, .inl (fun _ => 0))), (nL, .inl (cy.1, 12, .inl (itr lIni (fun _ => 0) 11))), (nA, .inl (cy.1, 12, .inl (fun _ => 0))), (nH, .inl (cy.1, 12, .inl (fun _ => 0))), (nV, .inl (cy.1, 12, .inl (fun _ => 0))), (nT, .inl (cy.2.1, 12, .inl (fun _ => 0))), (nC, .inl (cy.2.1, 12, .inl (fun _ => 0))), (nD, .inl (cy.1, 12, .inl (fun _ => 0)))] rfl rfl (by decide) rfl (by decide +kernel : Cond.fieldLink RX4 10 RX4 "net" "LHeatGuild$Net;" ∈ wsX4_init) rfl hname rfl (.object "HeatGuild$Net") (by decide +kernel) rfl rfl (Nat.le_of_ble_eq_true rfl) dX4_init_12 rfl ?_
  refine x_aload_n (q := 16) C 0 rfl dX4_init_15 rfl ?_
  refine x_new (q := 19) C (T := TX3) (ci := 3) iw_X4_init_X3 tyX3 tyX3_ok (by decide +kernel : Cond.classLink RX4 16 RX3 ∈ wsX4_init) (by decide +kernel) (by decide +kernel) rfl [.null, .int 0, .int 0, .int 0] (fun j hj => by rcases (show j = 0 ∨ j = 1 ∨ j = 2 ∨ j = 3 by omega) with rfl | rfl | rfl | rfl <;> rfl) (Nat.le_of_ble_eq_true rfl) (Nat.le_of_ble_eq_true rfl) dX4_init_16 rfl rfl rfl (fun o_16 => ?_)
  refine x_ord [0, 1, 2, 3, 4, 5, 6, 7, 8, 9, 10] [(go, .inr (4, [.ref o_5, .null, .null, .null, .int 0, .int 0, .int 0])), (o_5, .inr (2, [.ref nS, .ref nL, .ref nA, .ref nH, .ref nV, .ref nT, .ref nC, .ref nD, .int 0])), (nS, .inl (cy.1, 12, .inl (fun _ => 0))), (nL, .inl (cy.1, 12, .inl (itr lIni (fun _ => 0) 11))), (nA, .inl (cy.1, 12, .inl (fun _ => 0))), (nH, .inl (cy.1, 12, .inl (fun _ => 0))), (nV, .inl (cy.1, 12, .inl (fun _ => 0))), (nT, .inl (cy.2.1, 12, .inl (fun _ => 0))), (nC, .inl (cy.2.1, 12, .inl (fun _ => 0))), (nD, .inl (cy.1, 12, .inl (fun _ => 0))), (o_16, .inr (3, [.null, .int 0, .int 0, .int 0]))] rfl rfl ?_
  refine x_dup (q := 20) C rfl dX4_init_19 rfl ?_
  refine x_CvP (q := 23) C [10] [0, 1, 2, 3, 4, 5, 6, 7, 8, 9] (cx := [(o_16, .inr (3, [.null, .int 0, .int 0, .int 0]))]) (wr := [(go, .inr (4, [.ref o_5, .null, .null, .null, .int 0, .int 0, .int 0])), (o_5, .inr (2, [.ref nS, .ref nL, .ref nA, .ref nH, .ref nV, .ref nT, .ref nC, .ref nD, .int 0])), (nS, .inl (cy.1, 12, .inl (fun _ => 0))), (nL, .inl (cy.1, 12, .inl (itr lIni (fun _ => 0) 11))), (nA, .inl (cy.1, 12, .inl (fun _ => 0))), (nH, .inl (cy.1, 12, .inl (fun _ => 0))), (nV, .inl (cy.1, 12, .inl (fun _ => 0))), (nT, .inl (cy.2.1, 12, .inl (fun _ => 0))), (nC, .inl (cy.2.1, 12, .inl (fun _ => 0))), (nD, .inl (cy.1, 12, .inl (fun _ => 0)))]) (st := [.ref o_16, .ref go]) rfl rfl rfl rfl (by decide) (fun H locs ls hP hPc hDc hS hFc hl => x_runIN C (As := []) (c_X3_init o_16) (⟨va_cnB 0 C.2.2.2.2.2.1 gX4_init_X3_init_n18 rfl rfl rfl (va_Nw.of rfl (C.2.2.2.2.2.2.1.2.1.use (B := #[]) (by decide +kernel : Cond.methodLinkNest RX4 18 yX3_init RX4 ∈ xNest))) (C.2.2.2.2.2.1 _ (by decide +kernel)) (by decide +kernel) ⟨Nat.le_of_ble_eq_true rfl, Nat.le_of_ble_eq_true rfl⟩, rfl, C.2.2.2.2.2.1 (Cond.instanceMethod yX3_init) (by decide +kernel)⟩) rfl rfl (Nat.le_of_ble_eq_true rfl) dX4_init_20 ⟨Nat.le_of_ble_eq_true rfl, Nat.le_of_ble_eq_true rfl⟩ (fun h => absurd h (by decide)) hP hPc hDc hS hFc hl) (k := 10) (n := 109) rfl rfl rfl (fun w1 hw => ?_)
  obtain rfl := hw
  refine x_ord [0, 1, 2, 3, 4, 5, 6, 7, 8, 9, 10] [(go, .inr (4, [.ref o_5, .null, .null, .null, .int 0, .int 0, .int 0])), (o_5, .inr (2, [.ref nS, .ref nL, .ref nA, .ref nH, .ref nV, .ref nT, .ref nC, .ref nD, .int 0])), (nS, .inl (cy.1, 12, .inl (fun _ => 0))), (nL, .inl (cy.1, 12, .inl (itr lIni (fun _ => 0) 11))), (nA, .inl (cy.1, 12, .inl (fun _ => 0))), (nH, .inl (cy.1, 12, .inl (fun _ => 0))), (nV, .inl (cy.1, 12, .inl (fun _ => 0))), (nT, .inl (cy.2.1, 12, .inl (fun _ => 0))), (nC, .inl (cy.2.1, 12, .inl (fun _ => 0))), (nD, .inl (cy.1, 12, .inl (fun _ => 0))), (o_16, .inr (3, [.null, .int 0, .int 0, .int 0]))] rfl rfl ?_
  refine x_putF (q := 26) C (T := TX4) iw_X4_init_X4 tyX4 tyX4_ok nmX4 rfl 0 1 [(go, .inr (4, [.ref o_5, .ref o_16, .null, .null, .int 0, .int 0, .int 0])), (o_5, .inr (2, [.ref nS, .ref nL, .ref nA, .ref nH, .ref nV, .ref nT, .ref nC, .ref nD, .int 0])), (nS, .inl (cy.1, 12, .inl (fun _ => 0))), (nL, .inl (cy.1, 12, .inl (itr lIni (fun _ => 0) 11))), (nA, .inl (cy.1, 12, .inl (fun _ => 0))), (nH, .inl (cy.1, 12, .inl (fun _ => 0))), (nV, .inl (cy.1, 12, .inl (fun _ => 0))), (nT, .inl (cy.2.1, 12, .inl (fun _ => 0))), (nC, .inl (cy.2.1, 12, .inl (fun _ => 0))), (nD, .inl (cy.1, 12, .inl (fun _ => 0))), (o_16, .inr (3, [.null, .int 0, .int 0, .int 0]))] rfl rfl (by decide) rfl (by decide +kernel : Cond.fieldLink RX4 19 RX4 "plant" "LHeatGuild$Plant;" ∈ wsX4_init) rfl hname rfl (.object "HeatGuild$Plant") (by decide +kernel) rfl rfl (Nat.le_of_ble_eq_true rfl) dX4_init_23 rfl ?_
  refine x_aload_n (q := 27) C 0 rfl dX4_init_26 rfl ?_
  refine x_new (q := 30) C (T := TX1) (ci := 1) iw_X4_init_X1 tyX1 tyX1_ok (by decide +kernel : Cond.classLink RX4 23 RX1 ∈ wsX4_init) (by decide +kernel) (by decide +kernel) rfl [.null, .null, .null, .null, .null] (fun j hj => by rcases (show j = 0 ∨ j = 1 ∨ j = 2 ∨ j = 3 ∨ j = 4 by omega) with rfl | rfl | rfl | rfl | rfl <;> rfl) (Nat.le_of_ble_eq_true rfl) (Nat.le_of_ble_eq_true rfl) dX4_init_27 rfl rfl rfl (fun o_27 => ?_)
  refine x_ord [0, 1, 2, 3, 4, 5, 6, 7, 8, 9, 10, 11] [(go, .inr (4, [.ref o_5, .ref o_16, .null, .null, .int 0, .int 0, .int 0])), (o_5, .inr (2, [.ref nS, .ref nL, .ref nA, .ref nH, .ref nV, .ref nT, .ref nC, .ref nD, .int 0])), (nS, .inl (cy.1, 12, .inl (fun _ => 0))), (nL, .inl (cy.1, 12, .inl (itr lIni (fun _ => 0) 11))), (nA, .inl (cy.1, 12, .inl (fun _ => 0))), (nH, .inl (cy.1, 12, .inl (fun _ => 0))), (nV, .inl (cy.1, 12, .inl (fun _ => 0))), (nT, .inl (cy.2.1, 12, .inl (fun _ => 0))), (nC, .inl (cy.2.1, 12, .inl (fun _ => 0))), (nD, .inl (cy.1, 12, .inl (fun _ => 0))), (o_16, .inr (3, [.null, .int 0, .int 0, .int 0])), (o_27, .inr (1, [.null, .null, .null, .null, .null]))] rfl rfl ?_
  refine x_dup (q := 31) C rfl dX4_init_30 rfl ?_
  refine x_CvP (q := 34) C [11] [0, 1, 2, 3, 4, 5, 6, 7, 8, 9, 10] (cx := [(o_27, .inr (1, [.null, .null, .null, .null, .null]))]) (wr := [(go, .inr (4, [.ref o_5, .ref o_16, .null, .null, .int 0, .int 0, .int 0])), (o_5, .inr (2, [.ref nS, .ref nL, .ref nA, .ref nH, .ref nV, .ref nT, .ref nC, .ref nD, .int 0])), (nS, .inl (cy.1, 12, .inl (fun _ => 0))), (nL, .inl (cy.1, 12, .inl (itr lIni (fun _ => 0) 11))), (nA, .inl (cy.1, 12, .inl (fun _ => 0))), (nH, .inl (cy.1, 12, .inl (fun _ => 0))), (nV, .inl (cy.1, 12, .inl (fun _ => 0))), (nT, .inl (cy.2.1, 12, .inl (fun _ => 0))), (nC, .inl (cy.2.1, 12, .inl (fun _ => 0))), (nD, .inl (cy.1, 12, .inl (fun _ => 0))), (o_16, .inr (3, [.null, .int 0, .int 0, .int 0]))]) (st := [.ref o_27, .ref go]) rfl rfl rfl rfl (by decide) (fun H locs ls hP hPc hDc hS hFc hl => x_runIN C (As := []) (c_X1_init o_27) (⟨va_cnB 0 C.2.2.2.2.2.1 gX4_init_X1_init_n25 rfl rfl rfl (va_Nw.of rfl (C.2.2.2.2.2.2.1.2.1.use (B := #[]) (by decide +kernel : Cond.methodLinkNest RX4 25 yX1_init RX4 ∈ xNest))) (C.2.2.2.2.2.1 _ (by decide +kernel)) (by decide +kernel) ⟨Nat.le_of_ble_eq_true rfl, Nat.le_of_ble_eq_true rfl⟩, rfl, C.2.2.2.2.2.1 (Cond.instanceMethod yX1_init) (by decide +kernel)⟩) rfl rfl (Nat.le_of_ble_eq_true rfl) dX4_init_31 ⟨Nat.le_of_ble_eq_true rfl, Nat.le_of_ble_eq_true rfl⟩ (fun h => absurd h (by decide)) hP hPc hDc hS hFc hl) (k := 16) (n := 174) rfl rfl rfl (fun w1 hw => ?_)
  obtain ⟨mE, mT, mS, mF, mA, rfl⟩ := hw
  refine x_ord [0, 1, 2, 3, 4, 5, 6, 7, 8, 9, 10, 11, 12, 13, 14, 15, 16] [(go, .inr (4, [.ref o_5, .ref o_16, .null, .null, .int 0, .int 0, .int 0])), (o_5, .inr (2, [.ref nS, .ref nL, .ref nA, .ref nH, .ref nV, .ref nT, .ref nC, .ref nD, .int 0])), (nS, .inl (cy.1, 12, .inl (fun _ => 0))), (nL, .inl (cy.1, 12, .inl (itr lIni (fun _ => 0) 11))), (nA, .inl (cy.1, 12, .inl (fun _ => 0))), (nH, .inl (cy.1, 12, .inl (fun _ => 0))), (nV, .inl (cy.1, 12, .inl (fun _ => 0))), (nT, .inl (cy.2.1, 12, .inl (fun _ => 0))), (nC, .inl (cy.2.1, 12, .inl (fun _ => 0))), (nD, .inl (cy.1, 12, .inl (fun _ => 0))), (o_16, .inr (3, [.null, .int 0, .int 0, .int 0])), (o_27, .inr (1, [.ref mE, .ref mT, .ref mS, .ref mF, .ref mA])), (mE, .inl (cy.1, 12, .inl (fun _ => 0))), (mT, .inl (cy.1, 12, .inl (fun _ => 0))), (mS, .inl (cy.2.1, 12, .inl (fun _ => 0))), (mF, .inl (cy.1, 12, .inl (fun _ => 0))), (mA, .inl (cy.1, 12, .inl (fun _ => 0)))] rfl rfl ?_
  refine x_putF (q := 37) C (T := TX4) iw_X4_init_X4 tyX4 tyX4_ok nmX4 rfl 0 2 [(go, .inr (4, [.ref o_5, .ref o_16, .ref o_27, .null, .int 0, .int 0, .int 0])), (o_5, .inr (2, [.ref nS, .ref nL, .ref nA, .ref nH, .ref nV, .ref nT, .ref nC, .ref nD, .int 0])), (nS, .inl (cy.1, 12, .inl (fun _ => 0))), (nL, .inl (cy.1, 12, .inl (itr lIni (fun _ => 0) 11))), (nA, .inl (cy.1, 12, .inl (fun _ => 0))), (nH, .inl (cy.1, 12, .inl (fun _ => 0))), (nV, .inl (cy.1, 12, .inl (fun _ => 0))), (nT, .inl (cy.2.1, 12, .inl (fun _ => 0))), (nC, .inl (cy.2.1, 12, .inl (fun _ => 0))), (nD, .inl (cy.1, 12, .inl (fun _ => 0))), (o_16, .inr (3, [.null, .int 0, .int 0, .int 0])), (o_27, .inr (1, [.ref mE, .ref mT, .ref mS, .ref mF, .ref mA])), (mE, .inl (cy.1, 12, .inl (fun _ => 0))), (mT, .inl (cy.1, 12, .inl (fun _ => 0))), (mS, .inl (cy.2.1, 12, .inl (fun _ => 0))), (mF, .inl (cy.1, 12, .inl (fun _ => 0))), (mA, .inl (cy.1, 12, .inl (fun _ => 0)))] rfl rfl (by decide) rfl (by decide +kernel : Cond.fieldLink RX4 26 RX4 "meters" "LHeatGuild$Meters;" ∈ wsX4_init) rfl hname rfl (.object "HeatGuild$Meters") (by decide +kernel) rfl rfl (Nat.le_of_ble_eq_true rfl) dX4_init_34 rfl ?_
  refine x_aload_n (q := 38) C 0 rfl dX4_init_37 rfl ?_
  refine x_bipush (q := 40) C 12 rfl dX4_init_38 rfl ?_
  refine x_newI (q := 42) C (N := 12) (by decide +kernel) (by decide) (by decide) (by decide) (Nat.le_of_ble_eq_true rfl) (Nat.le_of_ble_eq_true rfl) dX4_init_40 rfl rfl rfl (fun o_40 => ?_)
  refine x_ord [0, 1, 2, 3, 4, 5, 6, 7, 8, 9, 10, 11, 12, 13, 14, 15, 16, 17] [(go, .inr (4, [.ref o_5, .ref o_16, .ref o_27, .null, .int 0, .int 0, .int 0])), (o_5, .inr (2, [.ref nS, .ref nL, .ref nA, .ref nH, .ref nV, .ref nT, .ref nC, .ref nD, .int 0])), (nS, .inl (cy.1, 12, .inl (fun _ => 0))), (nL, .inl (cy.1, 12, .inl (itr lIni (fun _ => 0) 11))), (nA, .inl (cy.1, 12, .inl (fun _ => 0))), (nH, .inl (cy.1, 12, .inl (fun _ => 0))), (nV, .inl (cy.1, 12, .inl (fun _ => 0))), (nT, .inl (cy.2.1, 12, .inl (fun _ => 0))), (nC, .inl (cy.2.1, 12, .inl (fun _ => 0))), (nD, .inl (cy.1, 12, .inl (fun _ => 0))), (o_16, .inr (3, [.null, .int 0, .int 0, .int 0])), (o_27, .inr (1, [.ref mE, .ref mT, .ref mS, .ref mF, .ref mA])), (mE, .inl (cy.1, 12, .inl (fun _ => 0))), (mT, .inl (cy.1, 12, .inl (fun _ => 0))), (mS, .inl (cy.2.1, 12, .inl (fun _ => 0))), (mF, .inl (cy.1, 12, .inl (fun _ => 0))), (mA, .inl (cy.1, 12, .inl (fun _ => 0))), (o_40, .inl (cy.1, 12, .inl (fun _ => 0)))] rfl rfl ?_
  refine x_putF (q := 45) C (T := TX4) iw_X4_init_X4 tyX4 tyX4_ok nmX4 rfl 0 3 [(go, .inr (4, [.ref o_5, .ref o_16, .ref o_27, .ref o_40, .int 0, .int 0, .int 0])), (o_5, .inr (2, [.ref nS, .ref nL, .ref nA, .ref nH, .ref nV, .ref nT, .ref nC, .ref nD, .int 0])), (nS, .inl (cy.1, 12, .inl (fun _ => 0))), (nL, .inl (cy.1, 12, .inl (itr lIni (fun _ => 0) 11))), (nA, .inl (cy.1, 12, .inl (fun _ => 0))), (nH, .inl (cy.1, 12, .inl (fun _ => 0))), (nV, .inl (cy.1, 12, .inl (fun _ => 0))), (nT, .inl (cy.2.1, 12, .inl (fun _ => 0))), (nC, .inl (cy.2.1, 12, .inl (fun _ => 0))), (nD, .inl (cy.1, 12, .inl (fun _ => 0))), (o_16, .inr (3, [.null, .int 0, .int 0, .int 0])), (o_27, .inr (1, [.ref mE, .ref mT, .ref mS, .ref mF, .ref mA])), (mE, .inl (cy.1, 12, .inl (fun _ => 0))), (mT, .inl (cy.1, 12, .inl (fun _ => 0))), (mS, .inl (cy.2.1, 12, .inl (fun _ => 0))), (mF, .inl (cy.1, 12, .inl (fun _ => 0))), (mA, .inl (cy.1, 12, .inl (fun _ => 0))), (o_40, .inl (cy.1, 12, .inl (fun _ => 0)))] rfl rfl (by decide) rfl (by decide +kernel : Cond.fieldLink RX4 30 RX4 "billed" "[I" ∈ wsX4_init) rfl hname rfl (.array .int) (by decide +kernel) rfl rfl (Nat.le_of_ble_eq_true rfl) dX4_init_42 rfl ?_
  exact x_vret C rfl (⟨nS, nL, nA, nH, nV, nT, nC, nD, mE, mT, mS, mF, mA, o_5, o_16, o_27, o_40, rfl⟩) dX4_init_45 (Nat.le_of_ble_eq_true rfl) (Nat.le_of_ble_eq_true rfl)

theorem at_X4_requireTemperature_46 : ∀ w ∈ (vx_atS RX4 46 "java/lang/IllegalArgumentException" ["java/lang/RuntimeException", "java/lang/Exception"]).filter goodWord, w ∈ wsX4_requireTemperature := by decide +kernel
set_option maxHeartbeats 4000000 in
set_option maxRecDepth 100000 in
/-- requireTemperature -/
theorem c_X4_requireTemperature {l : Launch} {D : va_G} {cy : ClassId × ClassId × ClassId} (t : Int32) (hfl : l.stackTraces = false) : xX true l yX4_requireTemperature wsX4_requireTemperature ({ frames := 6, cells := 1, slots := 6, locals := 82 }) D cy [.int t] ([]) (xQv D (fun w => cdTemp t = 0 ∧ w = [])) (fun E => cdTemp t = 1 ∧ E = "java/lang/IllegalArgumentException") 1 6 := by
  refine xX_of (X := []) (pl := []) (nL := 1) (ret := none) RX4 [(0, .int t)] (by decide +kernel) rfl rfl rfl (Nat.le_of_ble_eq_true rfl) (List.append_nil _).symm (fun p e s m args below meth c A C hname hT hZ => ?_)
  refine x_iload_n (q := 1) C 0 rfl dX4_requireTemperature_0 rfl ?_
  refine x_bipush (q := 3) C (-20) rfl dX4_requireTemperature_1 rfl ?_
  refine x_bipush (q := 5) C 30 rfl dX4_requireTemperature_3 rfl ?_
  refine x_CiP (q := 8) C [] [] (cx := []) (wr := []) (st := []) rfl rfl rfl rfl (by decide) (fun H locs ls hP hPc hDc hS hFc hl => x_runS C (As := [.int t, .int (-20), .int 30]) (c_X4_isWithin t (-20) 30) (va_cwS 3 C.2.2.2.2.2.1 gX4_requireTemperature_X4_isWithin rfl rfl rfl (by decide +kernel) ⟨Nat.le_of_ble_eq_true rfl, Nat.le_of_ble_eq_true rfl⟩) rfl rfl (Nat.le_of_ble_eq_true rfl) dX4_requireTemperature_5 ⟨Nat.le_of_ble_eq_true rfl, Nat.le_of_ble_eq_true rfl⟩ (fun h => absurd h (by decide)) hP hPc hDc hS hFc hl) (k := 0) (n := 0) rfl rfl rfl (fun r_5 w1 hw => ?_)
  obtain ⟨rfl, rfl⟩ := hw
  refine x_ord [] [] rfl rfl ?_
  refine x_if_ne (q := 11) C 21 dX4_requireTemperature_8 (by decide) rfl (fun c_8 => ?_) (fun c_8 => ?_)
  · exact x_vretX C rfl (⟨by simp [cdTemp, c_8], rfl⟩) dX4_requireTemperature_21 (Nat.le_of_ble_eq_true rfl) (Nat.le_of_ble_eq_true rfl)
  · exact x_throw C hfl hT (hZ rfl) "temperature is out of range" rfl (by decide +kernel) (by decide +kernel : Cond.classLink RX4 42 "java/lang/IllegalArgumentException" ∈ wsX4_requireTemperature) (by decide +kernel) (by decide +kernel) at_X4_requireTemperature_46 atN_46 atG_46 dX4_requireTemperature_11 dX4_requireTemperature_14 dX4_requireTemperature_15 dX4_requireTemperature_17 dX4_requireTemperature_20 (Nat.le_of_ble_eq_true rfl) (Nat.le_of_ble_eq_true rfl) (Nat.le_of_ble_eq_true rfl) (Nat.le_of_ble_eq_true rfl) (Nat.le_of_ble_eq_true rfl) (Nat.le_of_ble_eq_true rfl) (⟨by simp [cdTemp, c_8], rfl⟩) rfl

theorem at_X4_feed_46 : ∀ w ∈ (vx_atS RX4 46 "java/lang/IllegalArgumentException" ["java/lang/RuntimeException", "java/lang/Exception"]).filter goodWord, w ∈ wsX4_feed := by decide +kernel
theorem iw_X4_feed_X4 : ∀ w ∈ wsX40, w ∈ wsX4_feed := by decide +kernel
theorem iw_X4_feed_X2 : ∀ w ∈ wsX20, w ∈ wsX4_feed := by decide +kernel
theorem at_X4_feed_57 : ∀ w ∈ (vx_atS RX4 57 "java/lang/IllegalStateException" ["java/lang/RuntimeException", "java/lang/Exception"]).filter goodWord, w ∈ wsX4_feed := by decide +kernel
set_option maxHeartbeats 4000000 in
set_option maxRecDepth 100000 in
/-- X4_feed -/
theorem c_X4_feed {l : Launch} {D : va_G} {cy : ClassId × ClassId × ClassId} (go no po mo gB : Nat) (nS nL nA nH nV nT nC nD : Nat) (sr : Nat → Nat) (lo : Nat → Int32) (ph lt ll sl J F L : Int32) (hfl : l.stackTraces = false) : xX true l yX4_feed wsX4_feed ({ frames := 6, cells := 1, slots := 6, locals := 82 }) D cy [.ref go, .int J, .int F, .int L] ([(go, .inr (4, [.ref no, .ref po, .ref mo, .ref gB, .int ph, .int lt, .int ll])), (no, .inr (2, [.ref nS, .ref nL, .ref nA, .ref nH, .ref nV, .ref nT, .ref nC, .ref nD, .int sl])), (nS, .inl (cy.1, 12, .inl (fun i => nI (sr i)))), (nL, .inl (cy.1, 12, .inl lo))]) (xQi D (fun r w => cdFeed J F L ph = 0 ∧ r = nI (sr J.toNatClampNeg) ∧ w = [(go, .inr (4, [.ref no, .ref po, .ref mo, .ref gB, .int ph, .int lt, .int ll])), (no, .inr (2, [.ref nS, .ref nL, .ref nA, .ref nH, .ref nV, .ref nT, .ref nC, .ref nD, .int sl])), (nS, .inl (cy.1, 12, .inl (upd (fun i => nI (sr i)) J.toNatClampNeg F))), (nL, .inl (cy.1, 12, .inl (upd lo J.toNatClampNeg L)))])) (fun E => (cdFeed J F L ph = 1 ∧ E = "java/lang/IllegalArgumentException") ∨ (cdFeed J F L ph = 2 ∧ E = "java/lang/IllegalStateException")) 1 6 := by
  refine xX_of (X := [(go, .inr (4, [.ref no, .ref po, .ref mo, .ref gB, .int ph, .int lt, .int ll])), (no, .inr (2, [.ref nS, .ref nL, .ref nA, .ref nH, .ref nV, .ref nT, .ref nC, .ref nD, .int sl])), (nS, .inl (cy.1, 12, .inl (fun i => nI (sr i)))), (nL, .inl (cy.1, 12, .inl lo))]) (pl := []) (nL := 5) (ret := (some .int)) RX4 [(0, .ref go), (1, .int J), (2, .int F), (3, .int L)] (by decide +kernel) rfl rfl rfl (Nat.le_of_ble_eq_true rfl) (List.append_nil _).symm (fun p e s m args below meth c A C hname hT hZ => ?_)
  refine x_iload_n (q := 1) C 1 rfl dX4_feed_0 rfl ?_
  refine x_CiP (q := 4) C [] [0, 1, 2, 3] (cx := []) (wr := [(go, .inr (4, [.ref no, .ref po, .ref mo, .ref gB, .int ph, .int lt, .int ll])), (no, .inr (2, [.ref nS, .ref nL, .ref nA, .ref nH, .ref nV, .ref nT, .ref nC, .ref nD, .int sl])), (nS, .inl (cy.1, 12, .inl (fun i => nI (sr i)))), (nL, .inl (cy.1, 12, .inl lo))]) (st := []) rfl rfl rfl rfl (by decide) (fun H locs ls hP hPc hDc hS hFc hl => x_runS C (As := [.int J]) (c_X4_isHouse J) (va_cwS 1 C.2.2.2.2.2.1 gX4_feed_X4_isHouse rfl rfl rfl (by decide +kernel) ⟨Nat.le_of_ble_eq_true rfl, Nat.le_of_ble_eq_true rfl⟩) rfl rfl (Nat.le_of_ble_eq_true rfl) dX4_feed_1 ⟨Nat.le_of_ble_eq_true rfl, Nat.le_of_ble_eq_true rfl⟩ (fun h => absurd h (by decide)) hP hPc hDc hS hFc hl) (k := 0) (n := 0) rfl rfl rfl (fun r_1 w1 hw => ?_)
  obtain ⟨rfl, rfl⟩ := hw
  refine x_ord [0, 1, 2, 3] [(go, .inr (4, [.ref no, .ref po, .ref mo, .ref gB, .int ph, .int lt, .int ll])), (no, .inr (2, [.ref nS, .ref nL, .ref nA, .ref nH, .ref nV, .ref nT, .ref nC, .ref nD, .int sl])), (nS, .inl (cy.1, 12, .inl (fun i => nI (sr i)))), (nL, .inl (cy.1, 12, .inl lo))] rfl rfl ?_
  refine x_if_eq (q := 7) C 28 dX4_feed_4 (by decide) rfl (fun c_4 => ?_) (fun c_4 => ?_)
  · exact x_throw C hfl hT (hZ rfl) "junction, from or loss is out of range" rfl (by decide +kernel) (by decide +kernel : Cond.classLink RX4 42 "java/lang/IllegalArgumentException" ∈ wsX4_feed) (by decide +kernel) (by decide +kernel) at_X4_feed_46 atN_46 atG_46 dX4_feed_28 dX4_feed_31 dX4_feed_32 dX4_feed_34 dX4_feed_37 (Nat.le_of_ble_eq_true rfl) (Nat.le_of_ble_eq_true rfl) (Nat.le_of_ble_eq_true rfl) (Nat.le_of_ble_eq_true rfl) (Nat.le_of_ble_eq_true rfl) (Nat.le_of_ble_eq_true rfl) (Or.inl ⟨by simp [cdFeed, c_4], rfl⟩) rfl
  · refine x_iload_n (q := 8) C 2 rfl dX4_feed_7 rfl ?_
    refine x_iconst (q := 9) C 0 rfl dX4_feed_8 rfl ?_
    refine x_iload_n (q := 10) C 1 rfl dX4_feed_9 rfl ?_
    refine x_iconst (q := 11) C 1 rfl dX4_feed_10 rfl ?_
    refine x_isub (q := 12) C (J - 1) (rfl) dX4_feed_11 rfl ?_
    refine x_CiP (q := 15) C [] [0, 1, 2, 3] (cx := []) (wr := [(go, .inr (4, [.ref no, .ref po, .ref mo, .ref gB, .int ph, .int lt, .int ll])), (no, .inr (2, [.ref nS, .ref nL, .ref nA, .ref nH, .ref nV, .ref nT, .ref nC, .ref nD, .int sl])), (nS, .inl (cy.1, 12, .inl (fun i => nI (sr i)))), (nL, .inl (cy.1, 12, .inl lo))]) (st := []) rfl rfl rfl rfl (by decide) (fun H locs ls hP hPc hDc hS hFc hl => x_runS C (As := [.int F, .int 0, .int (J - 1)]) (c_X4_isWithin F 0 (J - 1)) (va_cwS 3 C.2.2.2.2.2.1 gX4_feed_X4_isWithin rfl rfl rfl (by decide +kernel) ⟨Nat.le_of_ble_eq_true rfl, Nat.le_of_ble_eq_true rfl⟩) rfl rfl (Nat.le_of_ble_eq_true rfl) dX4_feed_12 ⟨Nat.le_of_ble_eq_true rfl, Nat.le_of_ble_eq_true rfl⟩ (fun h => absurd h (by decide)) hP hPc hDc hS hFc hl) (k := 0) (n := 0) rfl rfl rfl (fun r_12 w1 hw => ?_)
    obtain ⟨rfl, rfl⟩ := hw
    refine x_ord [0, 1, 2, 3] [(go, .inr (4, [.ref no, .ref po, .ref mo, .ref gB, .int ph, .int lt, .int ll])), (no, .inr (2, [.ref nS, .ref nL, .ref nA, .ref nH, .ref nV, .ref nT, .ref nC, .ref nD, .int sl])), (nS, .inl (cy.1, 12, .inl (fun i => nI (sr i)))), (nL, .inl (cy.1, 12, .inl lo))] rfl rfl ?_
    refine x_if_eq (q := 18) C 28 dX4_feed_15 (by decide) rfl (fun c_15 => ?_) (fun c_15 => ?_)
    · exact x_throw C hfl hT (hZ rfl) "junction, from or loss is out of range" rfl (by decide +kernel) (by decide +kernel : Cond.classLink RX4 42 "java/lang/IllegalArgumentException" ∈ wsX4_feed) (by decide +kernel) (by decide +kernel) at_X4_feed_46 atN_46 atG_46 dX4_feed_28 dX4_feed_31 dX4_feed_32 dX4_feed_34 dX4_feed_37 (Nat.le_of_ble_eq_true rfl) (Nat.le_of_ble_eq_true rfl) (Nat.le_of_ble_eq_true rfl) (Nat.le_of_ble_eq_true rfl) (Nat.le_of_ble_eq_true rfl) (Nat.le_of_ble_eq_true rfl) (Or.inl ⟨by simp [cdFeed, c_4, c_15], rfl⟩) rfl
    · refine x_iload_n (q := 19) C 3 rfl dX4_feed_18 rfl ?_
      refine x_iconst (q := 20) C 0 rfl dX4_feed_19 rfl ?_
      refine x_bipush (q := 22) C 20 rfl dX4_feed_20 rfl ?_
      refine x_CiP (q := 25) C [] [0, 1, 2, 3] (cx := []) (wr := [(go, .inr (4, [.ref no, .ref po, .ref mo, .ref gB, .int ph, .int lt, .int ll])), (no, .inr (2, [.ref nS, .ref nL, .ref nA, .ref nH, .ref nV, .ref nT, .ref nC, .ref nD, .int sl])), (nS, .inl (cy.1, 12, .inl (fun i => nI (sr i)))), (nL, .inl (cy.1, 12, .inl lo))]) (st := []) rfl rfl rfl rfl (by decide) (fun H locs ls hP hPc hDc hS hFc hl => x_runS C (As := [.int L, .int 0, .int 20]) (c_X4_isWithin L 0 20) (va_cwS 3 C.2.2.2.2.2.1 gX4_feed_X4_isWithin rfl rfl rfl (by decide +kernel) ⟨Nat.le_of_ble_eq_true rfl, Nat.le_of_ble_eq_true rfl⟩) rfl rfl (Nat.le_of_ble_eq_true rfl) dX4_feed_22 ⟨Nat.le_of_ble_eq_true rfl, Nat.le_of_ble_eq_true rfl⟩ (fun h => absurd h (by decide)) hP hPc hDc hS hFc hl) (k := 0) (n := 0) rfl rfl rfl (fun r_22 w1 hw => ?_)
      obtain ⟨rfl, rfl⟩ := hw
      refine x_ord [0, 1, 2, 3] [(go, .inr (4, [.ref no, .ref po, .ref mo, .ref gB, .int ph, .int lt, .int ll])), (no, .inr (2, [.ref nS, .ref nL, .ref nA, .ref nH, .ref nV, .ref nT, .ref nC, .ref nD, .int sl])), (nS, .inl (cy.1, 12, .inl (fun i => nI (sr i)))), (nL, .inl (cy.1, 12, .inl lo))] rfl rfl ?_
      refine x_if_ne (q := 28) C 38 dX4_feed_25 (by decide) rfl (fun c_25 => ?_) (fun c_25 => ?_)
      · refine x_aload_n (q := 39) C 0 rfl dX4_feed_38 rfl ?_
        refine x_get (q := 42) C (T := TX4) iw_X4_feed_X4 rfl 0 4 rfl (by decide) rfl (by decide +kernel : Cond.fieldLink RX4 49 RX4 "passedHours" "I" ∈ wsX4_feed) rfl dX4_feed_39 rfl ?_
        refine x_if_le (q := 45) C 55 dX4_feed_42 (by decide) rfl (fun c_42 => ?_) (fun c_42 => ?_)
        · refine x_aload_n (q := 56) C 0 rfl dX4_feed_55 rfl ?_
          refine x_get (q := 59) C (T := TX4) iw_X4_feed_X4 rfl 0 0 rfl (by decide) rfl (by decide +kernel : Cond.fieldLink RX4 10 RX4 "net" "LHeatGuild$Net;" ∈ wsX4_feed) rfl dX4_feed_56 rfl ?_
          refine x_getN (q := 62) C (T := TX2) iw_X4_feed_X2 rfl 1 0 rfl (by decide) rfl (by decide +kernel : Cond.fieldLinkNest RX4 58 RX2 "source" "[I" RX4 ∈ xNest) rfl dX4_feed_59 rfl ?_
          refine x_iload_n (q := 63) C 1 rfl dX4_feed_62 rfl ?_
          refine x_iald (q := 64) C 2 (nI (sr J.toNatClampNeg)) rfl (pHouse_in c_4) rfl dX4_feed_63 rfl ?_
          refine x_istore (q := 66) C [(4, .int (nI (sr J.toNatClampNeg))), (0, .ref go), (1, .int J), (2, .int F), (3, .int L)] dX4_feed_64 (by decide) rfl rfl ?_
          refine x_aload_n (q := 67) C 1 rfl dX4_feed_66 rfl ?_
          refine x_get (q := 70) C (T := TX4) iw_X4_feed_X4 rfl 0 0 rfl (by decide) rfl (by decide +kernel : Cond.fieldLink RX4 10 RX4 "net" "LHeatGuild$Net;" ∈ wsX4_feed) rfl dX4_feed_67 rfl ?_
          refine x_getN (q := 73) C (T := TX2) iw_X4_feed_X2 rfl 1 0 rfl (by decide) rfl (by decide +kernel : Cond.fieldLinkNest RX4 58 RX2 "source" "[I" RX4 ∈ xNest) rfl dX4_feed_70 rfl ?_
          refine x_iload_n (q := 74) C 2 rfl dX4_feed_73 rfl ?_
          refine x_iload_n (q := 75) C 3 rfl dX4_feed_74 rfl ?_
          refine x_iast (q := 76) C 2 [(go, .inr (4, [.ref no, .ref po, .ref mo, .ref gB, .int ph, .int lt, .int ll])), (no, .inr (2, [.ref nS, .ref nL, .ref nA, .ref nH, .ref nV, .ref nT, .ref nC, .ref nD, .int sl])), (nS, .inl (cy.1, 12, .inl (upd (fun i => nI (sr i)) J.toNatClampNeg F))), (nL, .inl (cy.1, 12, .inl lo))] rfl (pHouse_in c_4) rfl dX4_feed_75 rfl ?_
          refine x_aload_n (q := 77) C 1 rfl dX4_feed_76 rfl ?_
          refine x_get (q := 80) C (T := TX4) iw_X4_feed_X4 rfl 0 0 rfl (by decide) rfl (by decide +kernel : Cond.fieldLink RX4 10 RX4 "net" "LHeatGuild$Net;" ∈ wsX4_feed) rfl dX4_feed_77 rfl ?_
          refine x_getN (q := 83) C (T := TX2) iw_X4_feed_X2 rfl 1 1 rfl (by decide) rfl (by decide +kernel : Cond.fieldLinkNest RX4 61 RX2 "loss" "[I" RX4 ∈ xNest) rfl dX4_feed_80 rfl ?_
          refine x_iload_n (q := 84) C 2 rfl dX4_feed_83 rfl ?_
          refine x_iload_n (q := 85) C 4 rfl dX4_feed_84 rfl ?_
          refine x_iast (q := 86) C 3 [(go, .inr (4, [.ref no, .ref po, .ref mo, .ref gB, .int ph, .int lt, .int ll])), (no, .inr (2, [.ref nS, .ref nL, .ref nA, .ref nH, .ref nV, .ref nT, .ref nC, .ref nD, .int sl])), (nS, .inl (cy.1, 12, .inl (upd (fun i => nI (sr i)) J.toNatClampNeg F))), (nL, .inl (cy.1, 12, .inl (upd lo J.toNatClampNeg L)))] rfl (pHouse_in c_4) rfl dX4_feed_85 rfl ?_
          refine x_iload (q := 88) C 0 rfl dX4_feed_86 rfl ?_
          exact x_iretX C .int rfl rfl (⟨by simp [cdFeed, c_4, c_15, c_25, c_42], rfl, rfl⟩) dX4_feed_88 (Nat.le_of_ble_eq_true rfl) (Nat.le_of_ble_eq_true rfl)
        · exact x_throw C hfl hT (hZ rfl) "an hour has passed" rfl (by decide +kernel) (by decide +kernel : Cond.classLink RX4 53 "java/lang/IllegalStateException" ∈ wsX4_feed) (by decide +kernel) (by decide +kernel) at_X4_feed_57 atN_57 atG_57 dX4_feed_45 dX4_feed_48 dX4_feed_49 dX4_feed_51 dX4_feed_54 (Nat.le_of_ble_eq_true rfl) (Nat.le_of_ble_eq_true rfl) (Nat.le_of_ble_eq_true rfl) (Nat.le_of_ble_eq_true rfl) (Nat.le_of_ble_eq_true rfl) (Nat.le_of_ble_eq_true rfl) (Or.inr ⟨by simp [cdFeed, c_4, c_15, c_25, c_42], rfl⟩) rfl
      · exact x_throw C hfl hT (hZ rfl) "junction, from or loss is out of range" rfl (by decide +kernel) (by decide +kernel : Cond.classLink RX4 42 "java/lang/IllegalArgumentException" ∈ wsX4_feed) (by decide +kernel) (by decide +kernel) at_X4_feed_46 atN_46 atG_46 dX4_feed_28 dX4_feed_31 dX4_feed_32 dX4_feed_34 dX4_feed_37 (Nat.le_of_ble_eq_true rfl) (Nat.le_of_ble_eq_true rfl) (Nat.le_of_ble_eq_true rfl) (Nat.le_of_ble_eq_true rfl) (Nat.le_of_ble_eq_true rfl) (Nat.le_of_ble_eq_true rfl) (Or.inl ⟨by simp [cdFeed, c_4, c_15, c_25], rfl⟩) rfl

theorem at_X4_setArea_46 : ∀ w ∈ (vx_atS RX4 46 "java/lang/IllegalArgumentException" ["java/lang/RuntimeException", "java/lang/Exception"]).filter goodWord, w ∈ wsX4_setArea := by decide +kernel
theorem iw_X4_setArea_X4 : ∀ w ∈ wsX40, w ∈ wsX4_setArea := by decide +kernel
theorem iw_X4_setArea_X2 : ∀ w ∈ wsX20, w ∈ wsX4_setArea := by decide +kernel
set_option maxHeartbeats 4000000 in
set_option maxRecDepth 100000 in
/-- X4_setArea -/
theorem c_X4_setArea {l : Launch} {D : va_G} {cy : ClassId × ClassId × ClassId} (go no po mo gB : Nat) (nS nL nA nH nV nT nC nD : Nat) (ar : Nat → Int32) (ph lt ll sl J V : Int32) (hfl : l.stackTraces = false) : xX true l yX4_setArea wsX4_setArea ({ frames := 6, cells := 1, slots := 6, locals := 82 }) D cy [.ref go, .int J, .int V] ([(go, .inr (4, [.ref no, .ref po, .ref mo, .ref gB, .int ph, .int lt, .int ll])), (no, .inr (2, [.ref nS, .ref nL, .ref nA, .ref nH, .ref nV, .ref nT, .ref nC, .ref nD, .int sl])), (nA, .inl (cy.1, 12, .inl ar))]) (xQi D (fun r w => cdIn J V 0 50 = 0 ∧ r = ar J.toNatClampNeg ∧ w = [(go, .inr (4, [.ref no, .ref po, .ref mo, .ref gB, .int ph, .int lt, .int ll])), (no, .inr (2, [.ref nS, .ref nL, .ref nA, .ref nH, .ref nV, .ref nT, .ref nC, .ref nD, .int sl])), (nA, .inl (cy.1, 12, .inl (upd ar J.toNatClampNeg V)))])) (fun E => cdIn J V 0 50 = 1 ∧ E = "java/lang/IllegalArgumentException") 1 6 := by
  refine xX_of (X := [(go, .inr (4, [.ref no, .ref po, .ref mo, .ref gB, .int ph, .int lt, .int ll])), (no, .inr (2, [.ref nS, .ref nL, .ref nA, .ref nH, .ref nV, .ref nT, .ref nC, .ref nD, .int sl])), (nA, .inl (cy.1, 12, .inl ar))]) (pl := []) (nL := 4) (ret := (some .int)) RX4 [(0, .ref go), (1, .int J), (2, .int V)] (by decide +kernel) rfl rfl rfl (Nat.le_of_ble_eq_true rfl) (List.append_nil _).symm (fun p e s m args below meth c A C hname hT hZ => ?_)
  refine x_iload_n (q := 1) C 1 rfl dX4_setArea_0 rfl ?_
  refine x_CiP (q := 4) C [] [0, 1, 2] (cx := []) (wr := [(go, .inr (4, [.ref no, .ref po, .ref mo, .ref gB, .int ph, .int lt, .int ll])), (no, .inr (2, [.ref nS, .ref nL, .ref nA, .ref nH, .ref nV, .ref nT, .ref nC, .ref nD, .int sl])), (nA, .inl (cy.1, 12, .inl ar))]) (st := []) rfl rfl rfl rfl (by decide) (fun H locs ls hP hPc hDc hS hFc hl => x_runS C (As := [.int J]) (c_X4_isHouse J) (va_cwS 1 C.2.2.2.2.2.1 gX4_setArea_X4_isHouse rfl rfl rfl (by decide +kernel) ⟨Nat.le_of_ble_eq_true rfl, Nat.le_of_ble_eq_true rfl⟩) rfl rfl (Nat.le_of_ble_eq_true rfl) dX4_setArea_1 ⟨Nat.le_of_ble_eq_true rfl, Nat.le_of_ble_eq_true rfl⟩ (fun h => absurd h (by decide)) hP hPc hDc hS hFc hl) (k := 0) (n := 0) rfl rfl rfl (fun r_1 w1 hw => ?_)
  obtain ⟨rfl, rfl⟩ := hw
  refine x_ord [0, 1, 2] [(go, .inr (4, [.ref no, .ref po, .ref mo, .ref gB, .int ph, .int lt, .int ll])), (no, .inr (2, [.ref nS, .ref nL, .ref nA, .ref nH, .ref nV, .ref nT, .ref nC, .ref nD, .int sl])), (nA, .inl (cy.1, 12, .inl ar))] rfl rfl ?_
  refine x_if_eq (q := 7) C 17 dX4_setArea_4 (by decide) rfl (fun c_4 => ?_) (fun c_4 => ?_)
  · exact x_throw C hfl hT (hZ rfl) "junction or area is out of range" rfl (by decide +kernel) (by decide +kernel : Cond.classLink RX4 42 "java/lang/IllegalArgumentException" ∈ wsX4_setArea) (by decide +kernel) (by decide +kernel) at_X4_setArea_46 atN_46 atG_46 dX4_setArea_17 dX4_setArea_20 dX4_setArea_21 dX4_setArea_23 dX4_setArea_26 (Nat.le_of_ble_eq_true rfl) (Nat.le_of_ble_eq_true rfl) (Nat.le_of_ble_eq_true rfl) (Nat.le_of_ble_eq_true rfl) (Nat.le_of_ble_eq_true rfl) (Nat.le_of_ble_eq_true rfl) (⟨by simp [cdIn, c_4], rfl⟩) rfl
  · refine x_iload_n (q := 8) C 2 rfl dX4_setArea_7 rfl ?_
    refine x_iconst (q := 9) C 0 rfl dX4_setArea_8 rfl ?_
    refine x_bipush (q := 11) C 50 rfl dX4_setArea_9 rfl ?_
    refine x_CiP (q := 14) C [] [0, 1, 2] (cx := []) (wr := [(go, .inr (4, [.ref no, .ref po, .ref mo, .ref gB, .int ph, .int lt, .int ll])), (no, .inr (2, [.ref nS, .ref nL, .ref nA, .ref nH, .ref nV, .ref nT, .ref nC, .ref nD, .int sl])), (nA, .inl (cy.1, 12, .inl ar))]) (st := []) rfl rfl rfl rfl (by decide) (fun H locs ls hP hPc hDc hS hFc hl => x_runS C (As := [.int V, .int 0, .int 50]) (c_X4_isWithin V 0 50) (va_cwS 3 C.2.2.2.2.2.1 gX4_setArea_X4_isWithin rfl rfl rfl (by decide +kernel) ⟨Nat.le_of_ble_eq_true rfl, Nat.le_of_ble_eq_true rfl⟩) rfl rfl (Nat.le_of_ble_eq_true rfl) dX4_setArea_11 ⟨Nat.le_of_ble_eq_true rfl, Nat.le_of_ble_eq_true rfl⟩ (fun h => absurd h (by decide)) hP hPc hDc hS hFc hl) (k := 0) (n := 0) rfl rfl rfl (fun r_11 w1 hw => ?_)
    obtain ⟨rfl, rfl⟩ := hw
    refine x_ord [0, 1, 2] [(go, .inr (4, [.ref no, .ref po, .ref mo, .ref gB, .int ph, .int lt, .int ll])), (no, .inr (2, [.ref nS, .ref nL, .ref nA, .ref nH, .ref nV, .ref nT, .ref nC, .ref nD, .int sl])), (nA, .inl (cy.1, 12, .inl ar))] rfl rfl ?_
    refine x_if_ne (q := 17) C 27 dX4_setArea_14 (by decide) rfl (fun c_14 => ?_) (fun c_14 => ?_)
    · refine x_aload_n (q := 28) C 0 rfl dX4_setArea_27 rfl ?_
      refine x_get (q := 31) C (T := TX4) iw_X4_setArea_X4 rfl 0 0 rfl (by decide) rfl (by decide +kernel : Cond.fieldLink RX4 10 RX4 "net" "LHeatGuild$Net;" ∈ wsX4_setArea) rfl dX4_setArea_28 rfl ?_
      refine x_getN (q := 34) C (T := TX2) iw_X4_setArea_X2 rfl 1 2 rfl (by decide) rfl (by decide +kernel : Cond.fieldLinkNest RX4 66 RX2 "area" "[I" RX4 ∈ xNest) rfl dX4_setArea_31 rfl ?_
      refine x_iload_n (q := 35) C 1 rfl dX4_setArea_34 rfl ?_
      refine x_iald (q := 36) C 2 (ar J.toNatClampNeg) rfl (pHouse_in c_4) rfl dX4_setArea_35 rfl ?_
      refine x_istore_n (q := 37) C [(3, .int (ar J.toNatClampNeg)), (0, .ref go), (1, .int J), (2, .int V)] dX4_setArea_36 (by decide) rfl rfl ?_
      refine x_aload_n (q := 38) C 1 rfl dX4_setArea_37 rfl ?_
      refine x_get (q := 41) C (T := TX4) iw_X4_setArea_X4 rfl 0 0 rfl (by decide) rfl (by decide +kernel : Cond.fieldLink RX4 10 RX4 "net" "LHeatGuild$Net;" ∈ wsX4_setArea) rfl dX4_setArea_38 rfl ?_
      refine x_getN (q := 44) C (T := TX2) iw_X4_setArea_X2 rfl 1 2 rfl (by decide) rfl (by decide +kernel : Cond.fieldLinkNest RX4 66 RX2 "area" "[I" RX4 ∈ xNest) rfl dX4_setArea_41 rfl ?_
      refine x_iload_n (q := 45) C 2 rfl dX4_setArea_44 rfl ?_
      refine x_iload_n (q := 46) C 3 rfl dX4_setArea_45 rfl ?_
      refine x_iast (q := 47) C 2 [(go, .inr (4, [.ref no, .ref po, .ref mo, .ref gB, .int ph, .int lt, .int ll])), (no, .inr (2, [.ref nS, .ref nL, .ref nA, .ref nH, .ref nV, .ref nT, .ref nC, .ref nD, .int sl])), (nA, .inl (cy.1, 12, .inl (upd ar J.toNatClampNeg V)))] rfl (pHouse_in c_4) rfl dX4_setArea_46 rfl ?_
      refine x_iload_n (q := 48) C 0 rfl dX4_setArea_47 rfl ?_
      exact x_iretX C .int rfl rfl (⟨by simp [cdIn, c_4, c_14], rfl, rfl⟩) dX4_setArea_48 (Nat.le_of_ble_eq_true rfl) (Nat.le_of_ble_eq_true rfl)
    · exact x_throw C hfl hT (hZ rfl) "junction or area is out of range" rfl (by decide +kernel) (by decide +kernel : Cond.classLink RX4 42 "java/lang/IllegalArgumentException" ∈ wsX4_setArea) (by decide +kernel) (by decide +kernel) at_X4_setArea_46 atN_46 atG_46 dX4_setArea_17 dX4_setArea_20 dX4_setArea_21 dX4_setArea_23 dX4_setArea_26 (Nat.le_of_ble_eq_true rfl) (Nat.le_of_ble_eq_true rfl) (Nat.le_of_ble_eq_true rfl) (Nat.le_of_ble_eq_true rfl) (Nat.le_of_ble_eq_true rfl) (Nat.le_of_ble_eq_true rfl) (⟨by simp [cdIn, c_4, c_14], rfl⟩) rfl

theorem at_X4_setError_46 : ∀ w ∈ (vx_atS RX4 46 "java/lang/IllegalArgumentException" ["java/lang/RuntimeException", "java/lang/Exception"]).filter goodWord, w ∈ wsX4_setError := by decide +kernel
theorem iw_X4_setError_X4 : ∀ w ∈ wsX40, w ∈ wsX4_setError := by decide +kernel
theorem iw_X4_setError_X1 : ∀ w ∈ wsX10, w ∈ wsX4_setError := by decide +kernel
set_option maxHeartbeats 4000000 in
set_option maxRecDepth 100000 in
/-- X4_setError -/
theorem c_X4_setError {l : Launch} {D : va_G} {cy : ClassId × ClassId × ClassId} (go no po mo gB : Nat) (mE mT mS mF mA : Nat) (er : Nat → Int32) (ph lt ll J V : Int32) (hfl : l.stackTraces = false) : xX true l yX4_setError wsX4_setError ({ frames := 6, cells := 1, slots := 6, locals := 82 }) D cy [.ref go, .int J, .int V] ([(go, .inr (4, [.ref no, .ref po, .ref mo, .ref gB, .int ph, .int lt, .int ll])), (mo, .inr (1, [.ref mE, .ref mT, .ref mS, .ref mF, .ref mA])), (mE, .inl (cy.1, 12, .inl er))]) (xQi D (fun r w => cdIn J V (-20) 20 = 0 ∧ r = er J.toNatClampNeg ∧ w = [(go, .inr (4, [.ref no, .ref po, .ref mo, .ref gB, .int ph, .int lt, .int ll])), (mo, .inr (1, [.ref mE, .ref mT, .ref mS, .ref mF, .ref mA])), (mE, .inl (cy.1, 12, .inl (upd er J.toNatClampNeg V)))])) (fun E => cdIn J V (-20) 20 = 1 ∧ E = "java/lang/IllegalArgumentException") 1 6 := by
  refine xX_of (X := [(go, .inr (4, [.ref no, .ref po, .ref mo, .ref gB, .int ph, .int lt, .int ll])), (mo, .inr (1, [.ref mE, .ref mT, .ref mS, .ref mF, .ref mA])), (mE, .inl (cy.1, 12, .inl er))]) (pl := []) (nL := 4) (ret := (some .int)) RX4 [(0, .ref go), (1, .int J), (2, .int V)] (by decide +kernel) rfl rfl rfl (Nat.le_of_ble_eq_true rfl) (List.append_nil _).symm (fun p e s m args below meth c A C hname hT hZ => ?_)
  refine x_iload_n (q := 1) C 1 rfl dX4_setError_0 rfl ?_
  refine x_CiP (q := 4) C [] [0, 1, 2] (cx := []) (wr := [(go, .inr (4, [.ref no, .ref po, .ref mo, .ref gB, .int ph, .int lt, .int ll])), (mo, .inr (1, [.ref mE, .ref mT, .ref mS, .ref mF, .ref mA])), (mE, .inl (cy.1, 12, .inl er))]) (st := []) rfl rfl rfl rfl (by decide) (fun H locs ls hP hPc hDc hS hFc hl => x_runS C (As := [.int J]) (c_X4_isHouse J) (va_cwS 1 C.2.2.2.2.2.1 gX4_setError_X4_isHouse rfl rfl rfl (by decide +kernel) ⟨Nat.le_of_ble_eq_true rfl, Nat.le_of_ble_eq_true rfl⟩) rfl rfl (Nat.le_of_ble_eq_true rfl) dX4_setError_1 ⟨Nat.le_of_ble_eq_true rfl, Nat.le_of_ble_eq_true rfl⟩ (fun h => absurd h (by decide)) hP hPc hDc hS hFc hl) (k := 0) (n := 0) rfl rfl rfl (fun r_1 w1 hw => ?_)
  obtain ⟨rfl, rfl⟩ := hw
  refine x_ord [0, 1, 2] [(go, .inr (4, [.ref no, .ref po, .ref mo, .ref gB, .int ph, .int lt, .int ll])), (mo, .inr (1, [.ref mE, .ref mT, .ref mS, .ref mF, .ref mA])), (mE, .inl (cy.1, 12, .inl er))] rfl rfl ?_
  refine x_if_eq (q := 7) C 18 dX4_setError_4 (by decide) rfl (fun c_4 => ?_) (fun c_4 => ?_)
  · exact x_throw C hfl hT (hZ rfl) "junction or error is out of range" rfl (by decide +kernel) (by decide +kernel : Cond.classLink RX4 42 "java/lang/IllegalArgumentException" ∈ wsX4_setError) (by decide +kernel) (by decide +kernel) at_X4_setError_46 atN_46 atG_46 dX4_setError_18 dX4_setError_21 dX4_setError_22 dX4_setError_24 dX4_setError_27 (Nat.le_of_ble_eq_true rfl) (Nat.le_of_ble_eq_true rfl) (Nat.le_of_ble_eq_true rfl) (Nat.le_of_ble_eq_true rfl) (Nat.le_of_ble_eq_true rfl) (Nat.le_of_ble_eq_true rfl) (⟨by simp [cdIn, c_4], rfl⟩) rfl
  · refine x_iload_n (q := 8) C 2 rfl dX4_setError_7 rfl ?_
    refine x_bipush (q := 10) C (-20) rfl dX4_setError_8 rfl ?_
    refine x_bipush (q := 12) C 20 rfl dX4_setError_10 rfl ?_
    refine x_CiP (q := 15) C [] [0, 1, 2] (cx := []) (wr := [(go, .inr (4, [.ref no, .ref po, .ref mo, .ref gB, .int ph, .int lt, .int ll])), (mo, .inr (1, [.ref mE, .ref mT, .ref mS, .ref mF, .ref mA])), (mE, .inl (cy.1, 12, .inl er))]) (st := []) rfl rfl rfl rfl (by decide) (fun H locs ls hP hPc hDc hS hFc hl => x_runS C (As := [.int V, .int (-20), .int 20]) (c_X4_isWithin V (-20) 20) (va_cwS 3 C.2.2.2.2.2.1 gX4_setError_X4_isWithin rfl rfl rfl (by decide +kernel) ⟨Nat.le_of_ble_eq_true rfl, Nat.le_of_ble_eq_true rfl⟩) rfl rfl (Nat.le_of_ble_eq_true rfl) dX4_setError_12 ⟨Nat.le_of_ble_eq_true rfl, Nat.le_of_ble_eq_true rfl⟩ (fun h => absurd h (by decide)) hP hPc hDc hS hFc hl) (k := 0) (n := 0) rfl rfl rfl (fun r_12 w1 hw => ?_)
    obtain ⟨rfl, rfl⟩ := hw
    refine x_ord [0, 1, 2] [(go, .inr (4, [.ref no, .ref po, .ref mo, .ref gB, .int ph, .int lt, .int ll])), (mo, .inr (1, [.ref mE, .ref mT, .ref mS, .ref mF, .ref mA])), (mE, .inl (cy.1, 12, .inl er))] rfl rfl ?_
    refine x_if_ne (q := 18) C 28 dX4_setError_15 (by decide) rfl (fun c_15 => ?_) (fun c_15 => ?_)
    · refine x_aload_n (q := 29) C 0 rfl dX4_setError_28 rfl ?_
      refine x_get (q := 32) C (T := TX4) iw_X4_setError_X4 rfl 0 2 rfl (by decide) rfl (by decide +kernel : Cond.fieldLink RX4 26 RX4 "meters" "LHeatGuild$Meters;" ∈ wsX4_setError) rfl dX4_setError_29 rfl ?_
      refine x_getN (q := 35) C (T := TX1) iw_X4_setError_X1 rfl 1 0 rfl (by decide) rfl (by decide +kernel : Cond.fieldLinkNest RX4 82 RX1 "error" "[I" RX4 ∈ xNest) rfl dX4_setError_32 rfl ?_
      refine x_iload_n (q := 36) C 1 rfl dX4_setError_35 rfl ?_
      refine x_iald (q := 37) C 2 (er J.toNatClampNeg) rfl (pHouse_in c_4) rfl dX4_setError_36 rfl ?_
      refine x_istore_n (q := 38) C [(3, .int (er J.toNatClampNeg)), (0, .ref go), (1, .int J), (2, .int V)] dX4_setError_37 (by decide) rfl rfl ?_
      refine x_aload_n (q := 39) C 1 rfl dX4_setError_38 rfl ?_
      refine x_get (q := 42) C (T := TX4) iw_X4_setError_X4 rfl 0 2 rfl (by decide) rfl (by decide +kernel : Cond.fieldLink RX4 26 RX4 "meters" "LHeatGuild$Meters;" ∈ wsX4_setError) rfl dX4_setError_39 rfl ?_
      refine x_getN (q := 45) C (T := TX1) iw_X4_setError_X1 rfl 1 0 rfl (by decide) rfl (by decide +kernel : Cond.fieldLinkNest RX4 82 RX1 "error" "[I" RX4 ∈ xNest) rfl dX4_setError_42 rfl ?_
      refine x_iload_n (q := 46) C 2 rfl dX4_setError_45 rfl ?_
      refine x_iload_n (q := 47) C 3 rfl dX4_setError_46 rfl ?_
      refine x_iast (q := 48) C 2 [(go, .inr (4, [.ref no, .ref po, .ref mo, .ref gB, .int ph, .int lt, .int ll])), (mo, .inr (1, [.ref mE, .ref mT, .ref mS, .ref mF, .ref mA])), (mE, .inl (cy.1, 12, .inl (upd er J.toNatClampNeg V)))] rfl (pHouse_in c_4) rfl dX4_setError_47 rfl ?_
      refine x_iload_n (q := 49) C 0 rfl dX4_setError_48 rfl ?_
      exact x_iretX C .int rfl rfl (⟨by simp [cdIn, c_4, c_15], rfl, rfl⟩) dX4_setError_49 (Nat.le_of_ble_eq_true rfl) (Nat.le_of_ble_eq_true rfl)
    · exact x_throw C hfl hT (hZ rfl) "junction or error is out of range" rfl (by decide +kernel) (by decide +kernel : Cond.classLink RX4 42 "java/lang/IllegalArgumentException" ∈ wsX4_setError) (by decide +kernel) (by decide +kernel) at_X4_setError_46 atN_46 atG_46 dX4_setError_18 dX4_setError_21 dX4_setError_22 dX4_setError_24 dX4_setError_27 (Nat.le_of_ble_eq_true rfl) (Nat.le_of_ble_eq_true rfl) (Nat.le_of_ble_eq_true rfl) (Nat.le_of_ble_eq_true rfl) (Nat.le_of_ble_eq_true rfl) (Nat.le_of_ble_eq_true rfl) (⟨by simp [cdIn, c_4, c_15], rfl⟩) rfl

theorem at_X4_repair_46 : ∀ w ∈ (vx_atS RX4 46 "java/lang/IllegalArgumentException" ["java/lang/RuntimeException", "java/lang/Exception"]).filter goodWord, w ∈ wsX4_repair := by decide +kernel
theorem iw_X4_repair_X4 : ∀ w ∈ wsX40, w ∈ wsX4_repair := by decide +kernel
theorem iw_X4_repair_X2 : ∀ w ∈ wsX20, w ∈ wsX4_repair := by decide +kernel
theorem at_X4_repair_57 : ∀ w ∈ (vx_atS RX4 57 "java/lang/IllegalStateException" ["java/lang/RuntimeException", "java/lang/Exception"]).filter goodWord, w ∈ wsX4_repair := by decide +kernel
set_option maxHeartbeats 4000000 in
set_option maxRecDepth 100000 in
/-- X4_repair -/
theorem c_X4_repair {l : Launch} {D : va_G} {cy : ClassId × ClassId × ClassId} (go no po mo gB : Nat) (nS nL nA nH nV nT nC nD : Nat) (sr : Nat → Nat) (ar sh ht : Nat → Int32) (ph lt ll sl J V : Int32) (hsr : ∀ j, 1 ≤ j → j < 12 → sr j < j) (hfl : l.stackTraces = false) : xX true l yX4_repair wsX4_repair ({ frames := 6, cells := 1, slots := 6, locals := 82 }) D cy [.ref go, .int J, .int V] ([(go, .inr (4, [.ref no, .ref po, .ref mo, .ref gB, .int ph, .int lt, .int ll])), (no, .inr (2, [.ref nS, .ref nL, .ref nA, .ref nH, .ref nV, .ref nT, .ref nC, .ref nD, .int sl])), (nS, .inl (cy.1, 12, .inl (fun i => nI (sr i)))), (nA, .inl (cy.1, 12, .inl ar)), (nH, .inl (cy.1, 12, .inl sh)), (nT, .inl (cy.2.1, 12, .inl ht))]) (xQi D (fun r w => cdRepair J V (sh J.toNatClampNeg) ph lt = 0 ∧ r = nFun ar (hFun sr (upd sh J.toNatClampNeg V) ht) ∧ w = [(go, .inr (4, [.ref no, .ref po, .ref mo, .ref gB, .int ph, .int lt, .int ll])), (no, .inr (2, [.ref nS, .ref nL, .ref nA, .ref nH, .ref nV, .ref nT, .ref nC, .ref nD, .int sl])), (nS, .inl (cy.1, 12, .inl (fun i => nI (sr i)))), (nA, .inl (cy.1, 12, .inl ar)), (nH, .inl (cy.1, 12, .inl (upd sh J.toNatClampNeg V))), (nT, .inl (cy.2.1, 12, .inl (hFun sr (upd sh J.toNatClampNeg V) ht)))])) (fun E => (cdRepair J V (sh J.toNatClampNeg) ph lt = 1 ∧ E = "java/lang/IllegalArgumentException") ∨ (cdRepair J V (sh J.toNatClampNeg) ph lt = 2 ∧ E = "java/lang/IllegalStateException")) 1 6 := by
  refine xX_of (X := [(go, .inr (4, [.ref no, .ref po, .ref mo, .ref gB, .int ph, .int lt, .int ll])), (no, .inr (2, [.ref nS, .ref nL, .ref nA, .ref nH, .ref nV, .ref nT, .ref nC, .ref nD, .int sl])), (nS, .inl (cy.1, 12, .inl (fun i => nI (sr i)))), (nA, .inl (cy.1, 12, .inl ar)), (nH, .inl (cy.1, 12, .inl sh)), (nT, .inl (cy.2.1, 12, .inl ht))]) (pl := []) (nL := 3) (ret := (some .int)) RX4 [(0, .ref go), (1, .int J), (2, .int V)] (by decide +kernel) rfl rfl rfl (Nat.le_of_ble_eq_true rfl) (List.append_nil _).symm (fun p e s m args below meth c A C hname hT hZ => ?_)
  refine x_iload_n (q := 1) C 1 rfl dX4_repair_0 rfl ?_
  refine x_CiP (q := 4) C [] [0, 1, 2, 3, 4, 5] (cx := []) (wr := [(go, .inr (4, [.ref no, .ref po, .ref mo, .ref gB, .int ph, .int lt, .int ll])), (no, .inr (2, [.ref nS, .ref nL, .ref nA, .ref nH, .ref nV, .ref nT, .ref nC, .ref nD, .int sl])), (nS, .inl (cy.1, 12, .inl (fun i => nI (sr i)))), (nA, .inl (cy.1, 12, .inl ar)), (nH, .inl (cy.1, 12, .inl sh)), (nT, .inl (cy.2.1, 12, .inl ht))]) (st := []) rfl rfl rfl rfl (by decide) (fun H locs ls hP hPc hDc hS hFc hl => x_runS C (As := [.int J]) (c_X4_isHouse J) (va_cwS 1 C.2.2.2.2.2.1 gX4_repair_X4_isHouse rfl rfl rfl (by decide +kernel) ⟨Nat.le_of_ble_eq_true rfl, Nat.le_of_ble_eq_true rfl⟩) rfl rfl (Nat.le_of_ble_eq_true rfl) dX4_repair_1 ⟨Nat.le_of_ble_eq_true rfl, Nat.le_of_ble_eq_true rfl⟩ (fun h => absurd h (by decide)) hP hPc hDc hS hFc hl) (k := 0) (n := 0) rfl rfl rfl (fun r_1 w1 hw => ?_)
  obtain ⟨rfl, rfl⟩ := hw
  refine x_ord [0, 1, 2, 3, 4, 5] [(go, .inr (4, [.ref no, .ref po, .ref mo, .ref gB, .int ph, .int lt, .int ll])), (no, .inr (2, [.ref nS, .ref nL, .ref nA, .ref nH, .ref nV, .ref nT, .ref nC, .ref nD, .int sl])), (nS, .inl (cy.1, 12, .inl (fun i => nI (sr i)))), (nA, .inl (cy.1, 12, .inl ar)), (nH, .inl (cy.1, 12, .inl sh)), (nT, .inl (cy.2.1, 12, .inl ht))] rfl rfl ?_
  refine x_if_eq (q := 7) C 17 dX4_repair_4 (by decide) rfl (fun c_4 => ?_) (fun c_4 => ?_)
  · exact x_throw C hfl hT (hZ rfl) "junction or hours is out of range" rfl (by decide +kernel) (by decide +kernel : Cond.classLink RX4 42 "java/lang/IllegalArgumentException" ∈ wsX4_repair) (by decide +kernel) (by decide +kernel) at_X4_repair_46 atN_46 atG_46 dX4_repair_17 dX4_repair_20 dX4_repair_21 dX4_repair_23 dX4_repair_26 (Nat.le_of_ble_eq_true rfl) (Nat.le_of_ble_eq_true rfl) (Nat.le_of_ble_eq_true rfl) (Nat.le_of_ble_eq_true rfl) (Nat.le_of_ble_eq_true rfl) (Nat.le_of_ble_eq_true rfl) (Or.inl ⟨by simp [cdRepair, c_4], rfl⟩) rfl
  · refine x_iload_n (q := 8) C 2 rfl dX4_repair_7 rfl ?_
    refine x_iconst (q := 9) C 1 rfl dX4_repair_8 rfl ?_
    refine x_bipush (q := 11) C 20 rfl dX4_repair_9 rfl ?_
    refine x_CiP (q := 14) C [] [0, 1, 2, 3, 4, 5] (cx := []) (wr := [(go, .inr (4, [.ref no, .ref po, .ref mo, .ref gB, .int ph, .int lt, .int ll])), (no, .inr (2, [.ref nS, .ref nL, .ref nA, .ref nH, .ref nV, .ref nT, .ref nC, .ref nD, .int sl])), (nS, .inl (cy.1, 12, .inl (fun i => nI (sr i)))), (nA, .inl (cy.1, 12, .inl ar)), (nH, .inl (cy.1, 12, .inl sh)), (nT, .inl (cy.2.1, 12, .inl ht))]) (st := []) rfl rfl rfl rfl (by decide) (fun H locs ls hP hPc hDc hS hFc hl => x_runS C (As := [.int V, .int 1, .int 20]) (c_X4_isWithin V 1 20) (va_cwS 3 C.2.2.2.2.2.1 gX4_repair_X4_isWithin rfl rfl rfl (by decide +kernel) ⟨Nat.le_of_ble_eq_true rfl, Nat.le_of_ble_eq_true rfl⟩) rfl rfl (Nat.le_of_ble_eq_true rfl) dX4_repair_11 ⟨Nat.le_of_ble_eq_true rfl, Nat.le_of_ble_eq_true rfl⟩ (fun h => absurd h (by decide)) hP hPc hDc hS hFc hl) (k := 0) (n := 0) rfl rfl rfl (fun r_11 w1 hw => ?_)
    obtain ⟨rfl, rfl⟩ := hw
    refine x_ord [0, 1, 2, 3, 4, 5] [(go, .inr (4, [.ref no, .ref po, .ref mo, .ref gB, .int ph, .int lt, .int ll])), (no, .inr (2, [.ref nS, .ref nL, .ref nA, .ref nH, .ref nV, .ref nT, .ref nC, .ref nD, .int sl])), (nS, .inl (cy.1, 12, .inl (fun i => nI (sr i)))), (nA, .inl (cy.1, 12, .inl ar)), (nH, .inl (cy.1, 12, .inl sh)), (nT, .inl (cy.2.1, 12, .inl ht))] rfl rfl ?_
    refine x_if_ne (q := 17) C 27 dX4_repair_14 (by decide) rfl (fun c_14 => ?_) (fun c_14 => ?_)
    · refine x_aload_n (q := 28) C 0 rfl dX4_repair_27 rfl ?_
      refine x_get (q := 31) C (T := TX4) iw_X4_repair_X4 rfl 0 0 rfl (by decide) rfl (by decide +kernel : Cond.fieldLink RX4 10 RX4 "net" "LHeatGuild$Net;" ∈ wsX4_repair) rfl dX4_repair_28 rfl ?_
      refine x_getN (q := 34) C (T := TX2) iw_X4_repair_X2 rfl 1 3 rfl (by decide) rfl (by decide +kernel : Cond.fieldLinkNest RX4 87 RX2 "shutHours" "[I" RX4 ∈ xNest) rfl dX4_repair_31 rfl ?_
      refine x_iload_n (q := 35) C 1 rfl dX4_repair_34 rfl ?_
      refine x_iald (q := 36) C 4 (sh J.toNatClampNeg) rfl (pHouse_in c_4) rfl dX4_repair_35 rfl ?_
      refine x_if_le (q := 39) C 49 dX4_repair_36 (by decide) rfl (fun c_36 => ?_) (fun c_36 => ?_)
      · refine x_aload_n (q := 50) C 0 rfl dX4_repair_49 rfl ?_
        refine x_get (q := 53) C (T := TX4) iw_X4_repair_X4 rfl 0 4 rfl (by decide) rfl (by decide +kernel : Cond.fieldLink RX4 49 RX4 "passedHours" "I" ∈ wsX4_repair) rfl dX4_repair_50 rfl ?_
        refine x_if_le (q := 56) C 75 dX4_repair_53 (by decide) rfl (fun c_53 => ?_) (fun c_53 => ?_)
        · refine x_aload_n (q := 76) C 0 rfl dX4_repair_75 rfl ?_
          refine x_get (q := 79) C (T := TX4) iw_X4_repair_X4 rfl 0 0 rfl (by decide) rfl (by decide +kernel : Cond.fieldLink RX4 10 RX4 "net" "LHeatGuild$Net;" ∈ wsX4_repair) rfl dX4_repair_76 rfl ?_
          refine x_getN (q := 82) C (T := TX2) iw_X4_repair_X2 rfl 1 3 rfl (by decide) rfl (by decide +kernel : Cond.fieldLinkNest RX4 87 RX2 "shutHours" "[I" RX4 ∈ xNest) rfl dX4_repair_79 rfl ?_
          refine x_iload_n (q := 83) C 1 rfl dX4_repair_82 rfl ?_
          refine x_iload_n (q := 84) C 2 rfl dX4_repair_83 rfl ?_
          refine x_iast (q := 85) C 4 [(go, .inr (4, [.ref no, .ref po, .ref mo, .ref gB, .int ph, .int lt, .int ll])), (no, .inr (2, [.ref nS, .ref nL, .ref nA, .ref nH, .ref nV, .ref nT, .ref nC, .ref nD, .int sl])), (nS, .inl (cy.1, 12, .inl (fun i => nI (sr i)))), (nA, .inl (cy.1, 12, .inl ar)), (nH, .inl (cy.1, 12, .inl (upd sh J.toNatClampNeg V))), (nT, .inl (cy.2.1, 12, .inl ht))] rfl (pHouse_in c_4) rfl dX4_repair_84 rfl ?_
          refine x_aload_n (q := 86) C 0 rfl dX4_repair_85 rfl ?_
          refine x_get (q := 89) C (T := TX4) iw_X4_repair_X4 rfl 0 0 rfl (by decide) rfl (by decide +kernel : Cond.fieldLink RX4 10 RX4 "net" "LHeatGuild$Net;" ∈ wsX4_repair) rfl dX4_repair_86 rfl ?_
          refine x_CiP (q := 92) C [1, 2, 3, 4, 5] [0] (cx := [(no, .inr (2, [.ref nS, .ref nL, .ref nA, .ref nH, .ref nV, .ref nT, .ref nC, .ref nD, .int sl])), (nS, .inl (cy.1, 12, .inl (fun i => nI (sr i)))), (nA, .inl (cy.1, 12, .inl ar)), (nH, .inl (cy.1, 12, .inl (upd sh J.toNatClampNeg V))), (nT, .inl (cy.2.1, 12, .inl ht))]) (wr := [(go, .inr (4, [.ref no, .ref po, .ref mo, .ref gB, .int ph, .int lt, .int ll]))]) (st := []) rfl rfl rfl rfl (by decide) (fun H locs ls hP hPc hDc hS hFc hl => x_runVN C (As := []) (c_X2_countHousesWithoutHeat no nS nL nA nH nV nT nC nD sr ar (upd sh J.toNatClampNeg V) ht sl hsr) (⟨va_cnB 0 C.2.2.2.2.2.1 gX4_repair_X2_countHousesWithoutHeat_n97 rfl rfl rfl (va_Nw.of rfl (C.2.2.2.2.2.2.1.2.1.use (B := #[]) (by decide +kernel : Cond.methodLinkNest RX4 97 yX2_countHousesWithoutHeat RX4 ∈ xNest))) (C.2.2.2.2.2.1 _ (by decide +kernel)) (by decide +kernel) ⟨Nat.le_of_ble_eq_true rfl, Nat.le_of_ble_eq_true rfl⟩, C.2.2.2.2.2.1 (Cond.instanceMethod yX2_countHousesWithoutHeat) (by decide +kernel), C.2.2.2.2.2.1 (Cond.selects RX2 yX2_countHousesWithoutHeat yX2_countHousesWithoutHeat) (by decide +kernel)⟩) rfl 1 rfl rfl rfl (Nat.le_of_ble_eq_true rfl) dX4_repair_89 ⟨Nat.le_of_ble_eq_true rfl, Nat.le_of_ble_eq_true rfl⟩ (fun h => absurd h (by decide)) hP hPc hDc hS hFc hl) (k := 0) (n := 0) rfl rfl rfl (fun r_89 w1 hw => ?_)
          obtain ⟨rfl, rfl⟩ := hw
          refine x_ord [0, 1, 2, 3, 4, 5] [(go, .inr (4, [.ref no, .ref po, .ref mo, .ref gB, .int ph, .int lt, .int ll])), (no, .inr (2, [.ref nS, .ref nL, .ref nA, .ref nH, .ref nV, .ref nT, .ref nC, .ref nD, .int sl])), (nS, .inl (cy.1, 12, .inl (fun i => nI (sr i)))), (nA, .inl (cy.1, 12, .inl ar)), (nH, .inl (cy.1, 12, .inl (upd sh J.toNatClampNeg V))), (nT, .inl (cy.2.1, 12, .inl (hFun sr (upd sh J.toNatClampNeg V) ht)))] rfl rfl ?_
          exact x_iretX C .int rfl rfl (⟨by simp [cdRepair, c_4, c_14, c_36, c_53], rfl, rfl⟩) dX4_repair_92 (Nat.le_of_ble_eq_true rfl) (Nat.le_of_ble_eq_true rfl)
        · refine x_aload_n (q := 57) C 0 rfl dX4_repair_56 rfl ?_
          refine x_get (q := 60) C (T := TX4) iw_X4_repair_X4 rfl 0 5 rfl (by decide) rfl (by decide +kernel : Cond.fieldLink RX4 92 RX4 "lastTemperature" "I" ∈ wsX4_repair) rfl dX4_repair_57 rfl ?_
          refine x_bipush (q := 62) C 10 rfl dX4_repair_60 rfl ?_
          refine x_icmp_ge (q := 65) C 75 dX4_repair_62 (by decide) rfl (fun c_62 => ?_) (fun c_62 => ?_)
          · refine x_aload_n (q := 76) C 0 rfl dX4_repair_75 rfl ?_
            refine x_get (q := 79) C (T := TX4) iw_X4_repair_X4 rfl 0 0 rfl (by decide) rfl (by decide +kernel : Cond.fieldLink RX4 10 RX4 "net" "LHeatGuild$Net;" ∈ wsX4_repair) rfl dX4_repair_76 rfl ?_
            refine x_getN (q := 82) C (T := TX2) iw_X4_repair_X2 rfl 1 3 rfl (by decide) rfl (by decide +kernel : Cond.fieldLinkNest RX4 87 RX2 "shutHours" "[I" RX4 ∈ xNest) rfl dX4_repair_79 rfl ?_
            refine x_iload_n (q := 83) C 1 rfl dX4_repair_82 rfl ?_
            refine x_iload_n (q := 84) C 2 rfl dX4_repair_83 rfl ?_
            refine x_iast (q := 85) C 4 [(go, .inr (4, [.ref no, .ref po, .ref mo, .ref gB, .int ph, .int lt, .int ll])), (no, .inr (2, [.ref nS, .ref nL, .ref nA, .ref nH, .ref nV, .ref nT, .ref nC, .ref nD, .int sl])), (nS, .inl (cy.1, 12, .inl (fun i => nI (sr i)))), (nA, .inl (cy.1, 12, .inl ar)), (nH, .inl (cy.1, 12, .inl (upd sh J.toNatClampNeg V))), (nT, .inl (cy.2.1, 12, .inl ht))] rfl (pHouse_in c_4) rfl dX4_repair_84 rfl ?_
            refine x_aload_n (q := 86) C 0 rfl dX4_repair_85 rfl ?_
            refine x_get (q := 89) C (T := TX4) iw_X4_repair_X4 rfl 0 0 rfl (by decide) rfl (by decide +kernel : Cond.fieldLink RX4 10 RX4 "net" "LHeatGuild$Net;" ∈ wsX4_repair) rfl dX4_repair_86 rfl ?_
            refine x_CiP (q := 92) C [1, 2, 3, 4, 5] [0] (cx := [(no, .inr (2, [.ref nS, .ref nL, .ref nA, .ref nH, .ref nV, .ref nT, .ref nC, .ref nD, .int sl])), (nS, .inl (cy.1, 12, .inl (fun i => nI (sr i)))), (nA, .inl (cy.1, 12, .inl ar)), (nH, .inl (cy.1, 12, .inl (upd sh J.toNatClampNeg V))), (nT, .inl (cy.2.1, 12, .inl ht))]) (wr := [(go, .inr (4, [.ref no, .ref po, .ref mo, .ref gB, .int ph, .int lt, .int ll]))]) (st := []) rfl rfl rfl rfl (by decide) (fun H locs ls hP hPc hDc hS hFc hl => x_runVN C (As := []) (c_X2_countHousesWithoutHeat no nS nL nA nH nV nT nC nD sr ar (upd sh J.toNatClampNeg V) ht sl hsr) (⟨va_cnB 0 C.2.2.2.2.2.1 gX4_repair_X2_countHousesWithoutHeat_n97 rfl rfl rfl (va_Nw.of rfl (C.2.2.2.2.2.2.1.2.1.use (B := #[]) (by decide +kernel : Cond.methodLinkNest RX4 97 yX2_countHousesWithoutHeat RX4 ∈ xNest))) (C.2.2.2.2.2.1 _ (by decide +kernel)) (by decide +kernel) ⟨Nat.le_of_ble_eq_true rfl, Nat.le_of_ble_eq_true rfl⟩, C.2.2.2.2.2.1 (Cond.instanceMethod yX2_countHousesWithoutHeat) (by decide +kernel), C.2.2.2.2.2.1 (Cond.selects RX2 yX2_countHousesWithoutHeat yX2_countHousesWithoutHeat) (by decide +kernel)⟩) rfl 1 rfl rfl rfl (Nat.le_of_ble_eq_true rfl) dX4_repair_89 ⟨Nat.le_of_ble_eq_true rfl, Nat.le_of_ble_eq_true rfl⟩ (fun h => absurd h (by decide)) hP hPc hDc hS hFc hl) (k := 0) (n := 0) rfl rfl rfl (fun r_89 w1 hw => ?_)
            obtain ⟨rfl, rfl⟩ := hw
            refine x_ord [0, 1, 2, 3, 4, 5] [(go, .inr (4, [.ref no, .ref po, .ref mo, .ref gB, .int ph, .int lt, .int ll])), (no, .inr (2, [.ref nS, .ref nL, .ref nA, .ref nH, .ref nV, .ref nT, .ref nC, .ref nD, .int sl])), (nS, .inl (cy.1, 12, .inl (fun i => nI (sr i)))), (nA, .inl (cy.1, 12, .inl ar)), (nH, .inl (cy.1, 12, .inl (upd sh J.toNatClampNeg V))), (nT, .inl (cy.2.1, 12, .inl (hFun sr (upd sh J.toNatClampNeg V) ht)))] rfl rfl ?_
            exact x_iretX C .int rfl rfl (⟨by simp [cdRepair, c_4, c_14, c_36, c_53, c_62], rfl, rfl⟩) dX4_repair_92 (Nat.le_of_ble_eq_true rfl) (Nat.le_of_ble_eq_true rfl)
          · exact x_throw C hfl hT (hZ rfl) "the last hour was too cold" rfl (by decide +kernel) (by decide +kernel : Cond.classLink RX4 53 "java/lang/IllegalStateException" ∈ wsX4_repair) (by decide +kernel) (by decide +kernel) at_X4_repair_57 atN_57 atG_57 dX4_repair_65 dX4_repair_68 dX4_repair_69 dX4_repair_71 dX4_repair_74 (Nat.le_of_ble_eq_true rfl) (Nat.le_of_ble_eq_true rfl) (Nat.le_of_ble_eq_true rfl) (Nat.le_of_ble_eq_true rfl) (Nat.le_of_ble_eq_true rfl) (Nat.le_of_ble_eq_true rfl) (Or.inr ⟨by simp [cdRepair, c_4, c_14, c_36, c_53, c_62], rfl⟩) rfl
      · exact x_throw C hfl hT (hZ rfl) "the valve is shut" rfl (by decide +kernel) (by decide +kernel : Cond.classLink RX4 53 "java/lang/IllegalStateException" ∈ wsX4_repair) (by decide +kernel) (by decide +kernel) at_X4_repair_57 atN_57 atG_57 dX4_repair_39 dX4_repair_42 dX4_repair_43 dX4_repair_45 dX4_repair_48 (Nat.le_of_ble_eq_true rfl) (Nat.le_of_ble_eq_true rfl) (Nat.le_of_ble_eq_true rfl) (Nat.le_of_ble_eq_true rfl) (Nat.le_of_ble_eq_true rfl) (Nat.le_of_ble_eq_true rfl) (Or.inr ⟨by simp [cdRepair, c_4, c_14, c_36], rfl⟩) rfl
    · exact x_throw C hfl hT (hZ rfl) "junction or hours is out of range" rfl (by decide +kernel) (by decide +kernel : Cond.classLink RX4 42 "java/lang/IllegalArgumentException" ∈ wsX4_repair) (by decide +kernel) (by decide +kernel) at_X4_repair_46 atN_46 atG_46 dX4_repair_17 dX4_repair_20 dX4_repair_21 dX4_repair_23 dX4_repair_26 (Nat.le_of_ble_eq_true rfl) (Nat.le_of_ble_eq_true rfl) (Nat.le_of_ble_eq_true rfl) (Nat.le_of_ble_eq_true rfl) (Nat.le_of_ble_eq_true rfl) (Nat.le_of_ble_eq_true rfl) (Or.inl ⟨by simp [cdRepair, c_4, c_14], rfl⟩) rfl

theorem iw_X4_got_X4 : ∀ w ∈ wsX40, w ∈ wsX4_got := by decide +kernel
theorem iw_X4_got_X2 : ∀ w ∈ wsX20, w ∈ wsX4_got := by decide +kernel
theorem at_X4_got_46 : ∀ w ∈ (vx_atS RX4 46 "java/lang/IllegalArgumentException" ["java/lang/RuntimeException", "java/lang/Exception"]).filter goodWord, w ∈ wsX4_got := by decide +kernel
set_option maxHeartbeats 4000000 in
set_option maxRecDepth 100000 in
/-- X4_got -/
theorem c_X4_got {l : Launch} {D : va_G} {cy : ClassId × ClassId × ClassId} (go no po mo gB : Nat) (nS nL nA nH nV nT nC nD : Nat) (sv : Nat → Int32) (ph lt ll sl J : Int32) (hfl : l.stackTraces = false) : xX true l yX4_got wsX4_got ({ frames := 6, cells := 1, slots := 6, locals := 82 }) D cy [.ref go, .int J] ([(go, .inr (4, [.ref no, .ref po, .ref mo, .ref gB, .int ph, .int lt, .int ll])), (no, .inr (2, [.ref nS, .ref nL, .ref nA, .ref nH, .ref nV, .ref nT, .ref nC, .ref nD, .int sl])), (nV, .inl (cy.1, 12, .inl sv))]) (xQi D (fun r w => cdH J = 0 ∧ r = sv J.toNatClampNeg ∧ w = [(go, .inr (4, [.ref no, .ref po, .ref mo, .ref gB, .int ph, .int lt, .int ll])), (no, .inr (2, [.ref nS, .ref nL, .ref nA, .ref nH, .ref nV, .ref nT, .ref nC, .ref nD, .int sl])), (nV, .inl (cy.1, 12, .inl sv))])) (fun E => cdH J = 1 ∧ E = "java/lang/IllegalArgumentException") 1 6 := by
  refine xX_of (X := [(go, .inr (4, [.ref no, .ref po, .ref mo, .ref gB, .int ph, .int lt, .int ll])), (no, .inr (2, [.ref nS, .ref nL, .ref nA, .ref nH, .ref nV, .ref nT, .ref nC, .ref nD, .int sl])), (nV, .inl (cy.1, 12, .inl sv))]) (pl := []) (nL := 2) (ret := (some .int)) RX4 [(0, .ref go), (1, .int J)] (by decide +kernel) rfl rfl rfl (Nat.le_of_ble_eq_true rfl) (List.append_nil _).symm (fun p e s m args below meth c A C hname hT hZ => ?_)
  refine x_iload_n (q := 1) C 1 rfl dX4_got_0 rfl ?_
  refine x_CiP (q := 4) C [] [0, 1, 2] (cx := []) (wr := [(go, .inr (4, [.ref no, .ref po, .ref mo, .ref gB, .int ph, .int lt, .int ll])), (no, .inr (2, [.ref nS, .ref nL, .ref nA, .ref nH, .ref nV, .ref nT, .ref nC, .ref nD, .int sl])), (nV, .inl (cy.1, 12, .inl sv))]) (st := []) rfl rfl rfl rfl (by decide) (fun H locs ls hP hPc hDc hS hFc hl => x_runS C (As := [.int J]) (c_X4_isHouse J) (va_cwS 1 C.2.2.2.2.2.1 gX4_got_X4_isHouse rfl rfl rfl (by decide +kernel) ⟨Nat.le_of_ble_eq_true rfl, Nat.le_of_ble_eq_true rfl⟩) rfl rfl (Nat.le_of_ble_eq_true rfl) dX4_got_1 ⟨Nat.le_of_ble_eq_true rfl, Nat.le_of_ble_eq_true rfl⟩ (fun h => absurd h (by decide)) hP hPc hDc hS hFc hl) (k := 0) (n := 0) rfl rfl rfl (fun r_1 w1 hw => ?_)
  obtain ⟨rfl, rfl⟩ := hw
  refine x_ord [0, 1, 2] [(go, .inr (4, [.ref no, .ref po, .ref mo, .ref gB, .int ph, .int lt, .int ll])), (no, .inr (2, [.ref nS, .ref nL, .ref nA, .ref nH, .ref nV, .ref nT, .ref nC, .ref nD, .int sl])), (nV, .inl (cy.1, 12, .inl sv))] rfl rfl ?_
  refine x_if_ne (q := 7) C 17 dX4_got_4 (by decide) rfl (fun c_4 => ?_) (fun c_4 => ?_)
  · refine x_aload_n (q := 18) C 0 rfl dX4_got_17 rfl ?_
    refine x_get (q := 21) C (T := TX4) iw_X4_got_X4 rfl 0 0 rfl (by decide) rfl (by decide +kernel : Cond.fieldLink RX4 10 RX4 "net" "LHeatGuild$Net;" ∈ wsX4_got) rfl dX4_got_18 rfl ?_
    refine x_getN (q := 24) C (T := TX2) iw_X4_got_X2 rfl 1 4 rfl (by decide) rfl (by decide +kernel : Cond.fieldLinkNest RX4 154 RX2 "served" "[I" RX4 ∈ xNest) rfl dX4_got_21 rfl ?_
    refine x_iload_n (q := 25) C 1 rfl dX4_got_24 rfl ?_
    refine x_iald (q := 26) C 2 (sv J.toNatClampNeg) rfl (pHouse_in c_4) rfl dX4_got_25 rfl ?_
    exact x_iretX C .int rfl rfl (⟨by simp [cdH, c_4], rfl, rfl⟩) dX4_got_26 (Nat.le_of_ble_eq_true rfl) (Nat.le_of_ble_eq_true rfl)
  · exact x_throw C hfl hT (hZ rfl) "junction is out of range" rfl (by decide +kernel) (by decide +kernel : Cond.classLink RX4 42 "java/lang/IllegalArgumentException" ∈ wsX4_got) (by decide +kernel) (by decide +kernel) at_X4_got_46 atN_46 atG_46 dX4_got_7 dX4_got_10 dX4_got_11 dX4_got_13 dX4_got_16 (Nat.le_of_ble_eq_true rfl) (Nat.le_of_ble_eq_true rfl) (Nat.le_of_ble_eq_true rfl) (Nat.le_of_ble_eq_true rfl) (Nat.le_of_ble_eq_true rfl) (Nat.le_of_ble_eq_true rfl) (⟨by simp [cdH, c_4], rfl⟩) rfl

theorem iw_X4_meter_X4 : ∀ w ∈ wsX40, w ∈ wsX4_meter := by decide +kernel
theorem iw_X4_meter_X1 : ∀ w ∈ wsX10, w ∈ wsX4_meter := by decide +kernel
theorem at_X4_meter_46 : ∀ w ∈ (vx_atS RX4 46 "java/lang/IllegalArgumentException" ["java/lang/RuntimeException", "java/lang/Exception"]).filter goodWord, w ∈ wsX4_meter := by decide +kernel
set_option maxHeartbeats 4000000 in
set_option maxRecDepth 100000 in
/-- X4_meter -/
theorem c_X4_meter {l : Launch} {D : va_G} {cy : ClassId × ClassId × ClassId} (go no po mo gB : Nat) (mE mT mS mF mA : Nat) (to : Nat → Int32) (ph lt ll J : Int32) (hfl : l.stackTraces = false) : xX true l yX4_meter wsX4_meter ({ frames := 6, cells := 1, slots := 6, locals := 82 }) D cy [.ref go, .int J] ([(go, .inr (4, [.ref no, .ref po, .ref mo, .ref gB, .int ph, .int lt, .int ll])), (mo, .inr (1, [.ref mE, .ref mT, .ref mS, .ref mF, .ref mA])), (mT, .inl (cy.1, 12, .inl to))]) (xQi D (fun r w => cdH J = 0 ∧ r = to J.toNatClampNeg ∧ w = [(go, .inr (4, [.ref no, .ref po, .ref mo, .ref gB, .int ph, .int lt, .int ll])), (mo, .inr (1, [.ref mE, .ref mT, .ref mS, .ref mF, .ref mA])), (mT, .inl (cy.1, 12, .inl to))])) (fun E => cdH J = 1 ∧ E = "java/lang/IllegalArgumentException") 1 6 := by
  refine xX_of (X := [(go, .inr (4, [.ref no, .ref po, .ref mo, .ref gB, .int ph, .int lt, .int ll])), (mo, .inr (1, [.ref mE, .ref mT, .ref mS, .ref mF, .ref mA])), (mT, .inl (cy.1, 12, .inl to))]) (pl := []) (nL := 2) (ret := (some .int)) RX4 [(0, .ref go), (1, .int J)] (by decide +kernel) rfl rfl rfl (Nat.le_of_ble_eq_true rfl) (List.append_nil _).symm (fun p e s m args below meth c A C hname hT hZ => ?_)
  refine x_iload_n (q := 1) C 1 rfl dX4_meter_0 rfl ?_
  refine x_CiP (q := 4) C [] [0, 1, 2] (cx := []) (wr := [(go, .inr (4, [.ref no, .ref po, .ref mo, .ref gB, .int ph, .int lt, .int ll])), (mo, .inr (1, [.ref mE, .ref mT, .ref mS, .ref mF, .ref mA])), (mT, .inl (cy.1, 12, .inl to))]) (st := []) rfl rfl rfl rfl (by decide) (fun H locs ls hP hPc hDc hS hFc hl => x_runS C (As := [.int J]) (c_X4_isHouse J) (va_cwS 1 C.2.2.2.2.2.1 gX4_meter_X4_isHouse rfl rfl rfl (by decide +kernel) ⟨Nat.le_of_ble_eq_true rfl, Nat.le_of_ble_eq_true rfl⟩) rfl rfl (Nat.le_of_ble_eq_true rfl) dX4_meter_1 ⟨Nat.le_of_ble_eq_true rfl, Nat.le_of_ble_eq_true rfl⟩ (fun h => absurd h (by decide)) hP hPc hDc hS hFc hl) (k := 0) (n := 0) rfl rfl rfl (fun r_1 w1 hw => ?_)
  obtain ⟨rfl, rfl⟩ := hw
  refine x_ord [0, 1, 2] [(go, .inr (4, [.ref no, .ref po, .ref mo, .ref gB, .int ph, .int lt, .int ll])), (mo, .inr (1, [.ref mE, .ref mT, .ref mS, .ref mF, .ref mA])), (mT, .inl (cy.1, 12, .inl to))] rfl rfl ?_
  refine x_if_ne (q := 7) C 17 dX4_meter_4 (by decide) rfl (fun c_4 => ?_) (fun c_4 => ?_)
  · refine x_aload_n (q := 18) C 0 rfl dX4_meter_17 rfl ?_
    refine x_get (q := 21) C (T := TX4) iw_X4_meter_X4 rfl 0 2 rfl (by decide) rfl (by decide +kernel : Cond.fieldLink RX4 26 RX4 "meters" "LHeatGuild$Meters;" ∈ wsX4_meter) rfl dX4_meter_18 rfl ?_
    refine x_getN (q := 24) C (T := TX1) iw_X4_meter_X1 rfl 1 1 rfl (by decide) rfl (by decide +kernel : Cond.fieldLinkNest RX4 157 RX1 "told" "[I" RX4 ∈ xNest) rfl dX4_meter_21 rfl ?_
    refine x_iload_n (q := 25) C 1 rfl dX4_meter_24 rfl ?_
    refine x_iald (q := 26) C 2 (to J.toNatClampNeg) rfl (pHouse_in c_4) rfl dX4_meter_25 rfl ?_
    exact x_iretX C .int rfl rfl (⟨by simp [cdH, c_4], rfl, rfl⟩) dX4_meter_26 (Nat.le_of_ble_eq_true rfl) (Nat.le_of_ble_eq_true rfl)
  · exact x_throw C hfl hT (hZ rfl) "junction is out of range" rfl (by decide +kernel) (by decide +kernel : Cond.classLink RX4 42 "java/lang/IllegalArgumentException" ∈ wsX4_meter) (by decide +kernel) (by decide +kernel) at_X4_meter_46 atN_46 atG_46 dX4_meter_7 dX4_meter_10 dX4_meter_11 dX4_meter_13 dX4_meter_16 (Nat.le_of_ble_eq_true rfl) (Nat.le_of_ble_eq_true rfl) (Nat.le_of_ble_eq_true rfl) (Nat.le_of_ble_eq_true rfl) (Nat.le_of_ble_eq_true rfl) (Nat.le_of_ble_eq_true rfl) (⟨by simp [cdH, c_4], rfl⟩) rfl

theorem iw_X4_isSuspected_X4 : ∀ w ∈ wsX40, w ∈ wsX4_isSuspected := by decide +kernel
theorem iw_X4_isSuspected_X1 : ∀ w ∈ wsX10, w ∈ wsX4_isSuspected := by decide +kernel
theorem at_X4_isSuspected_46 : ∀ w ∈ (vx_atS RX4 46 "java/lang/IllegalArgumentException" ["java/lang/RuntimeException", "java/lang/Exception"]).filter goodWord, w ∈ wsX4_isSuspected := by decide +kernel
set_option maxHeartbeats 4000000 in
set_option maxRecDepth 100000 in
/-- X4_isSuspected -/
theorem c_X4_isSuspected {l : Launch} {D : va_G} {cy : ClassId × ClassId × ClassId} (go no po mo gB : Nat) (mE mT mS mF mA : Nat) (su : Nat → Int32) (ph lt ll J : Int32) (hsu : ∀ j, su j = 0 ∨ su j = 1) (hfl : l.stackTraces = false) : xX true l yX4_isSuspected wsX4_isSuspected ({ frames := 6, cells := 1, slots := 6, locals := 82 }) D cy [.ref go, .int J] ([(go, .inr (4, [.ref no, .ref po, .ref mo, .ref gB, .int ph, .int lt, .int ll])), (mo, .inr (1, [.ref mE, .ref mT, .ref mS, .ref mF, .ref mA])), (mS, .inl (cy.2.1, 12, .inl su))]) (xQi D (fun r w => cdH J = 0 ∧ r = su J.toNatClampNeg ∧ w = [(go, .inr (4, [.ref no, .ref po, .ref mo, .ref gB, .int ph, .int lt, .int ll])), (mo, .inr (1, [.ref mE, .ref mT, .ref mS, .ref mF, .ref mA])), (mS, .inl (cy.2.1, 12, .inl su))])) (fun E => cdH J = 1 ∧ E = "java/lang/IllegalArgumentException") 1 6 := by
  refine xX_of (X := [(go, .inr (4, [.ref no, .ref po, .ref mo, .ref gB, .int ph, .int lt, .int ll])), (mo, .inr (1, [.ref mE, .ref mT, .ref mS, .ref mF, .ref mA])), (mS, .inl (cy.2.1, 12, .inl su))]) (pl := []) (nL := 2) (ret := (some .boolean)) RX4 [(0, .ref go), (1, .int J)] (by decide +kernel) rfl rfl rfl (Nat.le_of_ble_eq_true rfl) (List.append_nil _).symm (fun p e s m args below meth c A C hname hT hZ => ?_)
  refine x_iload_n (q := 1) C 1 rfl dX4_isSuspected_0 rfl ?_
  refine x_CiP (q := 4) C [] [0, 1, 2] (cx := []) (wr := [(go, .inr (4, [.ref no, .ref po, .ref mo, .ref gB, .int ph, .int lt, .int ll])), (mo, .inr (1, [.ref mE, .ref mT, .ref mS, .ref mF, .ref mA])), (mS, .inl (cy.2.1, 12, .inl su))]) (st := []) rfl rfl rfl rfl (by decide) (fun H locs ls hP hPc hDc hS hFc hl => x_runS C (As := [.int J]) (c_X4_isHouse J) (va_cwS 1 C.2.2.2.2.2.1 gX4_isSuspected_X4_isHouse rfl rfl rfl (by decide +kernel) ⟨Nat.le_of_ble_eq_true rfl, Nat.le_of_ble_eq_true rfl⟩) rfl rfl (Nat.le_of_ble_eq_true rfl) dX4_isSuspected_1 ⟨Nat.le_of_ble_eq_true rfl, Nat.le_of_ble_eq_true rfl⟩ (fun h => absurd h (by decide)) hP hPc hDc hS hFc hl) (k := 0) (n := 0) rfl rfl rfl (fun r_1 w1 hw => ?_)
  obtain ⟨rfl, rfl⟩ := hw
  refine x_ord [0, 1, 2] [(go, .inr (4, [.ref no, .ref po, .ref mo, .ref gB, .int ph, .int lt, .int ll])), (mo, .inr (1, [.ref mE, .ref mT, .ref mS, .ref mF, .ref mA])), (mS, .inl (cy.2.1, 12, .inl su))] rfl rfl ?_
  refine x_if_ne (q := 7) C 17 dX4_isSuspected_4 (by decide) rfl (fun c_4 => ?_) (fun c_4 => ?_)
  · refine x_aload_n (q := 18) C 0 rfl dX4_isSuspected_17 rfl ?_
    refine x_get (q := 21) C (T := TX4) iw_X4_isSuspected_X4 rfl 0 2 rfl (by decide) rfl (by decide +kernel : Cond.fieldLink RX4 26 RX4 "meters" "LHeatGuild$Meters;" ∈ wsX4_isSuspected) rfl dX4_isSuspected_18 rfl ?_
    refine x_getN (q := 24) C (T := TX1) iw_X4_isSuspected_X1 rfl 1 2 rfl (by decide) rfl (by decide +kernel : Cond.fieldLinkNest RX4 160 RX1 "suspected" "[Z" RX4 ∈ xNest) rfl dX4_isSuspected_21 rfl ?_
    refine x_iload_n (q := 25) C 1 rfl dX4_isSuspected_24 rfl ?_
    refine x_zald (q := 26) C 2 (su J.toNatClampNeg) rfl (pHouse_in c_4) rfl dX4_isSuspected_25 rfl ?_
    exact x_iretX C .boolean rfl (by rcases hsu J.toNatClampNeg with h | h <;> rw [h] <;> rfl) (⟨by simp [cdH, c_4], rfl, rfl⟩) dX4_isSuspected_26 (Nat.le_of_ble_eq_true rfl) (Nat.le_of_ble_eq_true rfl)
  · exact x_throw C hfl hT (hZ rfl) "junction is out of range" rfl (by decide +kernel) (by decide +kernel : Cond.classLink RX4 42 "java/lang/IllegalArgumentException" ∈ wsX4_isSuspected) (by decide +kernel) (by decide +kernel) at_X4_isSuspected_46 atN_46 atG_46 dX4_isSuspected_7 dX4_isSuspected_10 dX4_isSuspected_11 dX4_isSuspected_13 dX4_isSuspected_16 (Nat.le_of_ble_eq_true rfl) (Nat.le_of_ble_eq_true rfl) (Nat.le_of_ble_eq_true rfl) (Nat.le_of_ble_eq_true rfl) (Nat.le_of_ble_eq_true rfl) (Nat.le_of_ble_eq_true rfl) (⟨by simp [cdH, c_4], rfl⟩) rfl

theorem iw_X4_bill_X4 : ∀ w ∈ wsX40, w ∈ wsX4_bill := by decide +kernel
theorem at_X4_bill_46 : ∀ w ∈ (vx_atS RX4 46 "java/lang/IllegalArgumentException" ["java/lang/RuntimeException", "java/lang/Exception"]).filter goodWord, w ∈ wsX4_bill := by decide +kernel
set_option maxHeartbeats 4000000 in
set_option maxRecDepth 100000 in
/-- X4_bill -/
theorem c_X4_bill {l : Launch} {D : va_G} {cy : ClassId × ClassId × ClassId} (go no po mo gB : Nat) (b : Nat → Int32) (ph lt ll J : Int32) (hfl : l.stackTraces = false) : xX true l yX4_bill wsX4_bill ({ frames := 6, cells := 1, slots := 6, locals := 82 }) D cy [.ref go, .int J] ([(go, .inr (4, [.ref no, .ref po, .ref mo, .ref gB, .int ph, .int lt, .int ll])), (gB, .inl (cy.1, 12, .inl b))]) (xQi D (fun r w => cdH J = 0 ∧ r = b J.toNatClampNeg ∧ w = [(go, .inr (4, [.ref no, .ref po, .ref mo, .ref gB, .int ph, .int lt, .int ll])), (gB, .inl (cy.1, 12, .inl b))])) (fun E => cdH J = 1 ∧ E = "java/lang/IllegalArgumentException") 1 6 := by
  refine xX_of (X := [(go, .inr (4, [.ref no, .ref po, .ref mo, .ref gB, .int ph, .int lt, .int ll])), (gB, .inl (cy.1, 12, .inl b))]) (pl := []) (nL := 2) (ret := (some .int)) RX4 [(0, .ref go), (1, .int J)] (by decide +kernel) rfl rfl rfl (Nat.le_of_ble_eq_true rfl) (List.append_nil _).symm (fun p e s m args below meth c A C hname hT hZ => ?_)
  refine x_iload_n (q := 1) C 1 rfl dX4_bill_0 rfl ?_
  refine x_CiP (q := 4) C [] [0, 1] (cx := []) (wr := [(go, .inr (4, [.ref no, .ref po, .ref mo, .ref gB, .int ph, .int lt, .int ll])), (gB, .inl (cy.1, 12, .inl b))]) (st := []) rfl rfl rfl rfl (by decide) (fun H locs ls hP hPc hDc hS hFc hl => x_runS C (As := [.int J]) (c_X4_isHouse J) (va_cwS 1 C.2.2.2.2.2.1 gX4_bill_X4_isHouse rfl rfl rfl (by decide +kernel) ⟨Nat.le_of_ble_eq_true rfl, Nat.le_of_ble_eq_true rfl⟩) rfl rfl (Nat.le_of_ble_eq_true rfl) dX4_bill_1 ⟨Nat.le_of_ble_eq_true rfl, Nat.le_of_ble_eq_true rfl⟩ (fun h => absurd h (by decide)) hP hPc hDc hS hFc hl) (k := 0) (n := 0) rfl rfl rfl (fun r_1 w1 hw => ?_)
  obtain ⟨rfl, rfl⟩ := hw
  refine x_ord [0, 1] [(go, .inr (4, [.ref no, .ref po, .ref mo, .ref gB, .int ph, .int lt, .int ll])), (gB, .inl (cy.1, 12, .inl b))] rfl rfl ?_
  refine x_if_ne (q := 7) C 17 dX4_bill_4 (by decide) rfl (fun c_4 => ?_) (fun c_4 => ?_)
  · refine x_aload_n (q := 18) C 0 rfl dX4_bill_17 rfl ?_
    refine x_get (q := 21) C (T := TX4) iw_X4_bill_X4 rfl 0 3 rfl (by decide) rfl (by decide +kernel : Cond.fieldLink RX4 30 RX4 "billed" "[I" ∈ wsX4_bill) rfl dX4_bill_18 rfl ?_
    refine x_iload_n (q := 22) C 1 rfl dX4_bill_21 rfl ?_
    refine x_iald (q := 23) C 1 (b J.toNatClampNeg) rfl (pHouse_in c_4) rfl dX4_bill_22 rfl ?_
    exact x_iretX C .int rfl rfl (⟨by simp [cdH, c_4], rfl, rfl⟩) dX4_bill_23 (Nat.le_of_ble_eq_true rfl) (Nat.le_of_ble_eq_true rfl)
  · exact x_throw C hfl hT (hZ rfl) "junction is out of range" rfl (by decide +kernel) (by decide +kernel : Cond.classLink RX4 42 "java/lang/IllegalArgumentException" ∈ wsX4_bill) (by decide +kernel) (by decide +kernel) at_X4_bill_46 atN_46 atG_46 dX4_bill_7 dX4_bill_10 dX4_bill_11 dX4_bill_13 dX4_bill_16 (Nat.le_of_ble_eq_true rfl) (Nat.le_of_ble_eq_true rfl) (Nat.le_of_ble_eq_true rfl) (Nat.le_of_ble_eq_true rfl) (Nat.le_of_ble_eq_true rfl) (Nat.le_of_ble_eq_true rfl) (⟨by simp [cdH, c_4], rfl⟩) rfl

theorem iw_X4_isOpen_X4 : ∀ w ∈ wsX40, w ∈ wsX4_isOpen := by decide +kernel
theorem iw_X4_isOpen_X2 : ∀ w ∈ wsX20, w ∈ wsX4_isOpen := by decide +kernel
theorem at_X4_isOpen_46 : ∀ w ∈ (vx_atS RX4 46 "java/lang/IllegalArgumentException" ["java/lang/RuntimeException", "java/lang/Exception"]).filter goodWord, w ∈ wsX4_isOpen := by decide +kernel
set_option maxHeartbeats 4000000 in
set_option maxRecDepth 100000 in
/-- X4_isOpen -/
theorem c_X4_isOpen {l : Launch} {D : va_G} {cy : ClassId × ClassId × ClassId} (go no po mo gB : Nat) (nS nL nA nH nV nT nC nD : Nat) (sh : Nat → Int32) (ph lt ll sl J : Int32) (hfl : l.stackTraces = false) : xX true l yX4_isOpen wsX4_isOpen ({ frames := 6, cells := 1, slots := 6, locals := 82 }) D cy [.ref go, .int J] ([(go, .inr (4, [.ref no, .ref po, .ref mo, .ref gB, .int ph, .int lt, .int ll])), (no, .inr (2, [.ref nS, .ref nL, .ref nA, .ref nH, .ref nV, .ref nT, .ref nC, .ref nD, .int sl])), (nH, .inl (cy.1, 12, .inl sh))]) (xQi D (fun r w => cdH J = 0 ∧ r = (if sh J.toNatClampNeg = 0 then 1 else 0) ∧ w = [(go, .inr (4, [.ref no, .ref po, .ref mo, .ref gB, .int ph, .int lt, .int ll])), (no, .inr (2, [.ref nS, .ref nL, .ref nA, .ref nH, .ref nV, .ref nT, .ref nC, .ref nD, .int sl])), (nH, .inl (cy.1, 12, .inl sh))])) (fun E => cdH J = 1 ∧ E = "java/lang/IllegalArgumentException") 1 6 := by
  refine xX_of (X := [(go, .inr (4, [.ref no, .ref po, .ref mo, .ref gB, .int ph, .int lt, .int ll])), (no, .inr (2, [.ref nS, .ref nL, .ref nA, .ref nH, .ref nV, .ref nT, .ref nC, .ref nD, .int sl])), (nH, .inl (cy.1, 12, .inl sh))]) (pl := []) (nL := 2) (ret := (some .boolean)) RX4 [(0, .ref go), (1, .int J)] (by decide +kernel) rfl rfl rfl (Nat.le_of_ble_eq_true rfl) (List.append_nil _).symm (fun p e s m args below meth c A C hname hT hZ => ?_)
  refine x_iload_n (q := 1) C 1 rfl dX4_isOpen_0 rfl ?_
  refine x_CiP (q := 4) C [] [0, 1, 2] (cx := []) (wr := [(go, .inr (4, [.ref no, .ref po, .ref mo, .ref gB, .int ph, .int lt, .int ll])), (no, .inr (2, [.ref nS, .ref nL, .ref nA, .ref nH, .ref nV, .ref nT, .ref nC, .ref nD, .int sl])), (nH, .inl (cy.1, 12, .inl sh))]) (st := []) rfl rfl rfl rfl (by decide) (fun H locs ls hP hPc hDc hS hFc hl => x_runS C (As := [.int J]) (c_X4_isHouse J) (va_cwS 1 C.2.2.2.2.2.1 gX4_isOpen_X4_isHouse rfl rfl rfl (by decide +kernel) ⟨Nat.le_of_ble_eq_true rfl, Nat.le_of_ble_eq_true rfl⟩) rfl rfl (Nat.le_of_ble_eq_true rfl) dX4_isOpen_1 ⟨Nat.le_of_ble_eq_true rfl, Nat.le_of_ble_eq_true rfl⟩ (fun h => absurd h (by decide)) hP hPc hDc hS hFc hl) (k := 0) (n := 0) rfl rfl rfl (fun r_1 w1 hw => ?_)
  obtain ⟨rfl, rfl⟩ := hw
  refine x_ord [0, 1, 2] [(go, .inr (4, [.ref no, .ref po, .ref mo, .ref gB, .int ph, .int lt, .int ll])), (no, .inr (2, [.ref nS, .ref nL, .ref nA, .ref nH, .ref nV, .ref nT, .ref nC, .ref nD, .int sl])), (nH, .inl (cy.1, 12, .inl sh))] rfl rfl ?_
  refine x_if_ne (q := 7) C 17 dX4_isOpen_4 (by decide) rfl (fun c_4 => ?_) (fun c_4 => ?_)
  · refine x_aload_n (q := 18) C 0 rfl dX4_isOpen_17 rfl ?_
    refine x_get (q := 21) C (T := TX4) iw_X4_isOpen_X4 rfl 0 0 rfl (by decide) rfl (by decide +kernel : Cond.fieldLink RX4 10 RX4 "net" "LHeatGuild$Net;" ∈ wsX4_isOpen) rfl dX4_isOpen_18 rfl ?_
    refine x_getN (q := 24) C (T := TX2) iw_X4_isOpen_X2 rfl 1 3 rfl (by decide) rfl (by decide +kernel : Cond.fieldLinkNest RX4 87 RX2 "shutHours" "[I" RX4 ∈ xNest) rfl dX4_isOpen_21 rfl ?_
    refine x_iload_n (q := 25) C 1 rfl dX4_isOpen_24 rfl ?_
    refine x_iald (q := 26) C 2 (sh J.toNatClampNeg) rfl (pHouse_in c_4) rfl dX4_isOpen_25 rfl ?_
    refine x_if_ne (q := 29) C 33 dX4_isOpen_26 (by decide) rfl (fun c_26 => ?_) (fun c_26 => ?_)
    · refine x_iconst (q := 34) C 0 rfl dX4_isOpen_33 rfl ?_
      exact x_iretX C .boolean rfl rfl (⟨by simp [cdH, c_4], by simp [c_26], rfl⟩) dX4_isOpen_34 (Nat.le_of_ble_eq_true rfl) (Nat.le_of_ble_eq_true rfl)
    · refine x_iconst (q := 30) C 1 rfl dX4_isOpen_29 rfl ?_
      refine x_goto C 34 dX4_isOpen_30 (by decide) ?_
      exact x_iretX C .boolean rfl rfl (⟨by simp [cdH, c_4], by simp [c_26], rfl⟩) dX4_isOpen_34 (Nat.le_of_ble_eq_true rfl) (Nat.le_of_ble_eq_true rfl)
  · exact x_throw C hfl hT (hZ rfl) "junction is out of range" rfl (by decide +kernel) (by decide +kernel : Cond.classLink RX4 42 "java/lang/IllegalArgumentException" ∈ wsX4_isOpen) (by decide +kernel) (by decide +kernel) at_X4_isOpen_46 atN_46 atG_46 dX4_isOpen_7 dX4_isOpen_10 dX4_isOpen_11 dX4_isOpen_13 dX4_isOpen_16 (Nat.le_of_ble_eq_true rfl) (Nat.le_of_ble_eq_true rfl) (Nat.le_of_ble_eq_true rfl) (Nat.le_of_ble_eq_true rfl) (Nat.le_of_ble_eq_true rfl) (Nat.le_of_ble_eq_true rfl) (⟨by simp [cdH, c_4], rfl⟩) rfl

theorem iw_X4_hours_X4 : ∀ w ∈ wsX40, w ∈ wsX4_hours := by decide +kernel
set_option maxHeartbeats 4000000 in
set_option maxRecDepth 100000 in
/-- X4_hours -/
theorem c_X4_hours {l : Launch} {D : va_G} {cy : ClassId × ClassId × ClassId} (go no po mo gB : Nat) (ph lt ll : Int32) : xM false l yX4_hours wsX4_hours ({ frames := 0, cells := 0, slots := 0, locals := 0 }) D cy [.ref go] ([(go, .inr (4, [.ref no, .ref po, .ref mo, .ref gB, .int ph, .int lt, .int ll]))]) (xQi D (fun r w => r = ph ∧ w = [(go, .inr (4, [.ref no, .ref po, .ref mo, .ref gB, .int ph, .int lt, .int ll]))])) 0 0 := by
  refine xM_of (X := [(go, .inr (4, [.ref no, .ref po, .ref mo, .ref gB, .int ph, .int lt, .int ll]))]) (pl := []) (nL := 1) (ret := (some .int)) RX4 [(0, .ref go)] (by decide +kernel) rfl rfl rfl (Nat.le_of_ble_eq_true rfl) (List.append_nil _).symm (fun p e s m args below meth c A C hname hT hZ => ?_)
  refine x_aload_n (q := 1) C 0 rfl dX4_hours_0 rfl ?_
  refine x_get (q := 4) C (T := TX4) iw_X4_hours_X4 rfl 0 4 rfl (by decide) rfl (by decide +kernel : Cond.fieldLink RX4 49 RX4 "passedHours" "I" ∈ wsX4_hours) rfl dX4_hours_1 rfl ?_
  exact x_iret C .int rfl rfl (⟨rfl, rfl⟩) dX4_hours_4 (Nat.le_of_ble_eq_true rfl) (Nat.le_of_ble_eq_true rfl)

theorem iw_X4_losses_X4 : ∀ w ∈ wsX40, w ∈ wsX4_losses := by decide +kernel
set_option maxHeartbeats 4000000 in
set_option maxRecDepth 100000 in
/-- X4_losses -/
theorem c_X4_losses {l : Launch} {D : va_G} {cy : ClassId × ClassId × ClassId} (go no po mo gB : Nat) (ph lt ll : Int32) : xM false l yX4_losses wsX4_losses ({ frames := 0, cells := 0, slots := 0, locals := 0 }) D cy [.ref go] ([(go, .inr (4, [.ref no, .ref po, .ref mo, .ref gB, .int ph, .int lt, .int ll]))]) (xQi D (fun r w => r = ll ∧ w = [(go, .inr (4, [.ref no, .ref po, .ref mo, .ref gB, .int ph, .int lt, .int ll]))])) 0 0 := by
  refine xM_of (X := [(go, .inr (4, [.ref no, .ref po, .ref mo, .ref gB, .int ph, .int lt, .int ll]))]) (pl := []) (nL := 1) (ret := (some .int)) RX4 [(0, .ref go)] (by decide +kernel) rfl rfl rfl (Nat.le_of_ble_eq_true rfl) (List.append_nil _).symm (fun p e s m args below meth c A C hname hT hZ => ?_)
  refine x_aload_n (q := 1) C 0 rfl dX4_losses_0 rfl ?_
  refine x_get (q := 4) C (T := TX4) iw_X4_losses_X4 rfl 0 6 rfl (by decide) rfl (by decide +kernel : Cond.fieldLink RX4 135 RX4 "lastLosses" "I" ∈ wsX4_losses) rfl dX4_losses_1 rfl ?_
  exact x_iret C .int rfl rfl (⟨rfl, rfl⟩) dX4_losses_4 (Nat.le_of_ble_eq_true rfl) (Nat.le_of_ble_eq_true rfl)

theorem iw_X4_cost_X4 : ∀ w ∈ wsX40, w ∈ wsX4_cost := by decide +kernel
theorem iw_X4_cost_X3 : ∀ w ∈ wsX30, w ∈ wsX4_cost := by decide +kernel
set_option maxHeartbeats 4000000 in
set_option maxRecDepth 100000 in
/-- X4_cost -/
theorem c_X4_cost {l : Launch} {D : va_G} {cy : ClassId × ClassId × ClassId} (go no po mo gB : Nat) (fst : Option Nat) (ph lt ll cn ap sp : Int32) : xM false l yX4_cost wsX4_cost ({ frames := 0, cells := 0, slots := 0, locals := 0 }) D cy [.ref go] ([(go, .inr (4, [.ref no, .ref po, .ref mo, .ref gB, .int ph, .int lt, .int ll])), (po, .inr (3, [va_rf fst, .int cn, .int ap, .int sp]))]) (xQi D (fun r w => r = sp ∧ w = [(go, .inr (4, [.ref no, .ref po, .ref mo, .ref gB, .int ph, .int lt, .int ll])), (po, .inr (3, [va_rf fst, .int cn, .int ap, .int sp]))])) 0 0 := by
  refine xM_of (X := [(go, .inr (4, [.ref no, .ref po, .ref mo, .ref gB, .int ph, .int lt, .int ll])), (po, .inr (3, [va_rf fst, .int cn, .int ap, .int sp]))]) (pl := []) (nL := 1) (ret := (some .int)) RX4 [(0, .ref go)] (by decide +kernel) rfl rfl rfl (Nat.le_of_ble_eq_true rfl) (List.append_nil _).symm (fun p e s m args below meth c A C hname hT hZ => ?_)
  refine x_aload_n (q := 1) C 0 rfl dX4_cost_0 rfl ?_
  refine x_get (q := 4) C (T := TX4) iw_X4_cost_X4 rfl 0 1 rfl (by decide) rfl (by decide +kernel : Cond.fieldLink RX4 19 RX4 "plant" "LHeatGuild$Plant;" ∈ wsX4_cost) rfl dX4_cost_1 rfl ?_
  refine x_getN (q := 7) C (T := TX3) iw_X4_cost_X3 rfl 1 3 rfl (by decide) rfl (by decide +kernel : Cond.fieldLinkNest RX4 164 RX3 "spent" "I" RX4 ∈ xNest) rfl dX4_cost_4 rfl ?_
  exact x_iret C .int rfl rfl (⟨rfl, rfl⟩) dX4_cost_7 (Nat.le_of_ble_eq_true rfl) (Nat.le_of_ble_eq_true rfl)

theorem iw_X4_load_X4 : ∀ w ∈ wsX40, w ∈ wsX4_load := by decide +kernel
set_option maxHeartbeats 4000000 in
set_option maxRecDepth 100000 in
/-- X4_load -/
theorem c_X4_load {l : Launch} {D : va_G} {cy : ClassId × ClassId × ClassId} (go no po mo gB : Nat) (nS nL nA nH nV nT nC nD : Nat) (sr : Nat → Nat) (lo ar sh ht ca dm : Nat → Int32) (ph lt ll sl t : Int32) (hsr : ∀ j, 1 ≤ j → j < 12 → sr j < j) (hfl : l.stackTraces = false) : xX true l yX4_load wsX4_load ({ frames := 7, cells := 1, slots := 6, locals := 102 }) D cy [.ref go, .int t] ([(go, .inr (4, [.ref no, .ref po, .ref mo, .ref gB, .int ph, .int lt, .int ll])), (no, .inr (2, [.ref nS, .ref nL, .ref nA, .ref nH, .ref nV, .ref nT, .ref nC, .ref nD, .int sl])), (nS, .inl (cy.1, 12, .inl (fun i => nI (sr i)))), (nL, .inl (cy.1, 12, .inl lo)), (nA, .inl (cy.1, 12, .inl ar)), (nH, .inl (cy.1, 12, .inl sh)), (nT, .inl (cy.2.1, 12, .inl ht)), (nC, .inl (cy.2.1, 12, .inl ca)), (nD, .inl (cy.1, 12, .inl dm))]) (xQi D (fun r w => cdTemp t = 0 ∧ r = oW sr lo ar sh ht dm ca t ∧ w = [(go, .inr (4, [.ref no, .ref po, .ref mo, .ref gB, .int ph, .int lt, .int ll])), (no, .inr (2, [.ref nS, .ref nL, .ref nA, .ref nH, .ref nV, .ref nT, .ref nC, .ref nD, .int (oL sr lo ar sh ht dm ca t)])), (nS, .inl (cy.1, 12, .inl (fun i => nI (sr i)))), (nL, .inl (cy.1, 12, .inl lo)), (nA, .inl (cy.1, 12, .inl ar)), (nH, .inl (cy.1, 12, .inl sh)), (nT, .inl (cy.2.1, 12, .inl (hFun sr sh ht))), (nC, .inl (cy.2.1, 12, .inl (oC sr ar sh ht dm ca t))), (nD, .inl (cy.1, 12, .inl ((oD sr ar sh ht dm t).1)))])) (fun E => cdTemp t = 1 ∧ E = "java/lang/IllegalArgumentException") 1 6 := by
  refine xX_of (X := [(go, .inr (4, [.ref no, .ref po, .ref mo, .ref gB, .int ph, .int lt, .int ll])), (no, .inr (2, [.ref nS, .ref nL, .ref nA, .ref nH, .ref nV, .ref nT, .ref nC, .ref nD, .int sl])), (nS, .inl (cy.1, 12, .inl (fun i => nI (sr i)))), (nL, .inl (cy.1, 12, .inl lo)), (nA, .inl (cy.1, 12, .inl ar)), (nH, .inl (cy.1, 12, .inl sh)), (nT, .inl (cy.2.1, 12, .inl ht)), (nC, .inl (cy.2.1, 12, .inl ca)), (nD, .inl (cy.1, 12, .inl dm))]) (pl := []) (nL := 2) (ret := (some .int)) RX4 [(0, .ref go), (1, .int t)] (by decide +kernel) rfl rfl rfl (Nat.le_of_ble_eq_true rfl) (List.append_nil _).symm (fun p e s m args below meth c A C hname hT hZ => ?_)
  refine x_iload_n (q := 1) C 1 rfl dX4_load_0 rfl ?_
  refine x_XvP (q := 4) C [] [0, 1, 2, 3, 4, 5, 6, 7, 8] (cx := []) (wr := [(go, .inr (4, [.ref no, .ref po, .ref mo, .ref gB, .int ph, .int lt, .int ll])), (no, .inr (2, [.ref nS, .ref nL, .ref nA, .ref nH, .ref nV, .ref nT, .ref nC, .ref nD, .int sl])), (nS, .inl (cy.1, 12, .inl (fun i => nI (sr i)))), (nL, .inl (cy.1, 12, .inl lo)), (nA, .inl (cy.1, 12, .inl ar)), (nH, .inl (cy.1, 12, .inl sh)), (nT, .inl (cy.2.1, 12, .inl ht)), (nC, .inl (cy.2.1, 12, .inl ca)), (nD, .inl (cy.1, 12, .inl dm))]) (st := []) rfl rfl rfl rfl (by decide) (fun H locs ls hP hPc hDc hS hFc hl => x_runSX C (As := [.int t]) (c_X4_requireTemperature t hfl) (va_cwS 1 C.2.2.2.2.2.1 gX4_load_X4_requireTemperature rfl rfl rfl (by decide +kernel) ⟨Nat.le_of_ble_eq_true rfl, Nat.le_of_ble_eq_true rfl⟩) rfl rfl (Nat.le_of_ble_eq_true rfl) dX4_load_1 ⟨Nat.le_of_ble_eq_true rfl, Nat.le_of_ble_eq_true rfl⟩ hZ hP hPc hDc hS hFc hl) (k := 1) (n := 6) rfl rfl rfl (fun E hE => ?_) (fun w1 hw => ?_)
  · exact x_out C hT hE rfl (Nat.le_of_ble_eq_true rfl) (Nat.le_of_ble_eq_true rfl)
  · obtain ⟨hcd, rfl⟩ := hw
    refine x_ord [0, 1, 2, 3, 4, 5, 6, 7, 8] [(go, .inr (4, [.ref no, .ref po, .ref mo, .ref gB, .int ph, .int lt, .int ll])), (no, .inr (2, [.ref nS, .ref nL, .ref nA, .ref nH, .ref nV, .ref nT, .ref nC, .ref nD, .int sl])), (nS, .inl (cy.1, 12, .inl (fun i => nI (sr i)))), (nL, .inl (cy.1, 12, .inl lo)), (nA, .inl (cy.1, 12, .inl ar)), (nH, .inl (cy.1, 12, .inl sh)), (nT, .inl (cy.2.1, 12, .inl ht)), (nC, .inl (cy.2.1, 12, .inl ca)), (nD, .inl (cy.1, 12, .inl dm))] rfl rfl ?_
    refine x_aload_n (q := 5) C 0 rfl dX4_load_4 rfl ?_
    refine x_get (q := 8) C (T := TX4) iw_X4_load_X4 rfl 0 0 rfl (by decide) rfl (by decide +kernel : Cond.fieldLink RX4 10 RX4 "net" "LHeatGuild$Net;" ∈ wsX4_load) rfl dX4_load_5 rfl ?_
    refine x_iload_n (q := 9) C 1 rfl dX4_load_8 rfl ?_
    refine x_CiP (q := 12) C [1, 2, 3, 4, 5, 6, 7, 8] [0] (cx := [(no, .inr (2, [.ref nS, .ref nL, .ref nA, .ref nH, .ref nV, .ref nT, .ref nC, .ref nD, .int sl])), (nS, .inl (cy.1, 12, .inl (fun i => nI (sr i)))), (nL, .inl (cy.1, 12, .inl lo)), (nA, .inl (cy.1, 12, .inl ar)), (nH, .inl (cy.1, 12, .inl sh)), (nT, .inl (cy.2.1, 12, .inl ht)), (nC, .inl (cy.2.1, 12, .inl ca)), (nD, .inl (cy.1, 12, .inl dm))]) (wr := [(go, .inr (4, [.ref no, .ref po, .ref mo, .ref gB, .int ph, .int lt, .int ll]))]) (st := []) rfl rfl rfl rfl (by decide) (fun H locs ls hP hPc hDc hS hFc hl => x_runVN C (As := [.int t]) (c_X2_survey no nS nL nA nH nV nT nC nD sr lo ar sh ht ca dm sl t hsr) (⟨va_cnB 1 C.2.2.2.2.2.1 gX4_load_X2_survey_n105 rfl rfl rfl (va_Nw.of rfl (C.2.2.2.2.2.2.1.2.1.use (B := #[]) (by decide +kernel : Cond.methodLinkNest RX4 105 yX2_survey RX4 ∈ xNest))) (C.2.2.2.2.2.1 _ (by decide +kernel)) (by decide +kernel) ⟨Nat.le_of_ble_eq_true rfl, Nat.le_of_ble_eq_true rfl⟩, C.2.2.2.2.2.1 (Cond.instanceMethod yX2_survey) (by decide +kernel), C.2.2.2.2.2.1 (Cond.selects RX2 yX2_survey yX2_survey) (by decide +kernel)⟩) rfl 1 rfl rfl rfl (Nat.le_of_ble_eq_true rfl) dX4_load_9 ⟨Nat.le_of_ble_eq_true rfl, Nat.le_of_ble_eq_true rfl⟩ (fun h => absurd h (by decide)) hP hPc hDc hS hFc hl) (k := 1) (n := 6) rfl rfl rfl (fun r_9 w1 hw => ?_)
    obtain ⟨rfl, rfl⟩ := hw
    refine x_ord [0, 1, 2, 3, 4, 5, 6, 7, 8] [(go, .inr (4, [.ref no, .ref po, .ref mo, .ref gB, .int ph, .int lt, .int ll])), (no, .inr (2, [.ref nS, .ref nL, .ref nA, .ref nH, .ref nV, .ref nT, .ref nC, .ref nD, .int (oL sr lo ar sh ht dm ca t)])), (nS, .inl (cy.1, 12, .inl (fun i => nI (sr i)))), (nL, .inl (cy.1, 12, .inl lo)), (nA, .inl (cy.1, 12, .inl ar)), (nH, .inl (cy.1, 12, .inl sh)), (nT, .inl (cy.2.1, 12, .inl (hFun sr sh ht))), (nC, .inl (cy.2.1, 12, .inl (oC sr ar sh ht dm ca t))), (nD, .inl (cy.1, 12, .inl ((oD sr ar sh ht dm t).1)))] rfl rfl ?_
    exact x_iretX C .int rfl rfl (⟨hcd, rfl, rfl⟩) dX4_load_12 (Nat.le_of_ble_eq_true rfl) (Nat.le_of_ble_eq_true rfl)

theorem iw_X4_fired_X4 : ∀ w ∈ wsX40, w ∈ wsX4_fired := by decide +kernel
theorem at_X4_fired_146 : ∀ w ∈ (vx_atS RX4 146 "java/lang/IndexOutOfBoundsException" ["java/lang/RuntimeException", "java/lang/Exception"]).filter goodWord, w ∈ wsX4_fired := by decide +kernel
theorem iw_X4_fired_X0 : ∀ w ∈ wsX00, w ∈ wsX4_fired := by decide +kernel
set_option maxHeartbeats 4000000 in
set_option maxRecDepth 100000 in
/-- X4_fired -/
theorem c_X4_fired {l : Launch} {D : va_G} {cy : ClassId × ClassId × ClassId} (go no po mo gB : Nat) (n : Nat) (ad : Nat → Nat) (stp pow cst frd : Nat → Int32) (nx : Nat → Option Nat) (ord : List Nat) (cn ap sp : Int32) (ph lt ll x9 : Int32) (hch : chn nx ord) (hlt : ∀ k ∈ ord, k < n) (hfl : l.stackTraces = false) : xX true l yX4_fired wsX4_fired ({ frames := 6, cells := 1, slots := 6, locals := 82 }) D cy [.ref go, .int x9] ([(go, .inr (4, [.ref no, .ref po, .ref mo, .ref gB, .int ph, .int lt, .int ll])), (po, .inr (3, [va_rf (Option.map ad ord.head?), .int cn, .int ap, .int sp]))] ++ bl ad stp pow cst frd nx n) (xQi2 D (fun r w => cdFired x9 ord = 0 ∧ (∃ z, findL x9 ord = some z ∧ r = frd z) ∧ w = ([(go, .inr (4, [.ref no, .ref po, .ref mo, .ref gB, .int ph, .int lt, .int ll])), (po, .inr (3, [va_rf (Option.map ad ord.head?), .int cn, .int ap, .int sp]))], bl ad stp pow cst frd nx n))) (fun E => cdFired x9 ord = 1 ∧ E = "java/lang/IndexOutOfBoundsException") 1 6 := by
  refine xX_of (X := [(go, .inr (4, [.ref no, .ref po, .ref mo, .ref gB, .int ph, .int lt, .int ll])), (po, .inr (3, [va_rf (Option.map ad ord.head?), .int cn, .int ap, .int sp]))]) (pl := bl ad stp pow cst frd nx n) (nL := 3) (ret := (some .int)) RX4 [(0, .ref go), (1, .int x9)] (by decide +kernel) rfl rfl rfl (Nat.le_of_ble_eq_true rfl) rfl (fun p e s m args below meth c A C hname hT hZ => ?_)
  refine x_aload_n (q := 1) C 0 rfl dX4_fired_0 rfl ?_
  refine x_get (q := 4) C (T := TX4) iw_X4_fired_X4 rfl 0 1 rfl (by decide) rfl (by decide +kernel : Cond.fieldLink RX4 19 RX4 "plant" "LHeatGuild$Plant;" ∈ wsX4_fired) rfl dX4_fired_1 rfl ?_
  refine x_iload_n (q := 5) C 1 rfl dX4_fired_4 rfl ?_
  refine x_CqT (q := 8) C [1] [0] (cx := [(po, .inr (3, [va_rf (Option.map ad ord.head?), .int cn, .int ap, .int sp]))]) (wr := [(go, .inr (4, [.ref no, .ref po, .ref mo, .ref gB, .int ph, .int lt, .int ll]))]) (st := []) rfl rfl rfl rfl (by decide) (fun H locs ls hP hPc hDc hS hFc hl => x_runVN C (As := [.int x9]) (c_X3_find po n ad stp pow cst frd nx ord cn ap sp x9 hch hlt) (⟨va_cnB 1 C.2.2.2.2.2.1 gX4_fired_X3_find_n138 rfl rfl rfl (va_Nw.of rfl (C.2.2.2.2.2.2.1.2.1.use (B := #[]) (by decide +kernel : Cond.methodLinkNest RX4 138 yX3_find RX4 ∈ xNest))) (C.2.2.2.2.2.1 _ (by decide +kernel)) (by decide +kernel) ⟨Nat.le_of_ble_eq_true rfl, Nat.le_of_ble_eq_true rfl⟩, C.2.2.2.2.2.1 (Cond.instanceMethod yX3_find) (by decide +kernel), C.2.2.2.2.2.1 (Cond.selects RX3 yX3_find yX3_find) (by decide +kernel)⟩) rfl 1 rfl rfl rfl (Nat.le_of_ble_eq_true rfl) dX4_fired_5 ⟨Nat.le_of_ble_eq_true rfl, Nat.le_of_ble_eq_true rfl⟩ (fun h => absurd h (by decide)) hP hPc hDc hS hFc hl) (k := 0) (n := 0) rfl rfl rfl (fun r_5 x1 pl1 hw => ?_)
  obtain ⟨rfl, hw⟩ := hw
  obtain ⟨rfl, rfl⟩ := Prod.mk.inj hw
  refine x_ord [0, 1] [(go, .inr (4, [.ref no, .ref po, .ref mo, .ref gB, .int ph, .int lt, .int ll])), (po, .inr (3, [va_rf (Option.map ad ord.head?), .int cn, .int ap, .int sp]))] rfl rfl ?_
  refine x_astore_nO (q := 9) C (Option.map ad (findL x9 ord)) [(2, va_rf (Option.map ad (findL x9 ord))), (0, .ref go), (1, .int x9)] dX4_fired_8 (by decide) rfl rfl ?_
  rcases hf : findL x9 ord with _ | z
  · refine x_aload_nN (q := 10) C 0 rfl dX4_fired_9 rfl ?_
    refine x_ifnonnull_f (q := 13) C dX4_fired_10 rfl ?_
    exact x_throw C hfl hT (hZ rfl) "there is no such boiler" rfl (by decide +kernel) (by decide +kernel : Cond.classLink RX4 142 "java/lang/IndexOutOfBoundsException" ∈ wsX4_fired) (by decide +kernel) (by decide +kernel) at_X4_fired_146 atN_146 atG_146 dX4_fired_13 dX4_fired_16 dX4_fired_17 dX4_fired_19 dX4_fired_22 (Nat.le_of_ble_eq_true rfl) (Nat.le_of_ble_eq_true rfl) (Nat.le_of_ble_eq_true rfl) (Nat.le_of_ble_eq_true rfl) (Nat.le_of_ble_eq_true rfl) (Nat.le_of_ble_eq_true rfl) (⟨by simp [cdFired, hf], rfl⟩) rfl
  · refine x_aload_n (q := 10) C 0 rfl dX4_fired_9 rfl ?_
    refine x_ifnonnull_t C 23 dX4_fired_10 (by decide) ?_
    refine x_aload_n (q := 24) C 0 rfl dX4_fired_23 rfl ?_
    refine x_getN (q := 27) C (T := TX0) iw_X4_fired_X0 rfl _ 4 (bl_at (hlt z (findL_mem hf))) (by decide) rfl (by decide +kernel : Cond.fieldLinkNest RX4 147 RX0 "firedSteps" "I" RX4 ∈ xNest) (v := .int (frd z)) rfl dX4_fired_24 rfl ?_
    exact x_iretTX C .int rfl rfl (⟨by simp [cdFired, hf], ⟨z, rfl, rfl⟩, rfl⟩) dX4_fired_27 (Nat.le_of_ble_eq_true rfl) (Nat.le_of_ble_eq_true rfl)

theorem at_X4_addBoiler_46 : ∀ w ∈ (vx_atS RX4 46 "java/lang/IllegalArgumentException" ["java/lang/RuntimeException", "java/lang/Exception"]).filter goodWord, w ∈ wsX4_addBoiler := by decide +kernel
theorem iw_X4_addBoiler_X4 : ∀ w ∈ wsX40, w ∈ wsX4_addBoiler := by decide +kernel
theorem iw_X4_addBoiler_X3 : ∀ w ∈ wsX30, w ∈ wsX4_addBoiler := by decide +kernel
theorem at_X4_addBoiler_57 : ∀ w ∈ (vx_atS RX4 57 "java/lang/IllegalStateException" ["java/lang/RuntimeException", "java/lang/Exception"]).filter goodWord, w ∈ wsX4_addBoiler := by decide +kernel
set_option maxHeartbeats 4000000 in
set_option maxRecDepth 100000 in
/-- X4_addBoiler -/
theorem c_X4_addBoiler {l : Launch} {D : va_G} {cy : ClassId × ClassId × ClassId} (go no po mo gB : Nat) (n : Nat) (ad : Nat → Nat) (stp pow cst frd : Nat → Int32) (nx : Nat → Option Nat) (ord : List Nat) (ph lt ll ap sp S9 P9 C9 : Int32) (hch : chn nx ord) (hlt : ∀ k ∈ ord, k < n) (hnx : ∀ k, k < n → ∀ j, nx k = some j → j < n) (hhd : ∀ j, ord.head? = some j → j < n) (hfl : l.stackTraces = false) : xX true l yX4_addBoiler wsX4_addBoiler ({ frames := 6, cells := 1, slots := 6, locals := 82 }) D cy [.ref go, .int S9, .int P9, .int C9] ([(go, .inr (4, [.ref no, .ref po, .ref mo, .ref gB, .int ph, .int lt, .int ll])), (po, .inr (3, [va_rf (Option.map ad ord.head?), .int (nI n), .int ap, .int sp]))] ++ bl ad stp pow cst frd nx n) (xQi2 D (fun r w => cdBoiler S9 P9 C9 (nI n) = 0 ∧ r = nI n ∧ ∃ o_9 : Nat, w = ([(go, .inr (4, [.ref no, .ref po, .ref mo, .ref gB, .int ph, .int lt, .int ll])), (po, .inr (3, [va_rf (Option.map (va_up ad n o_9) (addFst n ord.head? (lfb cst C9 none ord))), .int (nI (n + 1)), .int (ap + S9 * P9), .int sp]))], bl (va_up ad n o_9) (va_up stp n S9) (va_up pow n P9) (va_up cst n C9) (va_up frd n 0) (addNx nx n ord.head? (lfb cst C9 none ord)) (n + 1)))) (fun E => (cdBoiler S9 P9 C9 (nI n) = 1 ∧ E = "java/lang/IllegalArgumentException") ∨ (cdBoiler S9 P9 C9 (nI n) = 2 ∧ E = "java/lang/IllegalStateException")) 1 6 := by
  refine xX_of (X := [(go, .inr (4, [.ref no, .ref po, .ref mo, .ref gB, .int ph, .int lt, .int ll])), (po, .inr (3, [va_rf (Option.map ad ord.head?), .int (nI n), .int ap, .int sp]))]) (pl := bl ad stp pow cst frd nx n) (nL := 4) (ret := (some .int)) RX4 [(0, .ref go), (1, .int S9), (2, .int P9), (3, .int C9)] (by decide +kernel) rfl rfl rfl (Nat.le_of_ble_eq_true rfl) rfl (fun p e s m args below meth c A C hname hT hZ => ?_)
  refine x_iload_n (q := 1) C 1 rfl dX4_addBoiler_0 rfl ?_
  refine x_iconst (q := 2) C 1 rfl dX4_addBoiler_1 rfl ?_
  refine x_iconst (q := 3) C 5 rfl dX4_addBoiler_2 rfl ?_
  refine x_CiP (q := 6) C [] [0, 1] (cx := []) (wr := [(go, .inr (4, [.ref no, .ref po, .ref mo, .ref gB, .int ph, .int lt, .int ll])), (po, .inr (3, [va_rf (Option.map ad ord.head?), .int (nI n), .int ap, .int sp]))]) (st := []) rfl rfl rfl rfl (by decide) (fun H locs ls hP hPc hDc hS hFc hl => x_runS C (As := [.int S9, .int 1, .int 5]) (c_X4_isWithin S9 1 5) (va_cwS 3 C.2.2.2.2.2.1 gX4_addBoiler_X4_isWithin rfl rfl rfl (by decide +kernel) ⟨Nat.le_of_ble_eq_true rfl, Nat.le_of_ble_eq_true rfl⟩) rfl rfl (Nat.le_of_ble_eq_true rfl) dX4_addBoiler_3 ⟨Nat.le_of_ble_eq_true rfl, Nat.le_of_ble_eq_true rfl⟩ (fun h => absurd h (by decide)) hP hPc hDc hS hFc hl) (k := 0) (n := 0) rfl rfl rfl (fun r_3 w1 hw => ?_)
  obtain ⟨rfl, rfl⟩ := hw
  refine x_ord [0, 1] [(go, .inr (4, [.ref no, .ref po, .ref mo, .ref gB, .int ph, .int lt, .int ll])), (po, .inr (3, [va_rf (Option.map ad ord.head?), .int (nI n), .int ap, .int sp]))] rfl rfl ?_
  refine x_if_eq (q := 9) C 29 dX4_addBoiler_6 (by decide) rfl (fun c_6 => ?_) (fun c_6 => ?_)
  · exact x_throw C hfl hT (hZ rfl) "steps, power or cost is out of range" rfl (by decide +kernel) (by decide +kernel : Cond.classLink RX4 42 "java/lang/IllegalArgumentException" ∈ wsX4_addBoiler) (by decide +kernel) (by decide +kernel) at_X4_addBoiler_46 atN_46 atG_46 dX4_addBoiler_29 dX4_addBoiler_32 dX4_addBoiler_33 dX4_addBoiler_35 dX4_addBoiler_38 (Nat.le_of_ble_eq_true rfl) (Nat.le_of_ble_eq_true rfl) (Nat.le_of_ble_eq_true rfl) (Nat.le_of_ble_eq_true rfl) (Nat.le_of_ble_eq_true rfl) (Nat.le_of_ble_eq_true rfl) (Or.inl ⟨by simp [cdBoiler, c_6], rfl⟩) rfl
  · refine x_iload_n (q := 10) C 2 rfl dX4_addBoiler_9 rfl ?_
    refine x_iconst (q := 11) C 1 rfl dX4_addBoiler_10 rfl ?_
    refine x_bipush (q := 13) C 100 rfl dX4_addBoiler_11 rfl ?_
    refine x_CiP (q := 16) C [] [0, 1] (cx := []) (wr := [(go, .inr (4, [.ref no, .ref po, .ref mo, .ref gB, .int ph, .int lt, .int ll])), (po, .inr (3, [va_rf (Option.map ad ord.head?), .int (nI n), .int ap, .int sp]))]) (st := []) rfl rfl rfl rfl (by decide) (fun H locs ls hP hPc hDc hS hFc hl => x_runS C (As := [.int P9, .int 1, .int 100]) (c_X4_isWithin P9 1 100) (va_cwS 3 C.2.2.2.2.2.1 gX4_addBoiler_X4_isWithin rfl rfl rfl (by decide +kernel) ⟨Nat.le_of_ble_eq_true rfl, Nat.le_of_ble_eq_true rfl⟩) rfl rfl (Nat.le_of_ble_eq_true rfl) dX4_addBoiler_13 ⟨Nat.le_of_ble_eq_true rfl, Nat.le_of_ble_eq_true rfl⟩ (fun h => absurd h (by decide)) hP hPc hDc hS hFc hl) (k := 0) (n := 0) rfl rfl rfl (fun r_13 w1 hw => ?_)
    obtain ⟨rfl, rfl⟩ := hw
    refine x_ord [0, 1] [(go, .inr (4, [.ref no, .ref po, .ref mo, .ref gB, .int ph, .int lt, .int ll])), (po, .inr (3, [va_rf (Option.map ad ord.head?), .int (nI n), .int ap, .int sp]))] rfl rfl ?_
    refine x_if_eq (q := 19) C 29 dX4_addBoiler_16 (by decide) rfl (fun c_16 => ?_) (fun c_16 => ?_)
    · exact x_throw C hfl hT (hZ rfl) "steps, power or cost is out of range" rfl (by decide +kernel) (by decide +kernel : Cond.classLink RX4 42 "java/lang/IllegalArgumentException" ∈ wsX4_addBoiler) (by decide +kernel) (by decide +kernel) at_X4_addBoiler_46 atN_46 atG_46 dX4_addBoiler_29 dX4_addBoiler_32 dX4_addBoiler_33 dX4_addBoiler_35 dX4_addBoiler_38 (Nat.le_of_ble_eq_true rfl) (Nat.le_of_ble_eq_true rfl) (Nat.le_of_ble_eq_true rfl) (Nat.le_of_ble_eq_true rfl) (Nat.le_of_ble_eq_true rfl) (Nat.le_of_ble_eq_true rfl) (Or.inl ⟨by simp [cdBoiler, c_6, c_16], rfl⟩) rfl
    · refine x_iload_n (q := 20) C 3 rfl dX4_addBoiler_19 rfl ?_
      refine x_iconst (q := 21) C 1 rfl dX4_addBoiler_20 rfl ?_
      refine x_bipush (q := 23) C 100 rfl dX4_addBoiler_21 rfl ?_
      refine x_CiP (q := 26) C [] [0, 1] (cx := []) (wr := [(go, .inr (4, [.ref no, .ref po, .ref mo, .ref gB, .int ph, .int lt, .int ll])), (po, .inr (3, [va_rf (Option.map ad ord.head?), .int (nI n), .int ap, .int sp]))]) (st := []) rfl rfl rfl rfl (by decide) (fun H locs ls hP hPc hDc hS hFc hl => x_runS C (As := [.int C9, .int 1, .int 100]) (c_X4_isWithin C9 1 100) (va_cwS 3 C.2.2.2.2.2.1 gX4_addBoiler_X4_isWithin rfl rfl rfl (by decide +kernel) ⟨Nat.le_of_ble_eq_true rfl, Nat.le_of_ble_eq_true rfl⟩) rfl rfl (Nat.le_of_ble_eq_true rfl) dX4_addBoiler_23 ⟨Nat.le_of_ble_eq_true rfl, Nat.le_of_ble_eq_true rfl⟩ (fun h => absurd h (by decide)) hP hPc hDc hS hFc hl) (k := 0) (n := 0) rfl rfl rfl (fun r_23 w1 hw => ?_)
      obtain ⟨rfl, rfl⟩ := hw
      refine x_ord [0, 1] [(go, .inr (4, [.ref no, .ref po, .ref mo, .ref gB, .int ph, .int lt, .int ll])), (po, .inr (3, [va_rf (Option.map ad ord.head?), .int (nI n), .int ap, .int sp]))] rfl rfl ?_
      refine x_if_ne (q := 29) C 39 dX4_addBoiler_26 (by decide) rfl (fun c_26 => ?_) (fun c_26 => ?_)
      · refine x_aload_n (q := 40) C 0 rfl dX4_addBoiler_39 rfl ?_
        refine x_get (q := 43) C (T := TX4) iw_X4_addBoiler_X4 rfl 0 1 rfl (by decide) rfl (by decide +kernel : Cond.fieldLink RX4 19 RX4 "plant" "LHeatGuild$Plant;" ∈ wsX4_addBoiler) rfl dX4_addBoiler_40 rfl ?_
        refine x_getN (q := 46) C (T := TX3) iw_X4_addBoiler_X3 rfl 1 1 rfl (by decide) rfl (by decide +kernel : Cond.fieldLinkNest RX4 71 RX3 "count" "I" RX4 ∈ xNest) rfl dX4_addBoiler_43 rfl ?_
        refine x_iconst (q := 47) C 4 rfl dX4_addBoiler_46 rfl ?_
        refine x_icmp_lt (q := 50) C 60 dX4_addBoiler_47 (by decide) rfl (fun c_47 => ?_) (fun c_47 => ?_)
        · refine x_aload_n (q := 61) C 0 rfl dX4_addBoiler_60 rfl ?_
          refine x_get (q := 64) C (T := TX4) iw_X4_addBoiler_X4 rfl 0 1 rfl (by decide) rfl (by decide +kernel : Cond.fieldLink RX4 19 RX4 "plant" "LHeatGuild$Plant;" ∈ wsX4_addBoiler) rfl dX4_addBoiler_61 rfl ?_
          refine x_iload_n (q := 65) C 1 rfl dX4_addBoiler_64 rfl ?_
          refine x_iload_n (q := 66) C 2 rfl dX4_addBoiler_65 rfl ?_
          refine x_iload_n (q := 67) C 3 rfl dX4_addBoiler_66 rfl ?_
          refine x_CiT (q := 70) C [1] [0] (cx := [(po, .inr (3, [va_rf (Option.map ad ord.head?), .int (nI n), .int ap, .int sp]))]) (wr := [(go, .inr (4, [.ref no, .ref po, .ref mo, .ref gB, .int ph, .int lt, .int ll]))]) (st := []) rfl rfl rfl rfl (by decide) (fun H locs ls hP hPc hDc hS hFc hl => x_runVN C (As := [.int S9, .int P9, .int C9]) (c_X3_add po n ad stp pow cst frd nx ord ap sp S9 P9 C9 hch hlt hnx hhd) (⟨va_cnB 3 C.2.2.2.2.2.1 gX4_addBoiler_X3_add_n76 rfl rfl rfl (va_Nw.of rfl (C.2.2.2.2.2.2.1.2.1.use (B := #[]) (by decide +kernel : Cond.methodLinkNest RX4 76 yX3_add RX4 ∈ xNest))) (C.2.2.2.2.2.1 _ (by decide +kernel)) (by decide +kernel) ⟨Nat.le_of_ble_eq_true rfl, Nat.le_of_ble_eq_true rfl⟩, C.2.2.2.2.2.1 (Cond.instanceMethod yX3_add) (by decide +kernel), C.2.2.2.2.2.1 (Cond.selects RX3 yX3_add yX3_add) (by decide +kernel)⟩) rfl 1 rfl rfl rfl (Nat.le_of_ble_eq_true rfl) dX4_addBoiler_67 ⟨Nat.le_of_ble_eq_true rfl, Nat.le_of_ble_eq_true rfl⟩ (fun h => absurd h (by decide)) hP hPc hDc hS hFc hl) (k := 1) (n := 6) rfl rfl rfl (fun r_67 x1 pl1 hw => ?_)
          obtain ⟨rfl, o_9, hw⟩ := hw
          obtain ⟨rfl, rfl⟩ := Prod.mk.inj hw
          refine x_ord [0, 1] [(go, .inr (4, [.ref no, .ref po, .ref mo, .ref gB, .int ph, .int lt, .int ll])), (po, .inr (3, [va_rf (Option.map (va_up ad n o_9) (addFst n ord.head? (lfb cst C9 none ord))), .int (nI (n + 1)), .int (ap + S9 * P9), .int sp]))] rfl rfl ?_
          exact x_iretTX C .int rfl rfl (⟨by simp [cdBoiler, c_6, c_16, c_26, c_47], rfl, o_9, rfl⟩) dX4_addBoiler_70 (Nat.le_of_ble_eq_true rfl) (Nat.le_of_ble_eq_true rfl)
        · exact x_throw C hfl hT (hZ rfl) "there are 4 boilers" rfl (by decide +kernel) (by decide +kernel : Cond.classLink RX4 53 "java/lang/IllegalStateException" ∈ wsX4_addBoiler) (by decide +kernel) (by decide +kernel) at_X4_addBoiler_57 atN_57 atG_57 dX4_addBoiler_50 dX4_addBoiler_53 dX4_addBoiler_54 dX4_addBoiler_56 dX4_addBoiler_59 (Nat.le_of_ble_eq_true rfl) (Nat.le_of_ble_eq_true rfl) (Nat.le_of_ble_eq_true rfl) (Nat.le_of_ble_eq_true rfl) (Nat.le_of_ble_eq_true rfl) (Nat.le_of_ble_eq_true rfl) (Or.inr ⟨by simp [cdBoiler, c_6, c_16, c_26, c_47], rfl⟩) rfl
      · exact x_throw C hfl hT (hZ rfl) "steps, power or cost is out of range" rfl (by decide +kernel) (by decide +kernel : Cond.classLink RX4 42 "java/lang/IllegalArgumentException" ∈ wsX4_addBoiler) (by decide +kernel) (by decide +kernel) at_X4_addBoiler_46 atN_46 atG_46 dX4_addBoiler_29 dX4_addBoiler_32 dX4_addBoiler_33 dX4_addBoiler_35 dX4_addBoiler_38 (Nat.le_of_ble_eq_true rfl) (Nat.le_of_ble_eq_true rfl) (Nat.le_of_ble_eq_true rfl) (Nat.le_of_ble_eq_true rfl) (Nat.le_of_ble_eq_true rfl) (Nat.le_of_ble_eq_true rfl) (Or.inl ⟨by simp [cdBoiler, c_6, c_16, c_26], rfl⟩) rfl

theorem iw_X4_hour_X4 : ∀ w ∈ wsX40, w ∈ wsX4_hour := by decide +kernel
theorem iw_X4_hour_X3 : ∀ w ∈ wsX30, w ∈ wsX4_hour := by decide +kernel
theorem iw_X4_hour_X2 : ∀ w ∈ wsX20, w ∈ wsX4_hour := by decide +kernel
set_option maxHeartbeats 4000000 in
set_option maxRecDepth 100000 in
/-- hour -/
theorem c_X4_hour {l : Launch} {D : va_G} {cy : ClassId × ClassId × ClassId} (go no po mo gB : Nat) (nS nL nA nH nV nT nC nD : Nat) (mE mT mS mF mA : Nat) (sr : Nat → Nat) (lo ar sh sv ht ca dm er to su fl ac b : Nat → Int32) (n : Nat) (ad : Nat → Nat) (stp pow cst frd : Nat → Int32) (nx : Nat → Option Nat) (ord : List Nat) (cn ap sp : Int32) (ph lt ll sl t : Int32) (hsr : ∀ j, 1 ≤ j → j < 12 → sr j < j) (hch : chn nx ord) (hlt : ∀ k ∈ ord, k < n) (hst : ∀ k, k < n → stp k ≤ 5) (hfl : l.stackTraces = false) : xX true l yX4_hour wsX4_hour ({ frames := 7, cells := 1, slots := 6, locals := 102 }) D cy [.ref go, .int t] ([(go, .inr (4, [.ref no, .ref po, .ref mo, .ref gB, .int ph, .int lt, .int ll])), (no, .inr (2, [.ref nS, .ref nL, .ref nA, .ref nH, .ref nV, .ref nT, .ref nC, .ref nD, .int sl])), (nS, .inl (cy.1, 12, .inl (fun i => nI (sr i)))), (nL, .inl (cy.1, 12, .inl lo)), (nA, .inl (cy.1, 12, .inl ar)), (nH, .inl (cy.1, 12, .inl sh)), (nV, .inl (cy.1, 12, .inl sv)), (nT, .inl (cy.2.1, 12, .inl ht)), (nC, .inl (cy.2.1, 12, .inl ca)), (nD, .inl (cy.1, 12, .inl dm)), (mo, .inr (1, [.ref mE, .ref mT, .ref mS, .ref mF, .ref mA])), (mE, .inl (cy.1, 12, .inl er)), (mT, .inl (cy.1, 12, .inl to)), (mS, .inl (cy.2.1, 12, .inl su)), (mF, .inl (cy.1, 12, .inl fl)), (mA, .inl (cy.1, 12, .inl ac)), (gB, .inl (cy.1, 12, .inl b)), (po, .inr (3, [va_rf (Option.map ad ord.head?), .int cn, .int ap, .int sp]))] ++ bl ad stp pow cst frd nx n) (xQi2 D (fun r w => cdTemp t = 0 ∧ r = oW sr lo ar sh ht dm ca t ∧ w = ([(go, .inr (4, [.ref no, .ref po, .ref mo, .ref gB, .int (ph + 1), .int t, .int (oL sr lo ar sh ht dm ca t)])), (no, .inr (2, [.ref nS, .ref nL, .ref nA, .ref nH, .ref nV, .ref nT, .ref nC, .ref nD, .int (oL sr lo ar sh ht dm ca t)])), (nS, .inl (cy.1, 12, .inl (fun i => nI (sr i)))), (nL, .inl (cy.1, 12, .inl lo)), (nA, .inl (cy.1, 12, .inl ar)), (nH, .inl (cy.1, 12, .inl (eFun sh))), (nV, .inl (cy.1, 12, .inl (sFun ((oD sr ar sh ht dm t).1) sv (imax 0 (ap - (oL sr lo ar sh ht dm ca t)))))), (nT, .inl (cy.2.1, 12, .inl (hFun sr sh ht))), (nC, .inl (cy.2.1, 12, .inl (oC sr ar sh ht dm ca t))), (nD, .inl (cy.1, 12, .inl ((oD sr ar sh ht dm t).1))), (mo, .inr (1, [.ref mE, .ref mT, .ref mS, .ref mF, .ref mA])), (mE, .inl (cy.1, 12, .inl er)), (mT, .inl (cy.1, 12, .inl ((rFun sr lo (oC sr ar sh ht dm ca t) er (sFun ((oD sr ar sh ht dm t).1) sv (imax 0 (ap - (oL sr lo ar sh ht dm ca t)))) to su fl ac).1.1))), (mS, .inl (cy.2.1, 12, .inl ((rFun sr lo (oC sr ar sh ht dm ca t) er (sFun ((oD sr ar sh ht dm t).1) sv (imax 0 (ap - (oL sr lo ar sh ht dm ca t)))) to su fl ac).1.2))), (mF, .inl (cy.1, 12, .inl ((rFun sr lo (oC sr ar sh ht dm ca t) er (sFun ((oD sr ar sh ht dm t).1) sv (imax 0 (ap - (oL sr lo ar sh ht dm ca t)))) to su fl ac).2.1))), (mA, .inl (cy.1, 12, .inl ((rFun sr lo (oC sr ar sh ht dm ca t) er (sFun ((oD sr ar sh ht dm t).1) sv (imax 0 (ap - (oL sr lo ar sh ht dm ca t)))) to su fl ac).2.2))), (gB, .inl (cy.1, 12, .inl (gFun (hFun sr sh ht) (sFun ((oD sr ar sh ht dm t).1) sv (imax 0 (ap - (oL sr lo ar sh ht dm ca t)))) ar t (pPeak (oW sr lo ar sh ht dm ca t) ap) b))), (po, .inr (3, [va_rf (Option.map ad ord.head?), .int cn, .int ap, .int ((fireL stp pow cst ord (oW sr lo ar sh ht dm ca t) sp frd).1)]))], bl ad stp pow cst (fireL stp pow cst ord (oW sr lo ar sh ht dm ca t) sp frd).2 nx n))) (fun E => cdTemp t = 1 ∧ E = "java/lang/IllegalArgumentException") 1 6 := by
  refine xX_of (X := [(go, .inr (4, [.ref no, .ref po, .ref mo, .ref gB, .int ph, .int lt, .int ll])), (no, .inr (2, [.ref nS, .ref nL, .ref nA, .ref nH, .ref nV, .ref nT, .ref nC, .ref nD, .int sl])), (nS, .inl (cy.1, 12, .inl (fun i => nI (sr i)))), (nL, .inl (cy.1, 12, .inl lo)), (nA, .inl (cy.1, 12, .inl ar)), (nH, .inl (cy.1, 12, .inl sh)), (nV, .inl (cy.1, 12, .inl sv)), (nT, .inl (cy.2.1, 12, .inl ht)), (nC, .inl (cy.2.1, 12, .inl ca)), (nD, .inl (cy.1, 12, .inl dm)), (mo, .inr (1, [.ref mE, .ref mT, .ref mS, .ref mF, .ref mA])), (mE, .inl (cy.1, 12, .inl er)), (mT, .inl (cy.1, 12, .inl to)), (mS, .inl (cy.2.1, 12, .inl su)), (mF, .inl (cy.1, 12, .inl fl)), (mA, .inl (cy.1, 12, .inl ac)), (gB, .inl (cy.1, 12, .inl b)), (po, .inr (3, [va_rf (Option.map ad ord.head?), .int cn, .int ap, .int sp]))]) (pl := bl ad stp pow cst frd nx n) (nL := 3) (ret := (some .int)) RX4 [(0, .ref go), (1, .int t)] (by decide +kernel) rfl rfl rfl (Nat.le_of_ble_eq_true rfl) rfl (fun p e s m args below meth c A C hname hT hZ => ?_)
  refine x_iload_n (q := 1) C 1 rfl dX4_hour_0 rfl ?_
  refine x_XvP (q := 4) C [] [0, 1, 2, 3, 4, 5, 6, 7, 8, 9, 10, 11, 12, 13, 14, 15, 16, 17] (cx := []) (wr := [(go, .inr (4, [.ref no, .ref po, .ref mo, .ref gB, .int ph, .int lt, .int ll])), (no, .inr (2, [.ref nS, .ref nL, .ref nA, .ref nH, .ref nV, .ref nT, .ref nC, .ref nD, .int sl])), (nS, .inl (cy.1, 12, .inl (fun i => nI (sr i)))), (nL, .inl (cy.1, 12, .inl lo)), (nA, .inl (cy.1, 12, .inl ar)), (nH, .inl (cy.1, 12, .inl sh)), (nV, .inl (cy.1, 12, .inl sv)), (nT, .inl (cy.2.1, 12, .inl ht)), (nC, .inl (cy.2.1, 12, .inl ca)), (nD, .inl (cy.1, 12, .inl dm)), (mo, .inr (1, [.ref mE, .ref mT, .ref mS, .ref mF, .ref mA])), (mE, .inl (cy.1, 12, .inl er)), (mT, .inl (cy.1, 12, .inl to)), (mS, .inl (cy.2.1, 12, .inl su)), (mF, .inl (cy.1, 12, .inl fl)), (mA, .inl (cy.1, 12, .inl ac)), (gB, .inl (cy.1, 12, .inl b)), (po, .inr (3, [va_rf (Option.map ad ord.head?), .int cn, .int ap, .int sp]))]) (st := []) rfl rfl rfl rfl (by decide) (fun H locs ls hP hPc hDc hS hFc hl => x_runSX C (As := [.int t]) (c_X4_requireTemperature t hfl) (va_cwS 1 C.2.2.2.2.2.1 gX4_hour_X4_requireTemperature rfl rfl rfl (by decide +kernel) ⟨Nat.le_of_ble_eq_true rfl, Nat.le_of_ble_eq_true rfl⟩) rfl rfl (Nat.le_of_ble_eq_true rfl) dX4_hour_1 ⟨Nat.le_of_ble_eq_true rfl, Nat.le_of_ble_eq_true rfl⟩ hZ hP hPc hDc hS hFc hl) (k := 1) (n := 6) rfl rfl rfl (fun E hE => ?_) (fun w1 hw => ?_)
  · exact x_out C hT hE rfl (Nat.le_of_ble_eq_true rfl) (Nat.le_of_ble_eq_true rfl)
  · obtain ⟨hcd, rfl⟩ := hw
    refine x_ord [0, 1, 2, 3, 4, 5, 6, 7, 8, 9, 10, 11, 12, 13, 14, 15, 16, 17] [(go, .inr (4, [.ref no, .ref po, .ref mo, .ref gB, .int ph, .int lt, .int ll])), (no, .inr (2, [.ref nS, .ref nL, .ref nA, .ref nH, .ref nV, .ref nT, .ref nC, .ref nD, .int sl])), (nS, .inl (cy.1, 12, .inl (fun i => nI (sr i)))), (nL, .inl (cy.1, 12, .inl lo)), (nA, .inl (cy.1, 12, .inl ar)), (nH, .inl (cy.1, 12, .inl sh)), (nV, .inl (cy.1, 12, .inl sv)), (nT, .inl (cy.2.1, 12, .inl ht)), (nC, .inl (cy.2.1, 12, .inl ca)), (nD, .inl (cy.1, 12, .inl dm)), (mo, .inr (1, [.ref mE, .ref mT, .ref mS, .ref mF, .ref mA])), (mE, .inl (cy.1, 12, .inl er)), (mT, .inl (cy.1, 12, .inl to)), (mS, .inl (cy.2.1, 12, .inl su)), (mF, .inl (cy.1, 12, .inl fl)), (mA, .inl (cy.1, 12, .inl ac)), (gB, .inl (cy.1, 12, .inl b)), (po, .inr (3, [va_rf (Option.map ad ord.head?), .int cn, .int ap, .int sp]))] rfl rfl ?_
    refine x_aload_n (q := 5) C 0 rfl dX4_hour_4 rfl ?_
    refine x_get (q := 8) C (T := TX4) iw_X4_hour_X4 rfl 0 0 rfl (by decide) rfl (by decide +kernel : Cond.fieldLink RX4 10 RX4 "net" "LHeatGuild$Net;" ∈ wsX4_hour) rfl dX4_hour_5 rfl ?_
    refine x_iload_n (q := 9) C 1 rfl dX4_hour_8 rfl ?_
    refine x_CiP (q := 12) C [1, 2, 3, 4, 5, 7, 8, 9] [0, 6, 10, 11, 12, 13, 14, 15, 16, 17] (cx := [(no, .inr (2, [.ref nS, .ref nL, .ref nA, .ref nH, .ref nV, .ref nT, .ref nC, .ref nD, .int sl])), (nS, .inl (cy.1, 12, .inl (fun i => nI (sr i)))), (nL, .inl (cy.1, 12, .inl lo)), (nA, .inl (cy.1, 12, .inl ar)), (nH, .inl (cy.1, 12, .inl sh)), (nT, .inl (cy.2.1, 12, .inl ht)), (nC, .inl (cy.2.1, 12, .inl ca)), (nD, .inl (cy.1, 12, .inl dm))]) (wr := [(go, .inr (4, [.ref no, .ref po, .ref mo, .ref gB, .int ph, .int lt, .int ll])), (nV, .inl (cy.1, 12, .inl sv)), (mo, .inr (1, [.ref mE, .ref mT, .ref mS, .ref mF, .ref mA])), (mE, .inl (cy.1, 12, .inl er)), (mT, .inl (cy.1, 12, .inl to)), (mS, .inl (cy.2.1, 12, .inl su)), (mF, .inl (cy.1, 12, .inl fl)), (mA, .inl (cy.1, 12, .inl ac)), (gB, .inl (cy.1, 12, .inl b)), (po, .inr (3, [va_rf (Option.map ad ord.head?), .int cn, .int ap, .int sp]))]) (st := []) rfl rfl rfl rfl (by decide) (fun H locs ls hP hPc hDc hS hFc hl => x_runVN C (As := [.int t]) (c_X2_survey no nS nL nA nH nV nT nC nD sr lo ar sh ht ca dm sl t hsr) (⟨va_cnB 1 C.2.2.2.2.2.1 gX4_hour_X2_survey_n105 rfl rfl rfl (va_Nw.of rfl (C.2.2.2.2.2.2.1.2.1.use (B := #[]) (by decide +kernel : Cond.methodLinkNest RX4 105 yX2_survey RX4 ∈ xNest))) (C.2.2.2.2.2.1 _ (by decide +kernel)) (by decide +kernel) ⟨Nat.le_of_ble_eq_true rfl, Nat.le_of_ble_eq_true rfl⟩, C.2.2.2.2.2.1 (Cond.instanceMethod yX2_survey) (by decide +kernel), C.2.2.2.2.2.1 (Cond.selects RX2 yX2_survey yX2_survey) (by decide +kernel)⟩) rfl 1 rfl rfl rfl (Nat.le_of_ble_eq_true rfl) dX4_hour_9 ⟨Nat.le_of_ble_eq_true rfl, Nat.le_of_ble_eq_true rfl⟩ (fun h => absurd h (by decide)) hP hPc hDc hS hFc hl) (k := 1) (n := 6) rfl rfl rfl (fun r_9 w1 hw => ?_)
    obtain ⟨rfl, rfl⟩ := hw
    refine x_ord [0, 10, 11, 12, 13, 14, 1, 15, 16, 17, 2, 3, 4, 5, 6, 7, 8, 9] [(go, .inr (4, [.ref no, .ref po, .ref mo, .ref gB, .int ph, .int lt, .int ll])), (no, .inr (2, [.ref nS, .ref nL, .ref nA, .ref nH, .ref nV, .ref nT, .ref nC, .ref nD, .int (oL sr lo ar sh ht dm ca t)])), (nS, .inl (cy.1, 12, .inl (fun i => nI (sr i)))), (nL, .inl (cy.1, 12, .inl lo)), (nA, .inl (cy.1, 12, .inl ar)), (nH, .inl (cy.1, 12, .inl sh)), (nV, .inl (cy.1, 12, .inl sv)), (nT, .inl (cy.2.1, 12, .inl (hFun sr sh ht))), (nC, .inl (cy.2.1, 12, .inl (oC sr ar sh ht dm ca t))), (nD, .inl (cy.1, 12, .inl ((oD sr ar sh ht dm t).1))), (mo, .inr (1, [.ref mE, .ref mT, .ref mS, .ref mF, .ref mA])), (mE, .inl (cy.1, 12, .inl er)), (mT, .inl (cy.1, 12, .inl to)), (mS, .inl (cy.2.1, 12, .inl su)), (mF, .inl (cy.1, 12, .inl fl)), (mA, .inl (cy.1, 12, .inl ac)), (gB, .inl (cy.1, 12, .inl b)), (po, .inr (3, [va_rf (Option.map ad ord.head?), .int cn, .int ap, .int sp]))] rfl rfl ?_
    refine x_istore_n (q := 13) C [(2, .int (oW sr lo ar sh ht dm ca t)), (0, .ref go), (1, .int t)] dX4_hour_12 (by decide) rfl rfl ?_
    refine x_aload_n (q := 14) C 1 rfl dX4_hour_13 rfl ?_
    refine x_get (q := 17) C (T := TX4) iw_X4_hour_X4 rfl 0 0 rfl (by decide) rfl (by decide +kernel : Cond.fieldLink RX4 10 RX4 "net" "LHeatGuild$Net;" ∈ wsX4_hour) rfl dX4_hour_14 rfl ?_
    refine x_aload_n (q := 18) C 1 rfl dX4_hour_17 rfl ?_
    refine x_get (q := 21) C (T := TX4) iw_X4_hour_X4 rfl 0 1 rfl (by decide) rfl (by decide +kernel : Cond.fieldLink RX4 19 RX4 "plant" "LHeatGuild$Plant;" ∈ wsX4_hour) rfl dX4_hour_18 rfl ?_
    refine x_getN (q := 24) C (T := TX3) iw_X4_hour_X3 rfl 17 2 rfl (by decide) rfl (by decide +kernel : Cond.fieldLinkNest RX4 109 RX3 "allPower" "I" RX4 ∈ xNest) rfl dX4_hour_21 rfl ?_
    refine x_CvP (q := 27) C [1, 6, 9] [0, 2, 3, 4, 5, 7, 8, 10, 11, 12, 13, 14, 15, 16, 17] (cx := [(no, .inr (2, [.ref nS, .ref nL, .ref nA, .ref nH, .ref nV, .ref nT, .ref nC, .ref nD, .int (oL sr lo ar sh ht dm ca t)])), (nV, .inl (cy.1, 12, .inl sv)), (nD, .inl (cy.1, 12, .inl ((oD sr ar sh ht dm t).1)))]) (wr := [(go, .inr (4, [.ref no, .ref po, .ref mo, .ref gB, .int ph, .int lt, .int ll])), (nS, .inl (cy.1, 12, .inl (fun i => nI (sr i)))), (nL, .inl (cy.1, 12, .inl lo)), (nA, .inl (cy.1, 12, .inl ar)), (nH, .inl (cy.1, 12, .inl sh)), (nT, .inl (cy.2.1, 12, .inl (hFun sr sh ht))), (nC, .inl (cy.2.1, 12, .inl (oC sr ar sh ht dm ca t))), (mo, .inr (1, [.ref mE, .ref mT, .ref mS, .ref mF, .ref mA])), (mE, .inl (cy.1, 12, .inl er)), (mT, .inl (cy.1, 12, .inl to)), (mS, .inl (cy.2.1, 12, .inl su)), (mF, .inl (cy.1, 12, .inl fl)), (mA, .inl (cy.1, 12, .inl ac)), (gB, .inl (cy.1, 12, .inl b)), (po, .inr (3, [va_rf (Option.map ad ord.head?), .int cn, .int ap, .int sp]))]) (st := []) rfl rfl rfl rfl (by decide) (fun H locs ls hP hPc hDc hS hFc hl => x_runVN C (As := [.int ap]) (c_X2_serve no nS nL nA nH nV nT nC nD sv ((oD sr ar sh ht dm t).1) (oL sr lo ar sh ht dm ca t) ap) (⟨va_cnB 1 C.2.2.2.2.2.1 gX4_hour_X2_serve_n112 rfl rfl rfl (va_Nw.of rfl (C.2.2.2.2.2.2.1.2.1.use (B := #[]) (by decide +kernel : Cond.methodLinkNest RX4 112 yX2_serve RX4 ∈ xNest))) (C.2.2.2.2.2.1 _ (by decide +kernel)) (by decide +kernel) ⟨Nat.le_of_ble_eq_true rfl, Nat.le_of_ble_eq_true rfl⟩, C.2.2.2.2.2.1 (Cond.instanceMethod yX2_serve) (by decide +kernel), C.2.2.2.2.2.1 (Cond.selects RX2 yX2_serve yX2_serve) (by decide +kernel)⟩) rfl 1 rfl rfl rfl (Nat.le_of_ble_eq_true rfl) dX4_hour_24 ⟨Nat.le_of_ble_eq_true rfl, Nat.le_of_ble_eq_true rfl⟩ (fun h => absurd h (by decide)) hP hPc hDc hS hFc hl) (k := 1) (n := 6) rfl rfl rfl (fun w1 hw => ?_)
    obtain rfl := hw
    refine x_ord [0, 15, 1, 2, 3, 4, 16, 5, 6, 17, 7, 8, 9, 10, 11, 12, 13, 14] [(go, .inr (4, [.ref no, .ref po, .ref mo, .ref gB, .int ph, .int lt, .int ll])), (no, .inr (2, [.ref nS, .ref nL, .ref nA, .ref nH, .ref nV, .ref nT, .ref nC, .ref nD, .int (oL sr lo ar sh ht dm ca t)])), (nS, .inl (cy.1, 12, .inl (fun i => nI (sr i)))), (nL, .inl (cy.1, 12, .inl lo)), (nA, .inl (cy.1, 12, .inl ar)), (nH, .inl (cy.1, 12, .inl sh)), (nV, .inl (cy.1, 12, .inl (sFun ((oD sr ar sh ht dm t).1) sv (imax 0 (ap - (oL sr lo ar sh ht dm ca t)))))), (nT, .inl (cy.2.1, 12, .inl (hFun sr sh ht))), (nC, .inl (cy.2.1, 12, .inl (oC sr ar sh ht dm ca t))), (nD, .inl (cy.1, 12, .inl ((oD sr ar sh ht dm t).1))), (mo, .inr (1, [.ref mE, .ref mT, .ref mS, .ref mF, .ref mA])), (mE, .inl (cy.1, 12, .inl er)), (mT, .inl (cy.1, 12, .inl to)), (mS, .inl (cy.2.1, 12, .inl su)), (mF, .inl (cy.1, 12, .inl fl)), (mA, .inl (cy.1, 12, .inl ac)), (gB, .inl (cy.1, 12, .inl b)), (po, .inr (3, [va_rf (Option.map ad ord.head?), .int cn, .int ap, .int sp]))] rfl rfl ?_
    refine x_aload_n (q := 28) C 1 rfl dX4_hour_27 rfl ?_
    refine x_get (q := 31) C (T := TX4) iw_X4_hour_X4 rfl 0 1 rfl (by decide) rfl (by decide +kernel : Cond.fieldLink RX4 19 RX4 "plant" "LHeatGuild$Plant;" ∈ wsX4_hour) rfl dX4_hour_28 rfl ?_
    refine x_iload_n (q := 32) C 0 rfl dX4_hour_31 rfl ?_
    refine x_CvT (q := 35) C [17] [0, 1, 2, 3, 4, 5, 6, 7, 8, 9, 10, 11, 12, 13, 14, 15, 16] (cx := [(po, .inr (3, [va_rf (Option.map ad ord.head?), .int cn, .int ap, .int sp]))]) (wr := [(go, .inr (4, [.ref no, .ref po, .ref mo, .ref gB, .int ph, .int lt, .int ll])), (no, .inr (2, [.ref nS, .ref nL, .ref nA, .ref nH, .ref nV, .ref nT, .ref nC, .ref nD, .int (oL sr lo ar sh ht dm ca t)])), (nS, .inl (cy.1, 12, .inl (fun i => nI (sr i)))), (nL, .inl (cy.1, 12, .inl lo)), (nA, .inl (cy.1, 12, .inl ar)), (nH, .inl (cy.1, 12, .inl sh)), (nV, .inl (cy.1, 12, .inl (sFun ((oD sr ar sh ht dm t).1) sv (imax 0 (ap - (oL sr lo ar sh ht dm ca t)))))), (nT, .inl (cy.2.1, 12, .inl (hFun sr sh ht))), (nC, .inl (cy.2.1, 12, .inl (oC sr ar sh ht dm ca t))), (nD, .inl (cy.1, 12, .inl ((oD sr ar sh ht dm t).1))), (mo, .inr (1, [.ref mE, .ref mT, .ref mS, .ref mF, .ref mA])), (mE, .inl (cy.1, 12, .inl er)), (mT, .inl (cy.1, 12, .inl to)), (mS, .inl (cy.2.1, 12, .inl su)), (mF, .inl (cy.1, 12, .inl fl)), (mA, .inl (cy.1, 12, .inl ac)), (gB, .inl (cy.1, 12, .inl b))]) (st := []) rfl rfl rfl rfl (by decide) (fun H locs ls hP hPc hDc hS hFc hl => x_runVN C (As := [.int (oW sr lo ar sh ht dm ca t)]) (c_X3_fire po n ad stp pow cst frd nx ord cn ap sp (oW sr lo ar sh ht dm ca t) hch hlt hst) (⟨va_cnB 1 C.2.2.2.2.2.1 gX4_hour_X3_fire_n115 rfl rfl rfl (va_Nw.of rfl (C.2.2.2.2.2.2.1.2.1.use (B := #[]) (by decide +kernel : Cond.methodLinkNest RX4 115 yX3_fire RX4 ∈ xNest))) (C.2.2.2.2.2.1 _ (by decide +kernel)) (by decide +kernel) ⟨Nat.le_of_ble_eq_true rfl, Nat.le_of_ble_eq_true rfl⟩, C.2.2.2.2.2.1 (Cond.instanceMethod yX3_fire) (by decide +kernel), C.2.2.2.2.2.1 (Cond.selects RX3 yX3_fire yX3_fire) (by decide +kernel)⟩) rfl 17 rfl rfl rfl (Nat.le_of_ble_eq_true rfl) dX4_hour_32 ⟨Nat.le_of_ble_eq_true rfl, Nat.le_of_ble_eq_true rfl⟩ (fun h => absurd h (by decide)) hP hPc hDc hS hFc hl) (k := 1) (n := 6) rfl rfl rfl (fun x1 pl1 hw => ?_)
    obtain ⟨rfl, rfl⟩ := Prod.mk.inj hw
    refine x_ord [0, 1, 2, 3, 4, 5, 6, 7, 8, 9, 10, 11, 12, 13, 14, 15, 16, 17] [(go, .inr (4, [.ref no, .ref po, .ref mo, .ref gB, .int ph, .int lt, .int ll])), (no, .inr (2, [.ref nS, .ref nL, .ref nA, .ref nH, .ref nV, .ref nT, .ref nC, .ref nD, .int (oL sr lo ar sh ht dm ca t)])), (nS, .inl (cy.1, 12, .inl (fun i => nI (sr i)))), (nL, .inl (cy.1, 12, .inl lo)), (nA, .inl (cy.1, 12, .inl ar)), (nH, .inl (cy.1, 12, .inl sh)), (nV, .inl (cy.1, 12, .inl (sFun ((oD sr ar sh ht dm t).1) sv (imax 0 (ap - (oL sr lo ar sh ht dm ca t)))))), (nT, .inl (cy.2.1, 12, .inl (hFun sr sh ht))), (nC, .inl (cy.2.1, 12, .inl (oC sr ar sh ht dm ca t))), (nD, .inl (cy.1, 12, .inl ((oD sr ar sh ht dm t).1))), (mo, .inr (1, [.ref mE, .ref mT, .ref mS, .ref mF, .ref mA])), (mE, .inl (cy.1, 12, .inl er)), (mT, .inl (cy.1, 12, .inl to)), (mS, .inl (cy.2.1, 12, .inl su)), (mF, .inl (cy.1, 12, .inl fl)), (mA, .inl (cy.1, 12, .inl ac)), (gB, .inl (cy.1, 12, .inl b)), (po, .inr (3, [va_rf (Option.map ad ord.head?), .int cn, .int ap, .int ((fireL stp pow cst ord (oW sr lo ar sh ht dm ca t) sp frd).1)]))] rfl rfl ?_
    refine x_aload_n (q := 36) C 1 rfl dX4_hour_35 rfl ?_
    refine x_get (q := 39) C (T := TX4) iw_X4_hour_X4 rfl 0 2 rfl (by decide) rfl (by decide +kernel : Cond.fieldLink RX4 26 RX4 "meters" "LHeatGuild$Meters;" ∈ wsX4_hour) rfl dX4_hour_36 rfl ?_
    refine x_aload_n (q := 40) C 1 rfl dX4_hour_39 rfl ?_
    refine x_get (q := 43) C (T := TX4) iw_X4_hour_X4 rfl 0 0 rfl (by decide) rfl (by decide +kernel : Cond.fieldLink RX4 10 RX4 "net" "LHeatGuild$Net;" ∈ wsX4_hour) rfl dX4_hour_40 rfl ?_
    refine x_CvP (q := 46) C [10, 11, 12, 13, 14, 15, 1, 2, 3, 6, 8] [0, 4, 5, 7, 9, 16, 17] (cx := [(mo, .inr (1, [.ref mE, .ref mT, .ref mS, .ref mF, .ref mA])), (mE, .inl (cy.1, 12, .inl er)), (mT, .inl (cy.1, 12, .inl to)), (mS, .inl (cy.2.1, 12, .inl su)), (mF, .inl (cy.1, 12, .inl fl)), (mA, .inl (cy.1, 12, .inl ac)), (no, .inr (2, [.ref nS, .ref nL, .ref nA, .ref nH, .ref nV, .ref nT, .ref nC, .ref nD, .int (oL sr lo ar sh ht dm ca t)])), (nS, .inl (cy.1, 12, .inl (fun i => nI (sr i)))), (nL, .inl (cy.1, 12, .inl lo)), (nV, .inl (cy.1, 12, .inl (sFun ((oD sr ar sh ht dm t).1) sv (imax 0 (ap - (oL sr lo ar sh ht dm ca t)))))), (nC, .inl (cy.2.1, 12, .inl (oC sr ar sh ht dm ca t)))]) (wr := [(go, .inr (4, [.ref no, .ref po, .ref mo, .ref gB, .int ph, .int lt, .int ll])), (nA, .inl (cy.1, 12, .inl ar)), (nH, .inl (cy.1, 12, .inl sh)), (nT, .inl (cy.2.1, 12, .inl (hFun sr sh ht))), (nD, .inl (cy.1, 12, .inl ((oD sr ar sh ht dm t).1))), (gB, .inl (cy.1, 12, .inl b)), (po, .inr (3, [va_rf (Option.map ad ord.head?), .int cn, .int ap, .int ((fireL stp pow cst ord (oW sr lo ar sh ht dm ca t) sp frd).1)]))]) (st := []) rfl rfl rfl rfl (by decide) (fun H locs ls hP hPc hDc hS hFc hl => x_runVN C (As := [.ref no]) (c_X1_read mo mE mT mS mF mA no nS nL nA nH nV nT nC nD sr er to su fl ac lo (sFun ((oD sr ar sh ht dm t).1) sv (imax 0 (ap - (oL sr lo ar sh ht dm ca t)))) (oC sr ar sh ht dm ca t) (oL sr lo ar sh ht dm ca t) hsr) (⟨va_cnB 1 C.2.2.2.2.2.1 gX4_hour_X1_read_n118 rfl rfl rfl (va_Nw.of rfl (C.2.2.2.2.2.2.1.2.1.use (B := #[]) (by decide +kernel : Cond.methodLinkNest RX4 118 yX1_read RX4 ∈ xNest))) (C.2.2.2.2.2.1 _ (by decide +kernel)) (by decide +kernel) ⟨Nat.le_of_ble_eq_true rfl, Nat.le_of_ble_eq_true rfl⟩, C.2.2.2.2.2.1 (Cond.instanceMethod yX1_read) (by decide +kernel), C.2.2.2.2.2.1 (Cond.selects RX1 yX1_read yX1_read) (by decide +kernel)⟩) rfl 10 rfl rfl rfl (Nat.le_of_ble_eq_true rfl) dX4_hour_43 ⟨Nat.le_of_ble_eq_true rfl, Nat.le_of_ble_eq_true rfl⟩ (fun h => absurd h (by decide)) hP hPc hDc hS hFc hl) (k := 1) (n := 6) rfl rfl rfl (fun w1 hw => ?_)
    obtain rfl := hw
    refine x_ord [0, 13, 14, 15, 1, 2, 16, 3, 17, 4, 7, 8, 9, 10, 11, 12, 5, 6] [(go, .inr (4, [.ref no, .ref po, .ref mo, .ref gB, .int ph, .int lt, .int ll])), (no, .inr (2, [.ref nS, .ref nL, .ref nA, .ref nH, .ref nV, .ref nT, .ref nC, .ref nD, .int (oL sr lo ar sh ht dm ca t)])), (nS, .inl (cy.1, 12, .inl (fun i => nI (sr i)))), (nL, .inl (cy.1, 12, .inl lo)), (nA, .inl (cy.1, 12, .inl ar)), (nH, .inl (cy.1, 12, .inl sh)), (nV, .inl (cy.1, 12, .inl (sFun ((oD sr ar sh ht dm t).1) sv (imax 0 (ap - (oL sr lo ar sh ht dm ca t)))))), (nT, .inl (cy.2.1, 12, .inl (hFun sr sh ht))), (nC, .inl (cy.2.1, 12, .inl (oC sr ar sh ht dm ca t))), (nD, .inl (cy.1, 12, .inl ((oD sr ar sh ht dm t).1))), (mo, .inr (1, [.ref mE, .ref mT, .ref mS, .ref mF, .ref mA])), (mE, .inl (cy.1, 12, .inl er)), (mT, .inl (cy.1, 12, .inl ((rFun sr lo (oC sr ar sh ht dm ca t) er (sFun ((oD sr ar sh ht dm t).1) sv (imax 0 (ap - (oL sr lo ar sh ht dm ca t)))) to su fl ac).1.1))), (mS, .inl (cy.2.1, 12, .inl ((rFun sr lo (oC sr ar sh ht dm ca t) er (sFun ((oD sr ar sh ht dm t).1) sv (imax 0 (ap - (oL sr lo ar sh ht dm ca t)))) to su fl ac).1.2))), (mF, .inl (cy.1, 12, .inl ((rFun sr lo (oC sr ar sh ht dm ca t) er (sFun ((oD sr ar sh ht dm t).1) sv (imax 0 (ap - (oL sr lo ar sh ht dm ca t)))) to su fl ac).2.1))), (mA, .inl (cy.1, 12, .inl ((rFun sr lo (oC sr ar sh ht dm ca t) er (sFun ((oD sr ar sh ht dm t).1) sv (imax 0 (ap - (oL sr lo ar sh ht dm ca t)))) to su fl ac).2.2))), (gB, .inl (cy.1, 12, .inl b)), (po, .inr (3, [va_rf (Option.map ad ord.head?), .int cn, .int ap, .int ((fireL stp pow cst ord (oW sr lo ar sh ht dm ca t) sp frd).1)]))] rfl rfl ?_
    refine x_aload_n (q := 47) C 1 rfl dX4_hour_46 rfl ?_
    refine x_iload_n (q := 48) C 2 rfl dX4_hour_47 rfl ?_
    refine x_aload_n (q := 49) C 1 rfl dX4_hour_48 rfl ?_
    refine x_iload_n (q := 50) C 0 rfl dX4_hour_49 rfl ?_
    refine x_CiP (q := 53) C [0, 17] [1, 2, 3, 4, 5, 6, 7, 8, 9, 10, 11, 12, 13, 14, 15, 16] (cx := [(go, .inr (4, [.ref no, .ref po, .ref mo, .ref gB, .int ph, .int lt, .int ll])), (po, .inr (3, [va_rf (Option.map ad ord.head?), .int cn, .int ap, .int ((fireL stp pow cst ord (oW sr lo ar sh ht dm ca t) sp frd).1)]))]) (wr := [(no, .inr (2, [.ref nS, .ref nL, .ref nA, .ref nH, .ref nV, .ref nT, .ref nC, .ref nD, .int (oL sr lo ar sh ht dm ca t)])), (nS, .inl (cy.1, 12, .inl (fun i => nI (sr i)))), (nL, .inl (cy.1, 12, .inl lo)), (nA, .inl (cy.1, 12, .inl ar)), (nH, .inl (cy.1, 12, .inl sh)), (nV, .inl (cy.1, 12, .inl (sFun ((oD sr ar sh ht dm t).1) sv (imax 0 (ap - (oL sr lo ar sh ht dm ca t)))))), (nT, .inl (cy.2.1, 12, .inl (hFun sr sh ht))), (nC, .inl (cy.2.1, 12, .inl (oC sr ar sh ht dm ca t))), (nD, .inl (cy.1, 12, .inl ((oD sr ar sh ht dm t).1))), (mo, .inr (1, [.ref mE, .ref mT, .ref mS, .ref mF, .ref mA])), (mE, .inl (cy.1, 12, .inl er)), (mT, .inl (cy.1, 12, .inl ((rFun sr lo (oC sr ar sh ht dm ca t) er (sFun ((oD sr ar sh ht dm t).1) sv (imax 0 (ap - (oL sr lo ar sh ht dm ca t)))) to su fl ac).1.1))), (mS, .inl (cy.2.1, 12, .inl ((rFun sr lo (oC sr ar sh ht dm ca t) er (sFun ((oD sr ar sh ht dm t).1) sv (imax 0 (ap - (oL sr lo ar sh ht dm ca t)))) to su fl ac).1.2))), (mF, .inl (cy.1, 12, .inl ((rFun sr lo (oC sr ar sh ht dm ca t) er (sFun ((oD sr ar sh ht dm t).1) sv (imax 0 (ap - (oL sr lo ar sh ht dm ca t)))) to su fl ac).2.1))), (mA, .inl (cy.1, 12, .inl ((rFun sr lo (oC sr ar sh ht dm ca t) er (sFun ((oD sr ar sh ht dm t).1) sv (imax 0 (ap - (oL sr lo ar sh ht dm ca t)))) to su fl ac).2.2))), (gB, .inl (cy.1, 12, .inl b))]) (st := [.int t, .ref go]) rfl rfl rfl rfl (by decide) (fun H locs ls hP hPc hDc hS hFc hl => x_runV C (As := [.int (oW sr lo ar sh ht dm ca t)]) (c_X4_isPeak go no po mo gB (Option.map ad ord.head?) ph lt ll cn ap ((fireL stp pow cst ord (oW sr lo ar sh ht dm ca t) sp frd).1) (oW sr lo ar sh ht dm ca t)) (cwV 1 C.2.2.2.2.2.1 gX4_hour_X4_isPeak rfl rfl rfl (by decide +kernel) ⟨Nat.le_of_ble_eq_true rfl, Nat.le_of_ble_eq_true rfl⟩) rfl 0 rfl rfl rfl (Nat.le_of_ble_eq_true rfl) dX4_hour_50 ⟨Nat.le_of_ble_eq_true rfl, Nat.le_of_ble_eq_true rfl⟩ (fun h => absurd h (by decide)) hP hPc hDc hS hFc hl) (k := 1) (n := 6) rfl rfl rfl (fun r_50 w1 hw => ?_)
    obtain ⟨rfl, rfl⟩ := hw
    refine x_ord [16, 0, 1, 2, 3, 4, 5, 6, 7, 8, 9, 10, 11, 12, 13, 14, 15, 17] [(go, .inr (4, [.ref no, .ref po, .ref mo, .ref gB, .int ph, .int lt, .int ll])), (no, .inr (2, [.ref nS, .ref nL, .ref nA, .ref nH, .ref nV, .ref nT, .ref nC, .ref nD, .int (oL sr lo ar sh ht dm ca t)])), (nS, .inl (cy.1, 12, .inl (fun i => nI (sr i)))), (nL, .inl (cy.1, 12, .inl lo)), (nA, .inl (cy.1, 12, .inl ar)), (nH, .inl (cy.1, 12, .inl sh)), (nV, .inl (cy.1, 12, .inl (sFun ((oD sr ar sh ht dm t).1) sv (imax 0 (ap - (oL sr lo ar sh ht dm ca t)))))), (nT, .inl (cy.2.1, 12, .inl (hFun sr sh ht))), (nC, .inl (cy.2.1, 12, .inl (oC sr ar sh ht dm ca t))), (nD, .inl (cy.1, 12, .inl ((oD sr ar sh ht dm t).1))), (mo, .inr (1, [.ref mE, .ref mT, .ref mS, .ref mF, .ref mA])), (mE, .inl (cy.1, 12, .inl er)), (mT, .inl (cy.1, 12, .inl ((rFun sr lo (oC sr ar sh ht dm ca t) er (sFun ((oD sr ar sh ht dm t).1) sv (imax 0 (ap - (oL sr lo ar sh ht dm ca t)))) to su fl ac).1.1))), (mS, .inl (cy.2.1, 12, .inl ((rFun sr lo (oC sr ar sh ht dm ca t) er (sFun ((oD sr ar sh ht dm t).1) sv (imax 0 (ap - (oL sr lo ar sh ht dm ca t)))) to su fl ac).1.2))), (mF, .inl (cy.1, 12, .inl ((rFun sr lo (oC sr ar sh ht dm ca t) er (sFun ((oD sr ar sh ht dm t).1) sv (imax 0 (ap - (oL sr lo ar sh ht dm ca t)))) to su fl ac).2.1))), (mA, .inl (cy.1, 12, .inl ((rFun sr lo (oC sr ar sh ht dm ca t) er (sFun ((oD sr ar sh ht dm t).1) sv (imax 0 (ap - (oL sr lo ar sh ht dm ca t)))) to su fl ac).2.2))), (gB, .inl (cy.1, 12, .inl b)), (po, .inr (3, [va_rf (Option.map ad ord.head?), .int cn, .int ap, .int ((fireL stp pow cst ord (oW sr lo ar sh ht dm ca t) sp frd).1)]))] rfl rfl ?_
    refine x_CvP (q := 56) C [0, 16, 1, 4, 6, 7] [2, 3, 5, 8, 9, 10, 11, 12, 13, 14, 15, 17] (cx := [(go, .inr (4, [.ref no, .ref po, .ref mo, .ref gB, .int ph, .int lt, .int ll])), (gB, .inl (cy.1, 12, .inl b)), (no, .inr (2, [.ref nS, .ref nL, .ref nA, .ref nH, .ref nV, .ref nT, .ref nC, .ref nD, .int (oL sr lo ar sh ht dm ca t)])), (nA, .inl (cy.1, 12, .inl ar)), (nV, .inl (cy.1, 12, .inl (sFun ((oD sr ar sh ht dm t).1) sv (imax 0 (ap - (oL sr lo ar sh ht dm ca t)))))), (nT, .inl (cy.2.1, 12, .inl (hFun sr sh ht)))]) (wr := [(nS, .inl (cy.1, 12, .inl (fun i => nI (sr i)))), (nL, .inl (cy.1, 12, .inl lo)), (nH, .inl (cy.1, 12, .inl sh)), (nC, .inl (cy.2.1, 12, .inl (oC sr ar sh ht dm ca t))), (nD, .inl (cy.1, 12, .inl ((oD sr ar sh ht dm t).1))), (mo, .inr (1, [.ref mE, .ref mT, .ref mS, .ref mF, .ref mA])), (mE, .inl (cy.1, 12, .inl er)), (mT, .inl (cy.1, 12, .inl ((rFun sr lo (oC sr ar sh ht dm ca t) er (sFun ((oD sr ar sh ht dm t).1) sv (imax 0 (ap - (oL sr lo ar sh ht dm ca t)))) to su fl ac).1.1))), (mS, .inl (cy.2.1, 12, .inl ((rFun sr lo (oC sr ar sh ht dm ca t) er (sFun ((oD sr ar sh ht dm t).1) sv (imax 0 (ap - (oL sr lo ar sh ht dm ca t)))) to su fl ac).1.2))), (mF, .inl (cy.1, 12, .inl ((rFun sr lo (oC sr ar sh ht dm ca t) er (sFun ((oD sr ar sh ht dm t).1) sv (imax 0 (ap - (oL sr lo ar sh ht dm ca t)))) to su fl ac).2.1))), (mA, .inl (cy.1, 12, .inl ((rFun sr lo (oC sr ar sh ht dm ca t) er (sFun ((oD sr ar sh ht dm t).1) sv (imax 0 (ap - (oL sr lo ar sh ht dm ca t)))) to su fl ac).2.2))), (po, .inr (3, [va_rf (Option.map ad ord.head?), .int cn, .int ap, .int ((fireL stp pow cst ord (oW sr lo ar sh ht dm ca t) sp frd).1)]))]) (st := []) rfl rfl rfl rfl (by decide) (fun H locs ls hP hPc hDc hS hFc hl => x_runV C (As := [.int t, .int (pPeak (oW sr lo ar sh ht dm ca t) ap)]) (c_X4_charge go no po mo gB nS nL nA nH nV nT nC nD b ar (sFun ((oD sr ar sh ht dm t).1) sv (imax 0 (ap - (oL sr lo ar sh ht dm ca t)))) (hFun sr sh ht) ph lt ll (oL sr lo ar sh ht dm ca t) t (pPeak (oW sr lo ar sh ht dm ca t) ap)) (cwV 2 C.2.2.2.2.2.1 gX4_hour_X4_charge rfl rfl rfl (by decide +kernel) ⟨Nat.le_of_ble_eq_true rfl, Nat.le_of_ble_eq_true rfl⟩) rfl 0 rfl rfl rfl (Nat.le_of_ble_eq_true rfl) dX4_hour_53 ⟨Nat.le_of_ble_eq_true rfl, Nat.le_of_ble_eq_true rfl⟩ (fun h => absurd h (by decide)) hP hPc hDc hS hFc hl) (k := 1) (n := 6) rfl rfl rfl (fun w1 hw => ?_)
    obtain rfl := hw
    refine x_ord [12, 14, 0, 1, 15, 2, 16, 17, 3, 4, 5, 6, 7, 8, 9, 10, 13, 11] [(go, .inr (4, [.ref no, .ref po, .ref mo, .ref gB, .int ph, .int lt, .int ll])), (no, .inr (2, [.ref nS, .ref nL, .ref nA, .ref nH, .ref nV, .ref nT, .ref nC, .ref nD, .int (oL sr lo ar sh ht dm ca t)])), (nS, .inl (cy.1, 12, .inl (fun i => nI (sr i)))), (nL, .inl (cy.1, 12, .inl lo)), (nA, .inl (cy.1, 12, .inl ar)), (nH, .inl (cy.1, 12, .inl sh)), (nV, .inl (cy.1, 12, .inl (sFun ((oD sr ar sh ht dm t).1) sv (imax 0 (ap - (oL sr lo ar sh ht dm ca t)))))), (nT, .inl (cy.2.1, 12, .inl (hFun sr sh ht))), (nC, .inl (cy.2.1, 12, .inl (oC sr ar sh ht dm ca t))), (nD, .inl (cy.1, 12, .inl ((oD sr ar sh ht dm t).1))), (mo, .inr (1, [.ref mE, .ref mT, .ref mS, .ref mF, .ref mA])), (mE, .inl (cy.1, 12, .inl er)), (mT, .inl (cy.1, 12, .inl ((rFun sr lo (oC sr ar sh ht dm ca t) er (sFun ((oD sr ar sh ht dm t).1) sv (imax 0 (ap - (oL sr lo ar sh ht dm ca t)))) to su fl ac).1.1))), (mS, .inl (cy.2.1, 12, .inl ((rFun sr lo (oC sr ar sh ht dm ca t) er (sFun ((oD sr ar sh ht dm t).1) sv (imax 0 (ap - (oL sr lo ar sh ht dm ca t)))) to su fl ac).1.2))), (mF, .inl (cy.1, 12, .inl ((rFun sr lo (oC sr ar sh ht dm ca t) er (sFun ((oD sr ar sh ht dm t).1) sv (imax 0 (ap - (oL sr lo ar sh ht dm ca t)))) to su fl ac).2.1))), (mA, .inl (cy.1, 12, .inl ((rFun sr lo (oC sr ar sh ht dm ca t) er (sFun ((oD sr ar sh ht dm t).1) sv (imax 0 (ap - (oL sr lo ar sh ht dm ca t)))) to su fl ac).2.2))), (gB, .inl (cy.1, 12, .inl (gFun (hFun sr sh ht) (sFun ((oD sr ar sh ht dm t).1) sv (imax 0 (ap - (oL sr lo ar sh ht dm ca t)))) ar t (pPeak (oW sr lo ar sh ht dm ca t) ap) b))), (po, .inr (3, [va_rf (Option.map ad ord.head?), .int cn, .int ap, .int ((fireL stp pow cst ord (oW sr lo ar sh ht dm ca t) sp frd).1)]))] rfl rfl ?_
    refine x_aload_n (q := 57) C 1 rfl dX4_hour_56 rfl ?_
    refine x_get (q := 60) C (T := TX4) iw_X4_hour_X4 rfl 0 0 rfl (by decide) rfl (by decide +kernel : Cond.fieldLink RX4 10 RX4 "net" "LHeatGuild$Net;" ∈ wsX4_hour) rfl dX4_hour_57 rfl ?_
    refine x_CvP (q := 63) C [1, 5] [0, 2, 3, 4, 6, 7, 8, 9, 10, 11, 12, 13, 14, 15, 16, 17] (cx := [(no, .inr (2, [.ref nS, .ref nL, .ref nA, .ref nH, .ref nV, .ref nT, .ref nC, .ref nD, .int (oL sr lo ar sh ht dm ca t)])), (nH, .inl (cy.1, 12, .inl sh))]) (wr := [(go, .inr (4, [.ref no, .ref po, .ref mo, .ref gB, .int ph, .int lt, .int ll])), (nS, .inl (cy.1, 12, .inl (fun i => nI (sr i)))), (nL, .inl (cy.1, 12, .inl lo)), (nA, .inl (cy.1, 12, .inl ar)), (nV, .inl (cy.1, 12, .inl (sFun ((oD sr ar sh ht dm t).1) sv (imax 0 (ap - (oL sr lo ar sh ht dm ca t)))))), (nT, .inl (cy.2.1, 12, .inl (hFun sr sh ht))), (nC, .inl (cy.2.1, 12, .inl (oC sr ar sh ht dm ca t))), (nD, .inl (cy.1, 12, .inl ((oD sr ar sh ht dm t).1))), (mo, .inr (1, [.ref mE, .ref mT, .ref mS, .ref mF, .ref mA])), (mE, .inl (cy.1, 12, .inl er)), (mT, .inl (cy.1, 12, .inl ((rFun sr lo (oC sr ar sh ht dm ca t) er (sFun ((oD sr ar sh ht dm t).1) sv (imax 0 (ap - (oL sr lo ar sh ht dm ca t)))) to su fl ac).1.1))), (mS, .inl (cy.2.1, 12, .inl ((rFun sr lo (oC sr ar sh ht dm ca t) er (sFun ((oD sr ar sh ht dm t).1) sv (imax 0 (ap - (oL sr lo ar sh ht dm ca t)))) to su fl ac).1.2))), (mF, .inl (cy.1, 12, .inl ((rFun sr lo (oC sr ar sh ht dm ca t) er (sFun ((oD sr ar sh ht dm t).1) sv (imax 0 (ap - (oL sr lo ar sh ht dm ca t)))) to su fl ac).2.1))), (mA, .inl (cy.1, 12, .inl ((rFun sr lo (oC sr ar sh ht dm ca t) er (sFun ((oD sr ar sh ht dm t).1) sv (imax 0 (ap - (oL sr lo ar sh ht dm ca t)))) to su fl ac).2.2))), (gB, .inl (cy.1, 12, .inl (gFun (hFun sr sh ht) (sFun ((oD sr ar sh ht dm t).1) sv (imax 0 (ap - (oL sr lo ar sh ht dm ca t)))) ar t (pPeak (oW sr lo ar sh ht dm ca t) ap) b))), (po, .inr (3, [va_rf (Option.map ad ord.head?), .int cn, .int ap, .int ((fireL stp pow cst ord (oW sr lo ar sh ht dm ca t) sp frd).1)]))]) (st := []) rfl rfl rfl rfl (by decide) (fun H locs ls hP hPc hDc hS hFc hl => x_runVN C (As := []) (c_X2_endHourOfRepairs no nS nL nA nH nV nT nC nD sh (oL sr lo ar sh ht dm ca t)) (⟨va_cnB 0 C.2.2.2.2.2.1 gX4_hour_X2_endHourOfRepairs_n129 rfl rfl rfl (va_Nw.of rfl (C.2.2.2.2.2.2.1.2.1.use (B := #[]) (by decide +kernel : Cond.methodLinkNest RX4 129 yX2_endHourOfRepairs RX4 ∈ xNest))) (C.2.2.2.2.2.1 _ (by decide +kernel)) (by decide +kernel) ⟨Nat.le_of_ble_eq_true rfl, Nat.le_of_ble_eq_true rfl⟩, C.2.2.2.2.2.1 (Cond.instanceMethod yX2_endHourOfRepairs) (by decide +kernel), C.2.2.2.2.2.1 (Cond.selects RX2 yX2_endHourOfRepairs yX2_endHourOfRepairs) (by decide +kernel)⟩) rfl 1 rfl rfl rfl (Nat.le_of_ble_eq_true rfl) dX4_hour_60 ⟨Nat.le_of_ble_eq_true rfl, Nat.le_of_ble_eq_true rfl⟩ (fun h => absurd h (by decide)) hP hPc hDc hS hFc hl) (k := 1) (n := 6) rfl rfl rfl (fun w1 hw => ?_)
    obtain rfl := hw
    refine x_ord [0, 16, 1, 2, 3, 17, 4, 5, 6, 7, 8, 9, 10, 11, 12, 13, 14, 15] [(go, .inr (4, [.ref no, .ref po, .ref mo, .ref gB, .int ph, .int lt, .int ll])), (no, .inr (2, [.ref nS, .ref nL, .ref nA, .ref nH, .ref nV, .ref nT, .ref nC, .ref nD, .int (oL sr lo ar sh ht dm ca t)])), (nS, .inl (cy.1, 12, .inl (fun i => nI (sr i)))), (nL, .inl (cy.1, 12, .inl lo)), (nA, .inl (cy.1, 12, .inl ar)), (nH, .inl (cy.1, 12, .inl (eFun sh))), (nV, .inl (cy.1, 12, .inl (sFun ((oD sr ar sh ht dm t).1) sv (imax 0 (ap - (oL sr lo ar sh ht dm ca t)))))), (nT, .inl (cy.2.1, 12, .inl (hFun sr sh ht))), (nC, .inl (cy.2.1, 12, .inl (oC sr ar sh ht dm ca t))), (nD, .inl (cy.1, 12, .inl ((oD sr ar sh ht dm t).1))), (mo, .inr (1, [.ref mE, .ref mT, .ref mS, .ref mF, .ref mA])), (mE, .inl (cy.1, 12, .inl er)), (mT, .inl (cy.1, 12, .inl ((rFun sr lo (oC sr ar sh ht dm ca t) er (sFun ((oD sr ar sh ht dm t).1) sv (imax 0 (ap - (oL sr lo ar sh ht dm ca t)))) to su fl ac).1.1))), (mS, .inl (cy.2.1, 12, .inl ((rFun sr lo (oC sr ar sh ht dm ca t) er (sFun ((oD sr ar sh ht dm t).1) sv (imax 0 (ap - (oL sr lo ar sh ht dm ca t)))) to su fl ac).1.2))), (mF, .inl (cy.1, 12, .inl ((rFun sr lo (oC sr ar sh ht dm ca t) er (sFun ((oD sr ar sh ht dm t).1) sv (imax 0 (ap - (oL sr lo ar sh ht dm ca t)))) to su fl ac).2.1))), (mA, .inl (cy.1, 12, .inl ((rFun sr lo (oC sr ar sh ht dm ca t) er (sFun ((oD sr ar sh ht dm t).1) sv (imax 0 (ap - (oL sr lo ar sh ht dm ca t)))) to su fl ac).2.2))), (gB, .inl (cy.1, 12, .inl (gFun (hFun sr sh ht) (sFun ((oD sr ar sh ht dm t).1) sv (imax 0 (ap - (oL sr lo ar sh ht dm ca t)))) ar t (pPeak (oW sr lo ar sh ht dm ca t) ap) b))), (po, .inr (3, [va_rf (Option.map ad ord.head?), .int cn, .int ap, .int ((fireL stp pow cst ord (oW sr lo ar sh ht dm ca t) sp frd).1)]))] rfl rfl ?_
    refine x_aload_n (q := 64) C 1 rfl dX4_hour_63 rfl ?_
    refine x_aload_n (q := 65) C 1 rfl dX4_hour_64 rfl ?_
    refine x_get (q := 68) C (T := TX4) iw_X4_hour_X4 rfl 0 0 rfl (by decide) rfl (by decide +kernel : Cond.fieldLink RX4 10 RX4 "net" "LHeatGuild$Net;" ∈ wsX4_hour) rfl dX4_hour_65 rfl ?_
    refine x_getN (q := 71) C (T := TX2) iw_X4_hour_X2 rfl 1 8 rfl (by decide) rfl (by decide +kernel : Cond.fieldLinkNest RX4 132 RX2 "surveyedLosses" "I" RX4 ∈ xNest) rfl dX4_hour_68 rfl ?_
    refine x_put (q := 74) C (T := TX4) iw_X4_hour_X4 tyX4 tyX4_ok nmX4 rfl 0 6 [(go, .inr (4, [.ref no, .ref po, .ref mo, .ref gB, .int ph, .int lt, .int (oL sr lo ar sh ht dm ca t)])), (no, .inr (2, [.ref nS, .ref nL, .ref nA, .ref nH, .ref nV, .ref nT, .ref nC, .ref nD, .int (oL sr lo ar sh ht dm ca t)])), (nS, .inl (cy.1, 12, .inl (fun i => nI (sr i)))), (nL, .inl (cy.1, 12, .inl lo)), (nA, .inl (cy.1, 12, .inl ar)), (nH, .inl (cy.1, 12, .inl (eFun sh))), (nV, .inl (cy.1, 12, .inl (sFun ((oD sr ar sh ht dm t).1) sv (imax 0 (ap - (oL sr lo ar sh ht dm ca t)))))), (nT, .inl (cy.2.1, 12, .inl (hFun sr sh ht))), (nC, .inl (cy.2.1, 12, .inl (oC sr ar sh ht dm ca t))), (nD, .inl (cy.1, 12, .inl ((oD sr ar sh ht dm t).1))), (mo, .inr (1, [.ref mE, .ref mT, .ref mS, .ref mF, .ref mA])), (mE, .inl (cy.1, 12, .inl er)), (mT, .inl (cy.1, 12, .inl ((rFun sr lo (oC sr ar sh ht dm ca t) er (sFun ((oD sr ar sh ht dm t).1) sv (imax 0 (ap - (oL sr lo ar sh ht dm ca t)))) to su fl ac).1.1))), (mS, .inl (cy.2.1, 12, .inl ((rFun sr lo (oC sr ar sh ht dm ca t) er (sFun ((oD sr ar sh ht dm t).1) sv (imax 0 (ap - (oL sr lo ar sh ht dm ca t)))) to su fl ac).1.2))), (mF, .inl (cy.1, 12, .inl ((rFun sr lo (oC sr ar sh ht dm ca t) er (sFun ((oD sr ar sh ht dm t).1) sv (imax 0 (ap - (oL sr lo ar sh ht dm ca t)))) to su fl ac).2.1))), (mA, .inl (cy.1, 12, .inl ((rFun sr lo (oC sr ar sh ht dm ca t) er (sFun ((oD sr ar sh ht dm t).1) sv (imax 0 (ap - (oL sr lo ar sh ht dm ca t)))) to su fl ac).2.2))), (gB, .inl (cy.1, 12, .inl (gFun (hFun sr sh ht) (sFun ((oD sr ar sh ht dm t).1) sv (imax 0 (ap - (oL sr lo ar sh ht dm ca t)))) ar t (pPeak (oW sr lo ar sh ht dm ca t) ap) b))), (po, .inr (3, [va_rf (Option.map ad ord.head?), .int cn, .int ap, .int ((fireL stp pow cst ord (oW sr lo ar sh ht dm ca t) sp frd).1)]))] rfl rfl (by decide) rfl (by decide +kernel : Cond.fieldLink RX4 135 RX4 "lastLosses" "I" ∈ wsX4_hour) rfl .int (by decide +kernel) rfl rfl (Nat.le_of_ble_eq_true rfl) dX4_hour_71 rfl ?_
    refine x_aload_n (q := 75) C 1 rfl dX4_hour_74 rfl ?_
    refine x_iload_n (q := 76) C 2 rfl dX4_hour_75 rfl ?_
    refine x_put (q := 79) C (T := TX4) iw_X4_hour_X4 tyX4 tyX4_ok nmX4 rfl 0 5 [(go, .inr (4, [.ref no, .ref po, .ref mo, .ref gB, .int ph, .int t, .int (oL sr lo ar sh ht dm ca t)])), (no, .inr (2, [.ref nS, .ref nL, .ref nA, .ref nH, .ref nV, .ref nT, .ref nC, .ref nD, .int (oL sr lo ar sh ht dm ca t)])), (nS, .inl (cy.1, 12, .inl (fun i => nI (sr i)))), (nL, .inl (cy.1, 12, .inl lo)), (nA, .inl (cy.1, 12, .inl ar)), (nH, .inl (cy.1, 12, .inl (eFun sh))), (nV, .inl (cy.1, 12, .inl (sFun ((oD sr ar sh ht dm t).1) sv (imax 0 (ap - (oL sr lo ar sh ht dm ca t)))))), (nT, .inl (cy.2.1, 12, .inl (hFun sr sh ht))), (nC, .inl (cy.2.1, 12, .inl (oC sr ar sh ht dm ca t))), (nD, .inl (cy.1, 12, .inl ((oD sr ar sh ht dm t).1))), (mo, .inr (1, [.ref mE, .ref mT, .ref mS, .ref mF, .ref mA])), (mE, .inl (cy.1, 12, .inl er)), (mT, .inl (cy.1, 12, .inl ((rFun sr lo (oC sr ar sh ht dm ca t) er (sFun ((oD sr ar sh ht dm t).1) sv (imax 0 (ap - (oL sr lo ar sh ht dm ca t)))) to su fl ac).1.1))), (mS, .inl (cy.2.1, 12, .inl ((rFun sr lo (oC sr ar sh ht dm ca t) er (sFun ((oD sr ar sh ht dm t).1) sv (imax 0 (ap - (oL sr lo ar sh ht dm ca t)))) to su fl ac).1.2))), (mF, .inl (cy.1, 12, .inl ((rFun sr lo (oC sr ar sh ht dm ca t) er (sFun ((oD sr ar sh ht dm t).1) sv (imax 0 (ap - (oL sr lo ar sh ht dm ca t)))) to su fl ac).2.1))), (mA, .inl (cy.1, 12, .inl ((rFun sr lo (oC sr ar sh ht dm ca t) er (sFun ((oD sr ar sh ht dm t).1) sv (imax 0 (ap - (oL sr lo ar sh ht dm ca t)))) to su fl ac).2.2))), (gB, .inl (cy.1, 12, .inl (gFun (hFun sr sh ht) (sFun ((oD sr ar sh ht dm t).1) sv (imax 0 (ap - (oL sr lo ar sh ht dm ca t)))) ar t (pPeak (oW sr lo ar sh ht dm ca t) ap) b))), (po, .inr (3, [va_rf (Option.map ad ord.head?), .int cn, .int ap, .int ((fireL stp pow cst ord (oW sr lo ar sh ht dm ca t) sp frd).1)]))] rfl rfl (by decide) rfl (by decide +kernel : Cond.fieldLink RX4 92 RX4 "lastTemperature" "I" ∈ wsX4_hour) rfl .int (by decide +kernel) rfl rfl (Nat.le_of_ble_eq_true rfl) dX4_hour_76 rfl ?_
    refine x_aload_n (q := 80) C 1 rfl dX4_hour_79 rfl ?_
    refine x_dup (q := 81) C rfl dX4_hour_80 rfl ?_
    refine x_get (q := 84) C (T := TX4) iw_X4_hour_X4 rfl 0 4 rfl (by decide) rfl (by decide +kernel : Cond.fieldLink RX4 49 RX4 "passedHours" "I" ∈ wsX4_hour) rfl dX4_hour_81 rfl ?_
    refine x_iconst (q := 85) C 1 rfl dX4_hour_84 rfl ?_
    refine x_iadd (q := 86) C (ph + 1) (rfl) dX4_hour_85 rfl ?_
    refine x_put (q := 89) C (T := TX4) iw_X4_hour_X4 tyX4 tyX4_ok nmX4 rfl 0 4 [(go, .inr (4, [.ref no, .ref po, .ref mo, .ref gB, .int (ph + 1), .int t, .int (oL sr lo ar sh ht dm ca t)])), (no, .inr (2, [.ref nS, .ref nL, .ref nA, .ref nH, .ref nV, .ref nT, .ref nC, .ref nD, .int (oL sr lo ar sh ht dm ca t)])), (nS, .inl (cy.1, 12, .inl (fun i => nI (sr i)))), (nL, .inl (cy.1, 12, .inl lo)), (nA, .inl (cy.1, 12, .inl ar)), (nH, .inl (cy.1, 12, .inl (eFun sh))), (nV, .inl (cy.1, 12, .inl (sFun ((oD sr ar sh ht dm t).1) sv (imax 0 (ap - (oL sr lo ar sh ht dm ca t)))))), (nT, .inl (cy.2.1, 12, .inl (hFun sr sh ht))), (nC, .inl (cy.2.1, 12, .inl (oC sr ar sh ht dm ca t))), (nD, .inl (cy.1, 12, .inl ((oD sr ar sh ht dm t).1))), (mo, .inr (1, [.ref mE, .ref mT, .ref mS, .ref mF, .ref mA])), (mE, .inl (cy.1, 12, .inl er)), (mT, .inl (cy.1, 12, .inl ((rFun sr lo (oC sr ar sh ht dm ca t) er (sFun ((oD sr ar sh ht dm t).1) sv (imax 0 (ap - (oL sr lo ar sh ht dm ca t)))) to su fl ac).1.1))), (mS, .inl (cy.2.1, 12, .inl ((rFun sr lo (oC sr ar sh ht dm ca t) er (sFun ((oD sr ar sh ht dm t).1) sv (imax 0 (ap - (oL sr lo ar sh ht dm ca t)))) to su fl ac).1.2))), (mF, .inl (cy.1, 12, .inl ((rFun sr lo (oC sr ar sh ht dm ca t) er (sFun ((oD sr ar sh ht dm t).1) sv (imax 0 (ap - (oL sr lo ar sh ht dm ca t)))) to su fl ac).2.1))), (mA, .inl (cy.1, 12, .inl ((rFun sr lo (oC sr ar sh ht dm ca t) er (sFun ((oD sr ar sh ht dm t).1) sv (imax 0 (ap - (oL sr lo ar sh ht dm ca t)))) to su fl ac).2.2))), (gB, .inl (cy.1, 12, .inl (gFun (hFun sr sh ht) (sFun ((oD sr ar sh ht dm t).1) sv (imax 0 (ap - (oL sr lo ar sh ht dm ca t)))) ar t (pPeak (oW sr lo ar sh ht dm ca t) ap) b))), (po, .inr (3, [va_rf (Option.map ad ord.head?), .int cn, .int ap, .int ((fireL stp pow cst ord (oW sr lo ar sh ht dm ca t) sp frd).1)]))] rfl rfl (by decide) rfl (by decide +kernel : Cond.fieldLink RX4 49 RX4 "passedHours" "I" ∈ wsX4_hour) rfl .int (by decide +kernel) rfl rfl (Nat.le_of_ble_eq_true rfl) dX4_hour_86 rfl ?_
    refine x_iload_n (q := 90) C 0 rfl dX4_hour_89 rfl ?_
    exact x_iretTX C .int rfl rfl (⟨hcd, rfl, rfl⟩) dX4_hour_90 (Nat.le_of_ble_eq_true rfl) (Nat.le_of_ble_eq_true rfl)
end
