/-! loops: a counter's rule; pure iteration -/
def itr {α : Type} (step : Nat → α → α) (init : α) : Nat → α
  | 0 => init
  | n + 1 => step n (itr step init n)
theorem itr_s {α : Type} (step : Nat → α → α) (init : α) (n : Nat) : itr step init (n + 1) = step n (itr step init n) := rfl
theorem itr_eq {α β : Type} {s1 : Nat → α → α} {s2 : Nat → β → β} {a : α} {b : β} (Rl : Nat → α → β → Prop) (N : Nat) (h0 : Rl 0 a b) (hs : ∀ n x y, n < N → Rl n x y → Rl (n + 1) (s1 n x) (s2 n y)) : ∀ n, n ≤ N → Rl n (itr s1 a n) (itr s2 b n) := by
  intro n
  induction n with
  | zero => intro _; exact h0
  | succ n ih => intro h; exact hs n _ _ (by omega) (ih (by omega))
theorem itr_inv {α : Type} {s1 : Nat → α → α} {a : α} (P : Nat → α → Prop) (N : Nat) (h0 : P 0 a) (hs : ∀ n x, n < N → P n x → P (n + 1) (s1 n x)) : ∀ n, n ≤ N → P n (itr s1 a n) := by
  intro n
  induction n with
  | zero => intro _; exact h0
  | succ n ih => intro h; exact hs n _ (by omega) (ih (by omega))
theorem nI_dn {n N : Nat} (h : n < N) : nI (N - n) + (-1) = nI (N - (n + 1)) := by
  have e : N - n = (N - (n + 1)) + 1 := by omega
  rw [e]
  exact pk_m1 _
section XL
variable {p : Program} {l : Launch} {e : Env} {R : Room} {s : State} {m : MethodId} {args : Array Value} {below : List Frame} {meth : Method} {c : Code} {cc : ByteArray} {nL : Nat} {ret : Option FieldType} {Ts : List Cond} {own : String} {D : va_G} {cy : ClassId × ClassId × ClassId} {A : Nat → Prop} {cells slots : Nat} {Q : State → Prop} {X X' pl : va_W} {lv lv' : List (Nat × Value)} {st : List Value} {pc q : Nat}
theorem x_up (Xf : Nat → va_W) (lvf : Nat → List (Nat × Value)) (N : Nat) (h0 : X = Xf 0) (hl0 : lv = lvf 0)
    (hs : ∀ j, j < N → xW p l e R s m args below meth c D A nL cells slots Q pc (Xf (j + 1)) pl (lvf (j + 1)) st → xW p l e R s m args below meth c D A nL cells slots Q pc (Xf j) pl (lvf j) st)
    (hx : xW p l e R s m args below meth c D A nL cells slots Q pc (Xf N) pl (lvf N) st) : xW p l e R s m args below meth c D A nL cells slots Q pc X pl lv st := by
  subst h0
  subst hl0
  have K : ∀ d j, j + d = N → xW p l e R s m args below meth c D A nL cells slots Q pc (Xf j) pl (lvf j) st := by
    intro d
    induction d with
    | zero =>
      intro j h
      have : j = N := by omega
      subst this
      exact hx
    | succ d ih =>
      intro j h
      exact hs j (by omega) (ih (j + 1) (by omega))
  exact K N 0 (by omega)
/-- roads that meet: what stands on the stack where they do -/
theorem x_join (P : Nat) (φ : Int32 → Prop) (st' : List Value) (h1 : ∀ v, φ v → xW p l e R s m args below meth c D A nL cells slots Q P X pl lv (.int v :: st')) (h2 : (∀ v, φ v → xW p l e R s m args below meth c D A nL cells slots Q P X pl lv (.int v :: st')) → xW p l e R s m args below meth c D A nL cells slots Q pc X pl lv st) : xW p l e R s m args below meth c D A nL cells slots Q pc X pl lv st := h2 h1
theorem x_join0 (P : Nat) (X' : va_W) (lv' : List (Nat × Value)) (st' : List Value) (h1 : xW p l e R s m args below meth c D A nL cells slots Q P X' pl lv' st') (h2 : xW p l e R s m args below meth c D A nL cells slots Q P X' pl lv' st' → xW p l e R s m args below meth c D A nL cells slots Q pc X pl lv st) : xW p l e R s m args below meth c D A nL cells slots Q pc X pl lv st := h2 h1
end XL
section XR
variable {p : Program} {l : Launch} {e : Env} {R : Room} {s : State} {m : MethodId} {args : Array Value} {below : List Frame} {meth : Method} {c : Code} {D : va_G} {A : Nat → Prop} {nL cells slots : Nat} {Q : State → Prop} {X pl : va_W} {lv : List (Nat × Value)} {st : List Value} {pc : Nat}
/-- a loop by a measure -/
theorem x_rec {σ : Type} (μ : σ → Nat) (I : σ → Prop) (Xf plf : σ → va_W) (lvf : σ → List (Nat × Value)) (x0 : σ) (h0 : X = Xf x0) (hp0 : pl = plf x0) (hl0 : lv = lvf x0) (hI : I x0)
    (hs : ∀ x, I x → (∀ y, I y → μ y < μ x → xW p l e R s m args below meth c D A nL cells slots Q pc (Xf y) (plf y) (lvf y) st) → xW p l e R s m args below meth c D A nL cells slots Q pc (Xf x) (plf x) (lvf x) st) : xW p l e R s m args below meth c D A nL cells slots Q pc X pl lv st := by
  subst h0
  subst hp0
  subst hl0
  have K : ∀ n x, μ x < n → I x → xW p l e R s m args below meth c D A nL cells slots Q pc (Xf x) (plf x) (lvf x) st := by
    intro n
    induction n with
    | zero => intro x h; omega
    | succ n ih =>
      intro x h hx
      exact hs x hx (fun y hy hlt => ih y (by omega) hy)
  exact K _ x0 (Nat.lt_succ_self _) hI
end XR
