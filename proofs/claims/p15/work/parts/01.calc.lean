/-! A calculus over the machine: pure heaps, one judgement X for a frame, one contract T for a method. My own. -/
abbrev PH : Type := Nat → Option va_E
def hs (h : PH) (a : Nat) (e : va_E) : PH := fun q => if q = a then some e else h q
theorem hs_self (h : PH) (a : Nat) (e : va_E) : hs h a e a = some e := by simp [hs]
theorem hs_ne {h : PH} {a q : Nat} {e : va_E} (n : q ≠ a) : hs h a e q = h q := by simp [hs, n]
/-- the machine's heap holds h, and all of h lies from base on -/
def hp_in (D : va_G) (cl : List vw_C) (base : Nat) (h : PH) (H : Heap) : Prop :=
  ∃ (LP : List Nat) (f : Nat → va_E), (∀ a e, h a = some e → a ∈ LP ∧ f a = e) ∧ va_P D cl (va_pl LP f) H ∧ va_D (fun q : Nat => base ≤ q) (va_pl LP f)
/-- .. some h that is as A says -/
def hpA (D : va_G) (cl : List vw_C) (base : Nat) (A : PH → Prop) (H : Heap) : Prop := ∃ h : PH, A h ∧ hp_in D cl base h H
/-- what a walk never changes: the machine; the frame; the world's numbers; locals, cells, slots; the end -/
abbrev Fx : Type := (Program × Launch × Env × Room × State) × (MethodId × Array Value × List Frame × Method × Code) × (va_G × List vw_C × List (ClassId × FieldType) × Nat) × (Nat × Nat × Nat) × (State → Prop)
abbrev Fx.p (z : Fx) : Program := z.1.1
abbrev Fx.l (z : Fx) : Launch := z.1.2.1
abbrev Fx.e (z : Fx) : Env := z.1.2.2.1
abbrev Fx.R (z : Fx) : Room := z.1.2.2.2.1
abbrev Fx.s (z : Fx) : State := z.1.2.2.2.2
abbrev Fx.m (z : Fx) : MethodId := z.2.1.1
abbrev Fx.args (z : Fx) : Array Value := z.2.1.2.1
abbrev Fx.below (z : Fx) : List Frame := z.2.1.2.2.1
abbrev Fx.meth (z : Fx) : Method := z.2.1.2.2.2.1
abbrev Fx.c (z : Fx) : Code := z.2.1.2.2.2.2
abbrev Fx.D (z : Fx) : va_G := z.2.2.1.1
abbrev Fx.cl (z : Fx) : List vw_C := z.2.2.1.2.1
abbrev Fx.tys (z : Fx) : List (ClassId × FieldType) := z.2.2.1.2.2.1
abbrev Fx.base (z : Fx) : Nat := z.2.2.1.2.2.2
abbrev Fx.nL (z : Fx) : Nat := z.2.2.2.1.1
abbrev Fx.mc (z : Fx) : Nat := z.2.2.2.1.2.1
abbrev Fx.ms (z : Fx) : Nat := z.2.2.2.1.2.2
abbrev Fx.Q (z : Fx) : State → Prop := z.2.2.2.2
/-- locals by their places -/
def lx (z : Fx) (L : List (Option Value)) (ls : Array Slot) : Prop := ls.size = z.nL ∧ lv_wf ls ∧ ∀ (i : Nat) (v : Value), L[i]? = some (some v) → ls[i]? = some (.val v)
abbrev Wz (z : Fx) (H : Heap) (locs : List Loc) (cells slots : Nat) (g : JFrame) : Prop := W z.p z.l z.e z.R z.s z.m z.args z.below z.meth z.c H locs cells slots z.Q g
/-- from this frame, over any heap that is as A says, with kc cells and ks slots to make yet, the method comes to its end -/
def X (z : Fx) (kc ks : Nat) (A : PH → Prop) (pc : Nat) (L : List (Option Value)) (st : List Value) : Prop :=
  ∀ (H : Heap) (locs : List Loc) (ls : Array Slot) (cells slots : Nat), hpA z.D z.cl z.base A H → va_S (fun q : Nat => z.base ≤ q) z.s.heap H locs → lx z L ls → cells + kc ≤ z.mc → slots + ks ≤ z.ms → Wz z H locs cells slots (F0 z.m pc ls st)
/-- what is known of the method that is walked -/
def Cx (z : Fx) (own : String) (cc : ByteArray) (Ts : List Cond) : Prop :=
  z.p.tables.exec = Jvm.exec ∧ z.c.code = cc ∧ z.c.maxLocals = z.nL ∧ z.s.vm.findClass own = some z.m.cls ∧ (∀ w ∈ Ts, w.before z.args z.s = true) ∧ va_K z.D z.cl z.tys z.s ∧ z.base ≤ z.s.heap.size ∧ z.mc ≤ z.R.cells ∧ z.ms ≤ z.R.slots
section Rows
variable {z : Fx} {own : String} {cc : ByteArray} {Ts : List Cond} {kc ks pc : Nat} {A : PH → Prop} {L : List (Option Value)} {st : List Value}
theorem Cx.x (C : Cx z own cc Ts) : z.p.tables.exec = Jvm.exec := C.1
theorem Cx.b (C : Cx z own cc Ts) : z.c.code = cc := C.2.1
theorem Cx.ml (C : Cx z own cc Ts) : z.c.maxLocals = z.nL := C.2.2.1
theorem Cx.ow (C : Cx z own cc Ts) : z.s.vm.findClass own = some z.m.cls := C.2.2.2.1
theorem Cx.ts (C : Cx z own cc Ts) : ∀ w ∈ Ts, w.before z.args z.s = true := C.2.2.2.2.1
theorem Cx.K (C : Cx z own cc Ts) : va_K z.D z.cl z.tys z.s := C.2.2.2.2.2.1
theorem Cx.fr (C : Cx z own cc Ts) : ∀ q : Nat, z.s.heap.size ≤ q → (fun q : Nat => z.base ≤ q) q := fun _ g => Nat.le_trans C.2.2.2.2.2.2.1 g
theorem Cx.rc (C : Cx z own cc Ts) : z.mc ≤ z.R.cells := C.2.2.2.2.2.2.2.1
theorem Cx.rs (C : Cx z own cc Ts) : z.ms ≤ z.R.slots := C.2.2.2.2.2.2.2.2
/-- the heap may be known less, the room more -/
theorem X.weak {kc' ks' : Nat} {A' : PH → Prop} (k : X z kc' ks' A' pc L st) (hh : ∀ h, A h → A' h) (hc : kc' ≤ kc) (hs : ks' ≤ ks) : X z kc ks A pc L st := by
  intro H locs ls cells slots ⟨h, q, r⟩ hS hl c1 c2
  exact k H locs ls cells slots ⟨h, hh h q, r⟩ hS hl (by omega) (by omega)
theorem X.room {kc' ks' : Nat} (k : X z kc' ks' A pc L st) (hc : kc' ≤ kc) (hs : ks' ≤ ks) : X z kc ks A pc L st := k.weak (fun _ g => g) hc hs
theorem X.heap {A' : PH → Prop} (k : X z kc ks A' pc L st) (hh : ∀ h, A h → A' h) : X z kc ks A pc L st := k.weak hh (Nat.le_refl _) (Nat.le_refl _)
/-- the heap may be known less -/
theorem X.less {A' : PH → Prop} (k : X z kc ks A' pc L st) (hh : ∀ h, A h → ∃ h', A' h' ∧ ∀ a e, h' a = some e → h a = some e) : X z kc ks A pc L st := by
  intro H locs ls cells slots ⟨h, q, LP, f, q1, q2, q3⟩ hS hl c1 c2
  obtain ⟨h', r1, r2⟩ := hh h q
  exact k H locs ls cells slots ⟨h', r1, LP, f, fun a e g => q1 a e (r2 a e g), q2, q3⟩ hS hl c1 c2
theorem X.ex {α : Sort _} {B : α → PH → Prop} (k : ∀ x, X z kc ks (B x) pc L st) : X z kc ks (fun h => ∃ x, B x h) pc L st := by
  intro H locs ls cells slots ⟨h, ⟨x, q⟩, r⟩ hS hl c1 c2
  exact k x H locs ls cells slots ⟨h, q, r⟩ hS hl c1 c2
theorem X.pure {p : Prop} (hp : ∀ h, A h → p) (k : p → X z kc ks A pc L st) : X z kc ks A pc L st := by
  intro H locs ls cells slots ⟨h, q, r⟩ hS hl c1 c2
  exact k (hp h q) H locs ls cells slots ⟨h, q, r⟩ hS hl c1 c2
/-- fewer locals -/
def lsub (L' L : List (Option Value)) : Bool := match L', L with
  | [], _ => true
  | none :: a, _ :: b => lsub a b
  | none :: a, [] => lsub a []
  | some _ :: _, [] => false
  | some u :: a, some v :: b => decide (u = v) && lsub a b
  | some _ :: _, none :: _ => false
theorem lx.at {ls : Array Slot} (hl : lx z L ls) {i : Nat} {v : Value} (g : L[i]? = some (some v)) : ls[i]? = some (.val v) := hl.2.2 i v g
theorem X.locals {L' : List (Option Value)} (k : X z kc ks A pc L' st) (hh : ∀ (i : Nat) (v : Value), L'[i]? = some (some v) → L[i]? = some (some v)) : X z kc ks A pc L st := by
  intro H locs ls cells slots hp hS hl c1 c2
  exact k H locs ls cells slots hp hS ⟨hl.1, hl.2.1, fun i v g => hl.2.2 i v (hh i v g)⟩ c1 c2
/-- a store of one place: a long that lay in the place ahead and this one is gone -/
def is2 (v : Option Value) : Bool := match v with
  | some w => w.category == 2
  | none => false
def lst1 (L : List (Option Value)) (i : Nat) (v : Value) : List (Option Value) := match L, i with
  | [], _ => []
  | _ :: b, 0 => some v :: b
  | a :: b, 1 => (if is2 a then none else a) :: lst1 b 0 v
  | a :: b, i + 2 => a :: lst1 b (i + 1) v
def lst2 (L : List (Option Value)) (i : Nat) (v : Value) : List (Option Value) := match L, i with
  | [], _ => []
  | _ :: _ :: b, 0 => some v :: none :: b
  | [_], 0 => [some v]
  | a :: b, 1 => (if is2 a then none else a) :: lst2 b 0 v
  | a :: b, i + 2 => a :: lst2 b (i + 1) v
theorem lst1_get {L : List (Option Value)} {i : Nat} {v : Value} : ∀ {j : Nat} {w : Value}, (lst1 L i v)[j]? = some (some w) → (j = i ∧ w = v) ∨ (j ≠ i ∧ L[j]? = some (some w) ∧ ¬ (j + 1 = i ∧ w.category = 2)) := by
  fun_induction lst1 L i v with
  | case1 => intro j w g; simp at g
  | case2 a b => 
    intro j w g
    cases j with
    | zero => simp at g; exact Or.inl ⟨rfl, g.symm⟩
    | succ j => simp at g; exact Or.inr ⟨by omega, by simpa using g, by omega⟩
  | case3 a b ih =>
    intro j w g
    cases j with
    | zero =>
      simp at g
      refine Or.inr ⟨by omega, by simpa using g.2, fun q => ?_⟩
      have := g.2
      subst this
      simp [is2, q.2] at g
    | succ j =>
      simp at g
      rcases ih g with ⟨q1, q2⟩ | ⟨q1, q2, q3⟩
      · exact Or.inl ⟨by omega, q2⟩
      · exact Or.inr ⟨by omega, by simpa using q2, by omega⟩
  | case4 a b i ih =>
    intro j w g
    cases j with
    | zero => simp at g; exact Or.inr ⟨by omega, by simpa using g, by omega⟩
    | succ j =>
      simp at g
      rcases ih g with ⟨q1, q2⟩ | ⟨q1, q2, q3⟩
      · exact Or.inl ⟨by omega, q2⟩
      · exact Or.inr ⟨by omega, by simpa using q2, fun q => q3 ⟨by omega, q.2⟩⟩
theorem lst2_get {L : List (Option Value)} {i : Nat} {v : Value} : ∀ {j : Nat} {w : Value}, (lst2 L i v)[j]? = some (some w) → (j = i ∧ w = v) ∨ (j ≠ i ∧ j ≠ i + 1 ∧ L[j]? = some (some w) ∧ ¬ (j + 1 = i ∧ w.category = 2)) := by
  fun_induction lst2 L i v with
  | case1 => intro j w g; simp at g
  | case2 a b c =>
    intro j w g
    match j with
    | 0 => simp at g; exact Or.inl ⟨rfl, g.symm⟩
    | 1 => simp at g
    | j + 2 => simp at g; exact Or.inr ⟨by omega, by omega, by simpa using g, by omega⟩
  | case3 a =>
    intro j w g
    match j with
    | 0 => simp at g; exact Or.inl ⟨rfl, g.symm⟩
    | j + 1 => simp at g
  | case4 a b ih =>
    intro j w g
    cases j with
    | zero =>
      simp at g
      refine Or.inr ⟨by omega, by omega, by simpa using g.2, fun q => ?_⟩
      have := g.2
      subst this
      simp [is2, q.2] at g
    | succ j =>
      simp at g
      rcases ih g with ⟨q1, q2⟩ | ⟨q1, q2, q3, q4⟩
      · exact Or.inl ⟨by omega, q2⟩
      · exact Or.inr ⟨by omega, by omega, by simpa using q3, by omega⟩
  | case5 a b i ih =>
    intro j w g
    cases j with
    | zero => simp at g; exact Or.inr ⟨by omega, by omega, by simpa using g, by omega⟩
    | succ j =>
      simp at g
      rcases ih g with ⟨q1, q2⟩ | ⟨q1, q2, q3, q4⟩
      · exact Or.inl ⟨by omega, q2⟩
      · exact Or.inr ⟨by omega, by omega, by simpa using q3, fun q => q4 ⟨by omega, q.2⟩⟩
def lpr (i : Nat) (L : List (Option Value)) : List (Nat × Value) := match L with
  | [] => []
  | none :: b => lpr (i + 1) b
  | some v :: b => (i, v) :: lpr (i + 1) b
theorem lpr_mem {L : List (Option Value)} : ∀ {i : Nat} {q : Nat × Value}, q ∈ lpr i L ↔ ∃ j : Nat, q.1 = i + j ∧ L[j]? = some (some q.2) := by
  induction L with
  | nil => intro i q; simp [lpr]
  | cons a b ih =>
    intro i q
    cases a with
    | none =>
      rw [lpr, ih]
      constructor
      · rintro ⟨j, h1, h2⟩
        exact ⟨j + 1, by omega, by simpa using h2⟩
      · rintro ⟨j, h1, h2⟩
        cases j with
        | zero => simp at h2
        | succ j => exact ⟨j, by omega, by simpa using h2⟩
    | some v =>
      rw [lpr, List.mem_cons, ih]
      constructor
      · rintro (h1 | ⟨j, h1, h2⟩)
        · subst h1
          exact ⟨0, rfl, rfl⟩
        · exact ⟨j + 1, by omega, by simpa using h2⟩
      · rintro ⟨j, h1, h2⟩
        cases j with
        | zero =>
          left
          simp at h2
          obtain ⟨q1, q2⟩ := q
          simp at h1 h2
          rw [h1, h2]
        | succ j => exact Or.inr ⟨j, by omega, by simpa using h2⟩
theorem lx.has {ls : Array Slot} (hl : lx z L ls) : lv_has ls z.nL (lpr 0 L) := ⟨hl.1, hl.2.1, fun q hq => by
  obtain ⟨j, h1, h2⟩ := lpr_mem.mp hq
  rw [h1, Nat.zero_add]
  exact hl.2.2 j q.2 h2⟩
theorem lx.of1 {ls : Array Slot} {i : Nat} {v : Value} (hl : lv_has ls z.nL ((i, v) :: (lpr 0 L).filter (fun q => !(q.1 == i) && !(q.1 + 1 == i && q.2.category == 2)))) : lx z (lst1 L i v) ls := by
  refine ⟨hl.1, hl.2.1, fun j w g => ?_⟩
  rcases lst1_get g with ⟨q1, q2⟩ | ⟨q1, q2, q3⟩
  · subst q1; subst q2
    exact hl.2.2 (j, w) List.mem_cons_self
  · refine hl.2.2 (j, w) (List.mem_cons_of_mem _ (List.mem_filter.mpr ⟨lpr_mem.mpr ⟨j, by simp, q2⟩, ?_⟩))
    simp [q1]
    omega
theorem lx.of2 {ls : Array Slot} {i : Nat} {v : Value} (hl : lv_has ls z.nL ((i, v) :: (lpr 0 L).filter (fun q => !(q.1 == i) && (!(q.1 == i + 1) && !(q.1 + 1 == i && q.2.category == 2))))) : lx z (lst2 L i v) ls := by
  refine ⟨hl.1, hl.2.1, fun j w g => ?_⟩
  rcases lst2_get g with ⟨q1, q2⟩ | ⟨q1, q2, q3, q4⟩
  · subst q1; subst q2
    exact hl.2.2 (j, w) List.mem_cons_self
  · refine hl.2.2 (j, w) (List.mem_cons_of_mem _ (List.mem_filter.mpr ⟨lpr_mem.mpr ⟨j, by simp, q3⟩, ?_⟩))
    simp [q1, q2]
    omega
end Rows
