/-! Contracts over pure heaps, and calls. -/
/-- the world that is the same for all methods: launch, class numbers, classes, array classes, base, what is known of the machine besides -/
abbrev Wd : Type := Launch × va_G × List vw_C × List (ClassId × FieldType) × Nat × (State → Heap → Prop)
abbrev Wd.l (w : Wd) : Launch := w.1
abbrev Wd.D (w : Wd) : va_G := w.2.1
abbrev Wd.cl (w : Wd) : List vw_C := w.2.2.1
abbrev Wd.tys (w : Wd) : List (ClassId × FieldType) := w.2.2.2.1
abbrev Wd.base (w : Wd) : Nat := w.2.2.2.2.1
abbrev Wd.G (w : Wd) : State → Heap → Prop := w.2.2.2.2.2
abbrev Wd.A (w : Wd) : Nat → Prop := fun q : Nat => w.base ≤ q
/-- what is known besides stays known -/
def Wd.ok (w : Wd) : Prop := (∀ (u U : State) (H H1 : Heap), u.WarmedH U.vm → (∀ q : Nat, q < H.size → ¬ w.base ≤ q → H1[q]? = H[q]?) → w.G u H → w.G U H1) ∧ (∀ (u U : State) (H : Heap), u.vm = U.vm → w.G u H → w.G U H)
def Pz (w : Wd) (as : List Value) (A : PH → Prop) : Array Value → State → Prop := fun v U => v = as.toArray ∧ w.base ≤ U.heap.size ∧ va_K w.D w.cl w.tys U ∧ w.G U U.heap ∧ hpA w.D w.cl w.base A U.heap
def Qz (w : Wd) (P : Option Value → PH → Prop) : Array Value → State → Outcome → State → Prop := fun _ st o t => (∃ (r : Option Value) (h' : PH), o = .returned r ∧ P r h' ∧ hp_in w.D w.cl w.base h' t.heap) ∧ va_F w.A st t
/-- a contract: y, from any heap that is as A says, returns r with a heap that is as P r says -/
def T (w : Wd) (gw : List Cond) (y : MethodName) (cc : ByteArray) (n : Nat) (rt : Option FieldType) (fr lo mc ms : Nat) (as : List Value) (A : PH → Prop) (P : Option Value → PH → Prop) : Prop :=
  Met w.l y (Cond.code y cc n rt :: gw) ({ frames := fr, cells := mc, slots := ms, locals := lo }) (Pz w as A) (Qz w P) mc ms w.A
/-- the rest of what is known of the method that is walked -/
def Ct (z : Fx) (w : Wd) (gw : List Cond) (y : MethodName) (rt : Option FieldType) (fr lo : Nat) (P : Option Value → PH → Prop) : Prop :=
  z.l = w.l ∧ z.D = w.D ∧ z.cl = w.cl ∧ z.tys = w.tys ∧ z.base = w.base ∧ z.R.frames = fr ∧ z.R.locals = lo ∧ z.meth.sig.returnType = rt ∧ z.meth.locks = false ∧ z.meth.name = y.name ∧ w.G z.s z.s.heap ∧ z.Q = MQ z.below (Qz w P) z.args z.s z.mc z.ms w.A
def lent (n : Nat) (as : List Value) : List (Option Value) := match as with
  | [] => List.replicate n none
  | a :: b => if a.category = 2 then some a :: none :: lent (n - 2) b else some a :: lent (n - 1) b
theorem Pz.blind {w : Wd} (hw : w.ok) {as : List Value} {A : PH → Prop} : FrameBlind (Pz w as A) := by
  intro a U g mk ⟨q1, q2, q3, q4, q5⟩
  exact ⟨q1, q2, va_K.moved (u := U) (U := U.calling g mk a) (Vm.Alike.refl U.vm) q3, hw.2 U _ _ rfl q4, q5⟩
theorem lent_get : ∀ {as : List Value} {n k i : Nat} {v : Value}, (lent n as)[i]? = some (some v) → (k + i, v) ∈ lv_args k as := by
  intro as
  induction as with
  | nil =>
    intro n k i v g
    simp [lent, List.getElem?_replicate] at g
  | cons a b ih =>
    intro n k i v g
    unfold lent at g
    by_cases hc : a.category = 2
    · rw [if_pos hc] at g
      match i with
      | 0 => 
        simp at g
        subst g
        simp [lv_args]
      | 1 => simp at g
      | i + 2 =>
        simp at g
        have := ih (k := k + 2) g
        simp [lv_args, hc]
        have e : k + (i + 2) = k + 2 + i := by omega
        rw [e]
        exact this
    · rw [if_neg hc] at g
      have hc1 : a.category = 1 := by cases a <;> simp_all [Value.category]
      match i with
      | 0 => 
        simp at g
        subst g
        simp [lv_args]
      | i + 1 =>
        simp at g
        have := ih (k := k + 1) g
        simp [lv_args, hc1]
        have e : k + (i + 1) = k + 1 + i := by omega
        rw [e]
        exact this
/-- a contract out of the walk of the method's body -/
theorem T.intro {w : Wd} {gw : List Cond} {y : MethodName} {cc : ByteArray} {n : Nat} {rt : Option FieldType} {fr lo mc ms : Nat} {as : List Value} {A : PH → Prop} {P : Option Value → PH → Prop} (hy : plainName y.cls = true) (hlen : (lg_sl as).length ≤ n)
    (k : ∀ z : Fx, Cx z y.cls cc gw → Ct z w gw y rt fr lo P → z.nL = n → z.mc = mc → z.ms = ms → X z mc ms A 0 (lent n as) []) : T w gw y cc n rt fr lo mc ms as A P := by
  refine Met.ofW (cc := cc) (maxL := n) (ret := rt) hy rfl ?_
  intro p e s m args below meth c s₁ B hml hv
  obtain ⟨rfl, hv2, hv3, hv4, hv5⟩ := hv
  have hts := atoms_spec (ws := Cond.code y cc n rt :: gw) B.pre
  have hl := lv_entry as (n := n) hlen
  rw [lg_entry_eq]
  generalize (lg_sl as ++ List.replicate (n - (lg_sl as).length) Slot.unset).toArray = ls at hl ⊢
  have K := k ((p, w.l, e, ({ frames := fr, cells := mc, slots := ms, locals := lo } : Room), s), (m, as.toArray, below, meth, c), (w.D, w.cl, w.tys, w.base), (n, mc, ms), MQ below (Qz w P) as.toArray s mc ms w.A)
    ⟨B.exec, B.bytes, hml, findClass_of_methodNamed B.named, fun q hq => hts q (List.mem_cons_of_mem _ hq), hv3, hv2, Nat.le_refl _, Nat.le_refl _⟩
    ⟨rfl, rfl, rfl, rfl, rfl, rfl, rfl, B.returns, B.notSynchronized, (name_of_methodNamed B.named B.method).1, hv4, rfl⟩ rfl rfl rfl
  refine K s.heap [] ls 0 0 hv5 va_S.rf ⟨hl.1, hl.2.1, fun i v g => ?_⟩ (by simp [Fx.mc]) (by simp [Fx.ms])
  have := lent_get (k := 0) g
  rw [Nat.zero_add] at this
  exact hl.2.2 (i, v) this
section Rows
variable {z : Fx} {own : String} {cc : ByteArray} {gw : List Cond} {kc ks pc : Nat} {A : PH → Prop} {L : List (Option Value)} {st : List Value} {w : Wd} {y : MethodName} {rt : Option FieldType} {fr lo : Nat} {P : Option Value → PH → Prop}
theorem Ct.end_ (E : Ct z w gw y rt fr lo P) {r : Option Value} {H : Heap} {locs : List Loc} (hp : hpA z.D z.cl z.base A H) (hS : va_S (fun q : Nat => z.base ≤ q) z.s.heap H locs) (g : ∀ h, A h → P r h) : ∀ t : State, t.heap = H → z.s.WarmedH t.vm → Qz w P z.args z.s (.returned r) t := by
  obtain ⟨e1, e2, e3, e4, e5, -⟩ := E
  intro t ht _
  rw [e2, e3, e5] at hp
  rw [e5] at hS
  obtain ⟨h, hA, hp⟩ := hp
  exact ⟨⟨r, h, rfl, g h hA, by rw [ht]; exact hp⟩, hS.F ht⟩
theorem x_iret (C : Cx z own cc gw) (E : Ct z w gw y (some .int) fr lo P) (d : decode cc pc = .ok (.ireturn, 1)) {v : Int32} (g : ∀ h, A h → P (some (.int v)) h) : X z kc ks A pc L [.int v] := by
  intro H locs ls cells slots hp hS hl c1 c2
  refine W.widen (k := z.mc) (n := z.ms) (by omega) (by omega) ?_
  have hq := E.end_ hp hS g
  obtain ⟨-, -, -, -, e5, -, -, e8, e9, -, -, e12⟩ := E
  rw [e12]
  refine W.iret C.x C.b e8 hq (fun q hq => ?_) d e9
  have := hS.2.2 q hq
  rw [e5] at this
  exact this
theorem x_zret (C : Cx z own cc gw) (E : Ct z w gw y (some .boolean) fr lo P) (d : decode cc pc = .ok (.ireturn, 1)) {v : Int32} (hn : narrow .boolean (.int v) = .int v) (g : ∀ h, A h → P (some (.int v)) h) : X z kc ks A pc L [.int v] := by
  intro H locs ls cells slots hp hS hl c1 c2
  refine W.widen (k := z.mc) (n := z.ms) (by omega) (by omega) ?_
  have hq := E.end_ hp hS g
  obtain ⟨-, -, -, -, e5, -, -, e8, e9, -, -, e12⟩ := E
  rw [e12]
  refine W.zret C.x C.b e8 hn hq (fun q hq => ?_) d e9
  have := hS.2.2 q hq
  rw [e5] at this
  exact this
theorem x_lret (C : Cx z own cc gw) (E : Ct z w gw y (some .long) fr lo P) (d : decode cc pc = .ok (.lreturn, 1)) {v : Int64} (g : ∀ h, A h → P (some (.long v)) h) : X z kc ks A pc L [.long v] := by
  intro H locs ls cells slots hp hS hl c1 c2
  refine W.widen (k := z.mc) (n := z.ms) (by omega) (by omega) ?_
  have hq := E.end_ hp hS g
  obtain ⟨-, -, -, -, e5, -, -, e8, e9, -, -, e12⟩ := E
  rw [e12]
  refine W.lret C.x C.b e8 hq (fun q hq => ?_) d e9
  have := hS.2.2 q hq
  rw [e5] at this
  exact this
theorem x_vret (C : Cx z own cc gw) (E : Ct z w gw y none fr lo P) (d : decode cc pc = .ok (.return_, 1)) (g : ∀ h, A h → P none h) : X z kc ks A pc L [] := by
  intro H locs ls cells slots hp hS hl c1 c2
  refine W.widen (k := z.mc) (n := z.ms) (by omega) (by omega) ?_
  have hq := E.end_ hp hS g
  obtain ⟨-, -, -, -, e5, -, -, e8, e9, -, -, e12⟩ := E
  rw [e12]
  refine W.vret C.x C.b e8 hq (fun q hq => ?_) d e9
  have := hS.2.2 q hq
  rw [e5] at this
  exact this
theorem x_aret (C : Cx z own cc gw) {ft : FieldType} (E : Ct z w gw y (some ft) fr lo P) (hft : (∃ n, ft = .object n) ∨ ∃ t, ft = .array t) (d : decode cc pc = .ok (.areturn, 1)) {v : Value} (hv : v = .null ∨ ∃ a, v = .ref a) (g : ∀ h, A h → P (some v) h) : X z kc ks A pc L [v] := by
  intro H locs ls cells slots hp hS hl c1 c2
  refine W.widen (k := z.mc) (n := z.ms) (by omega) (by omega) ?_
  have hq := E.end_ hp hS g
  obtain ⟨-, -, -, -, e5, -, -, e8, e9, -, -, e12⟩ := E
  rw [e12]
  refine W.aret C.x C.b e8 hft hv hq (fun q hq => ?_) d e9
  have := hS.2.2 q hq
  rw [e5] at this
  exact this
/-- what the words say of a method: its code, that it is made and started, how many parameters -/
def Md (gw : List Cond) (y : MethodName) (cc : ByteArray) (n : Nat) (rt : Option FieldType) (k : Nat) : Prop := Cond.code y cc n rt ∈ gw ∧ Cond.initialized y.cls ∈ gw ∧ (y.cls ≠ "java/lang/invoke/MethodHandle" ∧ y.cls ≠ "java/lang/invoke/VarHandle" ∧ (parseMethodDescriptor y.desc).map (fun d => d.parameters.length) = some k)
def Gd (gw : List Cond) : Prop := ∀ w ∈ gw, goodWord w = true
theorem Gd.in (hg : Gd gw) {c : Cond} (hc : c ∈ gw) : GoodIn gw (c :: gw) := by
  intro w hw
  rcases List.mem_cons.mp hw with e | e
  · subst e
    exact ⟨hc, good_of_word (hg _ hc)⟩
  · exact ⟨e, good_of_word (hg _ e)⟩
theorem pz_of (E : Ct z w gw y rt fr lo P) (C : Cx z own cc gw) (hw : w.ok) {as : List Value} {H : Heap} {locs : List Loc} (hp : hpA z.D z.cl z.base A H) (hS : va_S (fun q : Nat => z.base ≤ q) z.s.heap H locs) : ∀ U : State, U.heap = H → z.s.WarmedH U.vm → Pz w as A as.toArray U := by
  intro U hU hW
  have hK := C.K
  have hb := C.2.2.2.2.2.2.1
  obtain ⟨e1, e2, e3, e4, e5, -, -, -, -, -, e11, -⟩ := E
  rw [e2, e3, e4] at hK
  rw [e2, e3, e5] at hp
  rw [e5] at hS hb
  refine ⟨rfl, by rw [hU]; exact Nat.le_trans hb hS.1, va_K.moved hW.alike hK, ?_, by rw [hU]; exact hp⟩
  rw [hU]
  exact hw.1 z.s U z.s.heap H hW (fun q h1 h2 => hS.2.1 q h1 h2) e11
/-- behind a call -/
theorem x_back (E : Ct z w gw y rt fr lo P) {P' : Option Value → PH → Prop} {mc' ms' : Nat} {H : Heap} {locs : List Loc} {ls : Array Slot} {cells slots : Nat} {a : Array Value} {st0 : List Value}
    (hr : va_Run z.p z.l z.e z.R z.s z.m z.args z.below z.meth z.c H locs cells slots mc' ms' (F0 z.m pc ls st0) st (Qz w P' a) w.A)
    (hS : va_S (fun q : Nat => z.base ≤ q) z.s.heap H locs) (hl : lx z L ls) (c1 : cells + (kc + mc') ≤ z.mc) (c2 : slots + (ks + ms') ≤ z.ms)
    (k : ∀ r : Option Value, X z kc ks (P' r) (pc + 3) L (r.toList ++ st)) : Wz z H locs cells slots (F0 z.m pc ls st0) := by
  obtain ⟨e1, e2, e3, e4, e5, -⟩ := E
  intro S hSt XS
  obtain ⟨v, st₀, t, T', L', h0, X', hL, g1, g2, ⟨⟨r, h', hv, hP, hb⟩, hz, hk⟩, go⟩ := hr S hSt XS
  cases hv
  rw [← e2, ← e3, ← e5] at hb
  obtain ⟨t2, a1, b1⟩ := k v T'.heap (locs ++ L') ls (cells + mc') (slots + ms') ⟨h', hP, by rw [g1]; exact hb⟩ (by
    refine ⟨Nat.le_trans hS.1 (by rw [g1, ← h0]; exact hz), fun q h1 h2 => ?_, fun q hq => ?_⟩
    · have h3 : q < H.size := Nat.lt_of_lt_of_le h1 hS.1
      rw [← h0] at h3
      rw [g1, hk q h3 (by show ¬ w.base ≤ q; rw [← e5]; exact h2), h0]
      exact hS.2.1 q h1 h2
    · rcases List.mem_append.mp hq with h1 | h1
      · exact hS.2.2 q h1
      · have := hL q h1
        rw [e5]
        exact this) hl (by omega) (by omega) T' rfl X'
  exact ⟨t2, go t2 a1, b1⟩
theorem x_callV (C : Cx z own cc gw) (E : Ct z w gw y rt fr lo P) (hw : w.ok) (hg : Gd gw) {y' : MethodName} {cc' : ByteArray} {n' np ci index fr' lo' mc' ms' b : Nat} {rt' : Option FieldType} {As fs stk : List Value} {Tu : u_T} {N : Nat} {P' : Option Value → PH → Prop}
    (M : T w gw y' cc' n' rt' fr' lo' mc' ms' (.ref b :: As) A P') (md : Md gw y' cc' n' rt' np) (wi : Cond.instanceMethod y' ∈ gw) (wse : Cond.selects y'.cls y' y' ∈ gw) (wl : Cond.methodLink own index y' ∈ gw) (d : decode cc pc = .ok (.invokevirtual index, 3)) (hn : As.length = np) (hf : fr' + 1 ≤ fr) (hlo : 8 + (n' + 11) + lo' ≤ lo)
    (gb : ∀ h, A h → h b = some (.inr (ci, fs))) (hcl : z.cl[ci]? = some (y'.cls, Tu, N)) (hs : stk = As.reverse ++ .ref b :: st) (hcat : (st.map fun v => v.category).sum ≤ 8)
    (k : ∀ r : Option Value, X z kc ks (P' r) (pc + 3) L (r.toList ++ st)) : X z (kc + mc') (ks + ms') A pc L stk := by
  intro H locs ls cells slots hp hS hl c1 c2
  subst hs
  have E' := E
  obtain ⟨e1, e2, e3, e4, e5, e6, e7, -⟩ := E'
  obtain ⟨m1, m2, m3, m4, m5⟩ := md
  have hb := callB_of (own := own) (index := index) (R := z.R) (s := z.s) (args := z.args) (bytes := cc') (maxL := n') (ret := rt') (rm := { frames := fr', cells := mc', slots := ms', locals := lo' }) (ws := Cond.code y' cc' n' rt' :: gw) np C.ts (hg.in m1) rfl rfl rfl (C.ts _ m2) (C.ts _ wl) ⟨m3, m4, m5⟩ ⟨by rw [e6]; exact hf, by rw [e7]; exact hlo⟩
  have hr1 := C.rc
  have hr2 := C.rs
  have hp' := hp
  obtain ⟨h, hA, LP, f0, q1, q2, q3⟩ := hp'
  obtain ⟨q0, hq0⟩ := hp_get (D := z.D) (cl := z.cl) (base := z.base) (H := H) q1 (gb h hA)
  have hM : Met z.l y' (Cond.code y' cc' n' rt' :: gw) ({ frames := fr', cells := mc', slots := ms', locals := lo' }) (Pz w (.ref b :: As) A) (Qz w P') mc' ms' w.A := by rw [e1]; exact M
  have hrun := va_runV (b := b) (As := As) (rest := st) (g := F0 z.m pc ls (As.reverse ++ .ref b :: st)) (p := z.p) (e := z.e) (below := z.below) (meth := z.meth) (H := H) (locs := locs) (cells := cells) (slots := slots) (C := y'.cls) ⟨C.x, C.b, C.ml, C.ow, C.ts⟩ hM ⟨hb, C.ts _ wi, C.ts _ wse⟩ ⟨Pz.blind hw, va_recv C.K q2 hcl hq0, pz_of E C hw hp hS⟩ rfl hn hl.1 rfl (lv_room hcat) d ⟨by omega, by omega⟩
  exact x_back E hrun hS hl c1 c2 k
theorem x_callVN (C : Cx z own cc gw) (E : Ct z w gw y rt fr lo P) (hw : w.ok) (hg : Gd gw) {host : String} {y' : MethodName} {cc' : ByteArray} {n' np ci index fr' lo' mc' ms' b : Nat} {rt' : Option FieldType} {As fs stk : List Value} {Tu : u_T} {N : Nat} {P' : Option Value → PH → Prop}
    (M : T w gw y' cc' n' rt' fr' lo' mc' ms' (.ref b :: As) A P') (md : Md gw y' cc' n' rt' np) (wi : Cond.instanceMethod y' ∈ gw) (wse : Cond.selects y'.cls y' y' ∈ gw) (wl : va_Nw (.methodLinkNest own index y' host) z.s) (d : decode cc pc = .ok (.invokevirtual index, 3)) (hn : As.length = np) (hf : fr' + 1 ≤ fr) (hlo : 8 + (n' + 11) + lo' ≤ lo)
    (gb : ∀ h, A h → h b = some (.inr (ci, fs))) (hcl : z.cl[ci]? = some (y'.cls, Tu, N)) (hs : stk = As.reverse ++ .ref b :: st) (hcat : (st.map fun v => v.category).sum ≤ 8)
    (k : ∀ r : Option Value, X z kc ks (P' r) (pc + 3) L (r.toList ++ st)) : X z (kc + mc') (ks + ms') A pc L stk := by
  intro H locs ls cells slots hp hS hl c1 c2
  subst hs
  have E' := E
  obtain ⟨e1, e2, e3, e4, e5, e6, e7, -⟩ := E'
  obtain ⟨m1, m2, m3, m4, m5⟩ := md
  have hb := va_cnB (own := own) (index := index) (host := host) (R := z.R) (s := z.s) (args := z.args) (bytes := cc') (maxL := n') (ret := rt') (rm := { frames := fr', cells := mc', slots := ms', locals := lo' }) (ws := Cond.code y' cc' n' rt' :: gw) np C.ts (hg.in m1) rfl rfl rfl wl (C.ts _ m2) ⟨m3, m4, m5⟩ ⟨by rw [e6]; exact hf, by rw [e7]; exact hlo⟩
  have hr1 := C.rc
  have hr2 := C.rs
  have hp' := hp
  obtain ⟨h, hA, LP, f0, q1, q2, q3⟩ := hp'
  obtain ⟨q0, hq0⟩ := hp_get (D := z.D) (cl := z.cl) (base := z.base) (H := H) q1 (gb h hA)
  have hM : Met z.l y' (Cond.code y' cc' n' rt' :: gw) ({ frames := fr', cells := mc', slots := ms', locals := lo' }) (Pz w (.ref b :: As) A) (Qz w P') mc' ms' w.A := by rw [e1]; exact M
  have hrun := va_runVN (b := b) (As := As) (rest := st) (g := F0 z.m pc ls (As.reverse ++ .ref b :: st)) (p := z.p) (e := z.e) (below := z.below) (meth := z.meth) (H := H) (locs := locs) (cells := cells) (slots := slots) (C := y'.cls) ⟨C.x, C.b, C.ml, C.ow, C.ts⟩ hM ⟨hb, C.ts _ wi, C.ts _ wse⟩ ⟨Pz.blind hw, va_recv C.K q2 hcl hq0, pz_of E C hw hp hS⟩ rfl hn hl.1 rfl (lv_room hcat) d ⟨by omega, by omega⟩
  exact x_back E hrun hS hl c1 c2 k
theorem x_callS (C : Cx z own cc gw) (E : Ct z w gw y rt fr lo P) (hw : w.ok) (hg : Gd gw) {y' : MethodName} {cc' : ByteArray} {n' np index fr' lo' mc' ms' : Nat} {rt' : Option FieldType} {As stk : List Value} {P' : Option Value → PH → Prop}
    (M : T w gw y' cc' n' rt' fr' lo' mc' ms' As A P') (md : Md gw y' cc' n' rt' np) (wst : Cond.static y' ∈ gw) (wl : Cond.methodLink own index y' ∈ gw) (d : decode cc pc = .ok (.invokestatic index, 3)) (hn : As.length = np) (hf : fr' + 1 ≤ fr) (hlo : 8 + (n' + 11) + lo' ≤ lo)
    (hs : stk = As.reverse ++ st) (hcat : (st.map fun v => v.category).sum ≤ 8)
    (k : ∀ r : Option Value, X z kc ks (P' r) (pc + 3) L (r.toList ++ st)) : X z (kc + mc') (ks + ms') A pc L stk := by
  intro H locs ls cells slots hp hS hl c1 c2
  subst hs
  have E' := E
  obtain ⟨e1, e2, e3, e4, e5, e6, e7, -⟩ := E'
  obtain ⟨m1, m2, m3, m4, m5⟩ := md
  have hb := callB_of (own := own) (index := index) (R := z.R) (s := z.s) (args := z.args) (bytes := cc') (maxL := n') (ret := rt') (rm := { frames := fr', cells := mc', slots := ms', locals := lo' }) (ws := Cond.code y' cc' n' rt' :: gw) np C.ts (hg.in m1) rfl rfl rfl (C.ts _ m2) (C.ts _ wl) ⟨m3, m4, m5⟩ ⟨by rw [e6]; exact hf, by rw [e7]; exact hlo⟩
  have hr1 := C.rc
  have hr2 := C.rs
  have hM : Met z.l y' (Cond.code y' cc' n' rt' :: gw) ({ frames := fr', cells := mc', slots := ms', locals := lo' }) (Pz w As A) (Qz w P') mc' ms' w.A := by rw [e1]; exact M
  have hrun := va_runS (As := As) (rest := st) (g := F0 z.m pc ls (As.reverse ++ st)) (p := z.p) (e := z.e) (below := z.below) (meth := z.meth) (H := H) (locs := locs) (cells := cells) (slots := slots) ⟨C.x, C.b, C.ml, C.ow, C.ts⟩ hM ⟨hb, C.ts _ wst⟩ ⟨Pz.blind hw, pz_of E C hw hp hS⟩ rfl hn hl.1 rfl (lv_room hcat) d ⟨by omega, by omega⟩
  exact x_back E hrun hS hl c1 c2 k
theorem x_callSN (C : Cx z own cc gw) (E : Ct z w gw y rt fr lo P) (hw : w.ok) (hg : Gd gw) {host : String} {y' : MethodName} {cc' : ByteArray} {n' np index fr' lo' mc' ms' : Nat} {rt' : Option FieldType} {As stk : List Value} {P' : Option Value → PH → Prop}
    (M : T w gw y' cc' n' rt' fr' lo' mc' ms' As A P') (md : Md gw y' cc' n' rt' np) (wst : Cond.static y' ∈ gw) (wl : va_Nw (.methodLinkNest own index y' host) z.s) (d : decode cc pc = .ok (.invokestatic index, 3)) (hn : As.length = np) (hf : fr' + 1 ≤ fr) (hlo : 8 + (n' + 11) + lo' ≤ lo)
    (hs : stk = As.reverse ++ st) (hcat : (st.map fun v => v.category).sum ≤ 8)
    (k : ∀ r : Option Value, X z kc ks (P' r) (pc + 3) L (r.toList ++ st)) : X z (kc + mc') (ks + ms') A pc L stk := by
  intro H locs ls cells slots hp hS hl c1 c2
  subst hs
  have E' := E
  obtain ⟨e1, e2, e3, e4, e5, e6, e7, -⟩ := E'
  obtain ⟨m1, m2, m3, m4, m5⟩ := md
  have hb := va_cnB (own := own) (index := index) (host := host) (R := z.R) (s := z.s) (args := z.args) (bytes := cc') (maxL := n') (ret := rt') (rm := { frames := fr', cells := mc', slots := ms', locals := lo' }) (ws := Cond.code y' cc' n' rt' :: gw) np C.ts (hg.in m1) rfl rfl rfl wl (C.ts _ m2) ⟨m3, m4, m5⟩ ⟨by rw [e6]; exact hf, by rw [e7]; exact hlo⟩
  have hr1 := C.rc
  have hr2 := C.rs
  have hM : Met z.l y' (Cond.code y' cc' n' rt' :: gw) ({ frames := fr', cells := mc', slots := ms', locals := lo' }) (Pz w As A) (Qz w P') mc' ms' w.A := by rw [e1]; exact M
  have hrun := va_runSN (As := As) (rest := st) (g := F0 z.m pc ls (As.reverse ++ st)) (p := z.p) (e := z.e) (below := z.below) (meth := z.meth) (H := H) (locs := locs) (cells := cells) (slots := slots) ⟨C.x, C.b, C.ml, C.ow, C.ts⟩ hM ⟨hb, C.ts _ wst, True.intro⟩ ⟨Pz.blind hw, pz_of E C hw hp hS⟩ rfl hn hl.1 rfl (lv_room hcat) d ⟨by omega, by omega⟩
  exact x_back E hrun hS hl c1 c2 k
theorem x_callI (C : Cx z own cc gw) (E : Ct z w gw y rt fr lo P) (hw : w.ok) (hg : Gd gw) {y' : MethodName} {cc' : ByteArray} {n' np index fr' lo' mc' ms' b : Nat} {As stk : List Value} {P' : Option Value → PH → Prop}
    (M : T w gw y' cc' n' none fr' lo' mc' ms' (.ref b :: As) A P') (md : Md gw y' cc' n' none np) (hy : y'.name = "<init>") (wi : Cond.instanceMethod y' ∈ gw) (wl : Cond.methodLink own index y' ∈ gw) (d : decode cc pc = .ok (.invokespecial index, 3)) (hn : As.length = np) (hf : fr' + 1 ≤ fr) (hlo : 8 + (n' + 11) + lo' ≤ lo)
    (hs : stk = As.reverse ++ .ref b :: st) (hcat : (st.map fun v => v.category).sum ≤ 8)
    (k : ∀ r : Option Value, X z kc ks (P' r) (pc + 3) L (r.toList ++ st)) : X z (kc + mc') (ks + ms') A pc L stk := by
  intro H locs ls cells slots hp hS hl c1 c2
  subst hs
  have E' := E
  obtain ⟨e1, e2, e3, e4, e5, e6, e7, -⟩ := E'
  obtain ⟨m1, m2, m3, m4, m5⟩ := md
  have hb := callB_of (own := own) (index := index) (R := z.R) (s := z.s) (args := z.args) (bytes := cc') (maxL := n') (ret := none) (rm := { frames := fr', cells := mc', slots := ms', locals := lo' }) (ws := Cond.code y' cc' n' none :: gw) np C.ts (hg.in m1) rfl rfl rfl (C.ts _ m2) (C.ts _ wl) ⟨m3, m4, m5⟩ ⟨by rw [e6]; exact hf, by rw [e7]; exact hlo⟩
  have hr1 := C.rc
  have hr2 := C.rs
  have hM : Met z.l y' (Cond.code y' cc' n' none :: gw) ({ frames := fr', cells := mc', slots := ms', locals := lo' }) (Pz w (.ref b :: As) A) (Qz w P') mc' ms' w.A := by rw [e1]; exact M
  have hrun := va_runI (b := b) (As := As) (rest := st) (g := F0 z.m pc ls (As.reverse ++ .ref b :: st)) (p := z.p) (e := z.e) (below := z.below) (meth := z.meth) (H := H) (locs := locs) (cells := cells) (slots := slots) ⟨C.x, C.b, C.ml, C.ow, C.ts⟩ hM ⟨hb, hy, C.ts _ wi⟩ ⟨Pz.blind hw, pz_of E C hw hp hS⟩ rfl hn hl.1 rfl (lv_room hcat) d ⟨by omega, by omega⟩
  exact x_back E hrun hS hl c1 c2 k
theorem x_callIN (C : Cx z own cc gw) (E : Ct z w gw y rt fr lo P) (hw : w.ok) (hg : Gd gw) {host : String} {y' : MethodName} {cc' : ByteArray} {n' np index fr' lo' mc' ms' b : Nat} {As stk : List Value} {P' : Option Value → PH → Prop}
    (M : T w gw y' cc' n' none fr' lo' mc' ms' (.ref b :: As) A P') (md : Md gw y' cc' n' none np) (hy : y'.name = "<init>") (wi : Cond.instanceMethod y' ∈ gw) (wl : va_Nw (.methodLinkNest own index y' host) z.s) (d : decode cc pc = .ok (.invokespecial index, 3)) (hn : As.length = np) (hf : fr' + 1 ≤ fr) (hlo : 8 + (n' + 11) + lo' ≤ lo)
    (hs : stk = As.reverse ++ .ref b :: st) (hcat : (st.map fun v => v.category).sum ≤ 8)
    (k : ∀ r : Option Value, X z kc ks (P' r) (pc + 3) L (r.toList ++ st)) : X z (kc + mc') (ks + ms') A pc L stk := by
  intro H locs ls cells slots hp hS hl c1 c2
  subst hs
  have E' := E
  obtain ⟨e1, e2, e3, e4, e5, e6, e7, -⟩ := E'
  obtain ⟨m1, m2, m3, m4, m5⟩ := md
  have hb := va_cnB (own := own) (index := index) (host := host) (R := z.R) (s := z.s) (args := z.args) (bytes := cc') (maxL := n') (ret := none) (rm := { frames := fr', cells := mc', slots := ms', locals := lo' }) (ws := Cond.code y' cc' n' none :: gw) np C.ts (hg.in m1) rfl rfl rfl wl (C.ts _ m2) ⟨m3, m4, m5⟩ ⟨by rw [e6]; exact hf, by rw [e7]; exact hlo⟩
  have hr1 := C.rc
  have hr2 := C.rs
  have hM : Met z.l y' (Cond.code y' cc' n' none :: gw) ({ frames := fr', cells := mc', slots := ms', locals := lo' }) (Pz w (.ref b :: As) A) (Qz w P') mc' ms' w.A := by rw [e1]; exact M
  have hrun := va_runIN (b := b) (As := As) (rest := st) (g := F0 z.m pc ls (As.reverse ++ .ref b :: st)) (p := z.p) (e := z.e) (below := z.below) (meth := z.meth) (H := H) (locs := locs) (cells := cells) (slots := slots) ⟨C.x, C.b, C.ml, C.ow, C.ts⟩ hM ⟨hb, hy, C.ts _ wi⟩ ⟨Pz.blind hw, pz_of E C hw hp hS⟩ rfl hn hl.1 rfl (lv_room hcat) d ⟨by omega, by omega⟩
  exact x_back E hrun hS hl c1 c2 k
end Rows
