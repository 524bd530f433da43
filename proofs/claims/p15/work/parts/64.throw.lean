/-! Contracts of methods that throw, and calls out of them. -/
/-- where it throws E, the heap is as XP E says (the thrown cell is not told) -/
def Xz (w : Wd) (XP : String → PH → Prop) : String → State → State → Prop := fun E st t => (∃ h' : PH, XP E h' ∧ hp_in w.D w.cl w.base h' t.heap) ∧ va_F w.A st t
def TX (w : Wd) (gw : List Cond) (y : MethodName) (cc : ByteArray) (n : Nat) (rt : Option FieldType) (fr lo mc ms : Nat) (as : List Value) (A : PH → Prop) (P : Option Value → PH → Prop) (XP : String → PH → Prop) : Prop :=
  vx_Met w.l y (Cond.code y cc n rt :: gw) ({ frames := fr, cells := mc, slots := ms, locals := lo }) (Pz w as A) (Qz w P) (Xz w XP) mc ms w.A
/-- what a call needs to know of the frame -/
def Cs (z : Fx) (w : Wd) (fr lo : Nat) : Prop := z.l = w.l ∧ z.D = w.D ∧ z.cl = w.cl ∧ z.tys = w.tys ∧ z.base = w.base ∧ z.R.frames = fr ∧ z.R.locals = lo ∧ w.G z.s z.s.heap
/-- a method that may throw -/
def Cu (z : Fx) (w : Wd) (y : MethodName) (rt : Option FieldType) (fr lo : Nat) (P : Option Value → PH → Prop) (XP : String → PH → Prop) : Prop :=
  Cs z w fr lo ∧ z.meth.sig.returnType = rt ∧ z.meth.locks = false ∧ z.meth.name = y.name ∧ (∀ x ∈ z.c.exceptionTable.toList, False) ∧ z.Q = vx_MQ z.below (Qz w P) (Xz w XP) z.args z.s z.mc z.ms w.A
theorem TX.intro {w : Wd} {gw : List Cond} {y : MethodName} {cc : ByteArray} {n : Nat} {rt : Option FieldType} {fr lo mc ms : Nat} {as : List Value} {A : PH → Prop} {P : Option Value → PH → Prop} {XP : String → PH → Prop} (hy : plainName y.cls = true) (hlen : (lg_sl as).length ≤ n)
    (k : ∀ z : Fx, Cx z y.cls cc gw → Cu z w y rt fr lo P XP → z.nL = n → X z mc ms A 0 (lent n as) []) : TX w gw y cc n rt fr lo mc ms as A P XP := by
  refine vx_ofW (cc := cc) (maxL := n) (ret := rt) hy rfl ?_
  intro p e s m args below meth c s₁ B hml htab hv
  obtain ⟨rfl, hv2, hv3, hv4, hv5⟩ := hv
  have hts := atoms_spec (ws := Cond.code y cc n rt :: gw) B.pre
  have hl := lv_entry as (n := n) hlen
  rw [lg_entry_eq]
  generalize (lg_sl as ++ List.replicate (n - (lg_sl as).length) Slot.unset).toArray = ls at hl ⊢
  have K := k ((p, w.l, e, ({ frames := fr, cells := mc, slots := ms, locals := lo } : Room), s), (m, as.toArray, below, meth, c), (w.D, w.cl, w.tys, w.base), (n, mc, ms), vx_MQ below (Qz w P) (Xz w XP) as.toArray s mc ms w.A)
    ⟨B.exec, B.bytes, hml, findClass_of_methodNamed B.named, fun q hq => hts q (List.mem_cons_of_mem _ hq), hv3, hv2, Nat.le_refl _, Nat.le_refl _⟩
    ⟨⟨rfl, rfl, rfl, rfl, rfl, rfl, rfl, hv4⟩, B.returns, B.notSynchronized, (name_of_methodNamed B.named B.method).1, htab, rfl⟩ rfl
  refine K s.heap [] ls 0 0 hv5 va_S.rf ⟨hl.1, hl.2.1, fun i v g => ?_⟩ (by simp [Fx.mc]) (by simp [Fx.ms])
  have := lent_get (k := 0) g
  rw [Nat.zero_add] at this
  exact hl.2.2 (i, v) this
section Rows
variable {z : Fx} {own : String} {cc : ByteArray} {gw : List Cond} {kc ks pc : Nat} {A : PH → Prop} {L : List (Option Value)} {st : List Value} {w : Wd} {y : MethodName} {rt : Option FieldType} {fr lo : Nat} {P : Option Value → PH → Prop} {XP : String → PH → Prop}
theorem Ct.cs (E : Ct z w gw y rt fr lo P) : Cs z w fr lo := by
  obtain ⟨e1, e2, e3, e4, e5, e6, e7, -, -, -, e11, -⟩ := E
  exact ⟨e1, e2, e3, e4, e5, e6, e7, e11⟩
/-- from here on it does not throw -/
theorem Cu.norm (C : Cx z own cc gw) (E : Cu z w y rt fr lo P XP) (k : ∀ z' : Fx, Cx z' own cc gw → Ct z' w gw y rt fr lo P → z'.cl = z.cl → z'.tys = z.tys → z'.nL = z.nL → z'.s = z.s → X z' kc ks A pc L st) : X z kc ks A pc L st := by
  intro H locs ls cells slots hp hS hl c1 c2
  obtain ⟨⟨e1, e2, e3, e4, e5, e6, e7, e8⟩, f1, f2, f3, f4, f5⟩ := E
  have K := k (z.1, z.2.1, z.2.2.1, z.2.2.2.1, MQ z.below (Qz w P) z.args z.s z.mc z.ms w.A) C ⟨e1, e2, e3, e4, e5, e6, e7, f1, f2, f3, e8, rfl⟩ rfl rfl rfl rfl H locs ls cells slots hp hS hl c1 c2
  show W z.p z.l z.e z.R z.s z.m z.args z.below z.meth z.c H locs cells slots z.Q (F0 z.m pc ls st)
  rw [f5]
  exact vx_ret K
/-- 'throw new E("text")' -/
theorem u_throwS (C : Cx z own cc gw) (E : Cu z w y rt fr lo P XP) (hlt : w.l.stackTraces = false) {cls text : String} {names : List String} {ik is ic sa : Nat} (hcls : Bundle.fit cls = true) (hnames : ∀ n ∈ names, Bundle.fit n = true) (wk : Cond.classLink own ik cls ∈ gw) (wi : Cond.initialized cls ∈ gw) (hstr : vk_R own is text sa z.s)
    (hat : ∀ w ∈ vx_atS own ic cls names, w.before z.args z.s = true) (hgood : ∀ w ∈ Cond.classLink own ik cls :: Cond.initialized cls :: vx_atS own ic cls names, vx_ot w = true)
    (hU : vx_Zq Bundle.tN "UNASSIGNED_STACK" Bundle.steD (fun q : Nat => z.base ≤ q) z.s z.s.heap) (hN : vx_Zq Bundle.tN "SUPPRESSED_SENTINEL" Bundle.listD (fun q : Nat => z.base ≤ q) z.s z.s.heap)
    (d0 : decode cc pc = .ok (.new ik, 3)) (d3 : decode cc (pc + 3) = .ok (.dup, 1)) (d4 : decode cc (pc + 4) = .ok (.ldc is, 2)) (d6 : decode cc (pc + 6) = .ok (.invokespecial ic, 3)) (d9 : decode cc (pc + 9) = .ok (.athrow, 1))
    (hfr : names.length + 3 < fr) (hlo : (st.map fun v => v.category).sum + (13 * (names.length + 1) + 43) ≤ lo) (hx : ∀ h, A h → XP cls h) : X z (kc + 1) (ks + 6) A pc L st := by
  intro H locs ls cells slots hp hS hl c1 c2
  obtain ⟨⟨e1, e2, e3, e4, e5, e6, e7, e8⟩, f1, f2, f3, f4, f5⟩ := E
  have r1 := C.rc
  have r2 := C.rs
  show W z.p z.l z.e z.R z.s z.m z.args z.below z.meth z.c H locs cells slots z.Q (F0 z.m pc ls st)
  rw [f5]
  refine vx_throwS (rest := st) (mc := z.mc) (ms := z.ms) C.x C.b (by rw [e1]; exact hlt) C.ow hcls hnames (C.ts _ wk) (C.ts _ wi) hstr hat hgood hU hN hS (hl.1.trans C.ml.symm) d0 d3 d4 d6 d9 (fun x hx => (f4 x hx).elim) (by rw [e6]; exact hfr) (by rw [e7]; exact hlo) (by omega) (by omega) f2 (fun t ht h1 h2 => ?_) (fun q hq => by have := hS.2.2 q hq; rw [e5] at this; exact this) (by omega) (by omega)
  obtain ⟨h, hA, LP, f, q1, q2, q3⟩ := hp
  refine ⟨⟨h, hx h hA, ?_⟩, ?_⟩
  · rw [← e2, ← e3, ← e5]
    exact ⟨LP, f, q1, q2.kept (fun k q hq => h2 q.1 ((q2 k q hq).lt)), q3⟩
  · refine ⟨Nat.le_trans hS.1 h1, fun q g1 g2 => ?_⟩
    rw [h2 q (Nat.lt_of_lt_of_le g1 hS.1)]
    exact hS.2.1 q g1 (by rw [e5]; exact g2)
theorem kz_of (E : Cs z w fr lo) (C : Cx z own cc gw) (hw : w.ok) {as : List Value} {H : Heap} {locs : List Loc} (hp : hpA z.D z.cl z.base A H) (hS : va_S (fun q : Nat => z.base ≤ q) z.s.heap H locs) : ∀ U : State, U.heap = H → z.s.WarmedH U.vm → Pz w as A as.toArray U := by
  intro U hU hW
  have hK := C.K
  have hb := C.2.2.2.2.2.2.1
  obtain ⟨e1, e2, e3, e4, e5, -, -, e11⟩ := E
  rw [e2, e3, e4] at hK
  rw [e2, e3, e5] at hp
  rw [e5] at hS hb
  refine ⟨rfl, by rw [hU]; exact Nat.le_trans hb hS.1, va_K.moved hW.alike hK, ?_, by rw [hU]; exact hp⟩
  rw [hU]
  exact hw.1 z.s U z.s.heap H hW (fun q h1 h2 => hS.2.1 q h1 h2) e11
/-- behind a call -/
theorem k_back (E : Cs z w fr lo) {P' : Option Value → PH → Prop} {mc' ms' : Nat} {H : Heap} {locs : List Loc} {ls : Array Slot} {cells slots : Nat} {a : Array Value} {st0 : List Value}
    (hr : va_Run z.p z.l z.e z.R z.s z.m z.args z.below z.meth z.c H locs cells slots mc' ms' (F0 z.m pc ls st0) st (Qz w P' a) w.A)
    (hS : va_S (fun q : Nat => z.base ≤ q) z.s.heap H locs) (hl : lx z L ls) (c1 : cells + (kc + mc') ≤ z.mc) (c2 : slots + (ks + ms') ≤ z.ms)
    (k : ∀ r : Option Value, X z kc ks (P' r) (pc + 3) L (r.toList ++ st)) : Wz z H locs cells slots (F0 z.m pc ls st0) := by
  obtain ⟨e1, e2, e3, e4, e5, -⟩ := E
  intro S hSt XS
  obtain ⟨v, st₀, t, T', L', h0, X', hL, g1, g2, ⟨⟨r, h', hv, hP, hb⟩, hz, hk⟩, go⟩ := hr S hSt XS
  cases hv
  rw [← e2, ← e3, ← e5] at hb
  obtain ⟨t2, a1, b1⟩ := k v T'.heap (locs ++ L') ls (cells + mc') (slots + ms') ⟨h', hP, by rw [g1]; exact hb⟩ (by
    refine ⟨Nat.le_trans hS.1 (by rw [g1, ← h0]; exact hz), fun q h1 h2 => ?_, fun q hq => ?_⟩
    · have h3 : q < H.size := Nat.lt_of_lt_of_le h1 hS.1
      rw [← h0] at h3
      rw [g1, hk q h3 (by show ¬ w.base ≤ q; rw [← e5]; exact h2), h0]
      exact hS.2.1 q h1 h2
    · rcases List.mem_append.mp hq with h1 | h1
      · exact hS.2.2 q h1
      · have := hL q h1
        rw [e5]
        exact this) hl (by omega) (by omega) T' rfl X'
  exact ⟨t2, go t2 a1, b1⟩
theorem k_callV (C : Cx z own cc gw) (E : Cs z w fr lo) (hw : w.ok) (hg : Gd gw) {y' : MethodName} {cc' : ByteArray} {n' np ci index fr' lo' mc' ms' b : Nat} {rt' : Option FieldType} {As fs stk : List Value} {Tu : u_T} {N : Nat} {P' : Option Value → PH → Prop}
    (M : T w gw y' cc' n' rt' fr' lo' mc' ms' (.ref b :: As) A P') (md : Md gw y' cc' n' rt' np) (wi : Cond.instanceMethod y' ∈ gw) (wse : Cond.selects y'.cls y' y' ∈ gw) (wl : Cond.methodLink own index y' ∈ gw) (d : decode cc pc = .ok (.invokevirtual index, 3)) (hn : As.length = np) (hf : fr' + 1 ≤ fr) (hlo : 8 + (n' + 11) + lo' ≤ lo)
    (gb : ∀ h, A h → h b = some (.inr (ci, fs))) (hcl : z.cl[ci]? = some (y'.cls, Tu, N)) (hs : stk = As.reverse ++ .ref b :: st) (hcat : (st.map fun v => v.category).sum ≤ 8)
    (k : ∀ r : Option Value, X z kc ks (P' r) (pc + 3) L (r.toList ++ st)) : X z (kc + mc') (ks + ms') A pc L stk := by
  intro H locs ls cells slots hp hS hl c1 c2
  subst hs
  have E' := E
  obtain ⟨e1, e2, e3, e4, e5, e6, e7, -⟩ := E'
  obtain ⟨m1, m2, m3, m4, m5⟩ := md
  have hb := callB_of (own := own) (index := index) (R := z.R) (s := z.s) (args := z.args) (bytes := cc') (maxL := n') (ret := rt') (rm := { frames := fr', cells := mc', slots := ms', locals := lo' }) (ws := Cond.code y' cc' n' rt' :: gw) np C.ts (hg.in m1) rfl rfl rfl (C.ts _ m2) (C.ts _ wl) ⟨m3, m4, m5⟩ ⟨by rw [e6]; exact hf, by rw [e7]; exact hlo⟩
  have hr1 := C.rc
  have hr2 := C.rs
  have hp' := hp
  obtain ⟨h, hA, LP, f0, q1, q2, q3⟩ := hp'
  obtain ⟨q0, hq0⟩ := hp_get (D := z.D) (cl := z.cl) (base := z.base) (H := H) q1 (gb h hA)
  have hM : Met z.l y' (Cond.code y' cc' n' rt' :: gw) ({ frames := fr', cells := mc', slots := ms', locals := lo' }) (Pz w (.ref b :: As) A) (Qz w P') mc' ms' w.A := by rw [e1]; exact M
  have hrun := va_runV (b := b) (As := As) (rest := st) (g := F0 z.m pc ls (As.reverse ++ .ref b :: st)) (p := z.p) (e := z.e) (below := z.below) (meth := z.meth) (H := H) (locs := locs) (cells := cells) (slots := slots) (C := y'.cls) ⟨C.x, C.b, C.ml, C.ow, C.ts⟩ hM ⟨hb, C.ts _ wi, C.ts _ wse⟩ ⟨Pz.blind hw, va_recv C.K q2 hcl hq0, kz_of E C hw hp hS⟩ rfl hn hl.1 rfl (lv_room hcat) d ⟨by omega, by omega⟩
  exact k_back E hrun hS hl c1 c2 k
theorem k_callVN (C : Cx z own cc gw) (E : Cs z w fr lo) (hw : w.ok) (hg : Gd gw) {host : String} {y' : MethodName} {cc' : ByteArray} {n' np ci index fr' lo' mc' ms' b : Nat} {rt' : Option FieldType} {As fs stk : List Value} {Tu : u_T} {N : Nat} {P' : Option Value → PH → Prop}
    (M : T w gw y' cc' n' rt' fr' lo' mc' ms' (.ref b :: As) A P') (md : Md gw y' cc' n' rt' np) (wi : Cond.instanceMethod y' ∈ gw) (wse : Cond.selects y'.cls y' y' ∈ gw) (wl : va_Nw (.methodLinkNest own index y' host) z.s) (d : decode cc pc = .ok (.invokevirtual index, 3)) (hn : As.length = np) (hf : fr' + 1 ≤ fr) (hlo : 8 + (n' + 11) + lo' ≤ lo)
    (gb : ∀ h, A h → h b = some (.inr (ci, fs))) (hcl : z.cl[ci]? = some (y'.cls, Tu, N)) (hs : stk = As.reverse ++ .ref b :: st) (hcat : (st.map fun v => v.category).sum ≤ 8)
    (k : ∀ r : Option Value, X z kc ks (P' r) (pc + 3) L (r.toList ++ st)) : X z (kc + mc') (ks + ms') A pc L stk := by
  intro H locs ls cells slots hp hS hl c1 c2
  subst hs
  have E' := E
  obtain ⟨e1, e2, e3, e4, e5, e6, e7, -⟩ := E'
  obtain ⟨m1, m2, m3, m4, m5⟩ := md
  have hb := va_cnB (own := own) (index := index) (host := host) (R := z.R) (s := z.s) (args := z.args) (bytes := cc') (maxL := n') (ret := rt') (rm := { frames := fr', cells := mc', slots := ms', locals := lo' }) (ws := Cond.code y' cc' n' rt' :: gw) np C.ts (hg.in m1) rfl rfl rfl wl (C.ts _ m2) ⟨m3, m4, m5⟩ ⟨by rw [e6]; exact hf, by rw [e7]; exact hlo⟩
  have hr1 := C.rc
  have hr2 := C.rs
  have hp' := hp
  obtain ⟨h, hA, LP, f0, q1, q2, q3⟩ := hp'
  obtain ⟨q0, hq0⟩ := hp_get (D := z.D) (cl := z.cl) (base := z.base) (H := H) q1 (gb h hA)
  have hM : Met z.l y' (Cond.code y' cc' n' rt' :: gw) ({ frames := fr', cells := mc', slots := ms', locals := lo' }) (Pz w (.ref b :: As) A) (Qz w P') mc' ms' w.A := by rw [e1]; exact M
  have hrun := va_runVN (b := b) (As := As) (rest := st) (g := F0 z.m pc ls (As.reverse ++ .ref b :: st)) (p := z.p) (e := z.e) (below := z.below) (meth := z.meth) (H := H) (locs := locs) (cells := cells) (slots := slots) (C := y'.cls) ⟨C.x, C.b, C.ml, C.ow, C.ts⟩ hM ⟨hb, C.ts _ wi, C.ts _ wse⟩ ⟨Pz.blind hw, va_recv C.K q2 hcl hq0, kz_of E C hw hp hS⟩ rfl hn hl.1 rfl (lv_room hcat) d ⟨by omega, by omega⟩
  exact k_back E hrun hS hl c1 c2 k
theorem k_callS (C : Cx z own cc gw) (E : Cs z w fr lo) (hw : w.ok) (hg : Gd gw) {y' : MethodName} {cc' : ByteArray} {n' np index fr' lo' mc' ms' : Nat} {rt' : Option FieldType} {As stk : List Value} {P' : Option Value → PH → Prop}
    (M : T w gw y' cc' n' rt' fr' lo' mc' ms' As A P') (md : Md gw y' cc' n' rt' np) (wst : Cond.static y' ∈ gw) (wl : Cond.methodLink own index y' ∈ gw) (d : decode cc pc = .ok (.invokestatic index, 3)) (hn : As.length = np) (hf : fr' + 1 ≤ fr) (hlo : 8 + (n' + 11) + lo' ≤ lo)
    (hs : stk = As.reverse ++ st) (hcat : (st.map fun v => v.category).sum ≤ 8)
    (k : ∀ r : Option Value, X z kc ks (P' r) (pc + 3) L (r.toList ++ st)) : X z (kc + mc') (ks + ms') A pc L stk := by
  intro H locs ls cells slots hp hS hl c1 c2
  subst hs
  have E' := E
  obtain ⟨e1, e2, e3, e4, e5, e6, e7, -⟩ := E'
  obtain ⟨m1, m2, m3, m4, m5⟩ := md
  have hb := callB_of (own := own) (index := index) (R := z.R) (s := z.s) (args := z.args) (bytes := cc') (maxL := n') (ret := rt') (rm := { frames := fr', cells := mc', slots := ms', locals := lo' }) (ws := Cond.code y' cc' n' rt' :: gw) np C.ts (hg.in m1) rfl rfl rfl (C.ts _ m2) (C.ts _ wl) ⟨m3, m4, m5⟩ ⟨by rw [e6]; exact hf, by rw [e7]; exact hlo⟩
  have hr1 := C.rc
  have hr2 := C.rs
  have hM : Met z.l y' (Cond.code y' cc' n' rt' :: gw) ({ frames := fr', cells := mc', slots := ms', locals := lo' }) (Pz w As A) (Qz w P') mc' ms' w.A := by rw [e1]; exact M
  have hrun := va_runS (As := As) (rest := st) (g := F0 z.m pc ls (As.reverse ++ st)) (p := z.p) (e := z.e) (below := z.below) (meth := z.meth) (H := H) (locs := locs) (cells := cells) (slots := slots) ⟨C.x, C.b, C.ml, C.ow, C.ts⟩ hM ⟨hb, C.ts _ wst⟩ ⟨Pz.blind hw, kz_of E C hw hp hS⟩ rfl hn hl.1 rfl (lv_room hcat) d ⟨by omega, by omega⟩
  exact k_back E hrun hS hl c1 c2 k
theorem k_callSN (C : Cx z own cc gw) (E : Cs z w fr lo) (hw : w.ok) (hg : Gd gw) {host : String} {y' : MethodName} {cc' : ByteArray} {n' np index fr' lo' mc' ms' : Nat} {rt' : Option FieldType} {As stk : List Value} {P' : Option Value → PH → Prop}
    (M : T w gw y' cc' n' rt' fr' lo' mc' ms' As A P') (md : Md gw y' cc' n' rt' np) (wst : Cond.static y' ∈ gw) (wl : va_Nw (.methodLinkNest own index y' host) z.s) (d : decode cc pc = .ok (.invokestatic index, 3)) (hn : As.length = np) (hf : fr' + 1 ≤ fr) (hlo : 8 + (n' + 11) + lo' ≤ lo)
    (hs : stk = As.reverse ++ st) (hcat : (st.map fun v => v.category).sum ≤ 8)
    (k : ∀ r : Option Value, X z kc ks (P' r) (pc + 3) L (r.toList ++ st)) : X z (kc + mc') (ks + ms') A pc L stk := by
  intro H locs ls cells slots hp hS hl c1 c2
  subst hs
  have E' := E
  obtain ⟨e1, e2, e3, e4, e5, e6, e7, -⟩ := E'
  obtain ⟨m1, m2, m3, m4, m5⟩ := md
  have hb := va_cnB (own := own) (index := index) (host := host) (R := z.R) (s := z.s) (args := z.args) (bytes := cc') (maxL := n') (ret := rt') (rm := { frames := fr', cells := mc', slots := ms', locals := lo' }) (ws := Cond.code y' cc' n' rt' :: gw) np C.ts (hg.in m1) rfl rfl rfl wl (C.ts _ m2) ⟨m3, m4, m5⟩ ⟨by rw [e6]; exact hf, by rw [e7]; exact hlo⟩
  have hr1 := C.rc
  have hr2 := C.rs
  have hM : Met z.l y' (Cond.code y' cc' n' rt' :: gw) ({ frames := fr', cells := mc', slots := ms', locals := lo' }) (Pz w As A) (Qz w P') mc' ms' w.A := by rw [e1]; exact M
  have hrun := va_runSN (As := As) (rest := st) (g := F0 z.m pc ls (As.reverse ++ st)) (p := z.p) (e := z.e) (below := z.below) (meth := z.meth) (H := H) (locs := locs) (cells := cells) (slots := slots) ⟨C.x, C.b, C.ml, C.ow, C.ts⟩ hM ⟨hb, C.ts _ wst, True.intro⟩ ⟨Pz.blind hw, kz_of E C hw hp hS⟩ rfl hn hl.1 rfl (lv_room hcat) d ⟨by omega, by omega⟩
  exact k_back E hrun hS hl c1 c2 k
theorem k_callI (C : Cx z own cc gw) (E : Cs z w fr lo) (hw : w.ok) (hg : Gd gw) {y' : MethodName} {cc' : ByteArray} {n' np index fr' lo' mc' ms' b : Nat} {As stk : List Value} {P' : Option Value → PH → Prop}
    (M : T w gw y' cc' n' none fr' lo' mc' ms' (.ref b :: As) A P') (md : Md gw y' cc' n' none np) (hy : y'.name = "<init>") (wi : Cond.instanceMethod y' ∈ gw) (wl : Cond.methodLink own index y' ∈ gw) (d : decode cc pc = .ok (.invokespecial index, 3)) (hn : As.length = np) (hf : fr' + 1 ≤ fr) (hlo : 8 + (n' + 11) + lo' ≤ lo)
    (hs : stk = As.reverse ++ .ref b :: st) (hcat : (st.map fun v => v.category).sum ≤ 8)
    (k : ∀ r : Option Value, X z kc ks (P' r) (pc + 3) L (r.toList ++ st)) : X z (kc + mc') (ks + ms') A pc L stk := by
  intro H locs ls cells slots hp hS hl c1 c2
  subst hs
  have E' := E
  obtain ⟨e1, e2, e3, e4, e5, e6, e7, -⟩ := E'
  obtain ⟨m1, m2, m3, m4, m5⟩ := md
  have hb := callB_of (own := own) (index := index) (R := z.R) (s := z.s) (args := z.args) (bytes := cc') (maxL := n') (ret := none) (rm := { frames := fr', cells := mc', slots := ms', locals := lo' }) (ws := Cond.code y' cc' n' none :: gw) np C.ts (hg.in m1) rfl rfl rfl (C.ts _ m2) (C.ts _ wl) ⟨m3, m4, m5⟩ ⟨by rw [e6]; exact hf, by rw [e7]; exact hlo⟩
  have hr1 := C.rc
  have hr2 := C.rs
  have hM : Met z.l y' (Cond.code y' cc' n' none :: gw) ({ frames := fr', cells := mc', slots := ms', locals := lo' }) (Pz w (.ref b :: As) A) (Qz w P') mc' ms' w.A := by rw [e1]; exact M
  have hrun := va_runI (b := b) (As := As) (rest := st) (g := F0 z.m pc ls (As.reverse ++ .ref b :: st)) (p := z.p) (e := z.e) (below := z.below) (meth := z.meth) (H := H) (locs := locs) (cells := cells) (slots := slots) ⟨C.x, C.b, C.ml, C.ow, C.ts⟩ hM ⟨hb, hy, C.ts _ wi⟩ ⟨Pz.blind hw, kz_of E C hw hp hS⟩ rfl hn hl.1 rfl (lv_room hcat) d ⟨by omega, by omega⟩
  exact k_back E hrun hS hl c1 c2 k
theorem k_callIN (C : Cx z own cc gw) (E : Cs z w fr lo) (hw : w.ok) (hg : Gd gw) {host : String} {y' : MethodName} {cc' : ByteArray} {n' np index fr' lo' mc' ms' b : Nat} {As stk : List Value} {P' : Option Value → PH → Prop}
    (M : T w gw y' cc' n' none fr' lo' mc' ms' (.ref b :: As) A P') (md : Md gw y' cc' n' none np) (hy : y'.name = "<init>") (wi : Cond.instanceMethod y' ∈ gw) (wl : va_Nw (.methodLinkNest own index y' host) z.s) (d : decode cc pc = .ok (.invokespecial index, 3)) (hn : As.length = np) (hf : fr' + 1 ≤ fr) (hlo : 8 + (n' + 11) + lo' ≤ lo)
    (hs : stk = As.reverse ++ .ref b :: st) (hcat : (st.map fun v => v.category).sum ≤ 8)
    (k : ∀ r : Option Value, X z kc ks (P' r) (pc + 3) L (r.toList ++ st)) : X z (kc + mc') (ks + ms') A pc L stk := by
  intro H locs ls cells slots hp hS hl c1 c2
  subst hs
  have E' := E
  obtain ⟨e1, e2, e3, e4, e5, e6, e7, -⟩ := E'
  obtain ⟨m1, m2, m3, m4, m5⟩ := md
  have hb := va_cnB (own := own) (index := index) (host := host) (R := z.R) (s := z.s) (args := z.args) (bytes := cc') (maxL := n') (ret := none) (rm := { frames := fr', cells := mc', slots := ms', locals := lo' }) (ws := Cond.code y' cc' n' none :: gw) np C.ts (hg.in m1) rfl rfl rfl wl (C.ts _ m2) ⟨m3, m4, m5⟩ ⟨by rw [e6]; exact hf, by rw [e7]; exact hlo⟩
  have hr1 := C.rc
  have hr2 := C.rs
  have hM : Met z.l y' (Cond.code y' cc' n' none :: gw) ({ frames := fr', cells := mc', slots := ms', locals := lo' }) (Pz w (.ref b :: As) A) (Qz w P') mc' ms' w.A := by rw [e1]; exact M
  have hrun := va_runIN (b := b) (As := As) (rest := st) (g := F0 z.m pc ls (As.reverse ++ .ref b :: st)) (p := z.p) (e := z.e) (below := z.below) (meth := z.meth) (H := H) (locs := locs) (cells := cells) (slots := slots) ⟨C.x, C.b, C.ml, C.ow, C.ts⟩ hM ⟨hb, hy, C.ts _ wi⟩ ⟨Pz.blind hw, kz_of E C hw hp hS⟩ rfl hn hl.1 rfl (lv_room hcat) d ⟨by omega, by omega⟩
  exact k_back E hrun hS hl c1 c2 k
end Rows
