/-! Methods with a table of handlers; calls of methods that throw, caught. -/
theorem mt_ofWH {l : Launch} {y : MethodName} {ws ws' : List Cond} {rm : Room} {Pc : Array Value → State → Prop} {Qc : Array Value → State → Outcome → State → Prop} {mc ms : Nat} {free : Addr → Prop} {cc : ByteArray} {maxL : Nat} {ret : Option FieldType} {hh : List (Nat × Nat × Nat × Nat)}
    (hy : plainName y.cls = true) (hw : ws = Cond.codeWith y cc maxL ret hh :: ws')
    (body : ∀ p e s m args below meth c s₁, BodyLoose p l y (headSpec ws rm) cc maxL ret e s m args below meth c s₁ → c.maxLocals = maxL → Pc args s →
      W p l e (headSpec ws rm).room s m args below meth c s.heap [] 0 0 (MQ below Qc args s mc ms free) (entryFrame m args maxL)) : Met l y ws rm Pc Qc mc ms free := by
  refine MetFree.of_bodyS (code := cc) (maxLocals := maxL) (ret := ret) hy ?_ ?_
  · intro args s m h hn
    obtain ⟨m9, meth, c, hn9, h1, h2, h3, h4, -, h5, h6, -⟩ := Cond.codeWith_spec (atoms_spec (ws := ws) h _ (by rw [hw]; exact List.mem_cons_self))
    cases hn.symm.trans hn9
    exact ⟨meth, c, h1, h2, h3, h4, h5, h6⟩
  · intro p e s m args below meth c s₁ B hml hP _
    have hh0 : s₁.heap = s.heap := by rw [B.state]; rfl
    obtain ⟨t, a1, o, b1, b2, b3⟩ := body p e s m args below meth c s₁ B hml hP s₁ hh0 (Stand.of_body B)
    exact ⟨t, o, a1, b1, b2, b3⟩
/-- the contract of a method with a table -/
def TW (w : Wd) (gw : List Cond) (y : MethodName) (cc : ByteArray) (n : Nat) (rt : Option FieldType) (hh : List (Nat × Nat × Nat × Nat)) (fr lo mc ms : Nat) (as : List Value) (A : PH → Prop) (P : Option Value → PH → Prop) : Prop :=
  Met w.l y (Cond.codeWith y cc n rt hh :: gw) ({ frames := fr, cells := mc, slots := ms, locals := lo }) (Pz w as A) (Qz w P) mc ms w.A
theorem TW.intro {w : Wd} {gw : List Cond} {y : MethodName} {cc : ByteArray} {n : Nat} {rt : Option FieldType} {hh : List (Nat × Nat × Nat × Nat)} {fr lo mc ms : Nat} {as : List Value} {A : PH → Prop} {P : Option Value → PH → Prop} (hy : plainName y.cls = true) (hlen : (lg_sl as).length ≤ n)
    (k : ∀ z : Fx, Cx z y.cls cc gw → Ct z w gw y rt fr lo P → z.c.exceptionTable.toList = tableOf hh → z.nL = n → X z mc ms A 0 (lent n as) []) : TW w gw y cc n rt hh fr lo mc ms as A P := by
  refine mt_ofWH (cc := cc) (maxL := n) (ret := rt) (hh := hh) hy rfl ?_
  intro p e s m args below meth c s₁ B hml hv
  obtain ⟨rfl, hv2, hv3, hv4, hv5⟩ := hv
  have hts := atoms_spec (ws := Cond.codeWith y cc n rt hh :: gw) B.pre
  have hl := lv_entry as (n := n) hlen
  rw [lg_entry_eq]
  generalize (lg_sl as ++ List.replicate (n - (lg_sl as).length) Slot.unset).toArray = ls at hl ⊢
  have K := k ((p, w.l, e, ({ frames := fr, cells := mc, slots := ms, locals := lo } : Room), s), (m, as.toArray, below, meth, c), (w.D, w.cl, w.tys, w.base), (n, mc, ms), MQ below (Qz w P) as.toArray s mc ms w.A)
    ⟨B.exec, B.bytes, hml, findClass_of_methodNamed B.named, fun q hq => hts q (List.mem_cons_of_mem _ hq), hv3, hv2, Nat.le_refl _, Nat.le_refl _⟩
    ⟨rfl, rfl, rfl, rfl, rfl, rfl, rfl, B.returns, B.notSynchronized, (name_of_methodNamed B.named B.method).1, hv4, rfl⟩ (vx_table (x := y) B (hts _ List.mem_cons_self)) rfl
  refine K s.heap [] ls 0 0 hv5 va_S.rf ⟨hl.1, hl.2.1, fun i v g => ?_⟩ (by simp [Fx.mc]) (by simp [Fx.ms])
  have := lent_get (k := 0) g
  rw [Nat.zero_add] at this
  exact hl.2.2 (i, v) this
def Mw (gw : List Cond) (y : MethodName) (cc : ByteArray) (n : Nat) (rt : Option FieldType) (hh : List (Nat × Nat × Nat × Nat)) (k : Nat) : Prop := Cond.codeWith y cc n rt hh ∈ gw ∧ Cond.initialized y.cls ∈ gw ∧ (y.cls ≠ "java/lang/invoke/MethodHandle" ∧ y.cls ≠ "java/lang/invoke/VarHandle" ∧ (parseMethodDescriptor y.desc).map (fun d => d.parameters.length) = some k)
section Rows
variable {z : Fx} {own : String} {cc : ByteArray} {gw : List Cond} {kc ks pc : Nat} {A : PH → Prop} {L : List (Option Value)} {st : List Value} {w : Wd} {fr lo : Nat}
theorem k_callSW (C : Cx z own cc gw) (E : Cs z w fr lo) (hw : w.ok) (hg : Gd gw) {y' : MethodName} {cc' : ByteArray} {n' np index fr' lo' mc' ms' : Nat} {rt' : Option FieldType} {hh : List (Nat × Nat × Nat × Nat)} {As stk : List Value} {P' : Option Value → PH → Prop}
    (M : TW w gw y' cc' n' rt' hh fr' lo' mc' ms' As A P') (md : Mw gw y' cc' n' rt' hh np) (wst : Cond.static y' ∈ gw) (wl : Cond.methodLink own index y' ∈ gw) (d : decode cc pc = .ok (.invokestatic index, 3)) (hn : As.length = np) (hf : fr' + 1 ≤ fr) (hlo : 8 + (n' + 11) + lo' ≤ lo)
    (hs : stk = As.reverse ++ st) (hcat : (st.map fun v => v.category).sum ≤ 8)
    (k : ∀ r : Option Value, X z kc ks (P' r) (pc + 3) L (r.toList ++ st)) : X z (kc + mc') (ks + ms') A pc L stk := by
  intro H locs ls cells slots hp hS hl c1 c2
  subst hs
  have E' := E
  obtain ⟨e1, e2, e3, e4, e5, e6, e7, -⟩ := E'
  obtain ⟨m1, m2, m3, m4, m5⟩ := md
  have hr1 := C.rc
  have hr2 := C.rs
  have hM : Met z.l y' (Cond.codeWith y' cc' n' rt' hh :: gw) ({ frames := fr', cells := mc', slots := ms', locals := lo' }) (Pz w As A) (Qz w P') mc' ms' w.A := by rw [e1]; exact M
  have hcw : vx_CSW z.R z.s z.args own index y' cc' n' rt' hh (Cond.codeWith y' cc' n' rt' hh :: gw) { frames := fr', cells := mc', slots := ms', locals := lo' } mc' ms' np := by
    refine ⟨⟨rfl, rfl, by rw [e6]; exact hf, by rw [e7]; exact hlo, pay_in C.ts (hg.in m1), List.mem_cons_self⟩, C.ts _ m1, C.ts _ m2, ⟨m3, m4⟩, fun sig h => ?_, C.ts _ wl, C.ts _ wst⟩
    rw [h] at m5
    exact (Option.some.inj m5).symm
  have hrun := vx_runSW (As := As) (rest := st) (g := F0 z.m pc ls (As.reverse ++ st)) (p := z.p) (e := z.e) (below := z.below) (meth := z.meth) (H := H) (locs := locs) (cells := cells) (slots := slots) ⟨C.x, C.b, C.ml, C.ow, C.ts⟩ hM hcw ⟨Pz.blind hw, kz_of E C hw hp hS⟩ rfl hn hl.1 rfl (lv_room hcat) d ⟨by omega, by omega⟩
  exact k_back E hrun hS hl c1 c2 k
/-- with an E thrown over this frame, and a heap as A says, the method comes to its end -/
def Xc (z : Fx) (kc ks : Nat) (A : PH → Prop) (pc : Nat) (L : List (Option Value)) (st : List Value) (En : String) : Prop :=
  ∀ (H : Heap) (locs : List Loc) (ls : Array Slot) (cells slots : Nat) (q : Addr) (ce : Cell), hpA z.D z.cl z.base A H → va_S (fun q : Nat => z.base ≤ q) z.s.heap H locs → lx z L ls → cells + kc ≤ z.mc → slots + ks ≤ z.ms → H[q]? = some ce → ce.vm = .none → z.s.vm.findClass En = some ce.cls →
    vx_W z.p z.l z.e z.R z.s z.m z.args z.below z.meth z.c H locs cells slots z.Q (F0 z.m pc ls st) q
theorem Xc.no (n : ∀ h, A h → False) {En : String} : Xc z kc ks A pc L st En := by
  intro H locs ls cells slots q ce ⟨h, hA, _⟩
  exact (n h hA).elim
theorem x_catch (C : Cx z own cc gw) {En name : String} (pre : List ExceptionTableEntry) (x : ExceptionTableEntry) (suf : List ExceptionTableEntry) (hsplit : z.c.exceptionTable.toList = pre ++ x :: suf)
    (hpass : ∀ q ∈ pre, covers q pc = false ∨ (q.catchType ≠ 0 ∧ ∃ nm : String, Cond.classLink own q.catchType nm ∈ gw ∧ va_Nc En nm z.s)) (hx : covers x pc = true) (h0 : x.catchType ≠ 0) (wl : Cond.classLink own x.catchType name ∈ gw) (hcast : va_Nw (.castable En name) z.s)
    (k : ∀ q : Nat, X z kc ks A x.handlerPc L [.ref q]) : Xc z kc ks A pc L st En := by
  intro H locs ls cells slots q ce hp hS hl c1 c2 h1 h2 h3
  exact vx_catch C.ow pre x suf hsplit (fun q hq => (hpass q hq).imp id (fun g => ⟨g.1, by obtain ⟨nm, g1, g2⟩ := g.2; exact ⟨nm, C.ts _ g1, g2⟩⟩)) hx h0 (C.ts _ wl) (va_Nw.use rfl hcast) h1 h2 h3 (k q H locs ls cells slots hp hS hl c1 c2)
theorem x_callVX (C : Cx z own cc gw) (E : Cs z w fr lo) (hw : w.ok) (hg : Gd gw) {y' : MethodName} {cc' : ByteArray} {n' np ci index fr' lo' mc' ms' b : Nat} {rt' : Option FieldType} {As fs stk : List Value} {Tu : u_T} {N : Nat} {P' : Option Value → PH → Prop} {XP' : String → PH → Prop}
    (M : TX w gw y' cc' n' rt' fr' lo' mc' ms' (.ref b :: As) A P' XP') (md : Md gw y' cc' n' rt' np) (wi : Cond.instanceMethod y' ∈ gw) (wse : Cond.selects y'.cls y' y' ∈ gw) (wl : Cond.methodLink own index y' ∈ gw) (d : decode cc pc = .ok (.invokevirtual index, 3)) (hn : As.length = np) (hf : fr' + 1 ≤ fr) (hlo : 8 + (n' + 11) + lo' ≤ lo)
    (gb : ∀ h, A h → h b = some (.inr (ci, fs))) (hcl : z.cl[ci]? = some (y'.cls, Tu, N)) (hs : stk = As.reverse ++ .ref b :: st) (hcat : (st.map fun v => v.category).sum ≤ 8)
    (kx : ∀ En : String, Xc z kc ks (XP' En) pc L st En)
    (k : ∀ r : Option Value, X z kc ks (P' r) (pc + 3) L (r.toList ++ st)) : X z (kc + mc') (ks + ms') A pc L stk := by
  intro H locs ls cells slots hp hS hl c1 c2
  subst hs
  have E' := E
  obtain ⟨e1, e2, e3, e4, e5, e6, e7, -⟩ := E'
  obtain ⟨m1, m2, m3, m4, m5⟩ := md
  have hb := callB_of (own := own) (index := index) (R := z.R) (s := z.s) (args := z.args) (bytes := cc') (maxL := n') (ret := rt') (rm := { frames := fr', cells := mc', slots := ms', locals := lo' }) (ws := Cond.code y' cc' n' rt' :: gw) np C.ts (hg.in m1) rfl rfl rfl (C.ts _ m2) (C.ts _ wl) ⟨m3, m4, m5⟩ ⟨by rw [e6]; exact hf, by rw [e7]; exact hlo⟩
  have hr1 := C.rc
  have hr2 := C.rs
  have hp' := hp
  obtain ⟨h, hA, LP, f0, q1, q2, q3⟩ := hp'
  obtain ⟨q0, hq0⟩ := hp_get (D := z.D) (cl := z.cl) (base := z.base) (H := H) q1 (gb h hA)
  have hM : vx_Met z.l y' (Cond.code y' cc' n' rt' :: gw) ({ frames := fr', cells := mc', slots := ms', locals := lo' }) (Pz w (.ref b :: As) A) (Qz w P') (Xz w XP') mc' ms' w.A := by rw [e1]; exact M
  have hrun := vx_runV (b := b) (As := As) (rest := st) (g := F0 z.m pc ls (As.reverse ++ .ref b :: st)) (p := z.p) (e := z.e) (below := z.below) (meth := z.meth) (H := H) (locs := locs) (cells := cells) (slots := slots) (C := y'.cls) ⟨C.x, C.b, C.ml, C.ow, C.ts⟩ hM ⟨hb, C.ts _ wi, C.ts _ wse⟩ ⟨Pz.blind hw, va_recv C.K q2 hcl hq0, kz_of E C hw hp hS⟩ rfl hn hl.1 rfl (lv_room hcat) d ⟨by omega, by omega⟩
  intro S hSt XS
  have hSn : ∀ (t : State) (st₀ : State) (T' : State) (L' : List Loc), st₀.heap = H → T'.heap = t.heap → va_F w.A st₀ t → (∀ q ∈ L', w.A q.base) → va_S (fun q : Nat => z.base ≤ q) z.s.heap T'.heap (locs ++ L') := by
    intro t st₀ T' L' h0 g1 ⟨hz, hk⟩ hL
    refine ⟨Nat.le_trans hS.1 (by rw [g1, ← h0]; exact hz), fun q h1 h2 => ?_, fun q hq => ?_⟩
    · have h3 : q < H.size := Nat.lt_of_lt_of_le h1 hS.1
      rw [← h0] at h3
      rw [g1, hk q h3 (by show ¬ w.base ≤ q; rw [← e5]; exact h2), h0]
      exact hS.2.1 q h1 h2
    · rcases List.mem_append.mp hq with h1 | h1
      · exact hS.2.2 q h1
      · have := hL q h1
        rw [e5]
        exact this
  rcases hrun S hSt XS with ⟨v, st₀, t, T', L', h0, X', hL, g1, g2, ⟨⟨r, h', hv, hP, hbb⟩, hF⟩, go⟩ | ⟨q, st₀, t, T', L', En, ce, h0, X', hL, g1, g2, ⟨⟨h', hP, hbb⟩, hF⟩, hce, hcv, hcl', go⟩
  · cases hv
    rw [← e2, ← e3, ← e5] at hbb
    obtain ⟨t2, a1, b1⟩ := k v T'.heap (locs ++ L') ls (cells + mc') (slots + ms') ⟨h', hP, by rw [g1]; exact hbb⟩ (hSn t st₀ T' L' h0 g1 hF hL) hl (by omega) (by omega) T' rfl X'
    exact ⟨t2, go t2 a1, b1⟩
  · rw [← e2, ← e3, ← e5] at hbb
    obtain ⟨t2, a1, b1⟩ := kx En T'.heap (locs ++ L') ls (cells + mc') (slots + ms') q ce ⟨h', hP, by rw [g1]; exact hbb⟩ (hSn t st₀ T' L' h0 g1 hF hL) hl (by omega) (by omega) (by rw [g1]; exact hce) hcv hcl' T' rfl X'
    exact ⟨t2, go.trans a1, b1⟩
end Rows
