/-! New things: rows with the heap told outright; lists of what a heap holds. -/
def HL (l : List (Nat × va_E)) (h : PH) : Prop := (∀ p ∈ l, h p.1 = some p.2) ∧ (l.map Prod.fst).Nodup
theorem HL.get {l : List (Nat × va_E)} {h : PH} (g : HL l h) {a : Nat} {e : va_E} (m : (a, e) ∈ l) : h a = some e := g.1 (a, e) m
theorem HL.nil (h : PH) : HL [] h := ⟨fun _ m => (nomatch m), List.nodup_nil⟩
theorem HL.fresh {l : List (Nat × va_E)} {h : PH} (g : HL l h) {q : Nat} (hq : h q = none) : ∀ p ∈ l, p.1 ≠ q := fun p m e => by
  have := g.1 p m
  rw [e, hq] at this
  exact nomatch this
theorem HL.new {l : List (Nat × va_E)} {h : PH} (g : HL l h) {q : Nat} (hq : h q = none) (e : va_E) : HL ((q, e) :: l) (hs h q e) := by
  refine ⟨fun p m => ?_, ?_⟩
  · rcases List.mem_cons.mp m with e1 | m1
    · rw [e1]; exact hs_self ..
    · rw [hs_ne (g.fresh hq p m1)]; exact g.1 p m1
  · rw [List.map_cons, List.nodup_cons]
    refine ⟨fun m => ?_, g.2⟩
    obtain ⟨p, m1, e1⟩ := List.mem_map.mp m
    exact g.fresh hq p m1 e1
theorem HL.sub {l l' : List (Nat × va_E)} {h : PH} (g : HL l h) (s : l'.Sublist l) : HL l' h := ⟨fun p m => g.1 p (s.subset m), (s.map _).nodup g.2⟩
theorem HL.inj {l : List (Nat × va_E)} {h : PH} (g : HL l h) {i j a : Nat} (hi : (l.map Prod.fst)[i]? = some a) (hj : (l.map Prod.fst)[j]? = some a) : i = j := by
  obtain ⟨k1, e1⟩ := List.getElem?_eq_some_iff.mp hi
  obtain ⟨k2, e2⟩ := List.getElem?_eq_some_iff.mp hj
  exact (List.getElem_inj g.2).mp (e1.trans e2.symm)
theorem set_self_of {α : Type} : ∀ {l : List α} {i : Nat} {a : α}, l[i]? = some a → l.set i a = l
  | _ :: _, 0, _, h => by simp at h; simp [h]
  | x :: l, i + 1, a, h => by
    simp at h
    simp [set_self_of (l := l) (i := i) (a := a) (by simpa using h)]
  | [], _, _, h => by simp at h
theorem HL.at {l : List (Nat × va_E)} {h : PH} (g : HL l h) (i : Nat) {a : Nat} {e : va_E} (m : l[i]? = some (a, e)) : h a = some e := g.1 (a, e) (List.mem_of_getElem? m)
theorem HL.put {l : List (Nat × va_E)} {h : PH} (g : HL l h) (i : Nat) {a : Nat} {e : va_E} (m : l[i]? = some (a, e)) (e' : va_E) : HL (l.set i (a, e')) (hs h a e') := by
  have hi := (List.getElem?_eq_some_iff.mp m).1
  have hm : (l.set i (a, e')).map Prod.fst = l.map Prod.fst := by
    rw [List.map_set]
    apply set_self_of
    simp [m]
  refine ⟨fun p hp => ?_, by rw [hm]; exact g.2⟩
  obtain ⟨j, hj⟩ := List.getElem?_of_mem hp
  by_cases e1 : i = j
  · subst e1
    rw [List.getElem?_set_self hi] at hj
    cases hj
    exact hs_self ..
  · rw [List.getElem?_set_ne e1] at hj
    have hne : p.1 ≠ a := fun e2 => e1 (HL.inj g (by rw [List.getElem?_map, m]; rfl) (by rw [List.getElem?_map, hj]; exact congrArg some e2))
    rw [hs_ne hne]
    exact g.1 p (List.mem_of_getElem? hj)
section Rows
variable {z : Fx} {own : String} {cc : ByteArray} {kc ks pc : Nat} {L : List (Option Value)} {st : List Value} {w : Wd} {c : Nat → ClassId} {y : MethodName} {rt : Option FieldType} {fr lo lvl : Nat} {h : PH} {A : PH → Prop} {P : Option Value → PH → Prop}
theorem X.opn (k : ∀ h, A h → X z kc ks (EQ h) pc L st) : X z kc ks A pc L st := by
  intro H locs ls cells slots ⟨h, q, r⟩ hS hl c1 c2
  exact k h q H locs ls cells slots ⟨h, rfl, r⟩ hS hl c1 c2
theorem e_new (C : Cx z own cc gw) (Y : Cty z c) {Cn : String} {Tu : u_T} {N ci index : Nat} {ty : Nat → FieldType} (kd : Kd vwCl gw ci Cn Tu N ty) (w1 : Cond.classLink own index Cn ∈ gw) (w2 : Cond.instantiable Cn N ∈ gw) (w3 : Cond.initialized Cn ∈ gw) (d : decode cc pc = .ok (.new index, 3)) {fs : List Value} (hfs : ∀ j, j < N → defaultValue (ty j) = vp_V fs j)
    (kk : ∀ q : Nat, h q = none → X z kc ks (EQ (hs h q (.inr (ci, fs)))) (pc + 3) L (.ref q :: st)) : X z (kc + 1) (ks + N) (EQ h) pc L st :=
  x_new C (by rw [Y.1]; exact kd) w1 w2 w3 d hfs (Bq := fun q g => h q = none ∧ g = hs h q (.inr (ci, fs))) (fun g q e hq => by subst e; exact ⟨hq, rfl⟩) (fun q => X.opn (fun g e => by obtain ⟨e1, e2⟩ := e; subst e2; exact kk q e1))
theorem e_newi (C : Cx z own cc gw) (Y : Cty z c) (d : decode cc pc = .ok (.newarray .int, 2)) {n : Int32} {N : Nat} (hn : ¬ n < 0) (hN : n.toNatClampNeg = N) (hb : N * 8 ≤ 536870912)
    (kk : ∀ q : Nat, h q = none → X z kc ks (EQ (hs h q (.inl (c 0, N, .inl (fun _ => 0))))) (pc + 2) L (.ref q :: st)) : X z (kc + 1) (ks + N) (EQ h) pc L (.int n :: st) := by
  obtain ⟨t, ht⟩ := Y.2.1
  exact x_newi C ht wa_int d hn hN hb (Bq := fun q g => h q = none ∧ g = hs h q (.inl (c 0, N, .inl (fun _ => 0)))) (fun g q e hq => by subst e; exact ⟨hq, rfl⟩) (fun q => X.opn (fun g e => by obtain ⟨e1, e2⟩ := e; subst e2; exact kk q e1))
theorem e_newl (C : Cx z own cc gw) (Y : Cty z c) (d : decode cc pc = .ok (.newarray .long, 2)) {n : Int32} {N : Nat} (hn : ¬ n < 0) (hN : n.toNatClampNeg = N) (hb : N * 8 ≤ 536870912)
    (kk : ∀ q : Nat, h q = none → X z kc ks (EQ (hs h q (.inl (c 1, N, .inr (.inl (fun _ => 0)))))) (pc + 2) L (.ref q :: st)) : X z (kc + 1) (ks + N) (EQ h) pc L (.int n :: st) := by
  obtain ⟨t, ht⟩ := Y.2.2.1
  exact x_newl C ht wa_long d hn hN hb (Bq := fun q g => h q = none ∧ g = hs h q (.inl (c 1, N, .inr (.inl (fun _ => 0))))) (fun g q e hq => by subst e; exact ⟨hq, rfl⟩) (fun q => X.opn (fun g e => by obtain ⟨e1, e2⟩ := e; subst e2; exact kk q e1))
theorem e_newq (C : Cx z own cc gw) {t0 index : Nat} {cA : ClassId} {Cn : String} (ht : z.tys[t0]? = some (cA, .object Cn)) (ho : va_AO Cn z.s) (w : Cond.classLink own index Cn ∈ gw) (d : decode cc pc = .ok (.anewarray index, 3)) {n : Int32} {N : Nat} (hn : ¬ n < 0) (hN : n.toNatClampNeg = N) (hb : N * 4 ≤ 536870912)
    (kk : ∀ q : Nat, h q = none → X z kc ks (EQ (hs h q (.inl (cA, N, .inr (.inr (.inr (.inr (fun _ => none)))))))) (pc + 3) L (.ref q :: st)) : X z (kc + 1) (ks + N) (EQ h) pc L (.int n :: st) :=
  x_newq C ht ho w d hn hN hb (Bq := fun q g => h q = none ∧ g = hs h q (.inl (cA, N, .inr (.inr (.inr (.inr (fun _ => none))))))) (fun g q e hq => by subst e; exact ⟨hq, rfl⟩) (fun q => X.opn (fun g e => by obtain ⟨e1, e2⟩ := e; subst e2; exact kk q e1))
theorem e_putF (C : Cx z own cc gw) (Y : Cty z c) (hin : z.meth.name = "<init>") {Cn : String} {Tu : u_T} {N ci index : Nat} {ty : Nat → FieldType} (kd : Kd vwCl gw ci Cn Tu N ty) (k : Nat) (hk : k < N) (hfin : (Tu k).2.2.2 = true) (hown : (Tu k).1 = own) (wf : Cond.fieldLink own index (Tu k).1 (Tu k).2.1 (Tu k).2.2.1 ∈ gw) (d : decode cc pc = .ok (.putfield index, 3)) {a : Nat} {fs : List Value} {v : Value} (g : h a = some (.inr (ci, fs))) (gl : k < fs.length) (hn : narrow (ty k) v = v) (hf : fits (ty k) v = true)
    (kk : X z kc ks (EQ (hs h a (.inr (ci, fs.set k v)))) (pc + 3) L st) : X z kc ks (EQ h) pc L (v :: .ref a :: st) :=
  x_putF C hin (by rw [Y.1]; exact kd) k hk hfin hown wf d (fun q e => by rw [e]; exact g) gl hn hf (fun q e => by rw [e]) kk
/-- a contract out of the walk, the heap as A says at first -/
theorem TA.intro {n mc ms : Nat} {as : List Value} {cc : ByteArray} (hW : Wc w c) (hy : y.cls = own) (hp : plainName own = true) (hlen : (lg_sl as).length ≤ n)
    (k : ∀ z : Fx, Cx z own cc gw → Cty z c → Ct z w gw y rt lvl (40 * lvl) P → z.nL = n → ∀ h, A h → X z mc ms (EQ h) 0 (lent n as) []) : T w gw y cc n rt lvl (40 * lvl) mc ms as A P := by
  refine T.intro (by rw [hy]; exact hp) hlen (fun z C E e1 e2 e3 => X.opn (fun h hA => ?_))
  rw [hy] at C
  refine k z C ?_ E e1 h hA
  obtain ⟨q1, q2, q3, q4, q5, -⟩ := E
  obtain ⟨r1, r3, r4, r5, r6⟩ := hW
  exact ⟨by rw [q3]; exact r3, by rw [q4]; exact r4, by rw [q4]; exact r5, by rw [q4]; exact r6⟩
theorem Ct.nm (E : Ct z w gw y rt fr lo P) : z.meth.name = y.name := E.2.2.2.2.2.2.2.2.2.1
theorem Ct.fr_ (E : Ct z w gw y rt fr lo P) : z.R.frames = fr := E.2.2.2.2.2.1
theorem Ct.lo_ (E : Ct z w gw y rt fr lo P) : z.R.locals = lo := E.2.2.2.2.2.2.1
end Rows
section Make
variable {w : Wd} {c : Nat → ClassId} {l : List (Nat × va_E)} {p : Nat}
abbrev z300 (c : Nat → ClassId) : va_E := .inl (c 0, 300, .inl (fun _ => 0))
abbrev zM (c : Nat → ClassId) (f : Nat → Option Nat) : va_E := .inl (c 3, 12, .inr (.inr (.inr (.inr f))))
abbrev zR (c : Nat → ClassId) (f : Nat → Option Nat) : va_E := .inl (c 4, 101, .inr (.inr (.inr (.inr f))))
theorem Cs.gx {z : Fx} {fr lo : Nat} (hX : Wx w c) (E : Cs z w fr lo) : Gx w.base z.s z.s.heap := by rw [← hX.2.2.1]; exact E.2.2.2.2.2.2.2
theorem Cs.nest {z : Fx} {fr lo : Nat} (hX : Wx w c) (E : Cs z w fr lo) {q : String × Nat × MethodName} (m : q ∈ nst) : va_Nw (.methodLinkNest q.1 q.2.1 q.2.2 RX6) z.s := (E.gx hX).2.2.2.2.2.1 q m
theorem n_row (hW : Wc w c) : T w gw yX5_init cX5_init 1 none 1 (40 * 1) 1 300 [.ref p] (HL ((p, .inr (5, [.null, .int 0])) :: l)) (fun r g => r = none ∧ ∃ q, HL ((q, z300 c) :: (p, .inr (5, [.ref q, .int 0])) :: l) g) := by
  refine TA.intro hW rfl (by decide +kernel) (Nat.le_of_ble_eq_true rfl) (fun z C Y E hn h hA => ?_)
  refine x_aload_n C dX5_init_0 rfl ?_
  refine x_objInit C wm_X5_3 dX5_init_1 (by rw [E.fr_]; decide) (by rw [E.lo_]; decide) ?_
  refine x_aload_n C dX5_init_4 rfl ?_
  refine x_sipush (v := 300) C dX5_init_5 (by decide) ?_
  refine e_newi (kc := 0) (ks := 0) (N := 300) C Y dX5_init_8 (by decide) (by decide) (by decide) (fun q hq => ?_)
  have h1 := hA.new hq (z300 c)
  refine e_putF C Y E.nm kd_X5 0 (by decide) rfl rfl wf_X5_9 dX5_init_10 (h1.at 1 rfl) (Nat.le_of_ble_eq_true rfl) rfl rfl ?_
  have h2 := h1.put 1 rfl (.inr (5, [.ref q, .int 0]))
  refine x_aload_n C dX5_init_13 rfl ?_
  refine x_iconst (v := 0) C dX5_init_14 (by decide) ?_
  refine e_put C Y kd_X5 1 (by decide) rfl wf_X5_15 dX5_init_15 (h2.at 1 rfl) (Nat.le_of_ble_eq_true rfl) rfl rfl rfl ?_
  have h3 := h2.put 1 rfl (.inr (5, [.ref q, .int 0]))
  exact x_vret C E dX5_init_18 (fun g e => by subst e; exact ⟨rfl, q, h3⟩)
theorem n_recs (hX : Wx w c) : T w gw yX4_init cX4_init 1 none 1 (40 * 1) 1 101 [.ref p] (HL ((p, .inr (4, [.null, .int 0])) :: l)) (fun r g => r = none ∧ ∃ q, HL ((q, zR c (fun _ => none)) :: (p, .inr (4, [.ref q, .int 0])) :: l) g) := by
  refine TA.intro hX.1 rfl (by decide +kernel) (Nat.le_of_ble_eq_true rfl) (fun z C Y E hn h hA => ?_)
  obtain ⟨t, ht⟩ := hX.2.2.2.2.1
  rw [← E.2.2.2.1] at ht
  refine x_aload_n C dX4_init_0 rfl ?_
  refine x_objInit C wm_X4_3 dX4_init_1 (by rw [E.fr_]; decide) (by rw [E.lo_]; decide) ?_
  refine x_aload_n C dX4_init_4 rfl ?_
  refine x_bipush (v := 101) C dX4_init_5 (by decide) ?_
  refine e_newq (kc := 0) (ks := 0) (N := 101) C ht (E.cs.gx hX).2.2.2.2.2.2.2.1 wc_X4_9 dX4_init_7 (by decide) (by decide) (by decide) (fun q hq => ?_)
  have h1 := hA.new hq (zR c (fun _ => none))
  refine e_putF C Y E.nm kd_X4 0 (by decide) rfl rfl wf_X4_11 dX4_init_10 (h1.at 1 rfl) (Nat.le_of_ble_eq_true rfl) rfl rfl ?_
  have h2 := h1.put 1 rfl (.inr (4, [.ref q, .int 0]))
  refine x_aload_n C dX4_init_13 rfl ?_
  refine x_iconst (v := 0) C dX4_init_14 (by decide) ?_
  refine e_put C Y kd_X4 1 (by decide) rfl wf_X4_17 dX4_init_15 (h2.at 1 rfl) (Nat.le_of_ble_eq_true rfl) rfl rfl rfl ?_
  have h3 := h2.put 1 rfl (.inr (4, [.ref q, .int 0]))
  exact x_vret C E dX4_init_18 (fun g e => by subst e; exact ⟨rfl, q, h3⟩)
theorem n_bus (hX : Wx w c) : T w gw yX0_init cX0_init 1 none 3 (40 * 3) 3 314 [.ref p] (HL ((p, .inr (0, [.null, .null, .int 0, .int 0])) :: l)) (fun r g => r = none ∧ ∃ m a b, HL ((b, z300 c) :: (a, .inr (5, [.ref b, .int 0])) :: (m, zM c (fun _ => none)) :: (p, .inr (0, [.ref m, .ref a, .int 0, .int 0])) :: l) g) := by
  refine TA.intro hX.1 rfl (by decide +kernel) (Nat.le_of_ble_eq_true rfl) (fun z C Y E hn h hA => ?_)
  obtain ⟨t, ht⟩ := hX.2.2.2.1
  rw [← E.2.2.2.1] at ht
  refine x_aload_n C dX0_init_0 rfl ?_
  refine x_objInit C wm_X0_3 dX0_init_1 (by rw [E.fr_]; decide) (by rw [E.lo_]; decide) ?_
  refine x_aload_n C dX0_init_4 rfl ?_
  refine x_bipush (v := 12) C dX0_init_5 (by decide) ?_
  refine e_newq (kc := 2) (ks := 302) (N := 12) C ht (E.cs.gx hX).2.2.2.2.2.2.1 wc_X0_9 dX0_init_7 (by decide) (by decide) (by decide) (fun m hm => ?_)
  have h1 := hA.new hm (zM c (fun _ => none))
  refine e_putF C Y E.nm kd_X0 0 (by decide) rfl rfl wf_X0_11 dX0_init_10 (h1.at 1 rfl) (Nat.le_of_ble_eq_true rfl) rfl rfl ?_
  have h2 := h1.put 1 rfl (.inr (0, [.ref m, .null, .int 0, .int 0]))
  refine x_aload_n C dX0_init_13 rfl ?_
  refine e_new (kc := 1) (ks := 300) (N := 2) C Y kd_X5 wc_X0_17 wn_X5 wz_X5 dX0_init_14 (fs := [.null, .int 0]) (fun j hj => by rcases (show j = 0 ∨ j = 1 by omega) with rfl | rfl <;> rfl) (fun a ha => ?_)
  have h3 := h2.new ha (.inr (5, [.null, .int 0]))
  refine x_dup C dX0_init_17 rfl ?_
  refine X.heap (A' := HL _) ?_ (fun g e => by subst e; exact h3)
  refine k_callIN (kc := 0) (ks := 0) (st := [.ref a, .ref p]) C E.cs hX.1.1 gw_good (n_row hX.1) md_X5_init rfl wi_X5_init (E.cs.nest hX (q := (RX0, 19, yX5_init)) (by simp [nst])) dX0_init_18 rfl (by decide) (by decide) rfl (by simp [Value.category]) (fun r => X.opn (fun h hB => ?_))
  obtain ⟨rfl, b, h4⟩ := hB
  refine e_putF C Y E.nm kd_X0 1 (by decide) rfl rfl wf_X0_20 dX0_init_21 (h4.at 3 rfl) (Nat.le_of_ble_eq_true rfl) rfl rfl ?_
  have h5 := h4.put 3 rfl (.inr (0, [.ref m, .ref a, .int 0, .int 0]))
  refine x_aload_n C dX0_init_24 rfl ?_
  refine x_iconst (v := 0) C dX0_init_25 (by decide) ?_
  refine e_put C Y kd_X0 2 (by decide) rfl wf_X0_24 dX0_init_26 (h5.at 3 rfl) (Nat.le_of_ble_eq_true rfl) rfl rfl rfl ?_
  have h6 := h5.put 3 rfl (.inr (0, [.ref m, .ref a, .int 0, .int 0]))
  refine x_aload_n C dX0_init_29 rfl ?_
  refine x_iconst (v := 0) C dX0_init_30 (by decide) ?_
  refine e_put C Y kd_X0 3 (by decide) rfl wf_X0_28 dX0_init_31 (h6.at 3 rfl) (Nat.le_of_ble_eq_true rfl) rfl rfl rfl ?_
  have h7 := h6.put 3 rfl (.inr (0, [.ref m, .ref a, .int 0, .int 0]))
  exact x_vret C E dX0_init_34 (fun g e => by subst e; exact ⟨rfl, m, a, b, h7⟩)
end Make
