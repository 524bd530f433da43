section
/-! New things: rows with the heap told outright; lists of what a heap holds. -/
def HL (l : List (Nat × va_E)) (h : PH) : Prop := (∀ p ∈ l, h p.1 = some p.2) ∧ (l.map Prod.fst).Nodup
theorem HL.get {l : List (Nat × va_E)} {h : PH} (g : HL l h) {a : Nat} {e : va_E} (m : (a, e) ∈ l) : h a = some e := g.1 (a, e) m
theorem HL.nil (h : PH) : HL [] h := ⟨fun _ m => (nomatch m), List.nodup_nil⟩
theorem HL.fresh {l : List (Nat × va_E)} {h : PH} (g : HL l h) {q : Nat} (hq : h q = none) : ∀ p ∈ l, p.1 ≠ q := fun p m e => by
  have := g.1 p m
  rw [e, hq] at this
  exact nomatch this
theorem HL.new {l : List (Nat × va_E)} {h : PH} (g : HL l h) {q : Nat} (hq : h q = none) (e : va_E) : HL ((q, e) :: l) (hs h q e) := by
  refine ⟨fun p m => ?_, ?_⟩
  · rcases List.mem_cons.mp m with e1 | m1
    · rw [e1]; exact hs_self ..
    · rw [hs_ne (g.fresh hq p m1)]; exact g.1 p m1
  · rw [List.map_cons, List.nodup_cons]
    refine ⟨fun m => ?_, g.2⟩
    obtain ⟨p, m1, e1⟩ := List.mem_map.mp m
    exact g.fresh hq p m1 e1
theorem HL.sub {l l' : List (Nat × va_E)} {h : PH} (g : HL l h) (s : l'.Sublist l) : HL l' h := ⟨fun p m => g.1 p (s.subset m), (s.map _).nodup g.2⟩
theorem HL.inj {l : List (Nat × va_E)} {h : PH} (g : HL l h) {i j a : Nat} (hi : (l.map Prod.fst)[i]? = some a) (hj : (l.map Prod.fst)[j]? = some a) : i = j := by
  obtain ⟨k1, e1⟩ := List.getElem?_eq_some_iff.mp hi
  obtain ⟨k2, e2⟩ := List.getElem?_eq_some_iff.mp hj
  exact (List.getElem_inj g.2).mp (e1.trans e2.symm)
theorem set_self_of {α : Type} : ∀ {l : List α} {i : Nat} {a : α}, l[i]? = some a → l.set i a = l
  | _ :: _, 0, _, h => by simp at h; simp [h]
  | x :: l, i + 1, a, h => by
    simp at h
    simp [set_self_of (l := l) (i := i) (a := a) (by simpa using h)]
  | [], _, _, h => by simp at h
theorem HL.at {l : List (Nat × va_E)} {h : PH} (g : HL l h) (i : Nat) {a : Nat} {e : va_E} (m : l[i]? = some (a, e)) : h a = some e := g.1 (a, e) (List.mem_of_getElem? m)
theorem HL.put {l : List (Nat × va_E)} {h : PH} (g : HL l h) (i : Nat) {a : Nat} {e : va_E} (m : l[i]? = some (a, e)) (e' : va_E) : HL (l.set i (a, e')) (hs h a e') := by
  have hi := (List.getElem?_eq_some_iff.mp m).1
  have hm : (l.set i (a, e')).map Prod.fst = l.map Prod.fst := by
    rw [List.map_set]
    apply set_self_of
    simp [m]
  refine ⟨fun p hp => ?_, by rw [hm]; exact g.2⟩
  obtain ⟨j, hj⟩ := List.getElem?_of_mem hp
  by_cases e1 : i = j
  · subst e1
    rw [List.getElem?_set_self hi] at hj
    cases hj
    exact hs_self ..
  · rw [List.getElem?_set_ne e1] at hj
    have hne : p.1 ≠ a := fun e2 => e1 (HL.inj g (by rw [List.getElem?_map, m]; rfl) (by rw [List.getElem?_map, hj]; exact congrArg some e2))
    rw [hs_ne hne]
    exact g.1 p (List.mem_of_getElem? hj)
section Rows
variable {z : Fx} {own : String} {cc : ByteArray} {kc ks pc : Nat} {L : List (Option Value)} {st : List Value} {w : Wd} {c : Nat → ClassId} {y : MethodName} {rt : Option FieldType} {fr lo lvl : Nat} {h : PH} {A : PH → Prop} {P : Option Value → PH → Prop}
theorem X.opn (k : ∀ h, A h → X z kc ks (EQ h) pc L st) : X z kc ks A pc L st := by
  intro H locs ls cells slots ⟨h, q, r⟩ hS hl c1 c2
  exact k h q H locs ls cells slots ⟨h, rfl, r⟩ hS hl c1 c2
theorem e_new (C : Cx z own cc gw) (Y : Cty z c) {Cn : String} {Tu : u_T} {N ci index : Nat} {ty : Nat → FieldType} (kd : Kd vwCl gw ci Cn Tu N ty) (w1 : Cond.classLink own index Cn ∈ gw) (w2 : Cond.instantiable Cn N ∈ gw) (w3 : Cond.initialized Cn ∈ gw) (d : decode cc pc = .ok (.new index, 3)) {fs : List Value} (hfs : ∀ j, j < N → defaultValue (ty j) = vp_V fs j)
    (kk : ∀ q : Nat, h q = none → X z kc ks (EQ (hs h q (.inr (ci, fs)))) (pc + 3) L (.ref q :: st)) : X z (kc + 1) (ks + N) (EQ h) pc L st :=
  x_new C (by rw [Y.1]; exact kd) w1 w2 w3 d hfs (Bq := fun q g => h q = none ∧ g = hs h q (.inr (ci, fs))) (fun g q e hq => by subst e; exact ⟨hq, rfl⟩) (fun q => X.opn (fun g e => by obtain ⟨e1, e2⟩ := e; subst e2; exact kk q e1))
theorem e_newi (C : Cx z own cc gw) (Y : Cty z c) (d : decode cc pc = .ok (.newarray .int, 2)) {n : Int32} {N : Nat} (hn : ¬ n < 0) (hN : n.toNatClampNeg = N) (hb : N * 8 ≤ 536870912)
    (kk : ∀ q : Nat, h q = none → X z kc ks (EQ (hs h q (.inl (c 0, N, .inl (fun _ => 0))))) (pc + 2) L (.ref q :: st)) : X z (kc + 1) (ks + N) (EQ h) pc L (.int n :: st) := by
  obtain ⟨t, ht⟩ := Y.2.1
  exact x_newi C ht wa_int d hn hN hb (Bq := fun q g => h q = none ∧ g = hs h q (.inl (c 0, N, .inl (fun _ => 0)))) (fun g q e hq => by subst e; exact ⟨hq, rfl⟩) (fun q => X.opn (fun g e => by obtain ⟨e1, e2⟩ := e; subst e2; exact kk q e1))
theorem e_newl (C : Cx z own cc gw) (Y : Cty z c) (d : decode cc pc = .ok (.newarray .long, 2)) {n : Int32} {N : Nat} (hn : ¬ n < 0) (hN : n.toNatClampNeg = N) (hb : N * 8 ≤ 536870912)
    (kk : ∀ q : Nat, h q = none → X z kc ks (EQ (hs h q (.inl (c 1, N, .inr (.inl (fun _ => 0)))))) (pc + 2) L (.ref q :: st)) : X z (kc + 1) (ks + N) (EQ h) pc L (.int n :: st) := by
  obtain ⟨t, ht⟩ := Y.2.2.1
  exact x_newl C ht wa_long d hn hN hb (Bq := fun q g => h q = none ∧ g = hs h q (.inl (c 1, N, .inr (.inl (fun _ => 0))))) (fun g q e hq => by subst e; exact ⟨hq, rfl⟩) (fun q => X.opn (fun g e => by obtain ⟨e1, e2⟩ := e; subst e2; exact kk q e1))
theorem e_newq (C : Cx z own cc gw) {t0 index : Nat} {cA : ClassId} {Cn : String} (ht : z.tys[t0]? = some (cA, .object Cn)) (ho : va_AO Cn z.s) (w : Cond.classLink own index Cn ∈ gw) (d : decode cc pc = .ok (.anewarray index, 3)) {n : Int32} {N : Nat} (hn : ¬ n < 0) (hN : n.toNatClampNeg = N) (hb : N * 4 ≤ 536870912)
    (kk : ∀ q : Nat, h q = none → X z kc ks (EQ (hs h q (.inl (cA, N, .inr (.inr (.inr (.inr (fun _ => none)))))))) (pc + 3) L (.ref q :: st)) : X z (kc + 1) (ks + N) (EQ h) pc L (.int n :: st) :=
  x_newq C ht ho w d hn hN hb (Bq := fun q g => h q = none ∧ g = hs h q (.inl (cA, N, .inr (.inr (.inr (.inr (fun _ => none))))))) (fun g q e hq => by subst e; exact ⟨hq, rfl⟩) (fun q => X.opn (fun g e => by obtain ⟨e1, e2⟩ := e; subst e2; exact kk q e1))
theorem e_putF (C : Cx z own cc gw) (Y : Cty z c) (hin : z.meth.name = "<init>") {Cn : String} {Tu : u_T} {N ci index : Nat} {ty : Nat → FieldType} (kd : Kd vwCl gw ci Cn Tu N ty) (k : Nat) (hk : k < N) (hfin : (Tu k).2.2.2 = true) (hown : (Tu k).1 = own) (wf : Cond.fieldLink own index (Tu k).1 (Tu k).2.1 (Tu k).2.2.1 ∈ gw) (d : decode cc pc = .ok (.putfield index, 3)) {a : Nat} {fs : List Value} {v : Value} (g : h a = some (.inr (ci, fs))) (gl : k < fs.length) (hn : narrow (ty k) v = v) (hf : fits (ty k) v = true)
    (kk : X z kc ks (EQ (hs h a (.inr (ci, fs.set k v)))) (pc + 3) L st) : X z kc ks (EQ h) pc L (v :: .ref a :: st) :=
  x_putF C hin (by rw [Y.1]; exact kd) k hk hfin hown wf d (fun q e => by rw [e]; exact g) gl hn hf (fun q e => by rw [e]) kk
/-- a contract out of the walk, the heap as A says at first -/
theorem TA.intro {n mc ms : Nat} {as : List Value} {cc : ByteArray} (hW : Wc w c) (hy : y.cls = own) (hp : plainName own = true) (hlen : (lg_sl as).length ≤ n)
    (k : ∀ z : Fx, Cx z own cc gw → Cty z c → Ct z w gw y rt lvl (40 * lvl) P → z.nL = n → ∀ h, A h → X z mc ms (EQ h) 0 (lent n as) []) : T w gw y cc n rt lvl (40 * lvl) mc ms as A P := by
  refine T.intro (by rw [hy]; exact hp) hlen (fun z C E e1 e2 e3 => X.opn (fun h hA => ?_))
  rw [hy] at C
  refine k z C ?_ E e1 h hA
  obtain ⟨q1, q2, q3, q4, q5, -⟩ := E
  obtain ⟨r1, r3, r4, r5, r6⟩ := hW
  exact ⟨by rw [q3]; exact r3, by rw [q4]; exact r4, by rw [q4]; exact r5, by rw [q4]; exact r6⟩
theorem Ct.nm (E : Ct z w gw y rt fr lo P) : z.meth.name = y.name := E.2.2.2.2.2.2.2.2.2.1
theorem Ct.fr_ (E : Ct z w gw y rt fr lo P) : z.R.frames = fr := E.2.2.2.2.2.1
theorem Ct.lo_ (E : Ct z w gw y rt fr lo P) : z.R.locals = lo := E.2.2.2.2.2.2.1
end Rows
section Make
variable {w : Wd} {c : Nat → ClassId} {l : List (Nat × va_E)} {p : Nat}
abbrev z300 (c : Nat → ClassId) : va_E := .inl (c 0, 300, .inl (fun _ => 0))
abbrev zM (c : Nat → ClassId) (f : Nat → Option Nat) : va_E := .inl (c 3, 12, .inr (.inr (.inr (.inr f))))
abbrev zR (c : Nat → ClassId) (f : Nat → Option Nat) : va_E := .inl (c 4, 101, .inr (.inr (.inr (.inr f))))
theorem Cs.gx {z : Fx} {fr lo : Nat} (hX : Wx w c) (E : Cs z w fr lo) : Gx w.base z.s z.s.heap := by rw [← hX.2.2.1]; exact E.2.2.2.2.2.2.2
theorem Cs.nest {z : Fx} {fr lo : Nat} (hX : Wx w c) (E : Cs z w fr lo) {q : String × Nat × MethodName} (m : q ∈ nst) : va_Nw (.methodLinkNest q.1 q.2.1 q.2.2 RX6) z.s := (E.gx hX).2.2.2.2.2.1 q m
theorem n_row (hW : Wc w c) : T w gw yX5_init cX5_init 1 none 1 (40 * 1) 1 300 [.ref p] (HL ((p, .inr (5, [.null, .int 0])) :: l)) (fun r g => r = none ∧ ∃ q, HL ((q, z300 c) :: (p, .inr (5, [.ref q, .int 0])) :: l) g) := by
  refine TA.intro hW rfl (by decide +kernel) (Nat.le_of_ble_eq_true rfl) (fun z C Y E hn h hA => ?_)
  refine x_aload_n C dX5_init_0 rfl ?_
  refine x_objInit C wm_X5_3 dX5_init_1 (by rw [E.fr_]; decide) (by rw [E.lo_]; decide) ?_
  refine x_aload_n C dX5_init_4 rfl ?_
  refine x_sipush (v := 300) C dX5_init_5 (by decide) ?_
  refine e_newi (kc := 0) (ks := 0) (N := 300) C Y dX5_init_8 (by decide) (by decide) (by decide) (fun q hq => ?_)
  have h1 := hA.new hq (z300 c)
  refine e_putF C Y E.nm kd_X5 0 (by decide) rfl rfl wf_X5_9 dX5_init_10 (h1.at 1 rfl) (Nat.le_of_ble_eq_true rfl) rfl rfl ?_
  have h2 := h1.put 1 rfl (.inr (5, [.ref q, .int 0]))
  refine x_aload_n C dX5_init_13 rfl ?_
  refine x_iconst (v := 0) C dX5_init_14 (by decide) ?_
  refine e_put C Y kd_X5 1 (by decide) rfl wf_X5_15 dX5_init_15 (h2.at 1 rfl) (Nat.le_of_ble_eq_true rfl) rfl rfl rfl ?_
  have h3 := h2.put 1 rfl (.inr (5, [.ref q, .int 0]))
  exact x_vret C E dX5_init_18 (fun g e => by subst e; exact ⟨rfl, q, h3⟩)
theorem n_recs (hX : Wx w c) : T w gw yX4_init cX4_init 1 none 1 (40 * 1) 1 101 [.ref p] (HL ((p, .inr (4, [.null, .int 0])) :: l)) (fun r g => r = none ∧ ∃ q, HL ((q, zR c (fun _ => none)) :: (p, .inr (4, [.ref q, .int 0])) :: l) g) := by
  refine TA.intro hX.1 rfl (by decide +kernel) (Nat.le_of_ble_eq_true rfl) (fun z C Y E hn h hA => ?_)
  obtain ⟨t, ht⟩ := hX.2.2.2.2.1
  rw [← E.2.2.2.1] at ht
  refine x_aload_n C dX4_init_0 rfl ?_
  refine x_objInit C wm_X4_3 dX4_init_1 (by rw [E.fr_]; decide) (by rw [E.lo_]; decide) ?_
  refine x_aload_n C dX4_init_4 rfl ?_
  refine x_bipush (v := 101) C dX4_init_5 (by decide) ?_
  refine e_newq (kc := 0) (ks := 0) (N := 101) C ht (E.cs.gx hX).2.2.2.2.2.2.2.1 wc_X4_9 dX4_init_7 (by decide) (by decide) (by decide) (fun q hq => ?_)
  have h1 := hA.new hq (zR c (fun _ => none))
  refine e_putF C Y E.nm kd_X4 0 (by decide) rfl rfl wf_X4_11 dX4_init_10 (h1.at 1 rfl) (Nat.le_of_ble_eq_true rfl) rfl rfl ?_
  have h2 := h1.put 1 rfl (.inr (4, [.ref q, .int 0]))
  refine x_aload_n C dX4_init_13 rfl ?_
  refine x_iconst (v := 0) C dX4_init_14 (by decide) ?_
  refine e_put C Y kd_X4 1 (by decide) rfl wf_X4_17 dX4_init_15 (h2.at 1 rfl) (Nat.le_of_ble_eq_true rfl) rfl rfl rfl ?_
  have h3 := h2.put 1 rfl (.inr (4, [.ref q, .int 0]))
  exact x_vret C E dX4_init_18 (fun g e => by subst e; exact ⟨rfl, q, h3⟩)
theorem n_bus (hX : Wx w c) : T w gw yX0_init cX0_init 1 none 3 (40 * 3) 3 314 [.ref p] (HL ((p, .inr (0, [.null, .null, .int 0, .int 0])) :: l)) (fun r g => r = none ∧ ∃ m a b, HL ((b, z300 c) :: (a, .inr (5, [.ref b, .int 0])) :: (m, zM c (fun _ => none)) :: (p, .inr (0, [.ref m, .ref a, .int 0, .int 0])) :: l) g) := by
  refine TA.intro hX.1 rfl (by decide +kernel) (Nat.le_of_ble_eq_true rfl) (fun z C Y E hn h hA => ?_)
  obtain ⟨t, ht⟩ := hX.2.2.2.1
  rw [← E.2.2.2.1] at ht
  refine x_aload_n C dX0_init_0 rfl ?_
  refine x_objInit C wm_X0_3 dX0_init_1 (by rw [E.fr_]; decide) (by rw [E.lo_]; decide) ?_
  refine x_aload_n C dX0_init_4 rfl ?_
  refine x_bipush (v := 12) C dX0_init_5 (by decide) ?_
  refine e_newq (kc := 2) (ks := 302) (N := 12) C ht (E.cs.gx hX).2.2.2.2.2.2.1 wc_X0_9 dX0_init_7 (by decide) (by decide) (by decide) (fun m hm => ?_)
  have h1 := hA.new hm (zM c (fun _ => none))
  refine e_putF C Y E.nm kd_X0 0 (by decide) rfl rfl wf_X0_11 dX0_init_10 (h1.at 1 rfl) (Nat.le_of_ble_eq_true rfl) rfl rfl ?_
  have h2 := h1.put 1 rfl (.inr (0, [.ref m, .null, .int 0, .int 0]))
  refine x_aload_n C dX0_init_13 rfl ?_
  refine e_new (kc := 1) (ks := 300) (N := 2) C Y kd_X5 wc_X0_17 wn_X5 wz_X5 dX0_init_14 (fs := [.null, .int 0]) (fun j hj => by rcases (show j = 0 ∨ j = 1 by omega) with rfl | rfl <;> rfl) (fun a ha => ?_)
  have h3 := h2.new ha (.inr (5, [.null, .int 0]))
  refine x_dup C dX0_init_17 rfl ?_
  refine X.heap (A' := HL _) ?_ (fun g e => by subst e; exact h3)
  refine k_callIN (kc := 0) (ks := 0) (st := [.ref a, .ref p]) C E.cs hX.1.1 gw_good (n_row hX.1) md_X5_init rfl wi_X5_init (E.cs.nest hX (q := (RX0, 19, yX5_init)) (by simp [nst])) dX0_init_18 rfl (by decide) (by decide) rfl (by simp [Value.category]) (fun r => X.opn (fun h hB => ?_))
  obtain ⟨rfl, b, h4⟩ := hB
  refine e_putF C Y E.nm kd_X0 1 (by decide) rfl rfl wf_X0_20 dX0_init_21 (h4.at 3 rfl) (Nat.le_of_ble_eq_true rfl) rfl rfl ?_
  have h5 := h4.put 3 rfl (.inr (0, [.ref m, .ref a, .int 0, .int 0]))
  refine x_aload_n C dX0_init_24 rfl ?_
  refine x_iconst (v := 0) C dX0_init_25 (by decide) ?_
  refine e_put C Y kd_X0 2 (by decide) rfl wf_X0_24 dX0_init_26 (h5.at 3 rfl) (Nat.le_of_ble_eq_true rfl) rfl rfl rfl ?_
  have h6 := h5.put 3 rfl (.inr (0, [.ref m, .ref a, .int 0, .int 0]))
  refine x_aload_n C dX0_init_29 rfl ?_
  refine x_iconst (v := 0) C dX0_init_30 (by decide) ?_
  refine e_put C Y kd_X0 3 (by decide) rfl wf_X0_28 dX0_init_31 (h6.at 3 rfl) (Nat.le_of_ble_eq_true rfl) rfl rfl rfl ?_
  have h7 := h6.put 3 rfl (.inr (0, [.ref m, .ref a, .int 0, .int 0]))
  exact x_vret C E dX0_init_34 (fun g e => by subst e; exact ⟨rfl, m, a, b, h7⟩)
end Make
end
section
/-! The makings of Decoder and MeterBus. -/
section Make
variable {w : Wd} {c : Nat → ClassId} {l : List (Nat × va_E)} {p li fr : Nat}
theorem n_dec (hW : Wc w c) : T w gw yX1_init cX1_init 3 none 1 (40 * 1) 0 0 [.ref p, .ref fr, .ref li] (HL ((p, .inr (1, [.null, .null, .int 0, .int 0, .int 0, .int 0, .int 0])) :: l)) (fun r g => r = none ∧ HL ((p, .inr (1, [.ref li, .ref fr, .int 0, .int 0, .int 0, .int (-1), .int 0])) :: l) g) := by
  refine TA.intro hW rfl (by decide +kernel) (Nat.le_of_ble_eq_true rfl) (fun z C Y E hn h hA => ?_)
  refine x_aload_n C dX1_init_0 rfl ?_
  refine x_objInit C wm_X1_3 dX1_init_1 (by rw [E.fr_]; decide) (by rw [E.lo_]; decide) ?_
  refine x_aload_n C dX1_init_4 rfl ?_
  refine x_iconst (v := 0) C dX1_init_5 (by decide) ?_
  refine e_put C Y kd_X1 2 (by decide) rfl wf_X1_9 dX1_init_6 (hA.at 0 rfl) (Nat.le_of_ble_eq_true rfl) rfl rfl rfl ?_
  have h1 := hA.put 0 rfl (.inr (1, [.null, .null, .int 0, .int 0, .int 0, .int 0, .int 0]))
  refine x_aload_n C dX1_init_9 rfl ?_
  refine x_iconst (v := 0) C dX1_init_10 (by decide) ?_
  refine e_put C Y kd_X1 3 (by decide) rfl wf_X1_15 dX1_init_11 (h1.at 0 rfl) (Nat.le_of_ble_eq_true rfl) rfl rfl rfl ?_
  have h2 := h1.put 0 rfl (.inr (1, [.null, .null, .int 0, .int 0, .int 0, .int 0, .int 0]))
  refine x_aload_n C dX1_init_14 rfl ?_
  refine x_iconst (v := 0) C dX1_init_15 (by decide) ?_
  refine e_put C Y kd_X1 4 (by decide) rfl wf_X1_18 dX1_init_16 (h2.at 0 rfl) (Nat.le_of_ble_eq_true rfl) rfl rfl rfl ?_
  have h3 := h2.put 0 rfl (.inr (1, [.null, .null, .int 0, .int 0, .int 0, .int 0, .int 0]))
  refine x_aload_n C dX1_init_19 rfl ?_
  refine x_iconst (v := -1) C dX1_init_20 (by decide) ?_
  refine e_put C Y kd_X1 5 (by decide) rfl wf_X1_21 dX1_init_21 (h3.at 0 rfl) (Nat.le_of_ble_eq_true rfl) rfl rfl rfl ?_
  have h4 := h3.put 0 rfl (.inr (1, [.null, .null, .int 0, .int 0, .int 0, .int (-1), .int 0]))
  refine x_aload_n C dX1_init_24 rfl ?_
  refine x_iconst (v := 0) C dX1_init_25 (by decide) ?_
  refine e_put C Y kd_X1 6 (by decide) rfl wf_X1_24 dX1_init_26 (h4.at 0 rfl) (Nat.le_of_ble_eq_true rfl) (by decide) (by decide) rfl ?_
  have h5 := h4.put 0 rfl (.inr (1, [.null, .null, .int 0, .int 0, .int 0, .int (-1), .int 0]))
  refine x_aload_n C dX1_init_29 rfl ?_
  refine x_aload_n C dX1_init_30 rfl ?_
  refine e_put C Y kd_X1 1 (by decide) rfl wf_X1_28 dX1_init_31 (h5.at 0 rfl) (Nat.le_of_ble_eq_true rfl) rfl rfl rfl ?_
  have h6 := h5.put 0 rfl (.inr (1, [.null, .ref fr, .int 0, .int 0, .int 0, .int (-1), .int 0]))
  refine x_aload_n C dX1_init_34 rfl ?_
  refine x_aload_n C dX1_init_35 rfl ?_
  refine e_putF C Y E.nm kd_X1 0 (by decide) rfl rfl wf_X1_32 dX1_init_36 (h6.at 0 rfl) (Nat.le_of_ble_eq_true rfl) rfl rfl ?_
  have h7 := h6.put 0 rfl (.inr (1, [.ref li, .ref fr, .int 0, .int 0, .int 0, .int (-1), .int 0]))
  exact x_vret C E dX1_init_39 (fun g e => by subst e; exact ⟨rfl, h7⟩)
/-- a new MeterBus: places 0 the object, 1 buffer, 2 its bytes, 3 bus, 4 its meters, 5 its answer, 6 the answer's bytes, 7 list, 8 its readings, 9 decoder, 10 what was found -/
def clsL (c : Nat → ClassId) (a : Nat → Nat) : List (Nat × va_E) :=
  [(a 10, .inl (c 1, 12, .inr (.inl (fun _ => 0)))), (a 9, .inr (1, [.ref (a 7), .ref (a 1), .int 0, .int 0, .int 0, .int (-1), .int 0])), (a 8, zR c (fun _ => none)), (a 7, .inr (4, [.ref (a 8), .int 0])), (a 6, z300 c), (a 5, .inr (5, [.ref (a 6), .int 0])), (a 4, zM c (fun _ => none)), (a 3, .inr (0, [.ref (a 4), .ref (a 5), .int 0, .int 0])), (a 2, z300 c), (a 1, .inr (5, [.ref (a 2), .int 0])),
    (a 0, .inr (6, [.ref (a 1), .ref (a 3), .ref (a 7), .ref (a 9), .ref (a 10), .int 0]))]
def ad11 (a0 a1 a2 a3 a4 a5 a6 a7 a8 a9 a10 : Nat) : Nat → Nat := fun i => match i with
  | 0 => a0 | 1 => a1 | 2 => a2 | 3 => a3 | 4 => a4 | 5 => a5 | 6 => a6 | 7 => a7 | 8 => a8 | 9 => a9 | _ => a10
theorem n_mb (hX : Wx w c) : T w gw yX6_init cX6_init 1 none 4 (40 * 4) 10 742 [.ref p] (HL ((p, .inr (6, [.null, .null, .null, .null, .null, .int 0])) :: l)) (fun r g => r = none ∧ ∃ a : Nat → Nat, a 0 = p ∧ HL (clsL c a ++ l) g) := by
  refine TA.intro hX.1 rfl (by decide +kernel) (Nat.le_of_ble_eq_true rfl) (fun z C Y E hn h hA => ?_)
  refine x_aload_n C dX6_init_0 rfl ?_
  refine x_objInit C wm_X6_1 dX6_init_1 (by rw [E.fr_]; decide) (by rw [E.lo_]; decide) ?_
  refine x_aload_n C dX6_init_4 rfl ?_
  refine e_new (kc := 9) (ks := 740) (N := 2) C Y kd_X5 wc_X6_7 wn_X5 wz_X5 dX6_init_5 (fs := [.null, .int 0]) (fun j hj => by rcases (show j = 0 ∨ j = 1 by omega) with rfl | rfl <;> rfl) (fun a1 hq => ?_)
  have h1 := hA.new hq (.inr (5, [.null, .int 0]))
  refine x_dup C dX6_init_8 rfl ?_
  refine X.heap (A' := HL _) ?_ (fun g e => by subst e; exact h1)
  refine k_callIN (kc := 8) (ks := 440) (st := [.ref a1, .ref p]) C E.cs hX.1.1 gw_good (n_row hX.1) md_X5_init rfl wi_X5_init (E.cs.nest hX (q := (RX6, 9, yX5_init)) (by simp [nst])) dX6_init_9 rfl (by decide) (by decide) rfl (by simp [Value.category]) (fun r => X.opn (fun h hB => ?_))
  obtain ⟨rfl, a2, h2⟩ := hB
  refine e_putF C Y E.nm kd_X6 0 (by decide) rfl rfl wf_X6_10 dX6_init_12 (h2.at 2 rfl) (Nat.le_of_ble_eq_true rfl) rfl rfl ?_
  have h3 := h2.put 2 rfl (.inr (6, [.ref a1, .null, .null, .null, .null, .int 0]))
  refine x_aload_n C dX6_init_15 rfl ?_
  refine e_new (kc := 7) (ks := 436) (N := 4) C Y kd_X0 wc_X6_16 wn_X0 wz_X0 dX6_init_16 (fs := [.null, .null, .int 0, .int 0]) (fun j hj => by rcases (show j = 0 ∨ j = 1 ∨ j = 2 ∨ j = 3 by omega) with rfl | rfl | rfl | rfl <;> rfl) (fun a3 hq3 => ?_)
  have h4 := h3.new hq3 (.inr (0, [.null, .null, .int 0, .int 0]))
  refine x_dup C dX6_init_19 rfl ?_
  refine X.heap (A' := HL _) ?_ (fun g e => by subst e; exact h4)
  refine k_callIN (kc := 4) (ks := 122) (st := [.ref a3, .ref p]) C E.cs hX.1.1 gw_good (n_bus hX) md_X0_init rfl wi_X0_init (E.cs.nest hX (q := (RX6, 18, yX0_init)) (by simp [nst])) dX6_init_20 rfl (by decide) (by decide) rfl (by simp [Value.category]) (fun r => X.opn (fun h hB => ?_))
  obtain ⟨rfl, a4, a5, a6, h5⟩ := hB
  refine e_putF C Y E.nm kd_X6 1 (by decide) rfl rfl wf_X6_19 dX6_init_23 (h5.at 6 rfl) (Nat.le_of_ble_eq_true rfl) rfl rfl ?_
  have h6 := h5.put 6 rfl (.inr (6, [.ref a1, .ref a3, .null, .null, .null, .int 0]))
  refine x_aload_n C dX6_init_26 rfl ?_
  refine e_new (kc := 3) (ks := 120) (N := 2) C Y kd_X4 wc_X6_23 wn_X4 wz_X4 dX6_init_27 (fs := [.null, .int 0]) (fun j hj => by rcases (show j = 0 ∨ j = 1 by omega) with rfl | rfl <;> rfl) (fun a7 hq7 => ?_)
  have h7 := h6.new hq7 (.inr (4, [.null, .int 0]))
  refine x_dup C dX6_init_30 rfl ?_
  refine X.heap (A' := HL _) ?_ (fun g e => by subst e; exact h7)
  refine k_callIN (kc := 2) (ks := 19) (st := [.ref a7, .ref p]) C E.cs hX.1.1 gw_good (n_recs hX) md_X4_init rfl wi_X4_init (E.cs.nest hX (q := (RX6, 25, yX4_init)) (by simp [nst])) dX6_init_31 rfl (by decide) (by decide) rfl (by simp [Value.category]) (fun r => X.opn (fun h hB => ?_))
  obtain ⟨rfl, a8, h8⟩ := hB
  refine e_putF C Y E.nm kd_X6 2 (by decide) rfl rfl wf_X6_26 dX6_init_34 (h8.at 8 rfl) (Nat.le_of_ble_eq_true rfl) rfl rfl ?_
  have h9 := h8.put 8 rfl (.inr (6, [.ref a1, .ref a3, .ref a7, .null, .null, .int 0]))
  refine x_aload_n C dX6_init_37 rfl ?_
  refine e_new (kc := 1) (ks := 12) (N := 7) C Y kd_X1 wc_X6_30 wn_X1 wz_X1 dX6_init_38 (fs := [.null, .null, .int 0, .int 0, .int 0, .int 0, .int 0]) (fun j hj => by rcases (show j = 0 ∨ j = 1 ∨ j = 2 ∨ j = 3 ∨ j = 4 ∨ j = 5 ∨ j = 6 by omega) with rfl | rfl | rfl | rfl | rfl | rfl | rfl <;> rfl) (fun a9 hq9 => ?_)
  have h10 := h9.new hq9 (.inr (1, [.null, .null, .int 0, .int 0, .int 0, .int 0, .int 0]))
  refine x_dup C dX6_init_41 rfl ?_
  refine x_aload_n C dX6_init_42 rfl ?_
  refine e_get C Y kd_X6 0 (by decide) wf_X6_10 dX6_init_43 (h10.at 9 rfl) rfl ?_
  refine x_aload_n C dX6_init_46 rfl ?_
  refine e_get C Y kd_X6 2 (by decide) wf_X6_26 dX6_init_47 (h10.at 9 rfl) rfl ?_
  refine X.heap (A' := HL _) ?_ (fun g e => by subst e; exact h10)
  refine k_callI (kc := 1) (ks := 12) (mc' := 0) (ms' := 0) (st := [.ref a9, .ref p]) C E.cs hX.1.1 gw_good (n_dec hX.1) md_X1_init rfl wi_X1_init wm_X6_32 dX6_init_50 rfl (by decide) (by decide) rfl (by simp [Value.category]) (fun r => X.opn (fun h hB => ?_))
  obtain ⟨rfl, h11⟩ := hB
  refine e_putF C Y E.nm kd_X6 3 (by decide) rfl rfl wf_X6_35 dX6_init_53 (h11.at 9 rfl) (Nat.le_of_ble_eq_true rfl) rfl rfl ?_
  have h12 := h11.put 9 rfl (.inr (6, [.ref a1, .ref a3, .ref a7, .ref a9, .null, .int 0]))
  refine x_aload_n C dX6_init_56 rfl ?_
  refine x_bipush (v := 12) C dX6_init_57 (by decide) ?_
  refine e_newl (kc := 0) (ks := 0) (N := 12) C Y dX6_init_59 (by decide) (by decide) (by decide) (fun a10 hq10 => ?_)
  have h13 := h12.new hq10 (.inl (c 1, 12, .inr (.inl (fun _ => 0))))
  refine e_putF C Y E.nm kd_X6 4 (by decide) rfl rfl wf_X6_39 dX6_init_61 (h13.at 10 rfl) (Nat.le_of_ble_eq_true rfl) rfl rfl ?_
  have h14 := h13.put 10 rfl (.inr (6, [.ref a1, .ref a3, .ref a7, .ref a9, .ref a10, .int 0]))
  refine x_aload_n C dX6_init_64 rfl ?_
  refine x_iconst (v := 0) C dX6_init_65 (by decide) ?_
  refine e_put C Y kd_X6 5 (by decide) rfl wf_X6_43 dX6_init_66 (h14.at 10 rfl) (Nat.le_of_ble_eq_true rfl) rfl rfl rfl ?_
  have h15 := h14.put 10 rfl (.inr (6, [.ref a1, .ref a3, .ref a7, .ref a9, .ref a10, .int 0]))
  exact x_vret C E dX6_init_69 (fun g e => by subst e; exact ⟨rfl, ad11 p a1 a2 a3 a4 a5 a6 a7 a8 a9 a10, rfl, h15⟩)
end Make
end
section
/-! A new Meter (of its pages only that they are there is told here). -/
section Rows
variable {z : Fx} {own : String} {cc : ByteArray} {kc ks pc : Nat} {L : List (Option Value)} {st : List Value} {c : Nat → ClassId} {h : PH}
theorem e_mnaW (C : Cx z own cc gw) (Y : Cty z c) {index : Nat} (ho : va_AOA .int z.s) (wl : Cond.classLink own index "[[I" ∈ gw) (d : decode cc pc = .ok (.multianewarray index 2, 4)) {n k : Int32} {N K : Nat} (hn : ¬ n < 0) (hk : ¬ k < 0) (hN : n.toNatClampNeg = N) (hK : k.toNatClampNeg = K) (hb : N ≤ 1000) (hb2 : K ≤ 1000)
    (kk : ∀ q : Nat, X z kc ks (EQ h) (pc + 4) L (.ref q :: st)) : X z (kc + (1 + N)) (ks + (N + N * K)) (EQ h) pc L (.int k :: .int n :: st) := by
  intro H locs ls cells slots ⟨g, hA, LP, f, q1, q2, q3⟩ hS hl c1 c2
  subst hA
  have r1 := C.rc
  have r2 := C.rs
  obtain ⟨t0, ht0⟩ := Y.2.1
  have hcy : z.s.vm.findClass (FieldType.array .int).toString = some (c 0) := va_nm_int (C.K.2 t0 _ ht0).2
  refine va_mna (X := []) (L := LP) (f := f) (ty := .int) (cy := c 0) (N' := N) (K' := K) (z := (K, .inl (fun _ => 0))) C.x C.b C.ow (C.ts _ wl) ho (C.ts _ wa_int) hcy C.K q2 q3 hS C.fr hn hk hN hK (by omega) (by show K * 4 ≤ 536870912; omega) (by omega) rfl rfl (by omega) (by omega) (fun cB => by rw [vp_cell_i]; exact arrV_new ..) d (fun q r cA H1 hi hf hK1 hP1 hD1 hS1 => ?_)
  refine kk q H1 locs ls (cells + 1 + N) (slots + N + N * K) ⟨g, rfl, LP ++ (List.range N).map r, vr_up f ((List.range N).map r) (.inl (c 0, K, .inl (fun _ => 0))), fun a e ge => ?_, fun j x hx => hP1 (j + 1) x hx, ?_⟩ hS1 hl (by omega) (by omega)
  · obtain ⟨g1, g2⟩ := q1 a e ge
    refine ⟨List.mem_append_left _ g1, ?_⟩
    rw [vr_up_ne (fun m => ?_), g2]
    obtain ⟨i, mi, rfl⟩ := List.mem_map.mp m
    exact hf i (List.mem_range.mp mi) g1
  · refine ⟨fun i j x y hx hy e => ?_, fun j x hx => hD1.2 (j + 1) x hx⟩
    have := hD1.1 (i + 1) (j + 1) x y hx hy e
    omega
end Rows
section Make
variable {w : Wd} {c : Nat → ClassId} {l : List (Nat × va_E)} {p : Nat}
/-- a Meter at p with the fields fs, all that h held is there -/
def HO (h : PH) (p : Nat) (fs : List Value) (g : PH) : Prop := h p = none ∧ g p = some (.inr (2, fs)) ∧ ∀ q, h q ≠ none → g q = h q
theorem HO.put {h g : PH} {p : Nat} {fs : List Value} (H : HO h p fs g) (fs' : List Value) : HO h p fs' (hs g p (.inr (2, fs'))) := ⟨H.1, hs_self .., fun q n => by rw [hs_ne (fun e => n (by rw [e]; exact H.1))]; exact H.2.2 q n⟩
theorem HO.new {h g : PH} {p ps : Nat} {fs : List Value} (H : HO h p fs g) (hq : g ps = none) (e : va_E) : HO h p fs (hs g ps e) := by
  refine ⟨H.1, ?_, fun q n => ?_⟩
  · rw [hs_ne (fun e1 => by have := H.2.1; rw [e1, hq] at this; exact nomatch this)]; exact H.2.1
  · rw [hs_ne (fun e1 => by have := H.2.2 q n; rw [e1, hq] at this; exact n (by rw [e1]; exact this.symm))]; exact H.2.2 q n
theorem n_met (hX : Wx w c) (h0 : PH) (pr : Int32) (ad : Int64) : T w gw yX2_init cX2_init 4 none 1 (40 * 1) 5 186 [.ref p, .int pr, .long ad] (HO h0 p [.long 0, .int 0, .int 0, .null, .null, .int 0, .int 0, .int 0]) (fun r g => r = none ∧ ∃ fs, HO h0 p fs g) := by
  refine TA.intro hX.1 rfl (by decide +kernel) (Nat.le_of_ble_eq_true rfl) (fun z C Y E hn h hA => ?_)
  refine x_aload_n C dX2_init_0 rfl ?_
  refine x_objInit C wm_X2_3 dX2_init_1 (by rw [E.fr_]; decide) (by rw [E.lo_]; decide) ?_
  refine x_aload_n C dX2_init_4 rfl ?_
  refine x_iconst (v := 0) C dX2_init_5 (by decide) ?_
  refine e_put C Y kd_X2 2 (by decide) rfl wf_X2_9 dX2_init_6 hA.2.1 (Nat.le_of_ble_eq_true rfl) (by decide) (by decide) rfl ?_
  have h1 := hA.put [.long 0, .int 0, .int 0, .null, .null, .int 0, .int 0, .int 0]
  refine x_aload_n C dX2_init_9 rfl ?_
  refine x_iconst (v := 3) C dX2_init_10 (by decide) ?_
  refine x_bipush (v := 60) C dX2_init_11 (by decide) ?_
  refine e_mnaW (kc := 1) (ks := 3) (N := 3) (K := 60) C Y (E.cs.gx hX).2.2.2.2.2.2.2.2 wc_X2_15 dX2_init_13 (by decide) (by decide) (by decide) (by decide) (by decide) (by decide) (fun q => ?_)
  refine e_putF C Y E.nm kd_X2 3 (by decide) rfl rfl wf_X2_17 dX2_init_17 h1.2.1 (Nat.le_of_ble_eq_true rfl) rfl rfl ?_
  have h2 := h1.put [.long 0, .int 0, .int 0, .ref q, .null, .int 0, .int 0, .int 0]
  refine x_aload_n C dX2_init_20 rfl ?_
  refine x_iconst (v := 3) C dX2_init_21 (by decide) ?_
  refine e_newi (kc := 0) (ks := 0) (N := 3) C Y dX2_init_22 (by decide) (by decide) (by decide) (fun ps hps => ?_)
  have h3 := h2.new hps (.inl (c 0, 3, .inl (fun _ => 0)))
  refine e_putF C Y E.nm kd_X2 4 (by decide) rfl rfl wf_X2_20 dX2_init_24 h3.2.1 (Nat.le_of_ble_eq_true rfl) rfl rfl ?_
  have h4 := h3.put [.long 0, .int 0, .int 0, .ref q, .ref ps, .int 0, .int 0, .int 0]
  refine x_aload_n C dX2_init_27 rfl ?_
  refine x_iconst (v := -1) C dX2_init_28 (by decide) ?_
  refine e_put C Y kd_X2 5 (by decide) rfl wf_X2_24 dX2_init_29 h4.2.1 (Nat.le_of_ble_eq_true rfl) rfl rfl rfl ?_
  have h5 := h4.put [.long 0, .int 0, .int 0, .ref q, .ref ps, .int (-1), .int 0, .int 0]
  refine x_aload_n C dX2_init_32 rfl ?_
  refine x_iconst (v := -1) C dX2_init_33 (by decide) ?_
  refine e_put C Y kd_X2 6 (by decide) rfl wf_X2_28 dX2_init_34 h5.2.1 (Nat.le_of_ble_eq_true rfl) rfl rfl rfl ?_
  have h6 := h5.put [.long 0, .int 0, .int 0, .ref q, .ref ps, .int (-1), .int (-1), .int 0]
  refine x_aload_n C dX2_init_37 rfl ?_
  refine x_iconst (v := 0) C dX2_init_38 (by decide) ?_
  refine e_put C Y kd_X2 7 (by decide) rfl wf_X2_31 dX2_init_39 h6.2.1 (Nat.le_of_ble_eq_true rfl) rfl rfl rfl ?_
  have h7 := h6.put [.long 0, .int 0, .int 0, .ref q, .ref ps, .int (-1), .int (-1), .int 0]
  refine x_aload_n C dX2_init_42 rfl ?_
  refine x_iload_n C dX2_init_43 rfl ?_
  refine e_put C Y kd_X2 1 (by decide) rfl wf_X2_34 dX2_init_44 h7.2.1 (Nat.le_of_ble_eq_true rfl) rfl rfl rfl ?_
  have h8 := h7.put [.long 0, .int pr, .int 0, .ref q, .ref ps, .int (-1), .int (-1), .int 0]
  refine x_aload_n C dX2_init_47 rfl ?_
  refine x_lload_n C dX2_init_48 rfl ?_
  refine e_putF C Y E.nm kd_X2 0 (by decide) rfl rfl wf_X2_37 dX2_init_49 h8.2.1 (Nat.le_of_ble_eq_true rfl) rfl rfl ?_
  have h9 := h8.put [.long ad, .int pr, .int 0, .ref q, .ref ps, .int (-1), .int (-1), .int 0]
  exact x_vret C E dX2_init_52 (fun g e => by subst e; exact ⟨rfl, _, h9⟩)
end Make
end
section
/-! Bus, with no meter on it. -/
section Rows
variable {z : Fx} {own : String} {cc : ByteArray} {kc ks pc : Nat} {L : List (Option Value)} {st : List Value} {w : Wd} {c : Nat → ClassId} {y : MethodName} {rt : Option FieldType} {lvl : Nat} {h h' : PH} {r : Option Value}
theorem e_aldN (C : Cx z own cc gw) {t0 : Nat} {cA : ClassId} {Cn : String} (ht : z.tys[t0]? = some (cA, .object Cn)) (d : decode cc pc = .ok (.aaload, 1)) {a n j : Nat} {f : Nat → Option Nat} {i : Int32} (g : h a = some (.inl (cA, n, .inr (.inr (.inr (.inr f)))))) (hi : i = nI j) (hj : j < n) (hn : n < 2 ^ 31) (hb : f j = none)
    (kk : X z kc ks (EQ h) (pc + 1) L (.null :: st)) : X z kc ks (EQ h) pc L (.int i :: .ref a :: st) := by
  subst hi
  refine x_aald C ht d (fun q e => by rw [e]; exact g) (vp_in_nI hj hn) ?_
  rw [nI_clamp (by omega), hb]
  exact kk
theorem e_astN (C : Cx z own cc gw) {t0 : Nat} {cA : ClassId} {Cn : String} (ht : z.tys[t0]? = some (cA, .object Cn)) (d : decode cc pc = .ok (.aastore, 1)) {a n j : Nat} {f : Nat → Option Nat} {i : Int32} (g : h a = some (.inl (cA, n, .inr (.inr (.inr (.inr f)))))) (hi : i = nI j) (hj : j < n) (hn : n < 2 ^ 31)
    (kk : X z kc ks (EQ (hs h a (.inl (cA, n, .inr (.inr (.inr (.inr (va_up f j none)))))))) (pc + 1) L st) : X z kc ks (EQ h) pc L (.null :: .int i :: .ref a :: st) := by
  subst hi
  exact x_aastN C ht d (fun q e => by rw [e]; exact g) (vp_in_nI hj hn) (fun q e => by rw [e, nI_clamp (by omega)]) kk
theorem e_ast (C : Cx z own cc gw) (Y : Cty z c) {t0 ci v : Nat} {cA : ClassId} {rr : vw_C} {vs : List Value} (ht : z.tys[t0]? = some (cA, .object rr.1)) (hc : vwCl[ci]? = some rr) (d : decode cc pc = .ok (.aastore, 1)) {a n j : Nat} {f : Nat → Option Nat} {i : Int32} (g : h a = some (.inl (cA, n, .inr (.inr (.inr (.inr f)))))) (hi : i = nI j) (hj : j < n) (hn : n < 2 ^ 31) (gv : h v = some (.inr (ci, vs)))
    (kk : X z kc ks (EQ (hs h a (.inl (cA, n, .inr (.inr (.inr (.inr (va_up f j (some v))))))))) (pc + 1) L st) : X z kc ks (EQ h) pc L (.ref v :: .int i :: .ref a :: st) := by
  subst hi
  exact x_aast C ht (by rw [Y.1]; exact hc) d (fun q e => by rw [e]; exact g) (vp_in_nI hj hn) (fun q e => by rw [e]; exact gv) (fun q e => by rw [e, nI_clamp (by omega)]) kk
theorem e_aret (C : Cx z own cc gw) {ft : FieldType} (E : Ct z w gw y (some ft) lvl (40 * lvl) (PQ r h')) (hft : (∃ n, ft = .object n) ∨ ∃ t, ft = .array t) (d : decode cc pc = .ok (.areturn, 1)) {v : Value} (hv : v = .null ∨ ∃ a, v = .ref a) (g : some v = r) (g' : h = h') : X z kc ks (EQ h) pc L [v] := x_aret C E hft d hv (fun q e => ⟨g, e.trans g'⟩)
theorem o_astore_nN (C : Cx z own cc gw) {A : PH → Prop} {i : Fin 4} {L' : List (Option Value)} (d : decode cc pc = .ok (.astore_n i, 1)) (g : (i : Nat) < z.nL) (e : lst1 L i .null = L') (k : X z kc ks A (pc + 1) L' st) : X z kc ks A pc L (.null :: st) := by
  subst e
  exact x_astore_nN C d g k
theorem o_astoreN (C : Cx z own cc gw) {A : PH → Prop} {i : Nat} {L' : List (Option Value)} (d : decode cc pc = .ok (.astore i, 2)) (g : i < z.nL) (e : lst1 L i .null = L') (k : X z kc ks A (pc + 2) L' st) : X z kc ks A pc L (.null :: st) := by
  subst e
  exact x_astoreN C d g k
end Rows
theorem Wx.tM {w : Wd} {c : Nat → ClassId} {z : Fx} {fr lo : Nat} (hX : Wx w c) (E : Cs z w fr lo) : ∃ t : Nat, z.tys[t]? = some (c 3, .object RX2) := by
  rw [E.2.2.2.1]; exact hX.2.2.2.1
section Bus
variable {w : Wd} {c : Nat → ClassId} {h : PH} {u m an : Nat} {fr co : Int32}
/-- a Bus at u, no meter in its array m -/
def BE (c : Nat → ClassId) (h : PH) (u m an : Nat) (fr co : Int32) : Prop := h u = some (.inr (0, [.ref m, .ref an, .int fr, .int co])) ∧ h m = some (zM c (fun _ => none))
theorem b_meterAt (hX : Wx w c) (B : BE c h u m an fr co) (k : Int32) : TC w yX0_meterAt cX0_meterAt 2 (some (.object "MeterBus$Meter")) 0 [.ref u, .int k] h (some .null) h := by
  refine TC.intro hX.1 rfl (by decide +kernel) (Nat.le_of_ble_eq_true rfl) (fun z C Y E hn => ?_)
  obtain ⟨t, ht⟩ := hX.tM E.cs
  have T20 : X z 0 0 (EQ h) 20 [some (.ref u), some (.int k)] [.null] := e_aret C E (Or.inl ⟨_, rfl⟩) dX0_meterAt_20 (Or.inl rfl) rfl rfl
  have T19 : X z 0 0 (EQ h) 19 [some (.ref u), some (.int k)] [] := x_null C dX0_meterAt_19 T20
  refine x_iload_n C dX0_meterAt_0 rfl ?_
  refine x_if_lt (tgt := 19) C dX0_meterAt_1 (by decide) (fun _ => T19) (fun c1 => ?_)
  refine x_iload_n C dX0_meterAt_4 rfl ?_
  refine x_bipush (v := 12) C dX0_meterAt_5 (by decide) ?_
  refine x_icmp_ge (tgt := 19) C dX0_meterAt_7 (by decide) (fun _ => T19) (fun c2 => ?_)
  obtain ⟨j, hj, rfl⟩ := nI_of c1
  have hj2 : j < 12 := (nI_ltI hj (by decide)).mp (Int32.not_le.mp c2)
  refine x_aload_n C dX0_meterAt_10 rfl ?_
  refine e_get C Y kd_X0 0 (by decide) wf_X0_11 dX0_meterAt_11 B.1 rfl ?_
  refine x_iload_n C dX0_meterAt_14 rfl ?_
  refine e_aldN C ht dX0_meterAt_15 B.2 rfl hj2 (by decide) rfl ?_
  exact x_goto (tgt := 20) C dX0_meterAt_16 (by decide) T20
theorem b_plugN (hX : Wx w c) (B : BE c h u m an fr co) (k : Nat) (hk : k < 12) : TC w yX0_plug cX0_plug 3 none 0 [.ref u, .int (nI k), .null] h none h := by
  refine TC.intro hX.1 rfl (by decide +kernel) (Nat.le_of_ble_eq_true rfl) (fun z C Y E hn => ?_)
  obtain ⟨t, ht⟩ := hX.tM E.cs
  refine x_iload_n C dX0_plug_0 rfl ?_
  refine x_if_lt (tgt := 17) C dX0_plug_1 (by decide) (fun c1 => absurd c1 (nI_pos (by omega))) (fun c1 => ?_)
  refine x_iload_n C dX0_plug_4 rfl ?_
  refine x_bipush (v := 12) C dX0_plug_5 (by decide) ?_
  refine x_icmp_ge (tgt := 17) C dX0_plug_7 (by decide) (fun c2 => absurd c2 (Int32.not_le.mpr (nI_lt hk (by decide)))) (fun c2 => ?_)
  refine x_aload_n C dX0_plug_10 rfl ?_
  refine e_get C Y kd_X0 0 (by decide) wf_X0_11 dX0_plug_11 B.1 rfl ?_
  refine x_iload_n C dX0_plug_14 rfl ?_
  refine x_aload_nN C dX0_plug_15 rfl ?_
  refine e_astN C ht dX0_plug_16 B.2 rfl hk (by decide) ?_
  refine e_vret C E dX0_plug_17 rfl (hs_same ?_)
  rw [B.2]
  refine congrArg some ?_
  have : (va_up (fun _ : Nat => (none : Option Nat)) k none) = fun _ => none := by
    funext q
    by_cases e : q = k
    · subst e; exact va_up_self ..
    · exact va_up_ne _ _ e
  rw [this]
theorem b_plug (hX : Wx w c) (B : BE c h u m an fr co) (k v : Nat) (hk : k < 12) {vs : List Value} (hv : h v = some (.inr (2, vs))) : TC w yX0_plug cX0_plug 3 none 0 [.ref u, .int (nI k), .ref v] h none (hs h m (zM c (va_up (fun _ => none) k (some v)))) := by
  refine TC.intro hX.1 rfl (by decide +kernel) (Nat.le_of_ble_eq_true rfl) (fun z C Y E hn => ?_)
  obtain ⟨t, ht⟩ := hX.tM E.cs
  refine x_iload_n C dX0_plug_0 rfl ?_
  refine x_if_lt (tgt := 17) C dX0_plug_1 (by decide) (fun c1 => absurd c1 (nI_pos (by omega))) (fun c1 => ?_)
  refine x_iload_n C dX0_plug_4 rfl ?_
  refine x_bipush (v := 12) C dX0_plug_5 (by decide) ?_
  refine x_icmp_ge (tgt := 17) C dX0_plug_7 (by decide) (fun c2 => absurd c2 (Int32.not_le.mpr (nI_lt hk (by decide)))) (fun c2 => ?_)
  refine x_aload_n C dX0_plug_10 rfl ?_
  refine e_get C Y kd_X0 0 (by decide) wf_X0_11 dX0_plug_11 B.1 rfl ?_
  refine x_iload_n C dX0_plug_14 rfl ?_
  refine x_aload_n C dX0_plug_15 rfl ?_
  refine e_ast (rr := (RX2, TX2, 8)) C Y ht rfl dX0_plug_16 B.2 rfl hk (by decide) hv ?_
  exact e_vret C E dX0_plug_17 rfl rfl
theorem b_hasAnother (hX : Wx w c) (B : BE c h u m an fr co) (k : Int32) (a : Int64) : TC w yX0_hasAnother cX0_hasAnother 5 (some .boolean) 1 [.ref u, .int k, .long a] h (some (.int 0)) h := by
  refine TC.intro hX.1 rfl (by decide +kernel) (Nat.le_of_ble_eq_true rfl) (fun z C Y E hn => ?_)
  obtain ⟨t, ht⟩ := hX.tM E.cs
  have LP : ∀ (t k9 : Nat), k9 + t = 12 → X z 0 0 (EQ h) 3 [some (.ref u), some (.int k), some (.long a), none, some (.int (nI k9))] [] := by
    intro t
    induction t with
    | zero =>
      intro k9 hk
      obtain rfl : k9 = 12 := by omega
      refine x_iload C dX0_hasAnother_3 rfl ?_
      refine x_bipush (v := 12) C dX0_hasAnother_5 (by decide) ?_
      refine x_icmp_ge (tgt := 48) C dX0_hasAnother_7 (by decide) (fun _ => ?_) (fun c7 => absurd (Int32.le_refl _) c7)
      refine x_iconst (v := 0) C dX0_hasAnother_48 (by decide) ?_
      exact e_zret C E dX0_hasAnother_49 (by decide) rfl rfl
    | succ t ih =>
      intro k9 hk
      have T42 : X z 0 0 (EQ h) 42 [some (.ref u), some (.int k), some (.long a), none, some (.int (nI k9))] [] := by
        refine o_iincE (v := nI (k9 + 1)) (L' := [some _, some _, some _, none, some _]) C dX0_hasAnother_42 rfl (nI_1 k9) (by rw [hn]; decide) rfl ?_
        refine x_goto (tgt := 3) C dX0_hasAnother_45 (by decide) ?_
        exact ih (k9 + 1) (by omega)
      refine x_iload C dX0_hasAnother_3 rfl ?_
      refine x_bipush (v := 12) C dX0_hasAnother_5 (by decide) ?_
      refine x_icmp_ge (tgt := 48) C dX0_hasAnother_7 (by decide) (fun c7 => absurd c7 (Int32.not_le.mpr (nI_lt (show k9 < 12 by omega) (by decide)))) (fun c7 => ?_)
      refine x_iload C dX0_hasAnother_10 rfl ?_
      refine x_iload_n C dX0_hasAnother_12 rfl ?_
      refine x_icmp_eq (tgt := 42) C dX0_hasAnother_13 (by decide) (fun _ => T42) (fun _ => ?_)
      refine x_aload_n C dX0_hasAnother_16 rfl ?_
      refine e_get C Y kd_X0 0 (by decide) wf_X0_11 dX0_hasAnother_17 B.1 rfl ?_
      refine x_iload C dX0_hasAnother_20 rfl ?_
      refine e_aldN C ht dX0_hasAnother_22 B.2 rfl (show k9 < 12 by omega) (by decide) rfl ?_
      exact x_ifnullN (tgt := 42) C dX0_hasAnother_23 (by decide) T42
  refine x_iconst (v := 0) C dX0_hasAnother_0 (by decide) ?_
  refine o_istoreE (L' := [some _, some _, some _, none, some _]) C dX0_hasAnother_1 (by rw [hn]; decide) rfl ?_
  exact LP 12 0 rfl
theorem b_meterNumber (hX : Wx w c) (B : BE c h u m an fr co) : TC w yX0_meterNumber cX0_meterNumber 3 (some .int) 0 [.ref u] h (some (.int 0)) h := by
  refine TC.intro hX.1 rfl (by decide +kernel) (Nat.le_of_ble_eq_true rfl) (fun z C Y E hn => ?_)
  obtain ⟨t, ht⟩ := hX.tM E.cs
  have LP : ∀ (t k9 : Nat), k9 + t = 12 → X z 0 0 (EQ h) 4 [some (.ref u), some (.int 0), some (.int (nI k9))] [] := by
    intro t
    induction t with
    | zero =>
      intro k9 hk
      obtain rfl : k9 = 12 := by omega
      refine x_iload_n C dX0_meterNumber_4 rfl ?_
      refine x_bipush (v := 12) C dX0_meterNumber_5 (by decide) ?_
      refine x_icmp_ge (tgt := 28) C dX0_meterNumber_7 (by decide) (fun _ => ?_) (fun c7 => absurd (Int32.le_refl _) c7)
      refine x_iload_n C dX0_meterNumber_28 rfl ?_
      exact e_iret C E dX0_meterNumber_29 rfl rfl
    | succ t ih =>
      intro k9 hk
      refine x_iload_n C dX0_meterNumber_4 rfl ?_
      refine x_bipush (v := 12) C dX0_meterNumber_5 (by decide) ?_
      refine x_icmp_ge (tgt := 28) C dX0_meterNumber_7 (by decide) (fun c7 => absurd c7 (Int32.not_le.mpr (nI_lt (show k9 < 12 by omega) (by decide)))) (fun c7 => ?_)
      refine x_aload_n C dX0_meterNumber_10 rfl ?_
      refine e_get C Y kd_X0 0 (by decide) wf_X0_11 dX0_meterNumber_11 B.1 rfl ?_
      refine x_iload_n C dX0_meterNumber_14 rfl ?_
      refine e_aldN C ht dX0_meterNumber_15 B.2 rfl (show k9 < 12 by omega) (by decide) rfl ?_
      refine x_ifnullN (tgt := 22) C dX0_meterNumber_16 (by decide) ?_
      refine o_iincE (v := nI (k9 + 1)) (L' := [some _, some _, some _]) C dX0_meterNumber_22 rfl (nI_1 k9) (by rw [hn]; decide) rfl ?_
      refine x_goto (tgt := 4) C dX0_meterNumber_25 (by decide) ?_
      exact ih (k9 + 1) (by omega)
  refine x_iconst (v := 0) C dX0_meterNumber_0 (by decide) ?_
  refine o_istore_nE (L' := [some _, some _, none]) C dX0_meterNumber_1 (by rw [hn]; decide) rfl ?_
  refine x_iconst (v := 0) C dX0_meterNumber_2 (by decide) ?_
  refine o_istore_nE (L' := [some _, some _, some _]) C dX0_meterNumber_3 (by rw [hn]; decide) rfl ?_
  exact LP 12 0 rfl
theorem b_frameNumber (hX : Wx w c) (B : BE c h u m an fr co) : TC w yX0_frameNumber cX0_frameNumber 1 (some .int) 0 [.ref u] h (some (.int fr)) h := by
  refine TC.intro hX.1 rfl (by decide +kernel) (Nat.le_of_ble_eq_true rfl) (fun z C Y E hn => ?_)
  refine x_aload_n C dX0_frameNumber_0 rfl ?_
  refine e_get C Y kd_X0 2 (by decide) wf_X0_24 dX0_frameNumber_1 B.1 rfl ?_
  refine e_iret C E dX0_frameNumber_4 ?_ ?_
  all_goals rfl
theorem b_collisionNumber (hX : Wx w c) (B : BE c h u m an fr co) : TC w yX0_collisionNumber cX0_collisionNumber 1 (some .int) 0 [.ref u] h (some (.int co)) h := by
  refine TC.intro hX.1 rfl (by decide +kernel) (Nat.le_of_ble_eq_true rfl) (fun z C Y E hn => ?_)
  refine x_aload_n C dX0_collisionNumber_0 rfl ?_
  refine e_get C Y kd_X0 3 (by decide) wf_X0_28 dX0_collisionNumber_1 B.1 rfl ?_
  refine e_iret C E dX0_collisionNumber_4 ?_ ?_
  all_goals rfl
theorem b_lastAnswer (hX : Wx w c) (B : BE c h u m an fr co) : TC w yX0_lastAnswer cX0_lastAnswer 1 (some (.object "MeterBus$Row")) 0 [.ref u] h (some (.ref an)) h := by
  refine TC.intro hX.1 rfl (by decide +kernel) (Nat.le_of_ble_eq_true rfl) (fun z C Y E hn => ?_)
  refine x_aload_n C dX0_lastAnswer_0 rfl ?_
  refine e_get C Y kd_X0 1 (by decide) wf_X0_20 dX0_lastAnswer_1 B.1 rfl ?_
  exact e_aret C E (Or.inl ⟨_, rfl⟩) dX0_lastAnswer_4 (Or.inr ⟨_, rfl⟩) rfl rfl
theorem b_outcome0 (hX : Wx w c) (B : BE c h u m an fr co) {ab : Nat} {f : Nat → Int32} (R : RW c h an ab f 0) : TC w yX0_outcome cX0_outcome 2 (some .int) 1 [.ref u, .int 0] h (some (.int 0)) h := by
  have hW := hX.1
  refine TC.intro hX.1 rfl (by decide +kernel) (Nat.le_of_ble_eq_true rfl) (fun z C Y E hn => ?_)
  have r0 := r_cutTo hX.1 R 0
  rw [show rCut 0 0 = 0 from by decide, R.same] at r0
  refine x_iload_n C dX0_outcome_0 rfl ?_
  refine x_iconst (v := 1) C dX0_outcome_1 (by decide) ?_
  refine x_icmp_ne (tgt := 13) C dX0_outcome_2 (by decide) (fun _ => ?_) (fun c2 => absurd c2 (by decide))
  refine x_aload_n C dX0_outcome_13 rfl ?_
  refine e_get C Y kd_X0 1 (by decide) wf_X0_20 dX0_outcome_14 B.1 rfl ?_
  refine x_iconst (v := 0) C dX0_outcome_17 (by decide) ?_
  refine e_callV C Y hW E (r0) md_X5_cutTo wi_X5_cutTo ws_X5_cutTo wm_X0_96 dX0_outcome_18 rfl (by decide) (by decide) R.2.1 rfl rfl (by simp [Value.category]) ?_
  refine x_iload_n C dX0_outcome_21 rfl ?_
  refine x_if_ne (tgt := 27) C dX0_outcome_22 (by decide) (fun c22 => absurd c22 (by decide)) (fun c22 => ?_)
  refine x_iconst (v := 0) C dX0_outcome_25 (by decide) ?_
  refine e_iret C E dX0_outcome_26 ?_ ?_
  all_goals rfl
end Bus
end
section
/-! Bus: a mask, or nothing sound, where there is no meter; an empty list; a decoder over an empty row. -/
section Bus
variable {w : Wd} {c : Nat → ClassId} {h : PH} {u m an : Nat} {fr co : Int32}
theorem b_caredBits (hW : Wc w c) (k : Int64) : T w gw yX0_caredBits cX0_caredBits 5 (some .long) 0 0 0 0 [.long k] (EQ h) (fun r g => (∃ v, r = some (.long v)) ∧ g = h) := by
  refine T.intro (by decide +kernel) (Nat.le_of_ble_eq_true rfl) (fun z C E hn e2 e3 => ?_)
  rw [e2, e3] at *
  have L2 : ∀ (t j : Nat) (v : Int64), j + t = 4 → X z 0 0 (EQ h) 46 [some (.long k), none, some (.long v), none, some (.int (nI (32 + 8 * j)))] [] := by
    intro t
    induction t with
    | zero =>
      intro j v hj
      obtain rfl : j = 4 := by omega
      refine x_iload C dX0_caredBits_46 rfl ?_
      refine x_bipush (v := 64) C dX0_caredBits_48 (by decide) ?_
      refine x_icmp_ge (tgt := 83) C dX0_caredBits_50 (by decide) (fun c50 => ?_) (fun c50 => absurd c50 (not_not_intro (Int32.le_refl _)))
      refine x_lload_n C dX0_caredBits_83 rfl ?_
      refine x_lret C E dX0_caredBits_84 (fun h g => ⟨?_, g⟩)
      exact ⟨_, rfl⟩
    | succ t ih =>
      intro j v hj
      refine x_iload C dX0_caredBits_46 rfl ?_
      refine x_bipush (v := 64) C dX0_caredBits_48 (by decide) ?_
      refine x_icmp_ge (tgt := 83) C dX0_caredBits_50 (by decide) (fun c50 => absurd c50 (Int32.not_le.mpr (nI_lt (show 32 + 8 * j < 64 by omega) (by decide)))) (fun c50 => ?_)
      refine x_lload_n C dX0_caredBits_53 rfl ?_
      refine x_iload C dX0_caredBits_54 rfl ?_
      refine x_lushr C dX0_caredBits_56 ?_
      refine x_ldc2 C wk_X0_91 dX0_caredBits_57 ?_
      refine x_land C dX0_caredBits_60 ?_
      refine x_ldc2 C wk_X0_91 dX0_caredBits_61 ?_
      refine x_lcmp C dX0_caredBits_64 ?_
      refine x_if_eq (tgt := 77) C dX0_caredBits_65 (by decide) (fun c65 => ?_) (fun c65 => ?_)
      · skip
        refine o_iincE (v := nI (32 + 8 * (j + 1))) (L' := [some _, none, some _, none, some _]) C dX0_caredBits_77 rfl (by rw [show (Int32.ofInt 8) = nI 8 from rfl, nI_add]; exact congrArg nI (by omega)) (by rw [hn]; decide) rfl ?_
        refine x_goto (tgt := 46) C dX0_caredBits_80 (by decide) ?_
        exact ih (j + 1) _ (by omega)
      · skip
        refine x_lload_n C dX0_caredBits_68 rfl ?_
        refine x_ldc2 C wk_X0_91 dX0_caredBits_69 ?_
        refine x_iload C dX0_caredBits_72 rfl ?_
        refine x_lshl C dX0_caredBits_74 ?_
        refine x_lor C dX0_caredBits_75 ?_
        refine o_lstore_nE (L' := [some _, none, some _, none, some _]) C dX0_caredBits_76 (by rw [hn]; decide) rfl ?_
        refine o_iincE (v := nI (32 + 8 * (j + 1))) (L' := [some _, none, some _, none, some _]) C dX0_caredBits_77 rfl (by rw [show (Int32.ofInt 8) = nI 8 from rfl, nI_add]; exact congrArg nI (by omega)) (by rw [hn]; decide) rfl ?_
        refine x_goto (tgt := 46) C dX0_caredBits_80 (by decide) ?_
        exact ih (j + 1) _ (by omega)
  have L1 : ∀ (t j : Nat) (v : Int64), j + t = 8 → X z 0 0 (EQ h) 5 [some (.long k), none, some (.long v), none, some (.int (nI (4 * j)))] [] := by
    intro t
    induction t with
    | zero =>
      intro j v hj
      obtain rfl : j = 8 := by omega
      refine x_iload C dX0_caredBits_5 rfl ?_
      refine x_bipush (v := 32) C dX0_caredBits_7 (by decide) ?_
      refine x_icmp_ge (tgt := 42) C dX0_caredBits_9 (by decide) (fun c9 => ?_) (fun c9 => absurd c9 (not_not_intro (Int32.le_refl _)))
      refine x_bipush (v := 32) C dX0_caredBits_42 (by decide) ?_
      refine o_istoreE (L' := [some _, none, some _, none, some _]) C dX0_caredBits_44 (by rw [hn]; decide) rfl ?_
      exact L2 4 0 _ rfl
    | succ t ih =>
      intro j v hj
      refine x_iload C dX0_caredBits_5 rfl ?_
      refine x_bipush (v := 32) C dX0_caredBits_7 (by decide) ?_
      refine x_icmp_ge (tgt := 42) C dX0_caredBits_9 (by decide) (fun c9 => absurd c9 (Int32.not_le.mpr (nI_lt (show 4 * j < 32 by omega) (by decide)))) (fun c9 => ?_)
      refine x_lload_n C dX0_caredBits_12 rfl ?_
      refine x_iload C dX0_caredBits_13 rfl ?_
      refine x_lushr C dX0_caredBits_15 ?_
      refine x_ldc2 C wk_X0_89 dX0_caredBits_16 ?_
      refine x_land C dX0_caredBits_19 ?_
      refine x_ldc2 C wk_X0_89 dX0_caredBits_20 ?_
      refine x_lcmp C dX0_caredBits_23 ?_
      refine x_if_eq (tgt := 36) C dX0_caredBits_24 (by decide) (fun c24 => ?_) (fun c24 => ?_)
      · skip
        refine o_iincE (v := nI (4 * (j + 1))) (L' := [some _, none, some _, none, some _]) C dX0_caredBits_36 rfl (by rw [show (Int32.ofInt 4) = nI 4 from rfl, nI_add]; exact congrArg nI (by omega)) (by rw [hn]; decide) rfl ?_
        refine x_goto (tgt := 5) C dX0_caredBits_39 (by decide) ?_
        exact ih (j + 1) _ (by omega)
      · skip
        refine x_lload_n C dX0_caredBits_27 rfl ?_
        refine x_ldc2 C wk_X0_89 dX0_caredBits_28 ?_
        refine x_iload C dX0_caredBits_31 rfl ?_
        refine x_lshl C dX0_caredBits_33 ?_
        refine x_lor C dX0_caredBits_34 ?_
        refine o_lstore_nE (L' := [some _, none, some _, none, some _]) C dX0_caredBits_35 (by rw [hn]; decide) rfl ?_
        refine o_iincE (v := nI (4 * (j + 1))) (L' := [some _, none, some _, none, some _]) C dX0_caredBits_36 rfl (by rw [show (Int32.ofInt 4) = nI 4 from rfl, nI_add]; exact congrArg nI (by omega)) (by rw [hn]; decide) rfl ?_
        refine x_goto (tgt := 5) C dX0_caredBits_39 (by decide) ?_
        exact ih (j + 1) _ (by omega)
  refine x_lconst (v := 0) C dX0_caredBits_0 (by decide) ?_
  refine o_lstore_nE (L' := [some _, none, some _, none, none]) C dX0_caredBits_1 (by rw [hn]; decide) rfl ?_
  refine x_iconst (v := 0) C dX0_caredBits_2 (by decide) ?_
  refine o_istoreE (L' := [some _, none, some _, none, some _]) C dX0_caredBits_3 (by rw [hn]; decide) rfl ?_
  exact L1 8 0 _ rfl
theorem b_putSelect (hX : Wx w c) (B : BE c h u m an fr co) {ab : Nat} {f : Nat → Int32} (R : RW c h an ab f 0) (a1 : u ≠ an) (a2 : u ≠ ab) (a3 : u ≠ m) (k : Int64) : TC w yX0_putSelect cX0_putSelect 8 (some .int) 2 [.ref u, .long k] h (some (.int 0)) (hs h u (.inr (0, [.ref m, .ref an, .int (fr + 1), .int co]))) := by
  have hW := hX.1
  refine TC.intro hX.1 rfl (by decide +kernel) (Nat.le_of_ble_eq_true rfl) (fun z C Y E hn => ?_)
  obtain ⟨t, ht⟩ := hX.tM E.cs
  have B1 : BE c (hs h u (.inr (0, [.ref m, .ref an, .int (fr + 1), .int co]))) u m an (fr + 1) co := ⟨hs_self .., by rw [hs_ne (Ne.symm a3)]; exact B.2⟩
  have R1 : RW c (hs h u (.inr (0, [.ref m, .ref an, .int (fr + 1), .int co]))) an ab f 0 := ⟨R.1, by rw [hs_ne (Ne.symm a1)]; exact R.2.1, by rw [hs_ne (Ne.symm a2)]; exact R.2.2.1, R.2.2.2⟩
  generalize hh : hs h u (.inr (0, [.ref m, .ref an, .int (fr + 1), .int co])) = h1 at B1 R1 E
  have LP : ∀ (t k9 : Nat) (v : Int64) (x : Option Value), k9 + t = 12 → X z 0 0 (EQ h1) 21 [some (.ref u), some (.long k), none, some (.long v), none, some (.int 0), some (.int (nI k9)), x] [] := by
    intro t
    induction t with
    | zero =>
      intro k9 v x hk
      obtain rfl : k9 = 12 := by omega
      refine x_iload C dX0_putSelect_21 rfl ?_
      refine x_bipush (v := 12) C dX0_putSelect_23 (by decide) ?_
      refine x_icmp_ge (tgt := 65) C dX0_putSelect_25 (by decide) (fun c25 => ?_) (fun c25 => absurd c25 (not_not_intro (Int32.le_refl _)))
      refine x_aload_n C dX0_putSelect_65 rfl ?_
      refine x_iload C dX0_putSelect_66 rfl ?_
      refine e_callV C Y hW E (b_outcome0 hX B1 R1) md_X0_outcome wi_X0_outcome ws_X0_outcome wm_X0_54 dX0_putSelect_68 rfl (by decide) (by decide) B1.1 rfl rfl (by simp [Value.category]) ?_
      refine e_iret C E dX0_putSelect_71 ?_ ?_
      all_goals rfl
    | succ t ih =>
      intro k9 v x hk
      refine x_iload C dX0_putSelect_21 rfl ?_
      refine x_bipush (v := 12) C dX0_putSelect_23 (by decide) ?_
      refine x_icmp_ge (tgt := 65) C dX0_putSelect_25 (by decide) (fun c25 => absurd c25 (Int32.not_le.mpr (nI_lt (show k9 < 12 by omega) (by decide)))) (fun c25 => ?_)
      refine x_aload_n C dX0_putSelect_28 rfl ?_
      refine e_get C Y kd_X0 0 (by decide) wf_X0_11 dX0_putSelect_29 B1.1 rfl ?_
      refine x_iload C dX0_putSelect_32 rfl ?_
      refine e_aldN C ht dX0_putSelect_34 B1.2 rfl (show k9 < 12 by omega) (by decide) rfl ?_
      refine o_astoreN (L' := [some _, some _, none, some _, none, some _, some _, some _]) C dX0_putSelect_35 (by rw [hn]; decide) rfl ?_
      refine x_aloadN C dX0_putSelect_37 rfl ?_
      refine x_ifnullN (tgt := 59) C dX0_putSelect_39 (by decide) ?_
      refine o_iincE (v := nI (k9 + 1)) (L' := [some _, some _, none, some _, none, some _, some _, _]) C dX0_putSelect_59 rfl (nI_1 k9) (by rw [hn]; decide) rfl ?_
      refine x_goto (tgt := 21) C dX0_putSelect_62 (by decide) ?_
      exact ih (k9 + 1) v _ (by omega)
  refine x_aload_n C dX0_putSelect_0 rfl ?_
  refine x_dup C dX0_putSelect_1 rfl ?_
  refine e_get C Y kd_X0 2 (by decide) wf_X0_24 dX0_putSelect_2 B.1 rfl ?_
  refine x_iconst (v := 1) C dX0_putSelect_5 (by decide) ?_
  refine x_iadd C dX0_putSelect_6 ?_
  refine e_put C Y kd_X0 2 (by decide) rfl wf_X0_24 dX0_putSelect_7 B.1 (Nat.le_of_ble_eq_true rfl) rfl rfl hh ?_
  refine x_lload_n C dX0_putSelect_10 rfl ?_
  refine k_callS (kc := 0) (ks := 0) (mc' := 0) (ms' := 0) (st := []) C E.cs hW.1 gw_good (b_caredBits hW k) md_X0_caredBits wt_X0_caredBits wm_X0_65 dX0_putSelect_11 rfl (by decide) (by decide) rfl (by decide) (fun r => X.opn (fun g hg => ?_))
  obtain ⟨⟨v, rfl⟩, rfl⟩ := hg
  refine o_lstore_nE (L' := [some _, some _, none, some _, none, none, none, none]) C dX0_putSelect_14 (by rw [hn]; decide) rfl ?_
  refine x_iconst (v := 0) C dX0_putSelect_15 (by decide) ?_
  refine o_istoreE (L' := [some _, some _, none, some _, none, some _, none, none]) C dX0_putSelect_16 (by rw [hn]; decide) rfl ?_
  refine x_iconst (v := 0) C dX0_putSelect_18 (by decide) ?_
  refine o_istoreE (L' := [some _, some _, none, some _, none, some _, some _, none]) C dX0_putSelect_19 (by rw [hn]; decide) rfl ?_
  exact LP 12 0 v none rfl
theorem b_put (hX : Wx w c) (B : BE c h u m an fr co) {ab : Nat} {f : Nat → Int32} (R : RW c h an ab f 0) (a1 : u ≠ an) (a2 : u ≠ ab) (a3 : u ≠ m) {p q : Nat} {f2 : Nat → Int32} (R2 : RW c h p q f2 0) : TC w yX0_put cX0_put 2 (some .int) 3 [.ref u, .ref p] h (some (.int 0)) (hs h u (.inr (0, [.ref m, .ref an, .int (fr + 1), .int co]))) := by
  have hW := hX.1
  refine TC.intro hX.1 rfl (by decide +kernel) (Nat.le_of_ble_eq_true rfl) (fun z C Y E hn => ?_)
  have B1 : BE c (hs h u (.inr (0, [.ref m, .ref an, .int (fr + 1), .int co]))) u m an (fr + 1) co := ⟨hs_self .., by rw [hs_ne (Ne.symm a3)]; exact B.2⟩
  have R1 : RW c (hs h u (.inr (0, [.ref m, .ref an, .int (fr + 1), .int co]))) an ab f 0 := ⟨R.1, by rw [hs_ne (Ne.symm a1)]; exact R.2.1, by rw [hs_ne (Ne.symm a2)]; exact R.2.2.1, R.2.2.2⟩
  have q1 := r_isShortFrame hW R2
  have q2 := r_isLongFrame hW R2
  rw [show bI (rShort f2 0) = 0 from bI_f (fun g => absurd g.1 (by decide))] at q1
  rw [show bI (rLong f2 0) = 0 from bI_f (fun g => absurd (show (3 : Int32) ≤ -1 from g.1.1) (by decide))] at q2
  refine x_aload_n C dX0_put_0 rfl ?_
  refine e_callV C Y hW E (q1) md_X5_isShortFrame wi_X5_isShortFrame ws_X5_isShortFrame wm_X0_35 dX0_put_1 rfl (by decide) (by decide) R2.2.1 rfl rfl (by simp [Value.category]) ?_
  refine x_if_eq (tgt := 22) C dX0_put_4 (by decide) (fun c4 => ?_) (fun c4 => absurd c4 (not_not_intro rfl))
  refine x_aload_n C dX0_put_22 rfl ?_
  refine e_callV C Y hW E (q2) md_X5_isLongFrame wi_X5_isLongFrame ws_X5_isLongFrame wm_X0_47 dX0_put_23 rfl (by decide) (by decide) R2.2.1 rfl rfl (by simp [Value.category]) ?_
  refine x_if_eq (tgt := 55) C dX0_put_26 (by decide) (fun c26 => ?_) (fun c26 => absurd c26 (not_not_intro rfl))
  refine x_aload_n C dX0_put_55 rfl ?_
  refine x_dup C dX0_put_56 rfl ?_
  refine e_get C Y kd_X0 2 (by decide) wf_X0_24 dX0_put_57 B.1 rfl ?_
  refine x_iconst (v := 1) C dX0_put_60 (by decide) ?_
  refine x_iadd C dX0_put_61 ?_
  refine e_put C Y kd_X0 2 (by decide) rfl wf_X0_24 dX0_put_62 B.1 (Nat.le_of_ble_eq_true rfl) rfl rfl rfl ?_
  refine x_aload_n C dX0_put_65 rfl ?_
  refine x_iconst (v := 0) C dX0_put_66 (by decide) ?_
  refine e_callV C Y hW E (b_outcome0 hX B1 R1) md_X0_outcome wi_X0_outcome ws_X0_outcome wm_X0_54 dX0_put_67 rfl (by decide) (by decide) B1.1 rfl rfl (by simp [Value.category]) ?_
  refine e_iret C E dX0_put_70 ?_ ?_
  all_goals rfl
end Bus
section Recs
variable {w : Wd} {c : Nat → ClassId} {h : PH} {l ra : Nat}
theorem l_size (hW : Wc w c) {n : Int32} (B : h l = some (.inr (4, [.ref ra, .int n]))) : TC w yX4_size cX4_size 1 (some .int) 0 [.ref l] h (some (.int n)) h := by
  refine TC.intro hW rfl (by decide +kernel) (Nat.le_of_ble_eq_true rfl) (fun z C Y E hn => ?_)
  refine x_aload_n C dX4_size_0 rfl ?_
  refine e_get C Y kd_X4 1 (by decide) wf_X4_17 dX4_size_1 B rfl ?_
  refine e_iret C E dX4_size_4 ?_ ?_
  all_goals rfl
theorem l_at0 (hW : Wc w c) (B : h l = some (.inr (4, [.ref ra, .int 0]))) (i : Int32) : TC w yX4_at cX4_at 2 (some (.object "MeterBus$Reading")) 0 [.ref l, .int i] h (some .null) h := by
  refine TC.intro hW rfl (by decide +kernel) (Nat.le_of_ble_eq_true rfl) (fun z C Y E hn => ?_)
  have T30 : X z 0 0 (EQ h) 30 [some (.ref l), some (.int i)] [] := x_null C dX4_at_30 (e_aret C E (Or.inl ⟨_, rfl⟩) dX4_at_31 (Or.inl rfl) rfl rfl)
  refine x_iload_n C dX4_at_0 rfl ?_
  refine x_if_lt (tgt := 30) C dX4_at_1 (by decide) (fun _ => T30) (fun c1 => ?_)
  refine x_iload_n C dX4_at_4 rfl ?_
  refine x_aload_n C dX4_at_5 rfl ?_
  refine e_get C Y kd_X4 1 (by decide) wf_X4_17 dX4_at_6 B rfl ?_
  exact x_icmp_ge (tgt := 30) C dX4_at_9 (by decide) (fun _ => T30) (fun c2 => absurd (Int32.not_lt.mp c1) c2)
theorem l_cut0 (hW : Wc w c) (B : h l = some (.inr (4, [.ref ra, .int 0]))) : TC w yX4_cutTo cX4_cutTo 2 none 0 [.ref l, .int 0] h none h := by
  refine TC.intro hW rfl (by decide +kernel) (Nat.le_of_ble_eq_true rfl) (fun z C Y E hn => ?_)
  refine x_iload_n C dX4_cutTo_0 rfl ?_
  refine x_if_lt (tgt := 17) C dX4_cutTo_1 (by decide) (fun c1 => absurd c1 (by decide)) (fun c1 => ?_)
  refine x_iload_n C dX4_cutTo_4 rfl ?_
  refine x_aload_n C dX4_cutTo_5 rfl ?_
  refine e_get C Y kd_X4 1 (by decide) wf_X4_17 dX4_cutTo_6 B rfl ?_
  refine x_icmp_ge (tgt := 17) C dX4_cutTo_9 (by decide) (fun c9 => ?_) (fun c9 => absurd c9 (by decide))
  refine e_vret C E dX4_cutTo_17 ?_ ?_
  all_goals rfl
end Recs
section Dec
variable {w : Wd} {c : Nat → ClassId} {h : PH} {d l ra b ba : Nat}
theorem d_faultOf (hW : Wc w c) {f0 a0 e0 fa pl mo : Value} {fa1 : Int32} (e1 : fa = .int fa1) (B : h d = some (.inr (1, [.ref l, f0, a0, e0, fa, pl, mo]))) : TC w yX1_lastFault cX1_lastFault 1 (some .int) 0 [.ref d] h (some (.int fa1)) h := by
  subst e1
  refine TC.intro hW rfl (by decide +kernel) (Nat.le_of_ble_eq_true rfl) (fun z C Y E hn => ?_)
  refine x_aload_n C dX1_lastFault_0 rfl ?_
  refine e_get C Y kd_X1 4 (by decide) wf_X1_18 dX1_lastFault_1 B rfl ?_
  refine e_iret C E dX1_lastFault_4 ?_ ?_
  all_goals rfl
theorem d_placeOf (hW : Wc w c) {f0 a0 e0 fa mo : Value} {pl : Int32} (B : h d = some (.inr (1, [.ref l, f0, a0, e0, fa, .int pl, mo]))) : TC w yX1_lastFaultPlace cX1_lastFaultPlace 1 (some .int) 0 [.ref d] h (some (.int pl)) h := by
  refine TC.intro hW rfl (by decide +kernel) (Nat.le_of_ble_eq_true rfl) (fun z C Y E hn => ?_)
  refine x_aload_n C dX1_lastFaultPlace_0 rfl ?_
  refine e_get C Y kd_X1 5 (by decide) wf_X1_21 dX1_lastFaultPlace_1 B rfl ?_
  refine e_iret C E dX1_lastFaultPlace_4 ?_ ?_
  all_goals rfl
theorem d_forget (hW : Wc w c) {f0 a0 e0 fa pl mo : Value} (B : h d = some (.inr (1, [.ref l, f0, a0, e0, fa, pl, mo]))) : TC w yX1_forgetFault cX1_forgetFault 1 none 0 [.ref d] h none (hs h d (.inr (1, [.ref l, f0, a0, e0, .int 0, .int (-1), mo]))) := by
  refine TC.intro hW rfl (by decide +kernel) (Nat.le_of_ble_eq_true rfl) (fun z C Y E hn => ?_)
  refine x_aload_n C dX1_forgetFault_0 rfl ?_
  refine x_iconst (v := 0) C dX1_forgetFault_1 (by decide) ?_
  refine e_put C Y kd_X1 4 (by decide) rfl wf_X1_18 dX1_forgetFault_2 B (Nat.le_of_ble_eq_true rfl) rfl rfl rfl ?_
  refine x_aload_n C dX1_forgetFault_5 rfl ?_
  refine x_iconst (v := (-1)) C dX1_forgetFault_6 (by decide) ?_
  refine e_put C Y kd_X1 5 (by decide) rfl wf_X1_21 dX1_forgetFault_7 (hs_self ..) (Nat.le_of_ble_eq_true rfl) rfl rfl rfl ?_
  refine e_vret C E dX1_forgetFault_10 ?_ ?_
  all_goals first | exact rfl | exact hs_hs ..
theorem d_wrong (hW : Wc w c) {f0 a0 e0 fa pl mo : Value} (B : h d = some (.inr (1, [.ref l, f0, a0, e0, fa, pl, mo]))) (x p : Int32) : TC w yX1_wrong cX1_wrong 3 (some .boolean) 0 [.ref d, .int x, .int p] h (some (.int 0)) (hs h d (.inr (1, [.ref l, f0, a0, e0, .int x, .int p, mo]))) := by
  refine TC.intro hW rfl (by decide +kernel) (Nat.le_of_ble_eq_true rfl) (fun z C Y E hn => ?_)
  refine x_aload_n C dX1_wrong_0 rfl ?_
  refine x_iload_n C dX1_wrong_1 rfl ?_
  refine e_put C Y kd_X1 4 (by decide) rfl wf_X1_18 dX1_wrong_2 B (Nat.le_of_ble_eq_true rfl) rfl rfl rfl ?_
  refine x_aload_n C dX1_wrong_5 rfl ?_
  refine x_iload_n C dX1_wrong_6 rfl ?_
  refine e_put C Y kd_X1 5 (by decide) rfl wf_X1_21 dX1_wrong_7 (hs_self ..) (Nat.le_of_ble_eq_true rfl) rfl rfl rfl ?_
  refine x_iconst (v := 0) C dX1_wrong_10 (by decide) ?_
  refine e_zret C E dX1_wrong_11 (by decide) ?_ ?_
  all_goals first | exact rfl | exact hs_hs ..
theorem d_frame0 (hW : Wc w c) {a0 e0 fa pl mo : Value} {f : Nat → Int32} (B : h d = some (.inr (1, [.ref l, .ref b, a0, e0, fa, pl, mo]))) (R : RW c h b ba f 0) : TC w yX1_frameIsWell cX1_frameIsWell 2 (some .boolean) 1 [.ref d] h (some (.int 0)) (hs h d (.inr (1, [.ref l, .ref b, a0, e0, .int 1, .int 0, mo]))) := by
  refine TC.intro hW rfl (by decide +kernel) (Nat.le_of_ble_eq_true rfl) (fun z C Y E hn => ?_)
  have q0 := r_at hW R 0
  have q1 := r_at hW R 1
  rw [show rAt f 0 0 = -1 from rfl] at q0
  rw [show rAt f 0 1 = -1 from rfl] at q1
  refine x_aload_n C dX1_frameIsWell_0 rfl ?_
  refine e_get C Y kd_X1 1 (by decide) wf_X1_28 dX1_frameIsWell_1 B rfl ?_
  refine x_iconst (v := 1) C dX1_frameIsWell_4 (by decide) ?_
  refine e_callV C Y hW E (q1) md_X5_at wi_X5_at ws_X5_at wm_X1_62 dX1_frameIsWell_5 rfl (by decide) (by decide) R.2.1 rfl rfl (by simp [Value.category]) ?_
  refine o_istore_nE (L' := [some _, some _]) C dX1_frameIsWell_8 (by rw [hn]; decide) rfl ?_
  refine x_aload_n C dX1_frameIsWell_9 rfl ?_
  refine e_get C Y kd_X1 1 (by decide) wf_X1_28 dX1_frameIsWell_10 B rfl ?_
  refine x_iconst (v := 0) C dX1_frameIsWell_13 (by decide) ?_
  refine e_callV C Y hW E (q0) md_X5_at wi_X5_at ws_X5_at wm_X1_62 dX1_frameIsWell_14 rfl (by decide) (by decide) R.2.1 rfl rfl (by simp [Value.category]) ?_
  refine x_bipush (v := 104) C dX1_frameIsWell_17 (by decide) ?_
  refine x_icmp_eq (tgt := 29) C dX1_frameIsWell_19 (by decide) (fun c19 => absurd c19 (by decide)) (fun c19 => ?_)
  refine x_aload_n C dX1_frameIsWell_22 rfl ?_
  refine x_iconst (v := 1) C dX1_frameIsWell_23 (by decide) ?_
  refine x_iconst (v := 0) C dX1_frameIsWell_24 (by decide) ?_
  refine e_callV C Y hW E (d_wrong hW B 1 0) md_X1_wrong wi_X1_wrong ws_X1_wrong wm_X1_67 dX1_frameIsWell_25 rfl (by decide) (by decide) B rfl rfl (by simp [Value.category]) ?_
  refine e_zret C E dX1_frameIsWell_28 (by decide) ?_ ?_
  all_goals rfl
theorem d_reads0 (hW : Wc w c) {f0 a0 fa pl mo : Value} {f : Nat → Int32} (B : h d = some (.inr (1, [.ref l, f0, a0, .int 0, fa, pl, mo]))) (R : RW c h b ba f 0) (L : h l = some (.inr (4, [.ref ra, .int 0]))) (a1 : d ≠ b) (a2 : d ≠ ba) (a3 : d ≠ l) : TC w yX1_reads cX1_reads 5 (some .boolean) 2 [.ref d, .ref b] h (some (.int 0)) (hs h d (.inr (1, [.ref l, .ref b, .int 19, .int 0, .int 1, .int 0, .int 0]))) := by
  refine TC.intro hW rfl (by decide +kernel) (Nat.le_of_ble_eq_true rfl) (fun z C Y E hn => ?_)
  have Lx : ∀ e, hs h d e l = some (.inr (4, [.ref ra, .int 0])) := fun e => by rw [hs_ne (Ne.symm a3)]; exact L
  have Rx : ∀ e, RW c (hs h d e) b ba f 0 := fun e => ⟨R.1, by rw [hs_ne (Ne.symm a1)]; exact R.2.1, by rw [hs_ne (Ne.symm a2)]; exact R.2.2.1, R.2.2.2⟩
  refine x_aload_n C dX1_reads_0 rfl ?_
  refine x_aload_n C dX1_reads_1 rfl ?_
  refine e_put C Y kd_X1 1 (by decide) rfl wf_X1_28 dX1_reads_2 B (Nat.le_of_ble_eq_true rfl) rfl rfl rfl ?_
  refine x_aload_n C dX1_reads_5 rfl ?_
  refine x_iconst (v := 0) C dX1_reads_6 (by decide) ?_
  refine e_put C Y kd_X1 6 (by decide) rfl wf_X1_24 dX1_reads_7 (hs_self ..) (Nat.le_of_ble_eq_true rfl) (by decide) (by decide) (hs_hs ..) ?_
  have g1 := d_forget hW (h := hs h d (.inr (1, [.ref l, .ref b, a0, .int 0, fa, pl, .int 0]))) (hs_self ..)
  rw [hs_hs] at g1
  have g2 := d_frame0 hW (h := hs h d (.inr (1, [.ref l, .ref b, a0, .int 0, .int 0, .int (-1), .int 0]))) (hs_self ..) (Rx _)
  rw [hs_hs] at g2
  refine x_aload_n C dX1_reads_10 rfl ?_
  refine e_callV C Y hW E (g1) md_X1_forgetFault wi_X1_forgetFault ws_X1_forgetFault wm_X1_36 dX1_reads_11 rfl (by decide) (by decide) (hs_self ..) rfl rfl (by simp [Value.category]) ?_
  refine x_aload_n C dX1_reads_14 rfl ?_
  refine e_get C Y kd_X1 0 (by decide) wf_X1_32 dX1_reads_15 (hs_self ..) rfl ?_
  refine e_callV C Y hW E (l_size hW (Lx _)) md_X4_size wi_X4_size ws_X4_size wm_X1_39 dX1_reads_18 rfl (by decide) (by decide) (Lx _) rfl rfl (by simp [Value.category]) ?_
  refine o_istore_nE (L' := [some _, some _, some _, none, none]) C dX1_reads_21 (by rw [hn]; decide) rfl ?_
  refine x_aload_n C dX1_reads_22 rfl ?_
  refine e_callV C Y hW E (g2) md_X1_frameIsWell wi_X1_frameIsWell ws_X1_frameIsWell wm_X1_45 dX1_reads_23 rfl (by decide) (by decide) (hs_self ..) rfl rfl (by simp [Value.category]) ?_
  refine x_if_eq (tgt := 47) C dX1_reads_26 (by decide) (fun c26 => ?_) (fun c26 => absurd c26 (not_not_intro rfl))
  refine x_iconst (v := 0) C dX1_reads_47 (by decide) ?_
  refine o_istore_nE (L' := [some _, some _, some _, some _, none]) C dX1_reads_48 (by rw [hn]; decide) rfl ?_
  refine x_aload_n C dX1_reads_49 rfl ?_
  refine x_bipush (v := 19) C dX1_reads_50 (by decide) ?_
  refine e_put C Y kd_X1 2 (by decide) rfl wf_X1_9 dX1_reads_52 (hs_self ..) (Nat.le_of_ble_eq_true rfl) rfl rfl (hs_hs ..) ?_
  refine x_iconst (v := 0) C dX1_reads_55 (by decide) ?_
  refine o_istoreE (L' := [some _, some _, some _, some _, some _]) C dX1_reads_56 (by rw [hn]; decide) rfl ?_
  refine x_iload C dX1_reads_58 rfl ?_
  refine x_sipush (v := 300) C dX1_reads_60 (by decide) ?_
  refine x_icmp_ge (tgt := 92) C dX1_reads_63 (by decide) (fun c63 => absurd c63 (by decide)) (fun c63 => ?_)
  refine x_iload_n C dX1_reads_66 rfl ?_
  refine x_if_eq (tgt := 92) C dX1_reads_67 (by decide) (fun c67 => ?_) (fun c67 => absurd c67 (not_not_intro rfl))
  refine x_iload_n C dX1_reads_92 rfl ?_
  refine x_if_ne (tgt := 104) C dX1_reads_93 (by decide) (fun c93 => absurd c93 (by decide)) (fun c93 => ?_)
  refine x_aload_n C dX1_reads_96 rfl ?_
  refine e_get C Y kd_X1 0 (by decide) wf_X1_32 dX1_reads_97 (hs_self ..) rfl ?_
  refine x_iload_n C dX1_reads_100 rfl ?_
  refine e_callV C Y hW E (l_cut0 hW (Lx _)) md_X4_cutTo wi_X4_cutTo ws_X4_cutTo wm_X1_58 dX1_reads_101 rfl (by decide) (by decide) (Lx _) rfl rfl (by simp [Value.category]) ?_
  refine x_iload_n C dX1_reads_104 rfl ?_
  refine e_zret C E dX1_reads_105 (by decide) ?_ ?_
  all_goals rfl
end Dec
end
section
/-! Throwing out of MeterBus; calls ahead of a throw. -/
def AT (ic : Nat) (cls : String) : Prop := ((vx_atS RX6 ic cls exc).all (fun w => (decide (w ∈ lw_tbl) && goodWord w) || (decide (w = .castable cls cls) || decl.any (fun n => decide (w = .declares (Bundle.initS n))))) = true) ∧ (vx_atS RX6 ic cls exc).all vx_ot = true ∧ Bundle.fit cls = true
theorem at_51 : AT 51 "java/lang/IllegalArgumentException" := ⟨by decide +kernel, by decide +kernel, by decide +kernel⟩
theorem at_62 : AT 62 "java/lang/UnsupportedOperationException" := ⟨by decide +kernel, by decide +kernel, by decide +kernel⟩
theorem at_76 : AT 76 "java/lang/IndexOutOfBoundsException" := ⟨by decide +kernel, by decide +kernel, by decide +kernel⟩
theorem exc_fit : ∀ n ∈ exc, Bundle.fit n = true := by
  intro n hn
  simp only [exc, List.mem_cons, List.not_mem_nil, or_false] at hn
  rcases hn with rfl | rfl <;> decide +kernel
/-- a method that returns or throws, from the heap h -/
def TCX (w : Wd) (y : MethodName) (cc : ByteArray) (n : Nat) (rt : Option FieldType) (mc ms : Nat) (as : List Value) (h : PH) (P : Option Value → PH → Prop) (XP : String → PH → Prop) : Prop := TX w gw y cc n rt 8 (40 * 8) mc ms as (EQ h) P XP
section Rows
variable {z : Fx} {own : String} {cc : ByteArray} {kc ks pc : Nat} {L : List (Option Value)} {st : List Value} {w : Wd} {c : Nat → ClassId} {y : MethodName} {rt : Option FieldType} {lvl : Nat} {h : PH} {A : PH → Prop} {P : Option Value → PH → Prop} {XP : String → PH → Prop}
theorem TCX.intro {n mc ms : Nat} {as : List Value} (hW : Wc w c) (hy : y.cls = own) (hp : plainName own = true) (hlen : (lg_sl as).length ≤ n)
    (k : ∀ z : Fx, Cx z own cc gw → Cty z c → Cu z w y rt 8 (40 * 8) P XP → z.nL = n → X z mc ms (EQ h) 0 (lent n as) []) : TCX w y cc n rt mc ms as h P XP := by
  refine TX.intro (by rw [hy]; exact hp) hlen (fun z C E e1 => ?_)
  rw [hy] at C
  refine k z C ?_ E e1
  obtain ⟨⟨q1, q2, q3, q4, q5, -⟩, -⟩ := E
  obtain ⟨r1, r3, r4, r5, r6⟩ := hW
  exact ⟨by rw [q3]; exact r3, by rw [q4]; exact r4, by rw [q4]; exact r5, by rw [q4]; exact r6⟩
theorem Cu.go (C : Cx z own cc gw) (Y : Cty z c) (E : Cu z w y rt 8 (40 * 8) P XP) (k : ∀ z' : Fx, Cx z' own cc gw → Cty z' c → Ct z' w gw y rt 8 (40 * 8) P → z'.nL = z.nL → X z' kc ks A pc L st) : X z kc ks A pc L st :=
  E.norm C (fun z' C' E' e1 e2 e3 _ => k z' C' ⟨by rw [e1]; exact Y.1, by rw [e2]; exact Y.2.1, by rw [e2]; exact Y.2.2.1, by rw [e2]; exact Y.2.2.2⟩ E' e3)
theorem u_callV (C : Cx z own cc gw) (Y : Cty z c) (hW : Wc w c) (E : Cs z w lvl (40 * lvl)) {y' : MethodName} {cc' : ByteArray} {n' np index lvl' ci b N : Nat} {rt' : Option FieldType} {As stk fs : List Value} {r1 : Option Value} {h1 : PH} {Tu : u_T}
    (Mc : TC w y' cc' n' rt' lvl' (.ref b :: As) h r1 h1) (md : Md gw y' cc' n' rt' np) (wi : Cond.instanceMethod y' ∈ gw) (wse : Cond.selects y'.cls y' y' ∈ gw) (wl : Cond.methodLink own index y' ∈ gw) (d : decode cc pc = .ok (.invokevirtual index, 3)) (hn : As.length = np) (hf : lvl' < lvl) (hlo : n' ≤ 21)
    (gb : h b = some (.inr (ci, fs))) (hcl : vwCl[ci]? = some (y'.cls, Tu, N)) (hst : stk = As.reverse ++ .ref b :: st) (hcat : (st.map fun v => v.category).sum ≤ 8)
    (k : X z kc ks (EQ h1) (pc + 3) L (r1.toList ++ st)) : X z kc ks (EQ h) pc L stk :=
  k_callV (mc' := 0) (ms' := 0) C E hW.1 gw_good Mc md wi wse wl d hn (by omega) (by omega) (fun q e => by rw [e]; exact gb) (by rw [Y.1]; exact hcl) hst hcat (fun q => X.pure (p := q = r1) (fun _ g => g.1) (fun g => by subst g; exact X.heap k (fun _ g2 => g2.2)))
theorem u_callS (C : Cx z own cc gw) (hW : Wc w c) (E : Cs z w lvl (40 * lvl)) {y' : MethodName} {cc' : ByteArray} {n' np index lvl' : Nat} {rt' : Option FieldType} {As stk : List Value} {r1 : Option Value} {h1 : PH}
    (Mc : TC w y' cc' n' rt' lvl' As h r1 h1) (md : Md gw y' cc' n' rt' np) (wst : Cond.static y' ∈ gw) (wl : Cond.methodLink own index y' ∈ gw) (d : decode cc pc = .ok (.invokestatic index, 3)) (hn : As.length = np) (hf : lvl' < lvl) (hlo : n' ≤ 21)
    (hst : stk = As.reverse ++ st) (hcat : (st.map fun v => v.category).sum ≤ 8)
    (k : X z kc ks (EQ h1) (pc + 3) L (r1.toList ++ st)) : X z kc ks (EQ h) pc L stk :=
  k_callS (mc' := 0) (ms' := 0) C E hW.1 gw_good Mc md wst wl d hn (by omega) (by omega) hst hcat (fun q => X.pure (p := q = r1) (fun _ g => g.1) (fun g => by subst g; exact X.heap k (fun _ g2 => g2.2)))
theorem u_thr (hX : Wx w c) (C : Cx z RX6 cc gw) (E : Cu z w y rt lvl (40 * lvl) P XP) {cls text : String} (hc : cls ∈ exs) {ik is ic : Nat} (ha : AT ic cls) (wk : Cond.classLink RX6 ik cls ∈ gw) (wi : Cond.initialized cls ∈ gw) (ht : (is, text) ∈ txts)
    (d0 : decode cc pc = .ok (.new ik, 3)) (d3 : decode cc (pc + 3) = .ok (.dup, 1)) (d4 : decode cc (pc + 4) = .ok (.ldc is, 2)) (d6 : decode cc (pc + 6) = .ok (.invokespecial ic, 3)) (d9 : decode cc (pc + 9) = .ok (.athrow, 1))
    (hl : 6 ≤ lvl) (hx : ∀ h, A h → XP cls h) : X z (kc + 1) (ks + 6) A pc L [] := by
  have g := E.1.gx hX
  have eb : z.base = w.base := E.1.2.2.2.2.1
  obtain ⟨sa, hsa⟩ := g.2.2.2.2.1.1 (is, text) ht
  have hcast := g.2.2.1 cls hc
  refine u_throwS C E hX.2.1 (names := exc) ha.2.2 exc_fit wk wi hsa (fun q hq => ?_) (fun q hq => ?_) (by rw [eb]; exact g.1) (by rw [eb]; exact g.2.1) d0 d3 d4 d6 d9 (by show 2 + 3 < lvl; omega) (by show 0 + (13 * (2 + 1) + 43) ≤ 40 * lvl; omega) hx
  · have := List.all_eq_true.mp ha.1 q hq
    simp only [Bool.or_eq_true, Bool.and_eq_true, decide_eq_true_eq, List.any_eq_true] at this
    rcases this with h1 | h1 | ⟨n, hn, h1⟩
    · exact C.ts _ (gw_mem h1.1 h1.2)
    · rw [h1]
      exact va_Nw.use rfl hcast
    · rw [h1]
      exact va_Nw.use rfl (g.2.2.2.2.1.2 n hn)
  · rcases List.mem_cons.mp hq with e | hq
    · rw [e]
      have := gw_good _ wk
      simp [vx_ot, this]
    · rcases List.mem_cons.mp hq with e | hq
      · rw [e]
        have := gw_good _ wi
        simp [vx_ot, this]
      · exact List.all_eq_true.mp ha.2.1 q hq
end Rows
theorem HL.dif {l : List (Nat × va_E)} {h : PH} (g : HL l h) (i j : Nat) {x y : Nat} (hi : (l.map Prod.fst)[i]? = some x) (hj : (l.map Prod.fst)[j]? = some y) (n : i ≠ j) : x ≠ y := fun e => by
  subst e
  exact n (g.inj hi hj)
/-! a new MeterBus in the heap -/
section Fresh
variable {c : Nat → ClassId} {a : Nat → Nat} {l : List (Nat × va_E)} {h : PH}
def FR (c : Nat → ClassId) (a : Nat → Nat) (h : PH) : Prop := HL (clsL c a) h
theorem FR.x (F : FR c a h) : h (a 0) = some (.inr (6, [.ref (a 1), .ref (a 3), .ref (a 7), .ref (a 9), .ref (a 10), .int 0])) := HL.at F 10 rfl
theorem FR.buf (F : FR c a h) : RW c h (a 1) (a 2) (fun _ => 0) 0 := ⟨HL.dif F 9 8 rfl rfl (by decide), HL.at F 9 rfl, HL.at F 8 rfl, by decide⟩
theorem FR.ans (F : FR c a h) : RW c h (a 5) (a 6) (fun _ => 0) 0 := ⟨HL.dif F 5 4 rfl rfl (by decide), HL.at F 5 rfl, HL.at F 4 rfl, by decide⟩
theorem FR.bus (F : FR c a h) : BE c h (a 3) (a 4) (a 5) 0 0 := ⟨HL.at F 7 rfl, HL.at F 6 rfl⟩
theorem FR.lst (F : FR c a h) : h (a 7) = some (.inr (4, [.ref (a 8), .int 0])) := HL.at F 3 rfl
theorem FR.dec (F : FR c a h) : h (a 9) = some (.inr (1, [.ref (a 7), .ref (a 1), .int 0, .int 0, .int 0, .int (-1), .int 0])) := HL.at F 1 rfl
end Fresh
end
