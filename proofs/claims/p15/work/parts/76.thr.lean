/-! Throwing out of MeterBus; calls ahead of a throw. -/
def AT (ic : Nat) (cls : String) : Prop := ((vx_atS RX6 ic cls exc).all (fun w => (decide (w ∈ lw_tbl) && goodWord w) || (decide (w = .castable cls cls) || decl.any (fun n => decide (w = .declares (Bundle.initS n))))) = true) ∧ (vx_atS RX6 ic cls exc).all vx_ot = true ∧ Bundle.fit cls = true
theorem at_51 : AT 51 "java/lang/IllegalArgumentException" := ⟨by decide +kernel, by decide +kernel, by decide +kernel⟩
theorem at_62 : AT 62 "java/lang/UnsupportedOperationException" := ⟨by decide +kernel, by decide +kernel, by decide +kernel⟩
theorem at_76 : AT 76 "java/lang/IndexOutOfBoundsException" := ⟨by decide +kernel, by decide +kernel, by decide +kernel⟩
theorem exc_fit : ∀ n ∈ exc, Bundle.fit n = true := by
  intro n hn
  simp only [exc, List.mem_cons, List.not_mem_nil, or_false] at hn
  rcases hn with rfl | rfl <;> decide +kernel
/-- a method that returns or throws, from the heap h -/
def TCX (w : Wd) (y : MethodName) (cc : ByteArray) (n : Nat) (rt : Option FieldType) (mc ms : Nat) (as : List Value) (h : PH) (P : Option Value → PH → Prop) (XP : String → PH → Prop) : Prop := TX w gw y cc n rt 8 (40 * 8) mc ms as (EQ h) P XP
section Rows
variable {z : Fx} {own : String} {cc : ByteArray} {kc ks pc : Nat} {L : List (Option Value)} {st : List Value} {w : Wd} {c : Nat → ClassId} {y : MethodName} {rt : Option FieldType} {lvl : Nat} {h : PH} {A : PH → Prop} {P : Option Value → PH → Prop} {XP : String → PH → Prop}
theorem TCX.intro {n mc ms : Nat} {as : List Value} (hW : Wc w c) (hy : y.cls = own) (hp : plainName own = true) (hlen : (lg_sl as).length ≤ n)
    (k : ∀ z : Fx, Cx z own cc gw → Cty z c → Cu z w y rt 8 (40 * 8) P XP → z.nL = n → X z mc ms (EQ h) 0 (lent n as) []) : TCX w y cc n rt mc ms as h P XP := by
  refine TX.intro (by rw [hy]; exact hp) hlen (fun z C E e1 => ?_)
  rw [hy] at C
  refine k z C ?_ E e1
  obtain ⟨⟨q1, q2, q3, q4, q5, -⟩, -⟩ := E
  obtain ⟨r1, r3, r4, r5, r6⟩ := hW
  exact ⟨by rw [q3]; exact r3, by rw [q4]; exact r4, by rw [q4]; exact r5, by rw [q4]; exact r6⟩
theorem Cu.go (C : Cx z own cc gw) (Y : Cty z c) (E : Cu z w y rt 8 (40 * 8) P XP) (k : ∀ z' : Fx, Cx z' own cc gw → Cty z' c → Ct z' w gw y rt 8 (40 * 8) P → z'.nL = z.nL → X z' kc ks A pc L st) : X z kc ks A pc L st :=
  E.norm C (fun z' C' E' e1 e2 e3 _ => k z' C' ⟨by rw [e1]; exact Y.1, by rw [e2]; exact Y.2.1, by rw [e2]; exact Y.2.2.1, by rw [e2]; exact Y.2.2.2⟩ E' e3)
theorem u_callV (C : Cx z own cc gw) (Y : Cty z c) (hW : Wc w c) (E : Cs z w lvl (40 * lvl)) {y' : MethodName} {cc' : ByteArray} {n' np index lvl' ci b N : Nat} {rt' : Option FieldType} {As stk fs : List Value} {r1 : Option Value} {h1 : PH} {Tu : u_T}
    (Mc : TC w y' cc' n' rt' lvl' (.ref b :: As) h r1 h1) (md : Md gw y' cc' n' rt' np) (wi : Cond.instanceMethod y' ∈ gw) (wse : Cond.selects y'.cls y' y' ∈ gw) (wl : Cond.methodLink own index y' ∈ gw) (d : decode cc pc = .ok (.invokevirtual index, 3)) (hn : As.length = np) (hf : lvl' < lvl) (hlo : n' ≤ 21)
    (gb : h b = some (.inr (ci, fs))) (hcl : vwCl[ci]? = some (y'.cls, Tu, N)) (hst : stk = As.reverse ++ .ref b :: st) (hcat : (st.map fun v => v.category).sum ≤ 8)
    (k : X z kc ks (EQ h1) (pc + 3) L (r1.toList ++ st)) : X z kc ks (EQ h) pc L stk :=
  k_callV (mc' := 0) (ms' := 0) C E hW.1 gw_good Mc md wi wse wl d hn (by omega) (by omega) (fun q e => by rw [e]; exact gb) (by rw [Y.1]; exact hcl) hst hcat (fun q => X.pure (p := q = r1) (fun _ g => g.1) (fun g => by subst g; exact X.heap k (fun _ g2 => g2.2)))
theorem u_callS (C : Cx z own cc gw) (hW : Wc w c) (E : Cs z w lvl (40 * lvl)) {y' : MethodName} {cc' : ByteArray} {n' np index lvl' : Nat} {rt' : Option FieldType} {As stk : List Value} {r1 : Option Value} {h1 : PH}
    (Mc : TC w y' cc' n' rt' lvl' As h r1 h1) (md : Md gw y' cc' n' rt' np) (wst : Cond.static y' ∈ gw) (wl : Cond.methodLink own index y' ∈ gw) (d : decode cc pc = .ok (.invokestatic index, 3)) (hn : As.length = np) (hf : lvl' < lvl) (hlo : n' ≤ 21)
    (hst : stk = As.reverse ++ st) (hcat : (st.map fun v => v.category).sum ≤ 8)
    (k : X z kc ks (EQ h1) (pc + 3) L (r1.toList ++ st)) : X z kc ks (EQ h) pc L stk :=
  k_callS (mc' := 0) (ms' := 0) C E hW.1 gw_good Mc md wst wl d hn (by omega) (by omega) hst hcat (fun q => X.pure (p := q = r1) (fun _ g => g.1) (fun g => by subst g; exact X.heap k (fun _ g2 => g2.2)))
theorem u_thr (hX : Wx w c) (C : Cx z RX6 cc gw) (E : Cu z w y rt lvl (40 * lvl) P XP) {cls text : String} (hc : cls ∈ exs) {ik is ic : Nat} (ha : AT ic cls) (wk : Cond.classLink RX6 ik cls ∈ gw) (wi : Cond.initialized cls ∈ gw) (ht : (is, text) ∈ txts)
    (d0 : decode cc pc = .ok (.new ik, 3)) (d3 : decode cc (pc + 3) = .ok (.dup, 1)) (d4 : decode cc (pc + 4) = .ok (.ldc is, 2)) (d6 : decode cc (pc + 6) = .ok (.invokespecial ic, 3)) (d9 : decode cc (pc + 9) = .ok (.athrow, 1))
    (hl : 6 ≤ lvl) (hx : ∀ h, A h → XP cls h) : X z (kc + 1) (ks + 6) A pc L [] := by
  have g := E.1.gx hX
  have eb : z.base = w.base := E.1.2.2.2.2.1
  obtain ⟨sa, hsa⟩ := g.2.2.2.2.1.1 (is, text) ht
  have hcast := g.2.2.1 cls hc
  refine u_throwS C E hX.2.1 (names := exc) ha.2.2 exc_fit wk wi hsa (fun q hq => ?_) (fun q hq => ?_) (by rw [eb]; exact g.1) (by rw [eb]; exact g.2.1) d0 d3 d4 d6 d9 (by show 2 + 3 < lvl; omega) (by show 0 + (13 * (2 + 1) + 43) ≤ 40 * lvl; omega) hx
  · have := List.all_eq_true.mp ha.1 q hq
    simp only [Bool.or_eq_true, Bool.and_eq_true, decide_eq_true_eq, List.any_eq_true] at this
    rcases this with h1 | h1 | ⟨n, hn, h1⟩
    · exact C.ts _ (gw_mem h1.1 h1.2)
    · rw [h1]
      exact va_Nw.use rfl hcast
    · rw [h1]
      exact va_Nw.use rfl (g.2.2.2.2.1.2 n hn)
  · rcases List.mem_cons.mp hq with e | hq
    · rw [e]
      have := gw_good _ wk
      simp [vx_ot, this]
    · rcases List.mem_cons.mp hq with e | hq
      · rw [e]
        have := gw_good _ wi
        simp [vx_ot, this]
      · exact List.all_eq_true.mp ha.2.1 q hq
end Rows
theorem HL.dif {l : List (Nat × va_E)} {h : PH} (g : HL l h) (i j : Nat) {x y : Nat} (hi : (l.map Prod.fst)[i]? = some x) (hj : (l.map Prod.fst)[j]? = some y) (n : i ≠ j) : x ≠ y := fun e => by
  subst e
  exact n (g.inj hi hj)
/-! a new MeterBus in the heap -/
section Fresh
variable {c : Nat → ClassId} {a : Nat → Nat} {l : List (Nat × va_E)} {h : PH}
def FR (c : Nat → ClassId) (a : Nat → Nat) (h : PH) : Prop := HL (clsL c a) h
theorem FR.x (F : FR c a h) : h (a 0) = some (.inr (6, [.ref (a 1), .ref (a 3), .ref (a 7), .ref (a 9), .ref (a 10), .int 0])) := HL.at F 10 rfl
theorem FR.buf (F : FR c a h) : RW c h (a 1) (a 2) (fun _ => 0) 0 := ⟨HL.dif F 9 8 rfl rfl (by decide), HL.at F 9 rfl, HL.at F 8 rfl, by decide⟩
theorem FR.ans (F : FR c a h) : RW c h (a 5) (a 6) (fun _ => 0) 0 := ⟨HL.dif F 5 4 rfl rfl (by decide), HL.at F 5 rfl, HL.at F 4 rfl, by decide⟩
theorem FR.bus (F : FR c a h) : BE c h (a 3) (a 4) (a 5) 0 0 := ⟨HL.at F 7 rfl, HL.at F 6 rfl⟩
theorem FR.lst (F : FR c a h) : h (a 7) = some (.inr (4, [.ref (a 8), .int 0])) := HL.at F 3 rfl
theorem FR.dec (F : FR c a h) : h (a 9) = some (.inr (1, [.ref (a 7), .ref (a 1), .int 0, .int 0, .int 0, .int (-1), .int 0])) := HL.at F 1 rfl
end Fresh
