/-! The class: contracts that tell the heap outright; Row, its small methods. -/
def Wc (w : Wd) (c : Nat → ClassId) : Prop := w.ok ∧ w.cl = vwCl ∧ (∃ t : Nat, w.tys[t]? = some (c 0, FieldType.int)) ∧ (∃ t : Nat, w.tys[t]? = some (c 1, FieldType.long)) ∧ ∃ t : Nat, w.tys[t]? = some (c 2, FieldType.boolean)
def Cty (z : Fx) (c : Nat → ClassId) : Prop := z.cl = vwCl ∧ (∃ t : Nat, z.tys[t]? = some (c 0, FieldType.int)) ∧ (∃ t : Nat, z.tys[t]? = some (c 1, FieldType.long)) ∧ ∃ t : Nat, z.tys[t]? = some (c 2, FieldType.boolean)
abbrev EQ (h : PH) : PH → Prop := fun g => g = h
abbrev PQ (r : Option Value) (h : PH) : Option Value → PH → Prop := fun q g => q = r ∧ g = h
/-- from the heap h: it returns r, and the heap is h' -/
def TC (w : Wd) (y : MethodName) (cc : ByteArray) (n : Nat) (rt : Option FieldType) (lvl : Nat) (as : List Value) (h : PH) (r : Option Value) (h' : PH) : Prop := T w gw y cc n rt lvl (40 * lvl) 0 0 as (EQ h) (PQ r h')
section Rows
variable {z : Fx} {own : String} {cc : ByteArray} {kc ks pc : Nat} {L : List (Option Value)} {st : List Value} {w : Wd} {c : Nat → ClassId} {y : MethodName} {rt : Option FieldType} {lvl : Nat} {h h' : PH} {r : Option Value}
theorem TC.intro {n : Nat} {as : List Value} (hW : Wc w c) (hy : y.cls = own) (hp : plainName own = true) (hlen : (lg_sl as).length ≤ n)
    (k : ∀ z : Fx, Cx z own cc gw → Cty z c → Ct z w gw y rt lvl (40 * lvl) (PQ r h') → z.nL = n → X z 0 0 (EQ h) 0 (lent n as) []) : TC w y cc n rt lvl as h r h' := by
  refine T.intro (by rw [hy]; exact hp) hlen (fun z C E e1 e2 e3 => ?_)
  rw [hy] at C
  refine k z C ?_ E e1
  obtain ⟨q1, q2, q3, q4, q5, -⟩ := E
  obtain ⟨r1, r3, r4, r5, r6⟩ := hW
  exact ⟨by rw [q3]; exact r3, by rw [q4]; exact r4, by rw [q4]; exact r5, by rw [q4]; exact r6⟩
theorem e_get (C : Cx z own cc gw) (Y : Cty z c) {Cn : String} {Tu : u_T} {N ci index : Nat} {ty : Nat → FieldType} (kd : Kd vwCl gw ci Cn Tu N ty) (k : Nat) (hk : k < N) (wf : Cond.fieldLink own index (Tu k).1 (Tu k).2.1 (Tu k).2.2.1 ∈ gw) (d : decode cc pc = .ok (.getfield index, 3)) {a : Nat} {fs : List Value} {v : Value} (g : h a = some (.inr (ci, fs))) (gv : fs[k]? = some v)
    (kk : X z kc ks (EQ h) (pc + 3) L (v :: st)) : X z kc ks (EQ h) pc L (.ref a :: st) :=
  x_get C (by rw [Y.1]; exact kd) k hk wf d (fun q e => by rw [e]; exact g) gv kk
theorem e_put (C : Cx z own cc gw) (Y : Cty z c) {Cn : String} {Tu : u_T} {N ci index : Nat} {ty : Nat → FieldType} (kd : Kd vwCl gw ci Cn Tu N ty) (k : Nat) (hk : k < N) (hfin : (Tu k).2.2.2 = false) (wf : Cond.fieldLink own index (Tu k).1 (Tu k).2.1 (Tu k).2.2.1 ∈ gw) (d : decode cc pc = .ok (.putfield index, 3)) {a : Nat} {fs : List Value} {v : Value} {h1 : PH} (g : h a = some (.inr (ci, fs))) (gl : k < fs.length) (hn : narrow (ty k) v = v) (hf : fits (ty k) v = true) (e1 : hs h a (.inr (ci, fs.set k v)) = h1)
    (kk : X z kc ks (EQ h1) (pc + 3) L st) : X z kc ks (EQ h) pc L (v :: .ref a :: st) :=
  x_put C (by rw [Y.1]; exact kd) k hk hfin wf d (fun q e => by rw [e]; exact g) gl hn hf (fun q e => by rw [e]; exact e1) kk
theorem e_ild (C : Cx z own cc gw) (Y : Cty z c) (d : decode cc pc = .ok (.iaload, 1)) {a n : Nat} {f : Nat → Int32} {i : Int32} (g : h a = some (.inl (c 0, n, .inl f))) (gi : vp_in i n)
    (kk : X z kc ks (EQ h) (pc + 1) L (.int (f i.toNatClampNeg) :: st)) : X z kc ks (EQ h) pc L (.int i :: .ref a :: st) := by
  obtain ⟨t, ht⟩ := Y.2.1
  exact x_iald C ht d (fun q e => by rw [e]; exact g) gi kk
theorem e_ist (C : Cx z own cc gw) (Y : Cty z c) (d : decode cc pc = .ok (.iastore, 1)) {a n : Nat} {f : Nat → Int32} {i x : Int32} {h1 : PH} (g : h a = some (.inl (c 0, n, .inl f))) (gi : vp_in i n) (e1 : hs h a (.inl (c 0, n, .inl (upd f i.toNatClampNeg x))) = h1)
    (kk : X z kc ks (EQ h1) (pc + 1) L st) : X z kc ks (EQ h) pc L (.int x :: .int i :: .ref a :: st) := by
  obtain ⟨t, ht⟩ := Y.2.1
  exact x_iast C ht d (fun q e => by rw [e]; exact g) gi (fun q e => by rw [e]; exact e1) kk
theorem e_iret (C : Cx z own cc gw) (E : Ct z w gw y (some .int) lvl (40 * lvl) (PQ r h')) (d : decode cc pc = .ok (.ireturn, 1)) {v : Int32} (g : some (.int v) = r) (g' : h = h') : X z kc ks (EQ h) pc L [.int v] := x_iret C E d (fun q e => ⟨g, e.trans g'⟩)
theorem e_zret (C : Cx z own cc gw) (E : Ct z w gw y (some .boolean) lvl (40 * lvl) (PQ r h')) (d : decode cc pc = .ok (.ireturn, 1)) {v : Int32} (hn : narrow .boolean (.int v) = .int v) (g : some (.int v) = r) (g' : h = h') : X z kc ks (EQ h) pc L [.int v] := x_zret C E d hn (fun q e => ⟨g, e.trans g'⟩)
theorem e_lret (C : Cx z own cc gw) (E : Ct z w gw y (some .long) lvl (40 * lvl) (PQ r h')) (d : decode cc pc = .ok (.lreturn, 1)) {v : Int64} (g : some (.long v) = r) (g' : h = h') : X z kc ks (EQ h) pc L [.long v] := x_lret C E d (fun q e => ⟨g, e.trans g'⟩)
theorem e_vret (C : Cx z own cc gw) (E : Ct z w gw y none lvl (40 * lvl) (PQ r h')) (d : decode cc pc = .ok (.return_, 1)) (g : none = r) (g' : h = h') : X z kc ks (EQ h) pc L [] := x_vret C E d (fun q e => ⟨g, e.trans g'⟩)
theorem e_callV (C : Cx z own cc gw) (Y : Cty z c) (hW : Wc w c) (E : Ct z w gw y rt lvl (40 * lvl) (PQ r h')) {y' : MethodName} {cc' : ByteArray} {n' np index lvl' ci b N : Nat} {rt' : Option FieldType} {As stk fs : List Value} {r1 : Option Value} {h1 : PH} {Tu : u_T}
    (Mc : TC w y' cc' n' rt' lvl' (.ref b :: As) h r1 h1) (md : Md gw y' cc' n' rt' np) (wi : Cond.instanceMethod y' ∈ gw) (wse : Cond.selects y'.cls y' y' ∈ gw) (wl : Cond.methodLink own index y' ∈ gw) (d : decode cc pc = .ok (.invokevirtual index, 3)) (hn : As.length = np) (hf : lvl' < lvl) (hlo : n' ≤ 21)
    (gb : h b = some (.inr (ci, fs))) (hcl : vwCl[ci]? = some (y'.cls, Tu, N)) (hst : stk = As.reverse ++ .ref b :: st) (hcat : (st.map fun v => v.category).sum ≤ 8)
    (k : X z kc ks (EQ h1) (pc + 3) L (r1.toList ++ st)) : X z kc ks (EQ h) pc L stk :=
  x_callV (mc' := 0) (ms' := 0) C E hW.1 gw_good Mc md wi wse wl d hn (by omega) (by omega) (fun q e => by rw [e]; exact gb) (by rw [Y.1]; exact hcl) hst hcat (fun q => X.pure (p := q = r1) (fun _ g => g.1) (fun g => by subst g; exact X.heap k (fun _ g2 => g2.2)))
end Rows
/-- a Row at p, its array at q -/
def RW (c : Nat → ClassId) (h : PH) (p q : Nat) (f : Nat → Int32) (n : Nat) : Prop := p ≠ q ∧ h p = some (.inr (5, [.ref q, .int (nI n)])) ∧ h q = some (.inl (c 0, 300, .inl f)) ∧ n ≤ 300
def rowh (c : Nat → ClassId) (h : PH) (p q : Nat) (f : Nat → Int32) (n : Nat) : PH := hs (hs h q (.inl (c 0, 300, .inl f))) p (.inr (5, [.ref q, .int (nI n)]))
theorem hs_same {h : PH} {a : Nat} {e : va_E} (g : h a = some e) : hs h a e = h := by
  funext x
  by_cases e1 : x = a
  · subst e1; rw [hs_self]; exact g.symm
  · rw [hs_ne e1]
theorem hs_hs (h : PH) (a : Nat) (e e' : va_E) : hs (hs h a e) a e' = hs h a e' := by
  funext x
  by_cases e1 : x = a
  · subst e1; rw [hs_self, hs_self]
  · rw [hs_ne e1, hs_ne e1, hs_ne e1]
theorem hs_comm (h : PH) {a b : Nat} (n : a ≠ b) (e e' : va_E) : hs (hs h a e) b e' = hs (hs h b e') a e := by
  funext x
  by_cases e1 : x = b
  · subst e1; rw [hs_self, hs_ne (Ne.symm n), hs_self]
  · rw [hs_ne e1]
    by_cases e2 : x = a
    · subst e2; rw [hs_self, hs_self]
    · rw [hs_ne e2, hs_ne e2, hs_ne e1]
theorem RW.same {c : Nat → ClassId} {h : PH} {p q n : Nat} {f : Nat → Int32} (g : RW c h p q f n) : rowh c h p q f n = h := by
  unfold rowh
  rw [hs_same g.2.2.1, hs_same g.2.1]
theorem rw_p {c : Nat → ClassId} {h : PH} {p q n : Nat} {f : Nat → Int32} : rowh c h p q f n p = some (.inr (5, [.ref q, .int (nI n)])) := hs_self ..
theorem rw_q {c : Nat → ClassId} {h : PH} {p q n : Nat} {f : Nat → Int32} (n0 : p ≠ q) : rowh c h p q f n q = some (.inl (c 0, 300, .inl f)) := by
  unfold rowh
  rw [hs_ne (Ne.symm n0), hs_self]
theorem rw_ne {c : Nat → ClassId} {h : PH} {p q n x : Nat} {f : Nat → Int32} (hp : x ≠ p) (hq : x ≠ q) : rowh c h p q f n x = h x := by
  unfold rowh
  rw [hs_ne hp, hs_ne hq]
theorem RW.of {c : Nat → ClassId} {h : PH} {p q n : Nat} {f : Nat → Int32} (n0 : p ≠ q) (hn : n ≤ 300) : RW c (rowh c h p q f n) p q f n := ⟨n0, rw_p, rw_q n0, hn⟩
theorem rw_rw {c : Nat → ClassId} {h : PH} {p q n m : Nat} {f g : Nat → Int32} (n0 : p ≠ q) : rowh c (rowh c h p q f n) p q g m = rowh c h p q g m := by
  unfold rowh
  rw [hs_comm _ n0, hs_hs, hs_hs, hs_comm _ (Ne.symm n0)]
def rAt (f : Nat → Int32) (n : Nat) (i : Int32) : Int32 := if (0 : Int32) ≤ i ∧ i < nI n then f i.toNatClampNeg else -1
section Row
variable {w : Wd} {c : Nat → ClassId} {h : PH} {p q n : Nat} {f : Nat → Int32}
theorem r_size (hW : Wc w c) (R : RW c h p q f n) : TC w yX5_size cX5_size 1 (some .int) 0 [.ref p] h (some (.int (nI n))) h := by
  refine TC.intro hW rfl (by decide +kernel) (Nat.le_of_ble_eq_true rfl) (fun z C Y E hn => ?_)
  refine x_aload_n C dX5_size_0 rfl ?_
  refine e_get C Y kd_X5 1 (by decide) wf_X5_15 dX5_size_1 R.2.1 rfl ?_
  exact e_iret C E dX5_size_4 rfl rfl
theorem r_at (hW : Wc w c) (R : RW c h p q f n) (i : Int32) : TC w yX5_at cX5_at 2 (some .int) 0 [.ref p, .int i] h (some (.int (rAt f n i))) h := by
  refine TC.intro hW rfl (by decide +kernel) (Nat.le_of_ble_eq_true rfl) (fun z C Y E hn => ?_)
  unfold rAt at E
  refine x_iload_n C dX5_at_0 rfl ?_
  refine x_if_lt (tgt := 21) C dX5_at_1 (by decide) (fun c1 => ?_) (fun c1 => ?_)
  · refine x_iconst (v := -1) C dX5_at_21 (by decide) ?_
    exact e_iret C E dX5_at_22 (by rw [if_neg (fun g => absurd g.1 (Int32.not_le.mpr c1))]) rfl
  · refine x_iload_n C dX5_at_4 rfl ?_
    refine x_aload_n C dX5_at_5 rfl ?_
    refine e_get C Y kd_X5 1 (by decide) wf_X5_15 dX5_at_6 R.2.1 rfl ?_
    refine x_icmp_ge (tgt := 21) C dX5_at_9 (by decide) (fun c2 => ?_) (fun c2 => ?_)
    · refine x_iconst (v := -1) C dX5_at_21 (by decide) ?_
      exact e_iret C E dX5_at_22 (by rw [if_neg (fun g => absurd g.2 (Int32.not_lt.mpr c2))]) rfl
    · have g0 : (0 : Int32) ≤ i := Int32.not_lt.mp c1
      have g1 : i < nI n := Int32.not_le.mp c2
      refine x_aload_n C dX5_at_12 rfl ?_
      refine e_get C Y kd_X5 0 (by decide) wf_X5_9 dX5_at_13 R.2.1 rfl ?_
      refine x_iload_n C dX5_at_16 rfl ?_
      refine e_ild C Y dX5_at_17 R.2.2.1 ?_ ?_
      · obtain ⟨j, hj, rfl⟩ := nI_of c1
        have := (nI_ltI hj (by have := R.2.2.2; omega)).mp g1
        exact vp_in_nI (by have := R.2.2.2; omega) (by decide)
      · refine x_goto (tgt := 22) C dX5_at_18 (by decide) ?_
        exact e_iret C E dX5_at_22 (by rw [if_pos ⟨g0, g1⟩]) rfl
/-- a byte more, where there is room -/
def rAdd (f : Nat → Int32) (n : Nat) (b : Int32) : Nat → Int32 := if n < 300 then upd f n (b &&& 255) else f
def rNum (n : Nat) : Nat := if n < 300 then n + 1 else n
theorem r_add (hW : Wc w c) (R : RW c h p q f n) (b : Int32) : TC w yX5_add cX5_add 2 none 0 [.ref p, .int b] h none (rowh c h p q (rAdd f n b) (rNum n)) := by
  refine TC.intro hW rfl (by decide +kernel) (Nat.le_of_ble_eq_true rfl) (fun z C Y E hn => ?_)
  unfold rAdd rNum at E
  have hn3 := R.2.2.2
  refine x_aload_n C dX5_add_0 rfl ?_
  refine e_get C Y kd_X5 1 (by decide) wf_X5_15 dX5_add_1 R.2.1 rfl ?_
  refine x_sipush (v := 300) C dX5_add_4 (by decide) ?_
  refine x_icmp_ge (tgt := 34) C dX5_add_7 (by decide) (fun c1 => ?_) (fun c1 => ?_)
  · have g : ¬ n < 300 := fun g => absurd (nI_lt g (by decide)) (Int32.not_lt.mpr c1)
    exact e_vret C E dX5_add_34 rfl (by rw [if_neg g, if_neg g, R.same])
  · have g : n < 300 := (nI_ltI (by omega) (by decide)).mp (Int32.not_le.mp c1)
    rw [if_pos g, if_pos g] at E
    refine x_aload_n C dX5_add_10 rfl ?_
    refine e_get C Y kd_X5 0 (by decide) wf_X5_9 dX5_add_11 R.2.1 rfl ?_
    refine x_aload_n C dX5_add_14 rfl ?_
    refine e_get C Y kd_X5 1 (by decide) wf_X5_15 dX5_add_15 R.2.1 rfl ?_
    refine x_iload_n C dX5_add_18 rfl ?_
    refine x_sipush (v := 255) C dX5_add_19 (by decide) ?_
    refine x_iand C dX5_add_22 ?_
    refine e_ist C Y dX5_add_23 R.2.2.1 (vp_in_nI g (by decide)) rfl ?_
    rw [nI_clamp (by omega)]
    have R1 : hs h q (.inl (c 0, 300, .inl (upd f n (b &&& 255)))) p = some (.inr (5, [.ref q, .int (nI n)])) := by rw [hs_ne R.1]; exact R.2.1
    refine x_aload_n C dX5_add_24 rfl ?_
    refine x_dup C dX5_add_25 rfl ?_
    refine e_get C Y kd_X5 1 (by decide) wf_X5_15 dX5_add_26 R1 rfl ?_
    refine x_iconst (v := 1) C dX5_add_29 (by decide) ?_
    refine x_iadd C dX5_add_30 ?_
    rw [nI_1]
    refine e_put C Y kd_X5 1 (by decide) rfl wf_X5_15 dX5_add_31 R1 (Nat.le_refl 2) rfl rfl rfl ?_
    exact e_vret C E dX5_add_34 rfl rfl
def rCut (n : Nat) (i : Int32) : Nat := if (0 : Int32) ≤ i ∧ i < nI n then i.toNatClampNeg else n
theorem r_cutTo (hW : Wc w c) (R : RW c h p q f n) (i : Int32) : TC w yX5_cutTo cX5_cutTo 2 none 0 [.ref p, .int i] h none (rowh c h p q f (rCut n i)) := by
  refine TC.intro hW rfl (by decide +kernel) (Nat.le_of_ble_eq_true rfl) (fun z C Y E hn => ?_)
  unfold rCut at E
  have hn3 := R.2.2.2
  refine x_iload_n C dX5_cutTo_0 rfl ?_
  refine x_if_lt (tgt := 17) C dX5_cutTo_1 (by decide) (fun c1 => ?_) (fun c1 => ?_)
  · exact e_vret C E dX5_cutTo_17 rfl (by rw [if_neg (fun g => absurd g.1 (Int32.not_le.mpr c1)), R.same])
  · refine x_iload_n C dX5_cutTo_4 rfl ?_
    refine x_aload_n C dX5_cutTo_5 rfl ?_
    refine e_get C Y kd_X5 1 (by decide) wf_X5_15 dX5_cutTo_6 R.2.1 rfl ?_
    refine x_icmp_ge (tgt := 17) C dX5_cutTo_9 (by decide) (fun c2 => ?_) (fun c2 => ?_)
    · exact e_vret C E dX5_cutTo_17 rfl (by rw [if_neg (fun g => absurd g.2 (Int32.not_lt.mpr c2)), R.same])
    · rw [if_pos ⟨Int32.not_lt.mp c1, Int32.not_le.mp c2⟩] at E
      obtain ⟨j, hj, rfl⟩ := nI_of c1
      rw [nI_clamp hj] at E
      refine x_aload_n C dX5_cutTo_12 rfl ?_
      refine x_iload_n C dX5_cutTo_13 rfl ?_
      refine e_put C Y kd_X5 1 (by decide) rfl wf_X5_15 dX5_cutTo_14 R.2.1 (Nat.le_refl 2) rfl rfl rfl ?_
      refine e_vret C E dX5_cutTo_17 rfl ?_
      unfold rowh
      rw [hs_same R.2.2.1]
      rfl
theorem r_dataSize (hW : Wc w c) (R : RW c h p q f n) : TC w yX5_dataSize cX5_dataSize 1 (some .int) 0 [.ref p] h (some (.int (nI n - 6 - 3))) h := by
  refine TC.intro hW rfl (by decide +kernel) (Nat.le_of_ble_eq_true rfl) (fun z C Y E hn => ?_)
  refine x_aload_n C dX5_dataSize_0 rfl ?_
  refine e_get C Y kd_X5 1 (by decide) wf_X5_15 dX5_dataSize_1 R.2.1 rfl ?_
  refine x_bipush (v := 6) C dX5_dataSize_4 (by decide) ?_
  refine x_isub C dX5_dataSize_6 ?_
  refine x_iconst (v := 3) C dX5_dataSize_7 (by decide) ?_
  refine x_isub C dX5_dataSize_8 ?_
  exact e_iret C E dX5_dataSize_9 rfl rfl
end Row
