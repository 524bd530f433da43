section
/-! Records, a decoder's small steps. -/
theorem wt_min : Cond.static Lib.Math.min.name ∈ gw := gw_at 351 (by decide +kernel) (by decide +kernel)
theorem wo_min : Cond.code Lib.Math.min.name Lib.Math.min.code 2 (some .int) ∈ gw := gw_at 352 (by decide +kernel) (by decide +kernel)
theorem wm_X1_72 : Cond.methodLink RX1 72 Lib.Math.min.name ∈ gw := gw_at 350 (by decide +kernel) (by decide +kernel)
theorem wm_X4_21 : Cond.methodLink RX4 21 Lib.Math.min.name ∈ gw := gw_at 377 (by decide +kernel) (by decide +kernel)
theorem wm_X2_47 : Cond.methodLink RX2 47 Lib.Math.min.name ∈ gw := gw_at 719 (by decide +kernel) (by decide +kernel)
section Rows
variable {z : Fx} {own : String} {cc : ByteArray} {kc ks pc : Nat} {A : PH → Prop} {L : List (Option Value)} {st : List Value}
theorem x_min (C : Cx z own cc gw) {x y : Int32} {index : Nat} (wl : Cond.methodLink own index Lib.Math.min.name ∈ gw) (d : decode cc pc = .ok (.invokestatic index, 3)) (hf : 1 ≤ z.R.frames) (hlo : (st.map fun v => v.category).sum + 13 ≤ z.R.locals) (k : X z kc ks A (pc + 3) L (.int (if y < x then y else x) :: st)) : X z kc ks A pc L (.int y :: .int x :: st) := by
  intro H locs ls cells slots hp hS hl c1 c2
  have r1 := C.rc
  have r2 := C.rs
  exact va_mmin C.x C.b (C.ml.trans hl.1.symm) C.ow (C.ts _ wl) (C.ts _ wt_min) (C.ts _ wz_Math) (C.ts _ wo_min) hf hlo (by omega) (by omega) d (k H locs ls cells slots hp hS hl c1 c2)
end Rows
section Recs
variable {w : Wd} {c : Nat → ClassId} {h h0 : PH} {li ra de : Nat} {W : Nat → Prop} {κ : Nat → Nat}
theorem l_cut (hW : Wc w c) {n : Nat} (hn1 : n ≤ 100) (B : h li = some (.inr (4, [.ref ra, .int (nI n)]))) (i : Int32) : T w gw yX4_cutTo cX4_cutTo 2 none 0 (40 * 0) 0 0 [.ref li, .int i] (EQ h) (fun r g => r = none ∧ ∃ m, m ≤ 100 ∧ g = hs h li (.inr (4, [.ref ra, .int (nI m)]))) := by
  refine TA.intro hW rfl (by decide +kernel) (Nat.le_of_ble_eq_true rfl) (fun z C Y E hn h1 hA => ?_)
  subst hA
  have T17 : X z 0 0 (EQ h1) 17 [some (.ref li), some (.int i)] [] := x_vret C E dX4_cutTo_17 (fun g e => ⟨rfl, n, hn1, by rw [hs_same B]; exact e⟩)
  refine x_iload_n C dX4_cutTo_0 rfl ?_
  refine x_if_lt (tgt := 17) C dX4_cutTo_1 (by decide) (fun _ => T17) (fun c1 => ?_)
  refine x_iload_n C dX4_cutTo_4 rfl ?_
  refine x_aload_n C dX4_cutTo_5 rfl ?_
  refine e_get C Y kd_X4 1 (by decide) wf_X4_17 dX4_cutTo_6 B rfl ?_
  refine x_icmp_ge (tgt := 17) C dX4_cutTo_9 (by decide) (fun _ => T17) (fun c9 => ?_)
  obtain ⟨j, hj, rfl⟩ := nI_of c1
  have hj2 : j < n := (nI_ltI hj (by omega)).mp (Int32.not_le.mp c9)
  refine x_aload_n C dX4_cutTo_12 rfl ?_
  refine x_iload_n C dX4_cutTo_13 rfl ?_
  refine e_put C Y kd_X4 1 (by decide) rfl wf_X4_17 dX4_cutTo_14 B (Nat.le_of_ble_eq_true rfl) rfl rfl rfl ?_
  exact x_vret C E dX4_cutTo_17 (fun g e => ⟨rfl, j, by omega, e⟩)
theorem l_takes (hW : Wc w c) {n : Nat} (hn1 : n ≤ 100) (B : h li = some (.inr (4, [.ref ra, .int (nI n)]))) : T w gw yX4_takesDraft cX4_takesDraft 1 (some .boolean) 0 (40 * 0) 0 0 [.ref li] (EQ h) (fun r g => (r = some (.int 0) ∨ r = some (.int 1)) ∧ ∃ m, m ≤ 100 ∧ g = hs h li (.inr (4, [.ref ra, .int (nI m)]))) := by
  refine TA.intro hW rfl (by decide +kernel) (Nat.le_of_ble_eq_true rfl) (fun z C Y E hn h1 hA => ?_)
  subst hA
  refine x_aload_n C dX4_takesDraft_0 rfl ?_
  refine e_get C Y kd_X4 1 (by decide) wf_X4_17 dX4_takesDraft_1 B rfl ?_
  refine x_bipush (v := 100) C dX4_takesDraft_4 (by decide) ?_
  refine x_icmp_lt (tgt := 11) C dX4_takesDraft_6 (by decide) (fun c6 => ?_) (fun c6 => ?_)
  · have h100 : n < 100 := (nI_ltI (by omega) (by decide)).mp c6
    refine x_aload_n C dX4_takesDraft_11 rfl ?_
    refine x_dup C dX4_takesDraft_12 rfl ?_
    refine e_get C Y kd_X4 1 (by decide) wf_X4_17 dX4_takesDraft_13 B rfl ?_
    refine x_iconst (v := 1) C dX4_takesDraft_16 (by decide) ?_
    refine x_iadd C dX4_takesDraft_17 ?_
    rw [nI_1]
    refine e_put C Y kd_X4 1 (by decide) rfl wf_X4_17 dX4_takesDraft_18 B (Nat.le_of_ble_eq_true rfl) rfl rfl rfl ?_
    refine x_iconst (v := 1) C dX4_takesDraft_21 (by decide) ?_
    exact x_zret C E dX4_takesDraft_22 (by decide) (fun g e => ⟨Or.inr rfl, n + 1, by omega, e⟩)
  · refine x_iconst (v := 0) C dX4_takesDraft_9 (by decide) ?_
    exact x_zret C E dX4_takesDraft_10 (by decide) (fun g e => ⟨Or.inl rfl, n, hn1, by rw [hs_same B]; exact e⟩)
theorem Wx.tR {z : Fx} {fr lo : Nat} (hX : Wx w c) (E : Cs z w fr lo) : ∃ t : Nat, z.tys[t]? = some (c 4, .object RX3) := by
  rw [E.2.2.2.1]; exact hX.2.2.2.2.1
theorem l_draft (hX : Wx w c) (eD : va_E) : T w gw yX4_draft cX4_draft 2 (some (.object "MeterBus$Reading")) 3 (40 * 3) 2 21 [.ref li] (fun h => DK c li ra de h0 W κ h ∧ h de = some eD) (fun r g => ∃ (κ' : Nat → Nat) (p : Nat), r = some (.ref p) ∧ κ' p = 1 ∧ DK c li ra de h0 W κ' g ∧ g de = some eD) := by
  have hW := hX.1
  refine TA.intro hW rfl (by decide +kernel) (Nat.le_of_ble_eq_true rfl) (fun z C Y E hn h DD => ?_)
  obtain ⟨D, hde⟩ := DD
  obtain ⟨t, ht⟩ := hX.tR E.cs
  have D' := D
  obtain ⟨⟨n, n1, n2⟩, ⟨g, g1, g2⟩, -, -, ⟨l1, l2, l3, l4, l5, l6⟩, -⟩ := D'
  obtain ⟨j, hj, ej⟩ : ∃ j, j ≤ 100 ∧ (if (100 : Int32) < nI n then (100 : Int32) else nI n) = nI j := by
    by_cases q : (100 : Int32) < nI n
    · exact ⟨100, Nat.le_refl _, by rw [if_pos q]; rfl⟩
    · exact ⟨n, n1, if_neg q⟩
  refine x_aload_n C dX4_draft_0 rfl ?_
  refine e_get C Y kd_X4 1 (by decide) wf_X4_17 dX4_draft_1 n2 rfl ?_
  refine x_bipush (v := 100) C dX4_draft_4 (by decide) ?_
  refine x_min C wm_X4_21 dX4_draft_6 (by rw [E.fr_]; decide) (by rw [E.lo_]; decide) ?_
  rw [ej]
  refine o_istore_nE (L' := [some _, some _]) C dX4_draft_9 (by rw [hn]; decide) rfl ?_
  refine x_aload_n C dX4_draft_10 rfl ?_
  refine e_get C Y kd_X4 0 (by decide) wf_X4_11 dX4_draft_11 n2 rfl ?_
  refine x_iload_n C dX4_draft_14 rfl ?_
  have rd : ∀ {kc ks : Nat} {pc : Nat} {L : List (Option Value)} {st : List Value} {hh : PH} {gg : Nat → Option Nat} (d : decode cX4_draft pc = .ok (.aaload, 1)) (hg : hh ra = some (zR c gg)) (kk : X z kc ks (EQ hh) (pc + 1) L (va_rf (gg j) :: st)), X z kc ks (EQ hh) pc L (.int (nI j) :: .ref ra :: st) := fun d hg kk => by
    refine x_aald C ht d (fun q e => by rw [e]; exact hg) (vp_in_nI (by omega) (by decide)) ?_
    rw [nI_clamp (by omega)]
    exact kk
  refine rd dX4_draft_15 g1 ?_
  cases eg : g j with
  | some p =>
    refine x_ifnonnull (tgt := 32) C dX4_draft_16 (by decide) ?_
    refine x_aload_n C dX4_draft_32 rfl ?_
    refine e_get C Y kd_X4 0 (by decide) wf_X4_11 dX4_draft_33 n2 rfl ?_
    refine x_iload_n C dX4_draft_36 rfl ?_
    refine rd dX4_draft_37 g1 ?_
    rw [eg]
    exact x_aret C E (Or.inl ⟨_, rfl⟩) dX4_draft_38 (Or.inr ⟨p, rfl⟩) (fun q e => by subst e; exact ⟨κ, p, rfl, g2 j p eg, D, hde⟩)
  | none =>
    refine x_ifnonnullN C dX4_draft_16 ?_
    refine x_aload_n C dX4_draft_19 rfl ?_
    refine e_get C Y kd_X4 0 (by decide) wf_X4_11 dX4_draft_20 n2 rfl ?_
    refine x_iload_n C dX4_draft_23 rfl ?_
    refine e_new (kc := 1) (ks := 11) (N := 10) C Y kd_X3 wc_X4_9 wn_X3 wz_X3 dX4_draft_24 (fs := [.long 0, .int 0, .int 0, .long 0, .int 0, .int 0, .null, .int 0, .null, .int 0]) (fun j hj => by rcases (show j = 0 ∨ j = 1 ∨ j = 2 ∨ j = 3 ∨ j = 4 ∨ j = 5 ∨ j = 6 ∨ j = 7 ∨ j = 8 ∨ j = 9 by omega) with rfl | rfl | rfl | rfl | rfl | rfl | rfl | rfl | rfl | rfl <;> rfl) (fun p hp => ?_)
    refine x_dup C dX4_draft_27 rfl ?_
    refine k_callIN (kc := 0) (ks := 0) (st := [.ref p, .int (nI j), .ref ra]) C E.cs hX.1.1 gw_good (n_rd hW (hs_self ..)) md_X3_init rfl wi_X3_init (E.cs.nest hX (q := (RX4, 27, yX3_init)) (by simp [nst])) dX4_draft_28 rfl (by decide) (by decide) rfl (by simp [Value.category]) (fun r => X.opn (fun h2 hB => ?_))
    obtain ⟨rfl, v, v1, v2, e2⟩ := hB
    rw [hs_ne v1] at v2
    have e3 : h2 = hs (hs h v (.inl (c 0, 11, .inl (fun _ => 0)))) p (.inr (3, rdL 0 0 0 0 0 0 v 0 .null 0)) := by rw [e2, hs_comm _ (Ne.symm v1), hs_hs]
    have Dv := D.new (k := 2) (e := .inl (c 0, 11, .inl (fun _ => 0))) v2 ⟨_, rfl⟩
    have hp2 : hs h v (.inl (c 0, 11, .inl (fun _ => 0))) p = none := by rw [hs_ne (Ne.symm v1)]; exact hp
    have Dp := Dv.new (k := 1) (e := .inr (3, rdL 0 0 0 0 0 0 v 0 .null 0)) hp2 ⟨_, rfl, 0, 0, 0, 0, 0, 0, 0, v, 0, .null, rfl, by rw [va_up_ne _ _ v1, va_up_self], by decide, Or.inl rfl⟩
    rw [← e3] at Dp
    have Dp' := Dp
    obtain ⟨⟨n', n1', n2'⟩, ⟨g', g1', g2'⟩, -, -, -, -⟩ := Dp'
    have eg1 : g' = g := by
      have nr1 : ra ≠ p := fun e => by rw [e, hp] at g1; exact nomatch g1
      have nr2 : ra ≠ v := fun e => by rw [e, v2] at g1; exact nomatch g1
      rw [e3, hs_ne nr1, hs_ne nr2, g1] at g1'
      simp only [zR, Option.some.injEq, Sum.inl.injEq, Prod.mk.injEq, Sum.inr.injEq, true_and] at g1'
      exact g1'.symm
    subst eg1
    have np : h2 p = some (.inr (3, rdL 0 0 0 0 0 0 v 0 .null 0)) := by rw [e3]; exact hs_self ..
    have lra : h2 li = some (.inr (4, [.ref ra, .int (nI n)])) := by
      have nl1 : li ≠ p := fun e => by rw [e, hp] at n2; exact nomatch n2
      have nl2 : li ≠ v := fun e => by rw [e, v2] at n2; exact nomatch n2
      rw [e3, hs_ne nl1, hs_ne nl2]; exact n2
    refine e_ast (rr := (RX3, TX3, 10)) C Y ht rfl dX4_draft_31 g1' rfl (show j < 101 by omega) (by decide) np ?_
    have Dq := Dp.putR (g := va_up g' j (some p)) (fun i q hq => by
      by_cases e : i = j
      · subst e; rw [va_up_self] at hq; cases hq; exact va_up_self ..
      · rw [va_up_ne _ _ e] at hq; exact g2' i q hq)
    refine x_aload_n C dX4_draft_32 rfl ?_
    refine e_get C Y kd_X4 0 (by decide) wf_X4_11 dX4_draft_33 (by rw [hs_ne l4]; exact lra) rfl ?_
    refine x_iload_n C dX4_draft_36 rfl ?_
    refine rd (gg := va_up g' j (some p)) dX4_draft_37 (hs_self ..) ?_
    rw [va_up_self]
    exact x_aret C E (Or.inl ⟨_, rfl⟩) dX4_draft_38 (Or.inr ⟨p, rfl⟩) (fun q e => by
      subst e
      refine ⟨va_up (va_up κ v 2) p 1, p, rfl, va_up_self .., Dq, ?_⟩
      have nd1 : de ≠ p := fun e => by rw [e, hp] at hde; exact nomatch hde
      have nd2 : de ≠ v := fun e => by rw [e, v2] at hde; exact nomatch hde
      rw [hs_ne (Ne.symm l6), e3, hs_ne nd1, hs_ne nd2]; exact hde)
end Recs
section Dec
variable {w : Wd} {c : Nat → ClassId} {h : PH} {d l b ba n : Nat} {f : Nat → Int32} {at_ en fa pl mo : Int32}
theorem d_more (hW : Wc w c) {f0 : Value} (hm : mo = 0 ∨ mo = 1) (B : h d = some (.inr (1, [.ref l, f0, .int at_, .int en, .int fa, .int pl, .int mo]))) : TC w yX1_endsByMore cX1_endsByMore 1 (some .boolean) 0 [.ref d] h (some (.int mo)) h := by
  refine TC.intro hW rfl (by decide +kernel) (Nat.le_of_ble_eq_true rfl) (fun z C Y E hn => ?_)
  refine x_aload_n C dX1_endsByMore_0 rfl ?_
  refine e_get C Y kd_X1 6 (by decide) wf_X1_24 dX1_endsByMore_1 B rfl ?_
  refine e_zret C E dX1_endsByMore_4 (by rcases hm with rfl | rfl <;> rfl) ?_ ?_
  all_goals rfl
theorem d_take (hW : Wc w c) (B : h d = some (.inr (1, [.ref l, .ref b, .int at_, .int en, .int fa, .int pl, .int mo]))) (R : RW c h b ba f n) : TC w yX1_take cX1_take 2 (some .int) 1 [.ref d] h (some (.int (rAt f n at_))) (hs h d (.inr (1, [.ref l, .ref b, .int (at_ + 1), .int en, .int fa, .int pl, .int mo]))) := by
  refine TC.intro hW rfl (by decide +kernel) (Nat.le_of_ble_eq_true rfl) (fun z C Y E hn => ?_)
  refine x_aload_n C dX1_take_0 rfl ?_
  refine e_get C Y kd_X1 1 (by decide) wf_X1_28 dX1_take_1 B rfl ?_
  refine x_aload_n C dX1_take_4 rfl ?_
  refine e_get C Y kd_X1 2 (by decide) wf_X1_9 dX1_take_5 B rfl ?_
  refine e_callV C Y hW E (r_at hW R at_) md_X5_at wi_X5_at ws_X5_at wm_X1_62 dX1_take_8 rfl (by decide) (by decide) R.2.1 rfl rfl (by simp [Value.category]) ?_
  refine o_istore_nE (L' := [some _, some _]) C dX1_take_11 (by rw [hn]; decide) rfl ?_
  refine x_aload_n C dX1_take_12 rfl ?_
  refine x_dup C dX1_take_13 rfl ?_
  refine e_get C Y kd_X1 2 (by decide) wf_X1_9 dX1_take_14 B rfl ?_
  refine x_iconst (v := 1) C dX1_take_17 (by decide) ?_
  refine x_iadd C dX1_take_18 ?_
  refine e_put C Y kd_X1 2 (by decide) rfl wf_X1_9 dX1_take_19 B (Nat.le_of_ble_eq_true rfl) rfl rfl rfl ?_
  refine x_iload_n C dX1_take_22 rfl ?_
  refine e_iret C E dX1_take_23 ?_ ?_
  all_goals rfl
theorem d_areThere (hW : Wc w c) {f0 : Value} (B : h d = some (.inr (1, [.ref l, f0, .int at_, .int en, .int fa, .int pl, .int mo]))) (k : Int32) : TC w yX1_areThere cX1_areThere 2 (some .boolean) 1 [.ref d, .int k] h (some (.int (bI (at_ + k ≤ en)))) (if at_ + k ≤ en then h else hs h d (.inr (1, [.ref l, f0, .int at_, .int en, .int 4, .int en, .int mo]))) := by
  refine TC.intro hW rfl (by decide +kernel) (Nat.le_of_ble_eq_true rfl) (fun z C Y E hn => ?_)
  refine x_aload_n C dX1_areThere_0 rfl ?_
  refine e_get C Y kd_X1 2 (by decide) wf_X1_9 dX1_areThere_1 B rfl ?_
  refine x_iload_n C dX1_areThere_4 rfl ?_
  refine x_iadd C dX1_areThere_5 ?_
  refine x_aload_n C dX1_areThere_6 rfl ?_
  refine e_get C Y kd_X1 3 (by decide) wf_X1_15 dX1_areThere_7 B rfl ?_
  refine x_icmp_le (tgt := 25) C dX1_areThere_10 (by decide) (fun c10 => ?_) (fun c10 => ?_)
  · rw [if_pos c10, bI_t c10] at E
    refine x_iconst (v := 1) C dX1_areThere_25 (by decide) ?_
    refine x_goto (tgt := 30) C dX1_areThere_26 (by decide) ?_
    refine e_zret C E dX1_areThere_30 (by decide) ?_ ?_
    all_goals rfl
  · rw [if_neg c10, bI_f c10] at E
    refine x_aload_n C dX1_areThere_13 rfl ?_
    refine x_iconst (v := 4) C dX1_areThere_14 (by decide) ?_
    refine x_aload_n C dX1_areThere_15 rfl ?_
    refine e_get C Y kd_X1 3 (by decide) wf_X1_15 dX1_areThere_16 B rfl ?_
    refine e_callV C Y hW E (d_wrong hW B 4 en) md_X1_wrong wi_X1_wrong ws_X1_wrong wm_X1_67 dX1_areThere_19 rfl (by decide) (by decide) B rfl rfl (by simp [Value.category]) ?_
    refine x_if_eq (tgt := 29) C dX1_areThere_22 (by decide) (fun c22 => ?_) (fun c22 => absurd c22 (not_not_intro rfl))
    refine x_iconst (v := 0) C dX1_areThere_29 (by decide) ?_
    refine e_zret C E dX1_areThere_30 (by decide) ?_ ?_
    all_goals rfl
end Dec
end
section
/-! Reading: its text. -/
/-- .. and p is a Reading -/
def DP (c : Nat → ClassId) (li ra de : Nat) (h0 : PH) (W : Nat → Prop) (p : Nat) (co : Int32) (h : PH) : Prop := ∃ κ, DK c li ra de h0 W κ h ∧ κ p = 1 ∧ ∃ (va : Int64) (rest : List Value), h p = some (.inr (3, .long va :: .int co :: rest))
/-- .. and the decoder stands at a, its end at e, over the Row b -/
def DE (c : Nat → ClassId) (li ra de : Nat) (h0 : PH) (W : Nat → Prop) (p : Nat) (co : Int32) (b : Nat) (a e : Int32) (h : PH) : Prop := DP c li ra de h0 W p co h ∧ ∃ fa pl mo : Int32, h de = some (.inr (1, [.ref li, .ref b, .int a, .int e, .int fa, .int pl, .int mo])) ∧ (mo = 0 ∨ mo = 1)
section Rd
variable {w : Wd} {c : Nat → ClassId} {h h0 : PH} {li ra de p b ba n : Nat} {W : Nat → Prop} {f : Nat → Int32} {co : Int32}
theorem DP.get (D : DP c li ra de h0 W p co h) : ∃ κ, DK c li ra de h0 W κ h ∧ κ p = 1 ∧ ∃ (va sg : Int64) (fu ta un ln : Int32) (v vn : Nat) (lt : Value), h p = some (.inr (3, rdL va co fu sg ta un v (nI vn) lt ln)) ∧ κ v = 2 ∧ vn ≤ 11 ∧ (lt = .null ∨ ∃ t, lt = .ref t ∧ κ t = 3) := by
  obtain ⟨κ, D, hp, va0, rest, hc⟩ := D
  obtain ⟨e, e1, va, sg, co1, fu, ta, un, ln, v, vn, lt, e2, e3, e4, e5⟩ := D.rd hp
  have ec : co1 = co := by
    rw [e1, e2] at hc
    simp only [rdL, Option.some.injEq, Sum.inr.injEq, Prod.mk.injEq, List.cons.injEq, Value.int.injEq, true_and] at hc
    exact hc.2.1
  subst ec
  exact ⟨κ, D, hp, va, sg, fu, ta, un, ln, v, vn, lt, by rw [e1, e2], e3, e4, e5⟩
theorem DK.pd0 {κ : Nat → Nat} (D : DK c li ra de h0 W κ h) {q : Nat} (hq : κ q ≠ 0) : q ≠ de := fun e => hq (by rw [e]; exact D.2.2.2.2.1.2.2.1)
theorem DP.putD (D : DP c li ra de h0 W p co h) (fr : Value) (at_ en fa pl mo : Int32) (hm : mo = 0 ∨ mo = 1) : DP c li ra de h0 W p co (hs h de (.inr (1, [.ref li, fr, .int at_, .int en, .int fa, .int pl, .int mo]))) := by
  obtain ⟨κ, D, hp, va, rest, hc⟩ := D
  exact ⟨κ, D.putD fr at_ en fa pl mo hm, hp, va, rest, by rw [hs_ne (D.pd0 (by omega))]; exact hc⟩
theorem DP.row (D : DP c li ra de h0 W p co h) (R : RW c h0 b ba f n) (o1 : W b) (o2 : W ba) : RW c h b ba f n := by
  obtain ⟨κ, D, hp, -⟩ := D
  exact D.row R o1 o2
theorem DE.set {a e : Int32} (D : DE c li ra de h0 W p co b a e h) {fa pl mo : Int32} (B : h de = some (.inr (1, [.ref li, .ref b, .int a, .int e, .int fa, .int pl, .int mo]))) (a' fa' pl' : Int32) : DE c li ra de h0 W p co b a' e (hs h de (.inr (1, [.ref li, .ref b, .int a', .int e, .int fa', .int pl', .int mo]))) := by
  obtain ⟨D, fa1, pl1, mo1, B1, hm⟩ := D
  rw [B] at B1
  simp only [Option.some.injEq, Sum.inr.injEq, Prod.mk.injEq, List.cons.injEq, Value.int.injEq, and_true, true_and] at B1
  obtain ⟨-, -, e1⟩ := B1
  subst e1
  exact ⟨D.putD _ _ _ _ _ _ hm, fa', pl', mo, hs_self .., hm⟩
/-- the Reading p written anew -/
theorem DE.rd {a e : Int32} (D : DE c li ra de h0 W p co b a e h) {g : PH} (G : DP c li ra de h0 W p co g) (hd : g de = h de) : DE c li ra de h0 W p co b a e g := by
  obtain ⟨D, fa1, pl1, mo1, B1, hm⟩ := D
  exact ⟨G, fa1, pl1, mo1, by rw [hd]; exact B1, hm⟩
theorem DK.pd {κ : Nat → Nat} (D : DK c li ra de h0 W κ h) {q : Nat} (hq : κ q ≠ 0) : de ≠ q := fun e => hq (by rw [← e]; exact D.2.2.2.2.1.2.2.1)
theorem q_setText (hW : Wc w c) (R : RW c h0 b ba f n) (hb : W b) (hba : W ba) (fr : Int32) (s : Nat) (hs3 : s ≤ 300) (aa ee : Int32) : T w gw yX3_setText cX3_setText 5 none 1 (40 * 1) 1 s [.ref p, .ref b, .int fr, .int (nI s)] (DE c li ra de h0 W p co b aa ee) (fun r g => r = none ∧ DE c li ra de h0 W p co b aa ee g) := by
  refine TA.intro hW rfl (by decide +kernel) (Nat.le_of_ble_eq_true rfl) (fun z C Y E hn h D => ?_)
  obtain ⟨t0, ht0⟩ := Y.2.1
  have T74 : ∀ (kc ks : Nat) (h : PH) (l4 : Option Value), DE c li ra de h0 W p co b aa ee h → X z kc ks (EQ h) 74 [some (.ref p), some (.ref b), some (.int fr), some (.int (nI s)), l4] [] := fun kc ks h l4 D => by
    have DD := D
    obtain ⟨κ, D, hp, va, sg, fu, ta, un, ln, v, vn, lt, B, v1, v2, v3⟩ := D.1.get
    refine x_aload_n C dX3_setText_74 rfl ?_
    refine x_iload_n C dX3_setText_75 rfl ?_
    refine e_put C Y kd_X3 9 (by decide) rfl wf_X3_41 dX3_setText_76 B (Nat.le_of_ble_eq_true rfl) rfl rfl rfl ?_
    refine x_aload_n C dX3_setText_79 rfl ?_
    refine x_iload_n C dX3_setText_80 rfl ?_
    refine x_i2l C dX3_setText_81 ?_
    refine e_put C Y kd_X3 0 (by decide) rfl wf_X3_9 dX3_setText_82 (hs_self ..) (Nat.le_of_ble_eq_true rfl) rfl rfl (hs_hs ..) ?_
    exact x_vret C E dX3_setText_85 (fun g e => ⟨rfl, by rw [e]; exact DD.rd ⟨κ, D.putRd hp ⟨_, sg, co, fu, ta, un, _, v, vn, lt, rfl, v1, v2, v3⟩, hp, _, _, hs_self ..⟩ (hs_ne (D.pd (by omega)))⟩)
  have LP : ∀ (r j : Nat) (h : PH), j + r = s → DE c li ra de h0 W p co b aa ee h → X z 0 0 (EQ h) 30 [some (.ref p), some (.ref b), some (.int fr), some (.int (nI s)), some (.int (nI j))] [] := by
    intro r
    induction r with
    | zero =>
      intro j h hj D
      obtain rfl : j = s := by omega
      refine x_iload C dX3_setText_30 rfl ?_
      refine x_iload_n C dX3_setText_32 rfl ?_
      exact x_icmp_ge (tgt := 74) C dX3_setText_33 (by decide) (fun _ => T74 0 0 h _ D) (fun q => absurd (Int32.le_refl _) q)
    | succ r ih =>
      intro j h hj D
      have D0 := D
      have DD := D
      obtain ⟨κ, D, hp, va, sg, fu, ta, un, ln, v, vn, lt, B, v1, v2, v3⟩ := D.1.get
      refine x_iload C dX3_setText_30 rfl ?_
      refine x_iload_n C dX3_setText_32 rfl ?_
      refine x_icmp_ge (tgt := 74) C dX3_setText_33 (by decide) (fun _ => T74 0 0 h _ D0) (fun _ => ?_)
      refine x_aload_n C dX3_setText_36 rfl ?_
      refine e_get C Y kd_X3 8 (by decide) wf_X3_38 dX3_setText_37 B rfl ?_
      rcases v3 with rfl | ⟨t, rfl, kt⟩
      · exact x_ifnullN (tgt := 74) C dX3_setText_40 (by decide) (T74 0 0 h _ D0)
      · obtain ⟨m, ft, m1, m2⟩ := D.lt kt
        refine x_ifnull C dX3_setText_40 ?_
        refine x_iload C dX3_setText_43 rfl ?_
        refine x_aload_n C dX3_setText_45 rfl ?_
        refine e_get C Y kd_X3 8 (by decide) wf_X3_38 dX3_setText_46 B rfl ?_
        refine x_alen C ht0 dX3_setText_49 (v := nI m) (fun q e => by rw [e]; exact m2) rfl ?_
        refine x_icmp_ge (tgt := 74) C dX3_setText_50 (by decide) (fun _ => T74 0 0 h _ D0) (fun c50 => ?_)
        have jm : j < m := (nI_ltI (by omega) (by omega)).mp (Int32.not_le.mp c50)
        have Rh := D.row R hb hba
        refine x_aload_n C dX3_setText_53 rfl ?_
        refine e_get C Y kd_X3 8 (by decide) wf_X3_38 dX3_setText_54 B rfl ?_
        refine x_iload C dX3_setText_57 rfl ?_
        refine x_aload_n C dX3_setText_59 rfl ?_
        refine x_iload_n C dX3_setText_60 rfl ?_
        refine x_iload C dX3_setText_61 rfl ?_
        refine x_iadd C dX3_setText_63 ?_
        refine u_callV (st := [.int (nI j), .ref t]) C Y hW E.cs (r_at hW Rh _) md_X5_at wi_X5_at ws_X5_at wm_X3_44 dX3_setText_64 rfl (by decide) (by decide) Rh.2.1 rfl rfl (by simp [Value.category]) ?_
        refine e_ist C Y dX3_setText_67 m2 (vp_in_nI jm (by omega)) rfl ?_
        refine o_iincE (v := nI (j + 1)) (L' := [some _, some _, some _, some _, some _]) C dX3_setText_68 rfl (nI_1 j) (by rw [hn]; decide) rfl ?_
        refine x_goto (tgt := 30) C dX3_setText_71 (by decide) ?_
        exact ih (j + 1) _ (by omega) (DD.rd ⟨κ, D.putLt kt m1 _, hp, va, _, by rw [hs_ne (fun e => by rw [e, kt] at hp; exact absurd hp (by decide))]; exact B⟩ (hs_ne (D.pd (by omega))))
  have T27 : ∀ (kc ks : Nat) (h : PH), DE c li ra de h0 W p co b aa ee h → X z kc ks (EQ h) 27 [some (.ref p), some (.ref b), some (.int fr), some (.int (nI s)), none] [] := fun kc ks h D => by
    refine x_iconst (v := 0) C dX3_setText_27 (by decide) ?_
    refine o_istoreE (L' := [some _, some _, some _, some _, some _]) C dX3_setText_28 (by rw [hn]; decide) rfl ?_
    exact (LP s 0 h (Nat.zero_add s) D).room (Nat.zero_le _) (Nat.zero_le _)
  have D0 := D
  have DD := D
  obtain ⟨κ, D, hp, va, sg, fu, ta, un, ln, v, vn, lt, B, v1, v2, v3⟩ := D.1.get
  have T20 : X z 1 s (EQ h) 20 [some (.ref p), some (.ref b), some (.int fr), some (.int (nI s)), none] [] := by
    refine x_aload_n C dX3_setText_20 rfl ?_
    refine x_iload_n C dX3_setText_21 rfl ?_
    refine X.room (kc' := 0 + 1) (ks' := 0 + s) ?_ (by omega) (by omega)
    refine e_newi (kc := 0) (ks := 0) (N := s) C Y dX3_setText_22 (nI_pos (by omega)) (nI_clamp (by omega)) (by omega) (fun q hq => ?_)
    have np : p ≠ q := fun e => by rw [e, hq] at B; exact nomatch B
    have Dn := D.new (k := 3) (e := .inl (c 0, s, .inl (fun _ => 0))) hq ⟨s, _, hs3, rfl⟩
    have nv : v ≠ q := fun e => by rw [e, D.fresh hq] at v1; exact nomatch v1
    refine e_put C Y kd_X3 8 (by decide) rfl wf_X3_38 dX3_setText_24 (by rw [hs_ne np]; exact B) (Nat.le_of_ble_eq_true rfl) rfl rfl rfl ?_
    have nd : de ≠ q := fun e => by
      obtain ⟨-, _, _, _, B9, -⟩ := DD
      rw [e, hq] at B9
      exact nomatch B9
    exact T27 0 0 _ (DD.rd ⟨va_up κ q 3, Dn.putRd (by rw [va_up_ne _ _ np]; exact hp) ⟨va, sg, co, fu, ta, un, ln, v, vn, .ref q, rfl, by rw [va_up_ne _ _ nv]; exact v1, v2, Or.inr ⟨q, rfl, va_up_self ..⟩⟩, by rw [va_up_ne _ _ np]; exact hp, _, _, hs_self ..⟩ (by rw [hs_ne (D.pd (by omega)), hs_ne nd]))
  refine x_iload_n C dX3_setText_0 rfl ?_
  refine x_if_le (tgt := 27) C dX3_setText_1 (by decide) (fun _ => T27 1 s h D0) (fun _ => ?_)
  refine x_aload_n C dX3_setText_4 rfl ?_
  refine e_get C Y kd_X3 8 (by decide) wf_X3_38 dX3_setText_5 B rfl ?_
  rcases v3 with rfl | ⟨t, rfl, kt⟩
  · exact x_ifnullN (tgt := 20) C dX3_setText_8 (by decide) T20
  · obtain ⟨m, ft, m1, m2⟩ := D.lt kt
    refine x_ifnull C dX3_setText_8 ?_
    refine x_aload_n C dX3_setText_11 rfl ?_
    refine e_get C Y kd_X3 8 (by decide) wf_X3_38 dX3_setText_12 B rfl ?_
    refine x_alen C ht0 dX3_setText_15 (v := nI m) (fun q e => by rw [e]; exact m2) rfl ?_
    refine x_iload_n C dX3_setText_16 rfl ?_
    exact x_icmp_ge (tgt := 27) C dX3_setText_17 (by decide) (fun _ => T27 1 s h D0) (fun _ => T20)
end Rd
end
section
/-! Decoder: DIFEs, VIFs, numbers: it ends, and owns what it owned. -/
/-- well, and at lo or beyond; or not well -/
def RS (c : Nat → ClassId) (li ra de : Nat) (h0 : PH) (W : Nat → Prop) (p : Nat) (co : Int32) (b lo m : Nat) (r : Option Value) (g : PH) : Prop := (r = some (.int 1) ∧ ∃ i, lo ≤ i ∧ i ≤ m ∧ DE c li ra de h0 W p co b (nI i) (nI m) g) ∨ (r = some (.int 0) ∧ ∃ a, DE c li ra de h0 W p co b a (nI m) g)
/-- well, and just at pos; or not well -/
def RE (c : Nat → ClassId) (li ra de : Nat) (h0 : PH) (W : Nat → Prop) (p : Nat) (co : Int32) (b pos m : Nat) (r : Option Value) (g : PH) : Prop := (r = some (.int 1) ∧ pos ≤ m ∧ DE c li ra de h0 W p co b (nI pos) (nI m) g) ∨ (r = some (.int 0) ∧ ∃ a, DE c li ra de h0 W p co b a (nI m) g)
/-- behind the bytes that follow by bit 7 -/
def exD (f : Nat → Int32) : Nat → Int32 → Nat → Nat
  | 0, _, j => j
  | r + 1, la, j => if la &&& 128 = 0 then j else exD f r (f j) (j + 1)
section Dec
variable {w : Wd} {c : Nat → ClassId} {h h0 : PH} {li ra de p b ba n : Nat} {W : Nat → Prop} {f : Nat → Int32} {co : Int32}
theorem DE.setValue {a e : Int32} (D : DE c li ra de h0 W p co b a e h) {va sg : Int64} {fu ta un ln : Int32} {v : Nat} {vn lt : Value} (B : h p = some (.inr (3, [.long va, .int co, .int fu, .long sg, .int ta, .int un, .ref v, vn, lt, .int ln]))) (x : Int64) : DE c li ra de h0 W p co b a e (hs h p (.inr (3, [.long x, .int co, .int fu, .long sg, .int ta, .int un, .ref v, vn, lt, .int ln]))) := by
  obtain ⟨κ, Dk, hp, va1, sg1, fu1, ta1, un1, ln1, v1, vn1, lt1, B1, k1, k2, k3⟩ := D.1.get
  rw [B] at B1
  simp only [rdL, Option.some.injEq, Sum.inr.injEq, Prod.mk.injEq, List.cons.injEq, Value.int.injEq, Value.long.injEq, Value.ref.injEq, and_true, true_and] at B1
  obtain ⟨-, -, -, -, -, e1, e2, e3, -⟩ := B1
  subst e1; subst e2; subst e3
  exact D.rd ⟨κ, Dk.putRd hp ⟨x, sg, co, fu, ta, un, ln, v, vn1, lt, rfl, k1, k2, k3⟩, hp, _, _, hs_self ..⟩ (hs_ne (Dk.pd (by omega)))
theorem RE.no {a : Int32} {pos m : Nat} (D : DE c li ra de h0 W p co b a (nI m) h) : RE c li ra de h0 W p co b pos m (some (.int 0)) h := Or.inr ⟨rfl, _, D⟩
theorem RS.no {a : Int32} {lo m : Nat} (D : DE c li ra de h0 W p co b a (nI m) h) : RS c li ra de h0 W p co b lo m (some (.int 0)) h := Or.inr ⟨rfl, _, D⟩
theorem RS.yes {i lo m : Nat} (h1 : lo ≤ i) (h2 : i ≤ m) (D : DE c li ra de h0 W p co b (nI i) (nI m) h) : RS c li ra de h0 W p co b lo m (some (.int 1)) h := Or.inl ⟨rfl, i, h1, h2, D⟩
section There
variable {z : Fx} {cc : ByteArray} {kc ks pc : Nat} {L : List (Option Value)} {st : List Value} {lvl : Nat} {y : MethodName} {rt : Option FieldType}
/-- areThere, and what comes behind it -/
theorem k_there (C : Cx z RX1 cc gw) (Y : Cty z c) (hW : Wc w c) (E : Cs z w lvl (40 * lvl)) (hl : 1 < lvl) {i m s : Nat} (hi : i ≤ m) (hm : m ≤ 256) (hs3 : s ≤ 300) (D : DE c li ra de h0 W p co b (nI i) (nI m) h) (d : decode cc pc = .ok (.invokevirtual 117, 3)) (hcat : (st.map fun v => v.category).sum ≤ 8)
    (k1 : i + s ≤ m → X z kc ks (EQ h) (pc + 3) L (.int 1 :: st)) (k0 : ∀ g, DE c li ra de h0 W p co b (nI i) (nI m) g → X z kc ks (EQ g) (pc + 3) L (.int 0 :: st)) : X z kc ks (EQ h) pc L (.int (nI s) :: .ref de :: st) := by
  have D0 := D
  obtain ⟨-, fa, pl, mo, B, hm1⟩ := D0
  refine u_callV (st := st) C Y hW E (d_areThere hW B (nI s)) md_X1_areThere wi_X1_areThere ws_X1_areThere wm_X1_117 d rfl hl (by decide) B rfl rfl hcat ?_
  have e1 : (nI i + nI s ≤ nI m) ↔ i + s ≤ m := by
    rw [nI_add]
    exact ⟨fun g => Nat.le_of_not_lt (fun q => absurd (nI_lt q (by omega)) (Int32.not_lt.mpr g)), fun g => nI_le g (by omega)⟩
  by_cases g : i + s ≤ m
  · rw [if_pos (e1.mpr g), bI_t (e1.mpr g)]
    exact k1 g
  · rw [if_neg (fun q => g (e1.mp q)), bI_f (fun q => g (e1.mp q))]
    exact k0 _ (D.set B _ _ _)
/-- take, and what comes behind it -/
theorem k_take (C : Cx z RX1 cc gw) (Y : Cty z c) (hW : Wc w c) (E : Cs z w lvl (40 * lvl)) (hl : 1 < lvl) (R : RW c h0 b ba f n) (o1 : W b) (o2 : W ba) {a e : Int32} (D : DE c li ra de h0 W p co b a e h) (d : decode cc pc = .ok (.invokevirtual 85, 3)) (hcat : (st.map fun v => v.category).sum ≤ 8)
    (k : ∀ g, DE c li ra de h0 W p co b (a + 1) e g → X z kc ks (EQ g) (pc + 3) L (.int (rAt f n a) :: st)) : X z kc ks (EQ h) pc L (.ref de :: st) := by
  have D0 := D
  obtain ⟨-, fa, pl, mo, B, hm1⟩ := D0
  refine u_callV (st := st) C Y hW E (d_take hW B (D.1.row R o1 o2)) md_X1_take wi_X1_take ws_X1_take wm_X1_85 d rfl hl (by decide) B rfl rfl hcat ?_
  exact k _ (D.set B _ _ _)
/-- wrong, and what comes behind it -/
theorem k_wrong (C : Cx z RX1 cc gw) (Y : Cty z c) (hW : Wc w c) (E : Cs z w lvl (40 * lvl)) (hl : 0 < lvl) {a e x q : Int32} (D : DE c li ra de h0 W p co b a e h) (d : decode cc pc = .ok (.invokevirtual 67, 3)) (hcat : (st.map fun v => v.category).sum ≤ 8)
    (k : ∀ g, DE c li ra de h0 W p co b a e g → X z kc ks (EQ g) (pc + 3) L (.int 0 :: st)) : X z kc ks (EQ h) pc L (.int q :: .int x :: .ref de :: st) := by
  have D0 := D
  obtain ⟨-, fa, pl, mo, B, hm1⟩ := D0
  refine u_callV (st := st) C Y hW E (d_wrong hW B x q) md_X1_wrong wi_X1_wrong ws_X1_wrong wm_X1_67 d rfl hl (by decide) B rfl rfl hcat ?_
  exact k _ (D.set B _ _ _)
end There
theorem d_difes (hW : Wc w c) (R : RW c h0 b ba f n) (o1 : W b) (o2 : W ba) (x : Int32) {i m : Nat} (hi : i ≤ m) (hm : m ≤ 256) (hmn : m ≤ n) : T w gw yX1_readDifes cX1_readDifes 5 (some .boolean) 2 (40 * 2) 0 0 [.ref de, .ref p, .int x] (DE c li ra de h0 W p co b (nI i) (nI m)) (RE c li ra de h0 W p co b (exD f 11 x i) m) := by
  refine TA.intro hW rfl (by decide +kernel) (Nat.le_of_ble_eq_true rfl) (fun z C Y E hn h D => ?_)
  have T65 : ∀ (h : PH) (j : Nat) (l3 l4 : Option Value), exD f 11 x i = j → j ≤ m → DE c li ra de h0 W p co b (nI j) (nI m) h → X z 0 0 (EQ h) 65 [some (.ref de), some (.ref p), some (.int x), l3, l4] [] := fun h j l3 l4 h1 h2 D => by
    refine x_iconst (v := 1) C dX1_readDifes_65 (by decide) ?_
    exact x_zret C E dX1_readDifes_66 (by decide) (fun g e => by subst e; exact Or.inl ⟨rfl, by rw [h1]; exact h2, by rw [h1]; exact D⟩)
  have LP : ∀ (r k j : Nat) (la : Int32) (h : PH), k + r = 11 → exD f 11 x i = exD f r la j → j ≤ m → DE c li ra de h0 W p co b (nI j) (nI m) h → X z 0 0 (EQ h) 5 [some (.ref de), some (.ref p), some (.int x), some (.int la), some (.int (nI k))] [] := by
    intro r
    induction r with
    | zero =>
      intro k j la h hk h1 h2 D
      obtain rfl : k = 11 := by omega
      refine x_iload C dX1_readDifes_5 rfl ?_
      refine x_bipush (v := 10) C dX1_readDifes_7 (by decide) ?_
      exact x_icmp_gt (tgt := 65) C dX1_readDifes_9 (by decide) (fun _ => T65 h j _ _ h1 h2 D) (fun q => absurd (by decide) q)
    | succ r ih =>
      intro k j la h hk h1 h2 D
      refine x_iload C dX1_readDifes_5 rfl ?_
      refine x_bipush (v := 10) C dX1_readDifes_7 (by decide) ?_
      refine x_icmp_gt (tgt := 65) C dX1_readDifes_9 (by decide) (fun q => absurd q (Int32.not_lt.mpr (nI_le (show k ≤ 10 by omega) (by decide)))) (fun _ => ?_)
      refine x_iload_n C dX1_readDifes_12 rfl ?_
      refine x_sipush (v := 128) C dX1_readDifes_13 (by decide) ?_
      refine x_iand C dX1_readDifes_16 ?_
      refine x_if_eq (tgt := 65) C dX1_readDifes_17 (by decide) (fun q => T65 h j _ _ (by rw [h1]; exact if_pos q) h2 D) (fun q17 => ?_)
      refine x_aload_n C dX1_readDifes_20 rfl ?_
      refine x_iconst (v := 1) C dX1_readDifes_21 (by decide) ?_
      refine k_there (s := 1) (st := []) C Y hW E.cs (by decide) h2 hm (by decide) D dX1_readDifes_22 (by decide) (fun hj1 => ?_) (fun g Dg => ?_)
      · refine x_if_ne (tgt := 30) C dX1_readDifes_25 (by decide) (fun _ => ?_) (fun q => absurd q (by decide))
        refine x_iload C dX1_readDifes_30 rfl ?_
        refine x_bipush (v := 10) C dX1_readDifes_32 (by decide) ?_
        refine x_icmp_ne (tgt := 47) C dX1_readDifes_34 (by decide) (fun _ => ?_) (fun _ => ?_)
        · refine x_aload_n C dX1_readDifes_47 rfl ?_
          refine k_take (st := []) C Y hW E.cs (by decide) R o1 o2 D dX1_readDifes_48 (by decide) (fun g Dg => ?_)
          rw [nI_1] at Dg
          refine o_istore_nE (L' := [some _, some _, some _, some _, some _]) C dX1_readDifes_51 (by rw [hn]; decide) rfl ?_
          refine x_aload_n C dX1_readDifes_52 rfl ?_
          refine x_iload C dX1_readDifes_53 rfl ?_
          refine x_iload_n C dX1_readDifes_55 rfl ?_
          obtain ⟨κ, Dk, hp, va, sg, fu, ta, un, ln, v, vn, lt, B, v1, v2, v3⟩ := Dg.1.get
          refine k_callV (kc := 0) (ks := 0) (mc' := 0) (ms' := 0) (st := []) C E.cs hW.1 gw_good (q_addDife hW B _ _) md_X3_addDife wi_X3_addDife ws_X3_addDife wm_X1_120 dX1_readDifes_56 rfl (by decide) (by decide) (fun q e => by rw [e]; exact B) (by rw [Y.1]; rfl) rfl (by decide) (fun r => X.opn (fun g2 hg => ?_))
          obtain ⟨rfl, sg', ta', un', e2⟩ := hg
          have D2 : DE c li ra de h0 W p co b (nI (j + 1)) (nI m) g2 := by
            rw [e2]
            exact Dg.rd ⟨κ, Dk.putRd hp ⟨va, sg', co, fu, ta', un', ln, v, vn, lt, rfl, v1, v2, v3⟩, hp, _, _, hs_self ..⟩ (hs_ne (Dk.pd (by omega)))
          refine o_iincE (v := nI (k + 1)) (L' := [some _, some _, some _, some _, some _]) C dX1_readDifes_59 rfl (nI_1 k) (by rw [hn]; decide) rfl ?_
          refine x_goto (tgt := 5) C dX1_readDifes_62 (by decide) ?_
          rw [rAt_in (by omega) R.2.2.2]
          exact ih (k + 1) (j + 1) _ g2 (by omega) (by rw [h1]; exact if_neg q17) hj1 D2
        · obtain ⟨-, fa, pl, mo, B, hm1⟩ := id D
          refine x_aload_n C dX1_readDifes_37 rfl ?_
          refine x_iconst (v := 5) C dX1_readDifes_38 (by decide) ?_
          refine x_aload_n C dX1_readDifes_39 rfl ?_
          refine e_get C Y kd_X1 2 (by decide) wf_X1_9 dX1_readDifes_40 B rfl ?_
          refine k_wrong (st := []) C Y hW E.cs (by decide) D dX1_readDifes_43 (by decide) (fun g Dg => ?_)
          exact x_zret C E dX1_readDifes_46 (by decide) (fun q e => by subst e; exact RE.no Dg)
      · refine x_if_ne (tgt := 30) C dX1_readDifes_25 (by decide) (fun q => absurd rfl q) (fun _ => ?_)
        refine x_iconst (v := 0) C dX1_readDifes_28 (by decide) ?_
        exact x_zret C E dX1_readDifes_29 (by decide) (fun q e => by subst e; exact RE.no Dg)
  refine x_iload_n C dX1_readDifes_0 rfl ?_
  refine o_istore_nE (L' := [some _, some _, some _, some _, none]) C dX1_readDifes_1 (by rw [hn]; decide) rfl ?_
  refine x_iconst (v := 0) C dX1_readDifes_2 (by decide) ?_
  refine o_istoreE (L' := [some _, some _, some _, some _, some _]) C dX1_readDifes_3 (by rw [hn]; decide) rfl ?_
  exact LP 11 0 i x h rfl rfl hi D
end Dec
end
section
/-! Decoder: VIFs, numbers, digits, texts. -/
section Dec
variable {w : Wd} {c : Nat → ClassId} {h h0 : PH} {li ra de p b ba n : Nat} {W : Nat → Prop} {f : Nat → Int32} {co : Int32}
theorem d_vifs (hW : Wc w c) (R : RW c h0 b ba f n) (o1 : W b) (o2 : W ba) {i m : Nat} (hi : i ≤ m) (hm : m ≤ 256) (hmn : m ≤ n) : T w gw yX1_readVifs cX1_readVifs 4 (some .boolean) 2 (40 * 2) 0 0 [.ref de, .ref p] (DE c li ra de h0 W p co b (nI i) (nI m)) (RE c li ra de h0 W p co b (exD f 12 128 i) m) := by
  refine TA.intro hW rfl (by decide +kernel) (Nat.le_of_ble_eq_true rfl) (fun z C Y E hn h D => ?_)
  have T63 : ∀ (h : PH) (j : Nat) (l2 l3 : Option Value), exD f 12 128 i = j → j ≤ m → DE c li ra de h0 W p co b (nI j) (nI m) h → X z 0 0 (EQ h) 63 [some (.ref de), some (.ref p), l2, l3] [] := fun h j l2 l3 h1 h2 D => by
    refine x_iconst (v := 1) C dX1_readVifs_63 (by decide) ?_
    exact x_zret C E dX1_readVifs_64 (by decide) (fun g e => by subst e; exact Or.inl ⟨rfl, by rw [h1]; exact h2, by rw [h1]; exact D⟩)
  have LP : ∀ (r k j : Nat) (la : Int32) (h : PH), k + r = 12 → exD f 12 128 i = exD f r la j → j ≤ m → DE c li ra de h0 W p co b (nI j) (nI m) h → X z 0 0 (EQ h) 6 [some (.ref de), some (.ref p), some (.int la), some (.int (nI k))] [] := by
    intro r
    induction r with
    | zero =>
      intro k j la h hk h1 h2 D
      obtain rfl : k = 12 := by omega
      refine x_iload_n C dX1_readVifs_6 rfl ?_
      refine x_bipush (v := 11) C dX1_readVifs_7 (by decide) ?_
      exact x_icmp_gt (tgt := 63) C dX1_readVifs_9 (by decide) (fun _ => T63 h j _ _ h1 h2 D) (fun q => absurd (by decide) q)
    | succ r ih =>
      intro k j la h hk h1 h2 D
      refine x_iload_n C dX1_readVifs_6 rfl ?_
      refine x_bipush (v := 11) C dX1_readVifs_7 (by decide) ?_
      refine x_icmp_gt (tgt := 63) C dX1_readVifs_9 (by decide) (fun q => absurd q (Int32.not_lt.mpr (nI_le (show k ≤ 11 by omega) (by decide)))) (fun _ => ?_)
      refine x_iload_n C dX1_readVifs_12 rfl ?_
      refine x_sipush (v := 128) C dX1_readVifs_13 (by decide) ?_
      refine x_iand C dX1_readVifs_16 ?_
      refine x_if_eq (tgt := 63) C dX1_readVifs_17 (by decide) (fun q => T63 h j _ _ (by rw [h1]; exact if_pos q) h2 D) (fun q17 => ?_)
      refine x_aload_n C dX1_readVifs_20 rfl ?_
      refine x_iconst (v := 1) C dX1_readVifs_21 (by decide) ?_
      refine k_there (s := 1) (st := []) C Y hW E.cs (by decide) h2 hm (by decide) D dX1_readVifs_22 (by decide) (fun hj1 => ?_) (fun g Dg => ?_)
      · refine x_if_ne (tgt := 30) C dX1_readVifs_25 (by decide) (fun _ => ?_) (fun q => absurd q (by decide))
        refine x_iload_n C dX1_readVifs_30 rfl ?_
        refine x_bipush (v := 10) C dX1_readVifs_31 (by decide) ?_
        refine x_icmp_le (tgt := 47) C dX1_readVifs_33 (by decide) (fun _ => ?_) (fun _ => ?_)
        · refine x_aload_n C dX1_readVifs_47 rfl ?_
          refine k_take (st := []) C Y hW E.cs (by decide) R o1 o2 D dX1_readVifs_48 (by decide) (fun g Dg => ?_)
          rw [nI_1] at Dg
          refine o_istore_nE (L' := [some _, some _, some _, some _]) C dX1_readVifs_51 (by rw [hn]; decide) rfl ?_
          refine x_aload_n C dX1_readVifs_52 rfl ?_
          refine x_iload_n C dX1_readVifs_53 rfl ?_
          obtain ⟨κ, Dk, hp, va, sg, fu, ta, un, ln, v, vn, lt, B, v1, v2, v3⟩ := Dg.1.get
          obtain ⟨fv, V⟩ := Dk.vf v1
          have npv : p ≠ v := fun e => by rw [e, v1] at hp; exact absurd hp (by decide)
          refine k_callV (kc := 0) (ks := 0) (mc' := 0) (ms' := 0) (st := []) C E.cs hW.1 gw_good (q_addVif hW v2 B V npv _) md_X3_addVif wi_X3_addVif ws_X3_addVif wm_X1_124 dX1_readVifs_54 rfl (by decide) (by decide) (fun q e => by rw [e]; exact B) (by rw [Y.1]; rfl) rfl (by decide) (fun r => X.opn (fun g2 hg => ?_))
          obtain ⟨rfl, f', k', hk', e2⟩ := hg
          have D2 : DE c li ra de h0 W p co b (nI (j + 1)) (nI m) g2 := by
            rw [e2]
            refine Dg.rd ⟨κ, (Dk.putVf v1 f').putRd hp ⟨va, sg, co, fu, ta, un, ln, v, k', lt, rfl, v1, hk', v3⟩, hp, _, _, hs_self ..⟩ ?_
            rw [hs_ne (Dk.pd (by omega)), hs_ne (Dk.pd (by omega))]
          refine o_iincE (v := nI (k + 1)) (L' := [some _, some _, some _, some _]) C dX1_readVifs_57 rfl (nI_1 k) (by rw [hn]; decide) rfl ?_
          refine x_goto (tgt := 6) C dX1_readVifs_60 (by decide) ?_
          rw [rAt_in (by omega) R.2.2.2]
          exact ih (k + 1) (j + 1) _ g2 (by omega) (by rw [h1]; exact if_neg q17) hj1 D2
        · obtain ⟨-, fa, pl, mo, B, hm1⟩ := id D
          refine x_aload_n C dX1_readVifs_36 rfl ?_
          refine x_bipush (v := 6) C dX1_readVifs_37 (by decide) ?_
          refine x_aload_n C dX1_readVifs_39 rfl ?_
          refine e_get C Y kd_X1 2 (by decide) wf_X1_9 dX1_readVifs_40 B rfl ?_
          refine k_wrong (st := []) C Y hW E.cs (by decide) D dX1_readVifs_43 (by decide) (fun g Dg => ?_)
          exact x_zret C E dX1_readVifs_46 (by decide) (fun q e => by subst e; exact RE.no Dg)
      · refine x_if_ne (tgt := 30) C dX1_readVifs_25 (by decide) (fun q => absurd rfl q) (fun _ => ?_)
        refine x_iconst (v := 0) C dX1_readVifs_28 (by decide) ?_
        exact x_zret C E dX1_readVifs_29 (by decide) (fun q e => by subst e; exact RE.no Dg)
  refine x_sipush (v := 128) C dX1_readVifs_0 (by decide) ?_
  refine o_istore_nE (L' := [some _, some _, some _, none]) C dX1_readVifs_3 (by rw [hn]; decide) rfl ?_
  refine x_iconst (v := 0) C dX1_readVifs_4 (by decide) ?_
  refine o_istore_nE (L' := [some _, some _, some _, some _]) C dX1_readVifs_5 (by rw [hn]; decide) rfl ?_
  exact LP 12 0 i 128 h rfl rfl hi D
section Fin
variable {z : Fx} {cc : ByteArray} {kc ks pc : Nat} {L : List (Option Value)} {st : List Value} {lvl : Nat}
/-- draft.setValue, and what comes behind it -/
theorem k_setValue (C : Cx z RX1 cc gw) (Y : Cty z c) (hW : Wc w c) (E : Cs z w lvl (40 * lvl)) (hl : 0 < lvl) {a e : Int32} (D : DE c li ra de h0 W p co b a e h) (x : Int64) (d : decode cc pc = .ok (.invokevirtual 146, 3)) (hcat : (st.map fun v => v.category).sum ≤ 8)
    (k : ∀ g, DE c li ra de h0 W p co b a e g → X z kc ks (EQ g) (pc + 3) L st) : X z kc ks (EQ h) pc L (.long x :: .ref p :: st) := by
  obtain ⟨κ, Dk, hp, va, sg, fu, ta, un, ln, v, vn, lt, B, v1, v2, v3⟩ := D.1.get
  refine u_callV (st := st) C Y hW E (q_setValue hW B x) md_X3_setValue wi_X3_setValue ws_X3_setValue wm_X1_146 d rfl hl (by decide) B rfl rfl hcat ?_
  exact k _ (D.setValue B x)
/-- frame.at, and what comes behind it -/
theorem k_at (C : Cx z RX1 cc gw) (Y : Cty z c) (hW : Wc w c) (E : Cs z w lvl (40 * lvl)) (hl : 0 < lvl) (R : RW c h b ba f n) (x : Int32) (d : decode cc pc = .ok (.invokevirtual 62, 3)) (hcat : (st.map fun v => v.category).sum ≤ 8)
    (k : X z kc ks (EQ h) (pc + 3) L (.int (rAt f n x) :: st)) : X z kc ks (EQ h) pc L (.int x :: .ref b :: st) :=
  u_callV (st := st) C Y hW E (r_at hW R x) md_X5_at wi_X5_at ws_X5_at wm_X1_62 d rfl hl (by decide) R.2.1 rfl rfl hcat k
end Fin
theorem d_number (hW : Wc w c) (R : RW c h0 b ba f n) (o1 : W b) (o2 : W ba) {i m s : Nat} (hi : i ≤ m) (hm : m ≤ 256) (hs8 : s ≤ 8) : T w gw yX1_readNumber cX1_readNumber 7 (some .boolean) 2 (40 * 2) 0 0 [.ref de, .ref p, .int (nI s)] (DE c li ra de h0 W p co b (nI i) (nI m)) (RS c li ra de h0 W p co b i m) := by
  refine TA.intro hW rfl (by decide +kernel) (Nat.le_of_ble_eq_true rfl) (fun z C Y E hn h D => ?_)
  refine x_aload_n C dX1_readNumber_0 rfl ?_
  refine x_iload_n C dX1_readNumber_1 rfl ?_
  refine k_there (s := s) (st := []) C Y hW E.cs (by decide) hi hm (by omega) D dX1_readNumber_2 (by decide) (fun hj1 => ?_) (fun g Dg => ?_)
  rotate_left
  · refine x_if_ne (tgt := 10) C dX1_readNumber_5 (by decide) (fun q => absurd rfl q) (fun _ => ?_)
    refine x_iconst (v := 0) C dX1_readNumber_8 (by decide) ?_
    exact x_zret C E dX1_readNumber_9 (by decide) (fun q e => by subst e; exact RS.no Dg)
  refine x_if_ne (tgt := 10) C dX1_readNumber_5 (by decide) (fun _ => ?_) (fun q => absurd q (by decide))
  have Rh := D.1.row R o1 o2
  obtain ⟨-, fa, pl, mo, B, hm1⟩ := id D
  have LP : ∀ (r : Nat) (x3 : Int32) (v : Int64), r ≤ s → X z 0 0 (EQ h) 60 [some (.ref de), some (.ref p), some (.int (nI s)), some (.int x3), some (.long v), none, some (.int (nI r - 1))] [] := by
    intro r
    induction r with
    | zero =>
      intro x3 v hr
      refine x_iload C dX1_readNumber_60 rfl ?_
      refine x_if_lt (tgt := 94) C dX1_readNumber_62 (by decide) (fun _ => ?_) (fun q => absurd (by decide) q)
      refine x_aload_n C dX1_readNumber_94 rfl ?_
      refine x_lload C dX1_readNumber_95 rfl ?_
      refine k_setValue (st := []) C Y hW E.cs (by decide) D v dX1_readNumber_97 (by decide) (fun g Dg => ?_)
      obtain ⟨-, fa2, pl2, mo2, B2, hm2⟩ := id Dg
      refine x_aload_n C dX1_readNumber_100 rfl ?_
      refine x_dup C dX1_readNumber_101 rfl ?_
      refine e_get C Y kd_X1 2 (by decide) wf_X1_9 dX1_readNumber_102 B2 rfl ?_
      refine x_iload_n C dX1_readNumber_105 rfl ?_
      refine x_iadd C dX1_readNumber_106 ?_
      rw [nI_add]
      refine e_put C Y kd_X1 2 (by decide) rfl wf_X1_9 dX1_readNumber_107 B2 (Nat.le_of_ble_eq_true rfl) rfl rfl rfl ?_
      refine x_iconst (v := 1) C dX1_readNumber_110 (by decide) ?_
      exact x_zret C E dX1_readNumber_111 (by decide) (fun q e => by subst e; exact RS.yes (by omega) hj1 (Dg.set B2 _ _ _))
    | succ r ih =>
      intro x3 v hr
      have e1 : nI (r + 1) - 1 = nI r := by rw [← nI_1]; exact Int32.add_sub_cancel ..
      rw [e1]
      refine x_iload C dX1_readNumber_60 rfl ?_
      refine x_if_lt (tgt := 94) C dX1_readNumber_62 (by decide) (fun q => absurd q (nI_pos (by omega))) (fun _ => ?_)
      refine x_lload C dX1_readNumber_65 rfl ?_
      refine x_bipush (v := 8) C dX1_readNumber_67 (by decide) ?_
      refine x_lshl C dX1_readNumber_69 ?_
      refine x_aload_n C dX1_readNumber_70 rfl ?_
      refine e_get C Y kd_X1 1 (by decide) wf_X1_28 dX1_readNumber_71 B rfl ?_
      refine x_aload_n C dX1_readNumber_74 rfl ?_
      refine e_get C Y kd_X1 2 (by decide) wf_X1_9 dX1_readNumber_75 B rfl ?_
      refine x_iload C dX1_readNumber_78 rfl ?_
      refine x_iadd C dX1_readNumber_80 ?_
      refine k_at (st := [_]) C Y hW E.cs (by decide) Rh _ dX1_readNumber_81 (by simp [Value.category]) ?_
      refine x_i2l C dX1_readNumber_84 ?_
      refine x_lor C dX1_readNumber_85 ?_
      refine o_lstoreE (L' := [some _, some _, some _, some _, some _, none, some _]) C dX1_readNumber_86 (by rw [hn]; decide) rfl ?_
      refine o_iincE (v := nI r - 1) (L' := [some _, some _, some _, some _, some _, none, some _]) C dX1_readNumber_88 rfl (by rw [Int32.sub_eq_add_neg]; rfl) (by rw [hn]; decide) rfl ?_
      refine x_goto (tgt := 60) C dX1_readNumber_91 (by decide) ?_
      exact ih x3 _ (by omega)
  have T53 : ∀ (x3 : Int32) (v : Int64), X z 0 0 (EQ h) 53 [some (.ref de), some (.ref p), some (.int (nI s)), some (.int x3), none, none, none] [.long v] := fun x3 v => by
    refine o_lstoreE (L' := [some _, some _, some _, some _, some _, none, none]) C dX1_readNumber_53 (by rw [hn]; decide) rfl ?_
    refine x_iload_n C dX1_readNumber_55 rfl ?_
    refine x_iconst (v := 1) C dX1_readNumber_56 (by decide) ?_
    refine x_isub C dX1_readNumber_57 ?_
    refine o_istoreE (L' := [some _, some _, some _, some _, some _, none, some _]) C dX1_readNumber_58 (by rw [hn]; decide) rfl ?_
    exact LP s x3 v (Nat.le_refl _)
  have T41 : ∀ x3 : Int32, X z 0 0 (EQ h) 41 [some (.ref de), some (.ref p), some (.int (nI s)), none, none, none, none] [.int x3] := fun x3 => by
    refine o_istore_nE (L' := [some _, some _, some _, some _, none, none, none]) C dX1_readNumber_41 (by rw [hn]; decide) rfl ?_
    refine x_iload_n C dX1_readNumber_42 rfl ?_
    refine x_if_eq (tgt := 52) C dX1_readNumber_43 (by decide) (fun _ => ?_) (fun _ => ?_)
    · exact x_lconst (v := 0) C dX1_readNumber_52 (by decide) (T53 _ _)
    · refine x_ldc2 C wk_X1_144 dX1_readNumber_46 ?_
      exact x_goto (tgt := 53) C dX1_readNumber_49 (by decide) (T53 _ _)
  have T40 : X z 0 0 (EQ h) 40 [some (.ref de), some (.ref p), some (.int (nI s)), none, none, none, none] [] := x_iconst (v := 0) C dX1_readNumber_40 (by decide) (T41 0)
  refine x_iload_n C dX1_readNumber_10 rfl ?_
  refine x_if_le (tgt := 40) C dX1_readNumber_11 (by decide) (fun _ => T40) (fun _ => ?_)
  refine x_aload_n C dX1_readNumber_14 rfl ?_
  refine e_get C Y kd_X1 1 (by decide) wf_X1_28 dX1_readNumber_15 B rfl ?_
  refine x_aload_n C dX1_readNumber_18 rfl ?_
  refine e_get C Y kd_X1 2 (by decide) wf_X1_9 dX1_readNumber_19 B rfl ?_
  refine x_iload_n C dX1_readNumber_22 rfl ?_
  refine x_iadd C dX1_readNumber_23 ?_
  refine x_iconst (v := 1) C dX1_readNumber_24 (by decide) ?_
  refine x_isub C dX1_readNumber_25 ?_
  refine k_at (st := []) C Y hW E.cs (by decide) Rh _ dX1_readNumber_26 (by decide) ?_
  refine x_sipush (v := 128) C dX1_readNumber_29 (by decide) ?_
  refine x_iand C dX1_readNumber_32 ?_
  refine x_if_eq (tgt := 40) C dX1_readNumber_33 (by decide) (fun _ => T40) (fun _ => ?_)
  refine x_iconst (v := 1) C dX1_readNumber_36 (by decide) ?_
  exact x_goto (tgt := 41) C dX1_readNumber_37 (by decide) (T41 1)
end Dec
end
section
/-! Decoder: digits, texts, values. -/
theorem T.pre {w : Wd} {gw : List Cond} {y : MethodName} {cc : ByteArray} {n : Nat} {rt : Option FieldType} {fr lo mc ms : Nat} {as : List Value} {A A' : PH → Prop} {P : Option Value → PH → Prop} (M : T w gw y cc n rt fr lo mc ms as A' P) (h : ∀ g, A g → A' g) : T w gw y cc n rt fr lo mc ms as A P := fun p e ha hc hk s m args below hf happ hP hK => M p e ha hc hk s m args below hf happ ⟨hP.1, hP.2.1, hP.2.2.1, hP.2.2.2.1, by obtain ⟨g, g1, g2⟩ := hP.2.2.2.2; exact ⟨g, h g g1, g2⟩⟩ hK
section Rows
variable {z : Fx} {own : String} {cc : ByteArray} {kc ks pc : Nat} {L : List (Option Value)} {st : List Value} {w : Wd} {c : Nat → ClassId} {fr lo : Nat} {h : PH}
/-- a call of a method whose contract is over an assertion, the heap being told -/
theorem k_callR (C : Cx z own cc gw) (Y : Cty z c) (hW : Wc w c) (E : Cs z w fr lo) {y' : MethodName} {cc' : ByteArray} {n' np ci index fr' lo' mc' ms' b : Nat} {rt' : Option FieldType} {As fs stk : List Value} {Tu : u_T} {N : Nat} {A' : PH → Prop} {P' : Option Value → PH → Prop}
    (M : T w gw y' cc' n' rt' fr' lo' mc' ms' (.ref b :: As) A' P') (hA : A' h) (md : Md gw y' cc' n' rt' np) (wi : Cond.instanceMethod y' ∈ gw) (wse : Cond.selects y'.cls y' y' ∈ gw) (wl : Cond.methodLink own index y' ∈ gw) (d : decode cc pc = .ok (.invokevirtual index, 3)) (hn : As.length = np) (hf : fr' + 1 ≤ fr) (hlo : 8 + (n' + 11) + lo' ≤ lo)
    (gb : h b = some (.inr (ci, fs))) (hcl : vwCl[ci]? = some (y'.cls, Tu, N)) (hs : stk = As.reverse ++ .ref b :: st) (hcat : (st.map fun v => v.category).sum ≤ 8)
    (k : ∀ (r : Option Value) (g : PH), P' r g → X z kc ks (EQ g) (pc + 3) L (r.toList ++ st)) : X z (kc + mc') (ks + ms') (EQ h) pc L stk :=
  k_callV C E hW.1 gw_good (M.pre (fun g e => by subst e; exact hA)) md wi wse wl d hn hf hlo (fun q e => by rw [e]; exact gb) (by rw [Y.1]; exact hcl) hs hcat (fun r => X.opn (fun g hg => k r g hg))
end Rows
section Dec
variable {w : Wd} {c : Nat → ClassId} {h h0 : PH} {li ra de p b ba n : Nat} {W : Nat → Prop} {f : Nat → Int32} {co : Int32}
theorem d_bcd (hX : Wx w c) (R : RW c h0 b ba f n) (o1 : W b) (o2 : W ba) {i m s : Nat} (hi : i ≤ m) (hm : m ≤ 256) (hs9 : s ≤ 9) (sn mi : Int32) : T w gw yX1_readBcd cX1_readBcd 11 (some .boolean) 2 (40 * 2) 0 0 [.ref de, .ref p, .int (nI s), .int sn, .int mi] (DE c li ra de h0 W p co b (nI i) (nI m)) (RS c li ra de h0 W p co b i m) := by
  have hW := hX.1
  refine TA.intro hW rfl (by decide +kernel) (Nat.le_of_ble_eq_true rfl) (fun z C Y E hn h D => ?_)
  refine x_aload_n C dX1_readBcd_0 rfl ?_
  refine x_iload_n C dX1_readBcd_1 rfl ?_
  refine k_there (s := s) (st := []) C Y hW E.cs (by decide) hi hm (by omega) D dX1_readBcd_2 (by decide) (fun hj1 => ?_) (fun g Dg => ?_)
  rotate_left
  · refine x_if_ne (tgt := 10) C dX1_readBcd_5 (by decide) (fun q => absurd rfl q) (fun _ => ?_)
    refine x_iconst (v := 0) C dX1_readBcd_8 (by decide) ?_
    exact x_zret C E dX1_readBcd_9 (by decide) (fun q e => by subst e; exact RS.no Dg)
  refine x_if_ne (tgt := 10) C dX1_readBcd_5 (by decide) (fun _ => ?_) (fun q => absurd q (by decide))
  have Rh := D.1.row R o1 o2
  obtain ⟨-, fa, pl, mo, B, hm1⟩ := id D
  have LP : ∀ (r k : Nat) (v u : Int64) (l10 : Option Value), k + r = s → X z 0 0 (EQ h) 19 [some (.ref de), some (.ref p), some (.int (nI s)), some (.int sn), some (.int mi), some (.long v), none, some (.long u), none, some (.int (nI k)), l10] [] := by
    intro r
    induction r with
    | zero =>
      intro k v u l10 hk
      obtain rfl : k = s := by omega
      refine x_iload C dX1_readBcd_19 rfl ?_
      refine x_iload_n C dX1_readBcd_21 rfl ?_
      refine x_icmp_ge (tgt := 119) C dX1_readBcd_22 (by decide) (fun _ => ?_) (fun q => absurd (Int32.le_refl _) q)
      refine x_aload_n C dX1_readBcd_119 rfl ?_
      refine x_iload_n C dX1_readBcd_120 rfl ?_
      refine x_i2l C dX1_readBcd_121 ?_
      refine x_lload C dX1_readBcd_122 rfl ?_
      refine x_lmul C dX1_readBcd_124 ?_
      refine k_setValue (st := []) C Y hW E.cs (by decide) D _ dX1_readBcd_125 (by decide) (fun g Dg => ?_)
      obtain ⟨-, fa2, pl2, mo2, B2, hm2⟩ := id Dg
      refine x_aload_n C dX1_readBcd_128 rfl ?_
      refine x_dup C dX1_readBcd_129 rfl ?_
      refine e_get C Y kd_X1 2 (by decide) wf_X1_9 dX1_readBcd_130 B2 rfl ?_
      refine x_iload_n C dX1_readBcd_133 rfl ?_
      refine x_iadd C dX1_readBcd_134 ?_
      rw [nI_add]
      refine e_put C Y kd_X1 2 (by decide) rfl wf_X1_9 dX1_readBcd_135 B2 (Nat.le_of_ble_eq_true rfl) rfl rfl rfl ?_
      refine x_iconst (v := 1) C dX1_readBcd_138 (by decide) ?_
      exact x_zret C E dX1_readBcd_139 (by decide) (fun q e => by subst e; exact RS.yes (by omega) hj1 (Dg.set B2 _ _ _))
    | succ r ih =>
      intro k v u l10 hk
      refine x_iload C dX1_readBcd_19 rfl ?_
      refine x_iload_n C dX1_readBcd_21 rfl ?_
      refine x_icmp_ge (tgt := 119) C dX1_readBcd_22 (by decide) (fun q => absurd q (Int32.not_le.mpr (nI_lt (show k < s by omega) (by omega)))) (fun _ => ?_)
      refine x_aload_n C dX1_readBcd_25 rfl ?_
      refine e_get C Y kd_X1 1 (by decide) wf_X1_28 dX1_readBcd_26 B rfl ?_
      refine x_aload_n C dX1_readBcd_29 rfl ?_
      refine e_get C Y kd_X1 2 (by decide) wf_X1_9 dX1_readBcd_30 B rfl ?_
      refine x_iload C dX1_readBcd_33 rfl ?_
      refine x_iadd C dX1_readBcd_35 ?_
      refine k_at (st := []) C Y hW E.cs (by decide) Rh _ dX1_readBcd_36 (by decide) ?_
      have T61 : ∀ x : Int32, X z 0 0 (EQ h) 61 [some (.ref de), some (.ref p), some (.int (nI s)), some (.int sn), some (.int mi), some (.long v), none, some (.long u), none, some (.int (nI k)), some (.int x)] [] := fun x => by
        refine x_iload C dX1_readBcd_61 rfl ?_
        refine k_callSN (kc := 0) (ks := 0) (mc' := 0) (ms' := 0) (st := []) C E.cs hW.1 gw_good (m_areDigits hW x) md_X6_areDigits wt_X6_areDigits (E.cs.nest hX (q := (RX1, 81, yX6_areDigits)) (by simp [nst])) dX1_readBcd_63 rfl (by decide) (by decide) rfl (by decide) (fun r => X.opn (fun g hg => ?_))
        obtain ⟨rfl, e⟩ := hg
        subst e
        refine x_if_ne (tgt := 83) C dX1_readBcd_66 (by decide) (fun _ => ?_) (fun _ => ?_)
        · refine x_lload C dX1_readBcd_83 rfl ?_
          refine x_lload C dX1_readBcd_85 rfl ?_
          refine x_iload C dX1_readBcd_87 rfl ?_
          refine x_iconst (v := 4) C dX1_readBcd_89 (by decide) ?_
          refine x_ishr C dX1_readBcd_90 ?_
          refine x_bipush (v := 10) C dX1_readBcd_91 (by decide) ?_
          refine x_imul C dX1_readBcd_93 ?_
          refine x_iload C dX1_readBcd_94 rfl ?_
          refine x_bipush (v := 15) C dX1_readBcd_96 (by decide) ?_
          refine x_iand C dX1_readBcd_98 ?_
          refine x_iadd C dX1_readBcd_99 ?_
          refine x_i2l C dX1_readBcd_100 ?_
          refine x_lmul C dX1_readBcd_101 ?_
          refine x_ladd C dX1_readBcd_102 ?_
          refine o_lstoreE (L' := [some _, some _, some _, some _, some _, some _, none, some _, none, some _, some _]) C dX1_readBcd_103 (by rw [hn]; decide) rfl ?_
          refine x_lload C dX1_readBcd_105 rfl ?_
          refine x_ldc2 C wk_X1_150 dX1_readBcd_107 ?_
          refine x_lmul C dX1_readBcd_110 ?_
          refine o_lstoreE (L' := [some _, some _, some _, some _, some _, some _, none, some _, none, some _, some _]) C dX1_readBcd_111 (by rw [hn]; decide) rfl ?_
          refine o_iincE (v := nI (k + 1)) (L' := [some _, some _, some _, some _, some _, some _, none, some _, none, some _, some _]) C dX1_readBcd_113 rfl (nI_1 k) (by rw [hn]; decide) rfl ?_
          refine x_goto (tgt := 19) C dX1_readBcd_116 (by decide) ?_
          exact ih (k + 1) _ _ _ (by omega)
        · refine x_aload_n C dX1_readBcd_69 rfl ?_
          refine x_bipush (v := 7) C dX1_readBcd_70 (by decide) ?_
          refine x_aload_n C dX1_readBcd_72 rfl ?_
          refine e_get C Y kd_X1 2 (by decide) wf_X1_9 dX1_readBcd_73 B rfl ?_
          refine x_iload C dX1_readBcd_76 rfl ?_
          refine x_iadd C dX1_readBcd_78 ?_
          refine k_wrong (st := []) C Y hW E.cs (by decide) D dX1_readBcd_79 (by decide) (fun g Dg => ?_)
          exact x_zret C E dX1_readBcd_82 (by decide) (fun q e => by subst e; exact RS.no Dg)
      refine o_istoreE (L' := [some _, some _, some _, some _, some _, some _, none, some _, none, some _, some _]) C dX1_readBcd_39 (by rw [hn]; decide) rfl ?_
      refine x_iload C dX1_readBcd_41 rfl ?_
      refine x_if_eq (tgt := 61) C dX1_readBcd_43 (by decide) (fun _ => T61 _) (fun _ => ?_)
      refine x_iload C dX1_readBcd_46 rfl ?_
      refine x_iload_n C dX1_readBcd_48 rfl ?_
      refine x_iconst (v := 1) C dX1_readBcd_49 (by decide) ?_
      refine x_isub C dX1_readBcd_50 ?_
      refine x_icmp_ne (tgt := 61) C dX1_readBcd_51 (by decide) (fun _ => T61 _) (fun _ => ?_)
      refine x_iload C dX1_readBcd_54 rfl ?_
      refine x_bipush (v := 15) C dX1_readBcd_56 (by decide) ?_
      refine x_iand C dX1_readBcd_58 ?_
      refine o_istoreE (L' := [some _, some _, some _, some _, some _, some _, none, some _, none, some _, some _]) C dX1_readBcd_59 (by rw [hn]; decide) rfl ?_
      exact T61 _
  refine x_lconst (v := 0) C dX1_readBcd_10 (by decide) ?_
  refine o_lstoreE (L' := [some _, some _, some _, some _, some _, some _, none, none, none, none, none]) C dX1_readBcd_11 (by rw [hn]; decide) rfl ?_
  refine x_lconst (v := 1) C dX1_readBcd_13 (by decide) ?_
  refine o_lstoreE (L' := [some _, some _, some _, some _, some _, some _, none, some _, none, none, none]) C dX1_readBcd_14 (by rw [hn]; decide) rfl ?_
  refine x_iconst (v := 0) C dX1_readBcd_16 (by decide) ?_
  refine o_istoreE (L' := [some _, some _, some _, some _, some _, some _, none, some _, none, some _, none]) C dX1_readBcd_17 (by rw [hn]; decide) rfl ?_
  exact LP s 0 _ _ _ (Nat.zero_add s)
theorem d_signed (hX : Wx w c) (R : RW c h0 b ba f n) (o1 : W b) (o2 : W ba) {i m s : Nat} (hi : i ≤ m) (hm : m ≤ 256) (hs9 : s ≤ 9) : T w gw yX1_readSignedBcd cX1_readSignedBcd 4 (some .boolean) 3 (40 * 3) 0 0 [.ref de, .ref p, .int (nI s)] (DE c li ra de h0 W p co b (nI i) (nI m)) (RS c li ra de h0 W p co b i m) := by
  have hW := hX.1
  refine TA.intro hW rfl (by decide +kernel) (Nat.le_of_ble_eq_true rfl) (fun z C Y E hn h D => ?_)
  have Rh := D.1.row R o1 o2
  obtain ⟨-, fa, pl, mo, B, hm1⟩ := id D
  have T40 : ∀ x y : Int32, X z 0 0 (EQ h) 40 [some (.ref de), some (.ref p), some (.int (nI s)), some (.int x)] [.int y, .int (nI s), .ref p, .ref de] := fun x y => by
    refine x_iload_n C dX1_readSignedBcd_40 rfl ?_
    refine k_callR (kc := 0) (ks := 0) (mc' := 0) (ms' := 0) (st := []) C Y hW E.cs (d_bcd hX R o1 o2 hi hm hs9 y x) D md_X1_readBcd wi_X1_readBcd ws_X1_readBcd wm_X1_136 dX1_readSignedBcd_41 rfl (by decide) (by decide) B rfl rfl (by decide) (fun r g hg => ?_)
    rcases hg with ⟨rfl, j, j1, j2, Dg⟩ | ⟨rfl, aa, Dg⟩
    · exact x_zret C E dX1_readSignedBcd_44 (by decide) (fun q e => by subst e; exact RS.yes j1 j2 Dg)
    · exact x_zret C E dX1_readSignedBcd_44 (by decide) (fun q e => by subst e; exact RS.no Dg)
  have T27 : ∀ x : Int32, X z 0 0 (EQ h) 27 [some (.ref de), some (.ref p), some (.int (nI s)), none] [.int x] := fun x => by
    refine o_istore_nE (L' := [some _, some _, some _, some _]) C dX1_readSignedBcd_27 (by rw [hn]; decide) rfl ?_
    refine x_aload_n C dX1_readSignedBcd_28 rfl ?_
    refine x_aload_n C dX1_readSignedBcd_29 rfl ?_
    refine x_iload_n C dX1_readSignedBcd_30 rfl ?_
    refine x_iload_n C dX1_readSignedBcd_31 rfl ?_
    refine x_if_eq (tgt := 39) C dX1_readSignedBcd_32 (by decide) (fun _ => ?_) (fun _ => ?_)
    · exact x_iconst (v := 1) C dX1_readSignedBcd_39 (by decide) (T40 _ _)
    · refine x_iconst (v := -1) C dX1_readSignedBcd_35 (by decide) ?_
      exact x_goto (tgt := 40) C dX1_readSignedBcd_36 (by decide) (T40 _ _)
  refine x_aload_n C dX1_readSignedBcd_0 rfl ?_
  refine e_get C Y kd_X1 1 (by decide) wf_X1_28 dX1_readSignedBcd_1 B rfl ?_
  refine x_aload_n C dX1_readSignedBcd_4 rfl ?_
  refine e_get C Y kd_X1 2 (by decide) wf_X1_9 dX1_readSignedBcd_5 B rfl ?_
  refine x_iload_n C dX1_readSignedBcd_8 rfl ?_
  refine x_iadd C dX1_readSignedBcd_9 ?_
  refine x_iconst (v := 1) C dX1_readSignedBcd_10 (by decide) ?_
  refine x_isub C dX1_readSignedBcd_11 ?_
  refine k_at (st := []) C Y hW E.cs (by decide) Rh _ dX1_readSignedBcd_12 (by decide) ?_
  refine x_iconst (v := 4) C dX1_readSignedBcd_15 (by decide) ?_
  refine x_ishr C dX1_readSignedBcd_16 ?_
  refine x_bipush (v := 15) C dX1_readSignedBcd_17 (by decide) ?_
  refine x_icmp_ne (tgt := 26) C dX1_readSignedBcd_19 (by decide) (fun _ => ?_) (fun _ => ?_)
  · exact x_iconst (v := 0) C dX1_readSignedBcd_26 (by decide) (T27 _)
  · refine x_iconst (v := 1) C dX1_readSignedBcd_22 (by decide) ?_
    exact x_goto (tgt := 27) C dX1_readSignedBcd_23 (by decide) (T27 _)
theorem d_text (hX : Wx w c) (R : RW c h0 b ba f n) (o1 : W b) (o2 : W ba) {i m s : Nat} (hi : i ≤ m) (hm : m ≤ 256) (hs3 : s ≤ 300) : T w gw yX1_readText cX1_readText 3 (some .boolean) 2 (40 * 2) 1 (min s (m - i)) [.ref de, .ref p, .int (nI s)] (DE c li ra de h0 W p co b (nI i) (nI m)) (RS c li ra de h0 W p co b (i + s) m) := by
  have hW := hX.1
  refine TA.intro hW rfl (by decide +kernel) (Nat.le_of_ble_eq_true rfl) (fun z C Y E hn h D => ?_)
  refine x_aload_n C dX1_readText_0 rfl ?_
  refine x_iload_n C dX1_readText_1 rfl ?_
  refine k_there (s := s) (st := []) C Y hW E.cs (by decide) hi hm hs3 D dX1_readText_2 (by decide) (fun hj1 => ?_) (fun g Dg => ?_)
  rotate_left
  · refine x_if_ne (tgt := 10) C dX1_readText_5 (by decide) (fun q => absurd rfl q) (fun _ => ?_)
    refine x_iconst (v := 0) C dX1_readText_8 (by decide) ?_
    exact x_zret C E dX1_readText_9 (by decide) (fun q e => by subst e; exact RS.no Dg)
  refine x_if_ne (tgt := 10) C dX1_readText_5 (by decide) (fun _ => ?_) (fun q => absurd q (by decide))
  obtain ⟨D1, fa, pl, mo, B, hm1⟩ := id D
  refine x_aload_n C dX1_readText_10 rfl ?_
  refine x_aload_n C dX1_readText_11 rfl ?_
  refine e_get C Y kd_X1 1 (by decide) wf_X1_28 dX1_readText_12 B rfl ?_
  refine x_aload_n C dX1_readText_15 rfl ?_
  refine e_get C Y kd_X1 2 (by decide) wf_X1_9 dX1_readText_16 B rfl ?_
  refine x_iload_n C dX1_readText_19 rfl ?_
  refine X.room (kc' := 0 + 1) (ks' := 0 + s) ?_ (by omega) (by omega)
  obtain ⟨κ, Dk, hp, va, sg, fu, ta, un, ln, v, vn, lt, Bp, v1, v2, v3⟩ := D1.get
  refine k_callR (kc := 0) (ks := 0) (st := []) C Y hW E.cs (q_setText hW R o1 o2 _ s hs3 _ _) D md_X3_setText wi_X3_setText ws_X3_setText wm_X1_140 dX1_readText_20 rfl (by decide) (by decide) Bp rfl rfl (by decide) (fun r g hg => ?_)
  obtain ⟨rfl, Dg⟩ := hg
  obtain ⟨-, fa2, pl2, mo2, B2, hm2⟩ := id Dg
  refine x_aload_n C dX1_readText_23 rfl ?_
  refine x_dup C dX1_readText_24 rfl ?_
  refine e_get C Y kd_X1 2 (by decide) wf_X1_9 dX1_readText_25 B2 rfl ?_
  refine x_iload_n C dX1_readText_28 rfl ?_
  refine x_iadd C dX1_readText_29 ?_
  rw [nI_add]
  refine e_put C Y kd_X1 2 (by decide) rfl wf_X1_9 dX1_readText_30 B2 (Nat.le_of_ble_eq_true rfl) rfl rfl rfl ?_
  refine x_iconst (v := 1) C dX1_readText_33 (by decide) ?_
  exact x_zret C E dX1_readText_34 (by decide) (fun q e => by subst e; exact RS.yes (Nat.le_refl _) hj1 (Dg.set B2 _ _ _))
end Dec
end
