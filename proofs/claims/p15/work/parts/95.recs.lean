/-! Records, a decoder's small steps. -/
theorem wt_min : Cond.static Lib.Math.min.name ∈ gw := gw_at 351 (by decide +kernel) (by decide +kernel)
theorem wo_min : Cond.code Lib.Math.min.name Lib.Math.min.code 2 (some .int) ∈ gw := gw_at 352 (by decide +kernel) (by decide +kernel)
theorem wm_X1_72 : Cond.methodLink RX1 72 Lib.Math.min.name ∈ gw := gw_at 350 (by decide +kernel) (by decide +kernel)
theorem wm_X4_21 : Cond.methodLink RX4 21 Lib.Math.min.name ∈ gw := gw_at 377 (by decide +kernel) (by decide +kernel)
theorem wm_X2_47 : Cond.methodLink RX2 47 Lib.Math.min.name ∈ gw := gw_at 719 (by decide +kernel) (by decide +kernel)
section Rows
variable {z : Fx} {own : String} {cc : ByteArray} {kc ks pc : Nat} {A : PH → Prop} {L : List (Option Value)} {st : List Value}
theorem x_min (C : Cx z own cc gw) {x y : Int32} {index : Nat} (wl : Cond.methodLink own index Lib.Math.min.name ∈ gw) (d : decode cc pc = .ok (.invokestatic index, 3)) (hf : 1 ≤ z.R.frames) (hlo : (st.map fun v => v.category).sum + 13 ≤ z.R.locals) (k : X z kc ks A (pc + 3) L (.int (if y < x then y else x) :: st)) : X z kc ks A pc L (.int y :: .int x :: st) := by
  intro H locs ls cells slots hp hS hl c1 c2
  have r1 := C.rc
  have r2 := C.rs
  exact va_mmin C.x C.b (C.ml.trans hl.1.symm) C.ow (C.ts _ wl) (C.ts _ wt_min) (C.ts _ wz_Math) (C.ts _ wo_min) hf hlo (by omega) (by omega) d (k H locs ls cells slots hp hS hl c1 c2)
end Rows
section Recs
variable {w : Wd} {c : Nat → ClassId} {h h0 : PH} {li ra de : Nat} {W : Nat → Prop} {κ : Nat → Nat}
theorem l_cut (hW : Wc w c) {n : Nat} (hn1 : n ≤ 100) (B : h li = some (.inr (4, [.ref ra, .int (nI n)]))) (i : Int32) : T w gw yX4_cutTo cX4_cutTo 2 none 0 (40 * 0) 0 0 [.ref li, .int i] (EQ h) (fun r g => r = none ∧ ∃ m, m ≤ 100 ∧ g = hs h li (.inr (4, [.ref ra, .int (nI m)]))) := by
  refine TA.intro hW rfl (by decide +kernel) (Nat.le_of_ble_eq_true rfl) (fun z C Y E hn h1 hA => ?_)
  subst hA
  have T17 : X z 0 0 (EQ h1) 17 [some (.ref li), some (.int i)] [] := x_vret C E dX4_cutTo_17 (fun g e => ⟨rfl, n, hn1, by rw [hs_same B]; exact e⟩)
  refine x_iload_n C dX4_cutTo_0 rfl ?_
  refine x_if_lt (tgt := 17) C dX4_cutTo_1 (by decide) (fun _ => T17) (fun c1 => ?_)
  refine x_iload_n C dX4_cutTo_4 rfl ?_
  refine x_aload_n C dX4_cutTo_5 rfl ?_
  refine e_get C Y kd_X4 1 (by decide) wf_X4_17 dX4_cutTo_6 B rfl ?_
  refine x_icmp_ge (tgt := 17) C dX4_cutTo_9 (by decide) (fun _ => T17) (fun c9 => ?_)
  obtain ⟨j, hj, rfl⟩ := nI_of c1
  have hj2 : j < n := (nI_ltI hj (by omega)).mp (Int32.not_le.mp c9)
  refine x_aload_n C dX4_cutTo_12 rfl ?_
  refine x_iload_n C dX4_cutTo_13 rfl ?_
  refine e_put C Y kd_X4 1 (by decide) rfl wf_X4_17 dX4_cutTo_14 B (Nat.le_of_ble_eq_true rfl) rfl rfl rfl ?_
  exact x_vret C E dX4_cutTo_17 (fun g e => ⟨rfl, j, by omega, e⟩)
theorem l_takes (hW : Wc w c) {n : Nat} (hn1 : n ≤ 100) (B : h li = some (.inr (4, [.ref ra, .int (nI n)]))) : T w gw yX4_takesDraft cX4_takesDraft 1 (some .boolean) 0 (40 * 0) 0 0 [.ref li] (EQ h) (fun r g => (r = some (.int 0) ∨ r = some (.int 1)) ∧ ∃ m, m ≤ 100 ∧ g = hs h li (.inr (4, [.ref ra, .int (nI m)]))) := by
  refine TA.intro hW rfl (by decide +kernel) (Nat.le_of_ble_eq_true rfl) (fun z C Y E hn h1 hA => ?_)
  subst hA
  refine x_aload_n C dX4_takesDraft_0 rfl ?_
  refine e_get C Y kd_X4 1 (by decide) wf_X4_17 dX4_takesDraft_1 B rfl ?_
  refine x_bipush (v := 100) C dX4_takesDraft_4 (by decide) ?_
  refine x_icmp_lt (tgt := 11) C dX4_takesDraft_6 (by decide) (fun c6 => ?_) (fun c6 => ?_)
  · have h100 : n < 100 := (nI_ltI (by omega) (by decide)).mp c6
    refine x_aload_n C dX4_takesDraft_11 rfl ?_
    refine x_dup C dX4_takesDraft_12 rfl ?_
    refine e_get C Y kd_X4 1 (by decide) wf_X4_17 dX4_takesDraft_13 B rfl ?_
    refine x_iconst (v := 1) C dX4_takesDraft_16 (by decide) ?_
    refine x_iadd C dX4_takesDraft_17 ?_
    rw [nI_1]
    refine e_put C Y kd_X4 1 (by decide) rfl wf_X4_17 dX4_takesDraft_18 B (Nat.le_of_ble_eq_true rfl) rfl rfl rfl ?_
    refine x_iconst (v := 1) C dX4_takesDraft_21 (by decide) ?_
    exact x_zret C E dX4_takesDraft_22 (by decide) (fun g e => ⟨Or.inr rfl, n + 1, by omega, e⟩)
  · refine x_iconst (v := 0) C dX4_takesDraft_9 (by decide) ?_
    exact x_zret C E dX4_takesDraft_10 (by decide) (fun g e => ⟨Or.inl rfl, n, hn1, by rw [hs_same B]; exact e⟩)
theorem Wx.tR {z : Fx} {fr lo : Nat} (hX : Wx w c) (E : Cs z w fr lo) : ∃ t : Nat, z.tys[t]? = some (c 4, .object RX3) := by
  rw [E.2.2.2.1]; exact hX.2.2.2.2.1
theorem l_draft (hX : Wx w c) (eD : va_E) : T w gw yX4_draft cX4_draft 2 (some (.object "MeterBus$Reading")) 3 (40 * 3) 2 21 [.ref li] (fun h => DK c li ra de h0 W κ h ∧ h de = some eD) (fun r g => ∃ (κ' : Nat → Nat) (p : Nat), r = some (.ref p) ∧ κ' p = 1 ∧ DK c li ra de h0 W κ' g ∧ g de = some eD) := by
  have hW := hX.1
  refine TA.intro hW rfl (by decide +kernel) (Nat.le_of_ble_eq_true rfl) (fun z C Y E hn h DD => ?_)
  obtain ⟨D, hde⟩ := DD
  obtain ⟨t, ht⟩ := hX.tR E.cs
  have D' := D
  obtain ⟨⟨n, n1, n2⟩, ⟨g, g1, g2⟩, -, -, ⟨l1, l2, l3, l4, l5, l6⟩, -⟩ := D'
  obtain ⟨j, hj, ej⟩ : ∃ j, j ≤ 100 ∧ (if (100 : Int32) < nI n then (100 : Int32) else nI n) = nI j := by
    by_cases q : (100 : Int32) < nI n
    · exact ⟨100, Nat.le_refl _, by rw [if_pos q]; rfl⟩
    · exact ⟨n, n1, if_neg q⟩
  refine x_aload_n C dX4_draft_0 rfl ?_
  refine e_get C Y kd_X4 1 (by decide) wf_X4_17 dX4_draft_1 n2 rfl ?_
  refine x_bipush (v := 100) C dX4_draft_4 (by decide) ?_
  refine x_min C wm_X4_21 dX4_draft_6 (by rw [E.fr_]; decide) (by rw [E.lo_]; decide) ?_
  rw [ej]
  refine o_istore_nE (L' := [some _, some _]) C dX4_draft_9 (by rw [hn]; decide) rfl ?_
  refine x_aload_n C dX4_draft_10 rfl ?_
  refine e_get C Y kd_X4 0 (by decide) wf_X4_11 dX4_draft_11 n2 rfl ?_
  refine x_iload_n C dX4_draft_14 rfl ?_
  have rd : ∀ {kc ks : Nat} {pc : Nat} {L : List (Option Value)} {st : List Value} {hh : PH} {gg : Nat → Option Nat} (d : decode cX4_draft pc = .ok (.aaload, 1)) (hg : hh ra = some (zR c gg)) (kk : X z kc ks (EQ hh) (pc + 1) L (va_rf (gg j) :: st)), X z kc ks (EQ hh) pc L (.int (nI j) :: .ref ra :: st) := fun d hg kk => by
    refine x_aald C ht d (fun q e => by rw [e]; exact hg) (vp_in_nI (by omega) (by decide)) ?_
    rw [nI_clamp (by omega)]
    exact kk
  refine rd dX4_draft_15 g1 ?_
  cases eg : g j with
  | some p =>
    refine x_ifnonnull (tgt := 32) C dX4_draft_16 (by decide) ?_
    refine x_aload_n C dX4_draft_32 rfl ?_
    refine e_get C Y kd_X4 0 (by decide) wf_X4_11 dX4_draft_33 n2 rfl ?_
    refine x_iload_n C dX4_draft_36 rfl ?_
    refine rd dX4_draft_37 g1 ?_
    rw [eg]
    exact x_aret C E (Or.inl ⟨_, rfl⟩) dX4_draft_38 (Or.inr ⟨p, rfl⟩) (fun q e => by subst e; exact ⟨κ, p, rfl, g2 j p eg, D, hde⟩)
  | none =>
    refine x_ifnonnullN C dX4_draft_16 ?_
    refine x_aload_n C dX4_draft_19 rfl ?_
    refine e_get C Y kd_X4 0 (by decide) wf_X4_11 dX4_draft_20 n2 rfl ?_
    refine x_iload_n C dX4_draft_23 rfl ?_
    refine e_new (kc := 1) (ks := 11) (N := 10) C Y kd_X3 wc_X4_9 wn_X3 wz_X3 dX4_draft_24 (fs := [.long 0, .int 0, .int 0, .long 0, .int 0, .int 0, .null, .int 0, .null, .int 0]) (fun j hj => by rcases (show j = 0 ∨ j = 1 ∨ j = 2 ∨ j = 3 ∨ j = 4 ∨ j = 5 ∨ j = 6 ∨ j = 7 ∨ j = 8 ∨ j = 9 by omega) with rfl | rfl | rfl | rfl | rfl | rfl | rfl | rfl | rfl | rfl <;> rfl) (fun p hp => ?_)
    refine x_dup C dX4_draft_27 rfl ?_
    refine k_callIN (kc := 0) (ks := 0) (st := [.ref p, .int (nI j), .ref ra]) C E.cs hX.1.1 gw_good (n_rd hW (hs_self ..)) md_X3_init rfl wi_X3_init (E.cs.nest hX (q := (RX4, 27, yX3_init)) (by simp [nst])) dX4_draft_28 rfl (by decide) (by decide) rfl (by simp [Value.category]) (fun r => X.opn (fun h2 hB => ?_))
    obtain ⟨rfl, v, v1, v2, e2⟩ := hB
    rw [hs_ne v1] at v2
    have e3 : h2 = hs (hs h v (.inl (c 0, 11, .inl (fun _ => 0)))) p (.inr (3, rdL 0 0 0 0 0 0 v 0 .null 0)) := by rw [e2, hs_comm _ (Ne.symm v1), hs_hs]
    have Dv := D.new (k := 2) (e := .inl (c 0, 11, .inl (fun _ => 0))) v2 ⟨_, rfl⟩
    have hp2 : hs h v (.inl (c 0, 11, .inl (fun _ => 0))) p = none := by rw [hs_ne (Ne.symm v1)]; exact hp
    have Dp := Dv.new (k := 1) (e := .inr (3, rdL 0 0 0 0 0 0 v 0 .null 0)) hp2 ⟨_, rfl, 0, 0, 0, 0, 0, 0, 0, v, 0, .null, rfl, by rw [va_up_ne _ _ v1, va_up_self], by decide, Or.inl rfl⟩
    rw [← e3] at Dp
    have Dp' := Dp
    obtain ⟨⟨n', n1', n2'⟩, ⟨g', g1', g2'⟩, -, -, -, -⟩ := Dp'
    have eg1 : g' = g := by
      have nr1 : ra ≠ p := fun e => by rw [e, hp] at g1; exact nomatch g1
      have nr2 : ra ≠ v := fun e => by rw [e, v2] at g1; exact nomatch g1
      rw [e3, hs_ne nr1, hs_ne nr2, g1] at g1'
      simp only [zR, Option.some.injEq, Sum.inl.injEq, Prod.mk.injEq, Sum.inr.injEq, true_and] at g1'
      exact g1'.symm
    subst eg1
    have np : h2 p = some (.inr (3, rdL 0 0 0 0 0 0 v 0 .null 0)) := by rw [e3]; exact hs_self ..
    have lra : h2 li = some (.inr (4, [.ref ra, .int (nI n)])) := by
      have nl1 : li ≠ p := fun e => by rw [e, hp] at n2; exact nomatch n2
      have nl2 : li ≠ v := fun e => by rw [e, v2] at n2; exact nomatch n2
      rw [e3, hs_ne nl1, hs_ne nl2]; exact n2
    refine e_ast (rr := (RX3, TX3, 10)) C Y ht rfl dX4_draft_31 g1' rfl (show j < 101 by omega) (by decide) np ?_
    have Dq := Dp.putR (g := va_up g' j (some p)) (fun i q hq => by
      by_cases e : i = j
      · subst e; rw [va_up_self] at hq; cases hq; exact va_up_self ..
      · rw [va_up_ne _ _ e] at hq; exact g2' i q hq)
    refine x_aload_n C dX4_draft_32 rfl ?_
    refine e_get C Y kd_X4 0 (by decide) wf_X4_11 dX4_draft_33 (by rw [hs_ne l4]; exact lra) rfl ?_
    refine x_iload_n C dX4_draft_36 rfl ?_
    refine rd (gg := va_up g' j (some p)) dX4_draft_37 (hs_self ..) ?_
    rw [va_up_self]
    exact x_aret C E (Or.inl ⟨_, rfl⟩) dX4_draft_38 (Or.inr ⟨p, rfl⟩) (fun q e => by
      subst e
      refine ⟨va_up (va_up κ v 2) p 1, p, rfl, va_up_self .., Dq, ?_⟩
      have nd1 : de ≠ p := fun e => by rw [e, hp] at hde; exact nomatch hde
      have nd2 : de ≠ v := fun e => by rw [e, v2] at hde; exact nomatch hde
      rw [hs_ne (Ne.symm l6), e3, hs_ne nd1, hs_ne nd2]; exact hde)
end Recs
section Dec
variable {w : Wd} {c : Nat → ClassId} {h : PH} {d l b ba n : Nat} {f : Nat → Int32} {at_ en fa pl mo : Int32}
theorem d_more (hW : Wc w c) {f0 : Value} (hm : mo = 0 ∨ mo = 1) (B : h d = some (.inr (1, [.ref l, f0, .int at_, .int en, .int fa, .int pl, .int mo]))) : TC w yX1_endsByMore cX1_endsByMore 1 (some .boolean) 0 [.ref d] h (some (.int mo)) h := by
  refine TC.intro hW rfl (by decide +kernel) (Nat.le_of_ble_eq_true rfl) (fun z C Y E hn => ?_)
  refine x_aload_n C dX1_endsByMore_0 rfl ?_
  refine e_get C Y kd_X1 6 (by decide) wf_X1_24 dX1_endsByMore_1 B rfl ?_
  refine e_zret C E dX1_endsByMore_4 (by rcases hm with rfl | rfl <;> rfl) ?_ ?_
  all_goals rfl
theorem d_take (hW : Wc w c) (B : h d = some (.inr (1, [.ref l, .ref b, .int at_, .int en, .int fa, .int pl, .int mo]))) (R : RW c h b ba f n) : TC w yX1_take cX1_take 2 (some .int) 1 [.ref d] h (some (.int (rAt f n at_))) (hs h d (.inr (1, [.ref l, .ref b, .int (at_ + 1), .int en, .int fa, .int pl, .int mo]))) := by
  refine TC.intro hW rfl (by decide +kernel) (Nat.le_of_ble_eq_true rfl) (fun z C Y E hn => ?_)
  refine x_aload_n C dX1_take_0 rfl ?_
  refine e_get C Y kd_X1 1 (by decide) wf_X1_28 dX1_take_1 B rfl ?_
  refine x_aload_n C dX1_take_4 rfl ?_
  refine e_get C Y kd_X1 2 (by decide) wf_X1_9 dX1_take_5 B rfl ?_
  refine e_callV C Y hW E (r_at hW R at_) md_X5_at wi_X5_at ws_X5_at wm_X1_62 dX1_take_8 rfl (by decide) (by decide) R.2.1 rfl rfl (by simp [Value.category]) ?_
  refine o_istore_nE (L' := [some _, some _]) C dX1_take_11 (by rw [hn]; decide) rfl ?_
  refine x_aload_n C dX1_take_12 rfl ?_
  refine x_dup C dX1_take_13 rfl ?_
  refine e_get C Y kd_X1 2 (by decide) wf_X1_9 dX1_take_14 B rfl ?_
  refine x_iconst (v := 1) C dX1_take_17 (by decide) ?_
  refine x_iadd C dX1_take_18 ?_
  refine e_put C Y kd_X1 2 (by decide) rfl wf_X1_9 dX1_take_19 B (Nat.le_of_ble_eq_true rfl) rfl rfl rfl ?_
  refine x_iload_n C dX1_take_22 rfl ?_
  refine e_iret C E dX1_take_23 ?_ ?_
  all_goals rfl
theorem d_areThere (hW : Wc w c) {f0 : Value} (B : h d = some (.inr (1, [.ref l, f0, .int at_, .int en, .int fa, .int pl, .int mo]))) (k : Int32) : TC w yX1_areThere cX1_areThere 2 (some .boolean) 1 [.ref d, .int k] h (some (.int (bI (at_ + k ≤ en)))) (if at_ + k ≤ en then h else hs h d (.inr (1, [.ref l, f0, .int at_, .int en, .int 4, .int en, .int mo]))) := by
  refine TC.intro hW rfl (by decide +kernel) (Nat.le_of_ble_eq_true rfl) (fun z C Y E hn => ?_)
  refine x_aload_n C dX1_areThere_0 rfl ?_
  refine e_get C Y kd_X1 2 (by decide) wf_X1_9 dX1_areThere_1 B rfl ?_
  refine x_iload_n C dX1_areThere_4 rfl ?_
  refine x_iadd C dX1_areThere_5 ?_
  refine x_aload_n C dX1_areThere_6 rfl ?_
  refine e_get C Y kd_X1 3 (by decide) wf_X1_15 dX1_areThere_7 B rfl ?_
  refine x_icmp_le (tgt := 25) C dX1_areThere_10 (by decide) (fun c10 => ?_) (fun c10 => ?_)
  · rw [if_pos c10, bI_t c10] at E
    refine x_iconst (v := 1) C dX1_areThere_25 (by decide) ?_
    refine x_goto (tgt := 30) C dX1_areThere_26 (by decide) ?_
    refine e_zret C E dX1_areThere_30 (by decide) ?_ ?_
    all_goals rfl
  · rw [if_neg c10, bI_f c10] at E
    refine x_aload_n C dX1_areThere_13 rfl ?_
    refine x_iconst (v := 4) C dX1_areThere_14 (by decide) ?_
    refine x_aload_n C dX1_areThere_15 rfl ?_
    refine e_get C Y kd_X1 3 (by decide) wf_X1_15 dX1_areThere_16 B rfl ?_
    refine e_callV C Y hW E (d_wrong hW B 4 en) md_X1_wrong wi_X1_wrong ws_X1_wrong wm_X1_67 dX1_areThere_19 rfl (by decide) (by decide) B rfl rfl (by simp [Value.category]) ?_
    refine x_if_eq (tgt := 29) C dX1_areThere_22 (by decide) (fun c22 => ?_) (fun c22 => absurd c22 (not_not_intro rfl))
    refine x_iconst (v := 0) C dX1_areThere_29 (by decide) ?_
    refine e_zret C E dX1_areThere_30 (by decide) ?_ ?_
    all_goals rfl
end Dec
