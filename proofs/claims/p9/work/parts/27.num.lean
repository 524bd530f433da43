section
/-! The decoder against the model: numbers and digits. -/
/-- the draft with a value, its decoder's place at j -/
def DVx (c : Nat → ClassId) (li de p v b : Nat) (h0 : PH) (r : Nat) (lt : Value) (S : MS) (x : Int64) (j : Int32) (h : PH) : Prop :=
  (∃ fa pl : Int32, h de = some (.inr (1, [.ref li, .ref b, .int j, .int (S.i 39), .int fa, .int pl, .int (S.i 37)]))) ∧ h p = some (.inr (3, rdL x (S.a 25 r) (S.a 26 r) (S.w 27 r) (S.a 28 r) (S.a 29 r) v (S.a 30 r) lt 0)) ∧
  (∃ fv : Nat → Int32, h v = some (.inl (c 0, 11, .inl fv)) ∧ ∀ j, j < (S.a 30 r).toNatClampNeg → fv j = S.a 31 (11 * r + j)) ∧ ∀ q, q ≠ de → q ≠ p → q ≠ v → h q = h0 q
/-- the digits' sum, the lowest first -/
def dgt (S : MS) (a m : Nat) (mi : Bool) (k : Nat) : Int64 := (if mi = true ∧ k + 1 = m then (0 : Int32) else 10 * (S.a 38 (a + k) >>> ((4 : Int32) &&& 31))).toInt64 + (S.a 38 (a + k) &&& 15).toInt64
def pw100 : Nat → Int64
  | 0 => 1
  | k + 1 => pw100 k * 100
def csum (S : MS) (a m : Nat) (mi : Bool) : Nat → Int64
  | 0 => 0
  | k + 1 => csum S a m mi k + pw100 k * dgt S a m mi k
theorem dv_ring (p v h l c : Int64) : (p * (100 * v + h + l)) + c = (p * 100) * v + (c + p * (h + l)) := by grind
theorem neg_ring (x : Int64) : (-1 : Int64) * x = -x := by grind
theorem dv_eq (S : MS) (a m : Nat) (mi : Bool) : ∀ k v, f_dv S a m mi k v = pw100 k * v + csum S a m mi k
  | 0, v => by
    show v = 1 * v + 0
    grind
  | k + 1, v => by
    rw [f_dv, dv_eq S a m mi k, dv_ring]
    rfl
theorem dv_0 (S : MS) (a m : Nat) (mi : Bool) (k : Nat) : f_dv S a m mi k 0 = csum S a m mi k := by
  rw [dv_eq]
  grind
theorem dg_a : ∀ b, b < 256 → (((nI b >>> ((4 : Int32) &&& 31)) * 10 + (nI b &&& 15)).toInt64 = (10 * (nI b >>> ((4 : Int32) &&& 31))).toInt64 + (nI b &&& 15).toInt64) := by decide +kernel
theorem dg_b : ∀ b, b < 256 → ((((nI b &&& 15) >>> ((4 : Int32) &&& 31)) * 10 + ((nI b &&& 15) &&& 15)).toInt64 = (0 : Int32).toInt64 + (nI b &&& 15).toInt64) := by decide +kernel
theorem dg_c : ∀ b, b < 256 → (g_dig (nI b) 8 = true ↔ ¬ (9 < nI b &&& 15) ∧ nI b >>> ((4 : Int32) &&& 31) ≤ 9) := by decide +kernel
theorem dg_d : ∀ b, b < 256 → (g_dig (nI b &&& 15) 8 = true ↔ ¬ (9 < nI b &&& 15)) := by decide +kernel
section Dec
variable {w : Wd} {c : Nat → ClassId} {h h0 : PH} {li de p v b ba nb r : Nat} {fb : Nat → Int32} {lt : Value} {S : MS}
theorem DX.row (D : DX c li de p v b h0 r lt S h) (F : FX c de p v b ba h0 fb nb) : RW c h b ba fb nb := F.row D.2.2.2
theorem DX.fin (D : DX c li de p v b h0 r lt S h) (F : FX c de p v b ba h0 fb nb) {fa pl : Int32} (x : Int64) (j : Int32) : DVx c li de p v b h0 r lt S x j (hs (hs h p (.inr (3, rdL x (S.a 25 r) (S.a 26 r) (S.w 27 r) (S.a 28 r) (S.a 29 r) v (S.a 30 r) lt 0))) de (.inr (1, [.ref li, .ref b, .int j, .int (S.i 39), .int fa, .int pl, .int (S.i 37)]))) := by
  obtain ⟨⟨n1, n2, n3⟩, -⟩ := F
  obtain ⟨-, -, ⟨fv, d3, d3'⟩, d4⟩ := D
  exact ⟨⟨fa, pl, hs_self ..⟩, by rw [hs_ne (Ne.symm n1), hs_self], ⟨fv, by rw [hs_ne (Ne.symm n2), hs_ne (Ne.symm n3)]; exact d3, d3'⟩, fun q q1 q2 q3 => by rw [hs_ne q1, hs_ne q2]; exact d4 q q1 q2 q3⟩
theorem d_numberX (hW : Wc w c) (F : FX c de p v b ba h0 fb nb) (D : DX c li de p v b h0 r lt S h) {i m s : Nat} (A : DA fb nb S i m r) (hs8 : s ≤ 8) : T w gw yX1_readNumber cX1_readNumber 7 (some .boolean) 2 (40 * 2) 0 0 [.ref de, .ref p, .int (nI s)] (EQ h)
    (fun q g => (q = some (.int 1) ∧ i + s ≤ m ∧ DVx c li de p v b h0 r lt S (f_whole S i s) (nI (i + s)) g) ∨ (q = some (.int 0) ∧ ¬ i + s ≤ m ∧ DFx c li de p v b h0 lt g)) := by
  refine TA.intro hW rfl (by decide +kernel) (Nat.le_of_ble_eq_true rfl) (fun z C Y E hn h1 hA => ?_)
  rw [show h1 = h from hA]
  clear hA
  obtain ⟨⟨fa, pl, B⟩, d2, ⟨fv, d3, d3'⟩, d4⟩ := id D
  obtain ⟨A1, A2, A3, A4, A5, A6, A7, A8, A9, A10⟩ := id A
  have dw := D.df A
  have Rh := D.row F
  have e1 : S.i 40 + nI s ≤ S.i 39 ↔ i + s ≤ m := by rw [A3, A4, nI_add]; exact nI_leI (by omega) (by omega)
  refine x_aload_n C dX1_readNumber_0 rfl ?_
  refine x_iload_n C dX1_readNumber_1 rfl ?_
  refine u_callV (st := []) C Y hW E.cs (d_areThere hW B (nI s)) md_X1_areThere wi_X1_areThere ws_X1_areThere wm_X1_117 dX1_readNumber_2 rfl (by decide) (by decide) B rfl rfl (by decide) ?_
  by_cases q2 : S.i 40 + nI s ≤ S.i 39
  rotate_left
  · rw [if_neg q2, bI_f q2]
    refine x_if_ne (tgt := 10) C dX1_readNumber_5 (by decide) (fun q => absurd rfl q) (fun _ => ?_)
    refine x_iconst (v := 0) C dX1_readNumber_8 (by decide) ?_
    exact x_zret C E dX1_readNumber_9 (by decide) (fun q e => by rw [show q = _ from e]; exact Or.inr ⟨rfl, fun y => q2 (e1.mpr y), dw.setD F _ _ _ _ _ A9⟩)
  rw [if_pos q2, bI_t q2]
  have hj1 := e1.mp q2
  refine x_if_ne (tgt := 10) C dX1_readNumber_5 (by decide) (fun _ => ?_) (fun q => absurd q (by decide))
  have LP : ∀ (t : Nat) (x3 : Int32) (v9 : Int64), t ≤ s → f_wh S i t v9 = f_whole S i s → X z 0 0 (EQ h) 60 [some (.ref de), some (.ref p), some (.int (nI s)), some (.int x3), some (.long v9), none, some (.int (nI t - 1))] [] := by
    intro t
    induction t with
    | zero =>
      intro x3 v9 hr ev
      refine x_iload C dX1_readNumber_60 rfl ?_
      refine x_if_lt (tgt := 94) C dX1_readNumber_62 (by decide) (fun _ => ?_) (fun q => absurd (by decide) q)
      refine x_aload_n C dX1_readNumber_94 rfl ?_
      refine x_lload C dX1_readNumber_95 rfl ?_
      refine u_callV (st := []) C Y hW E.cs (q_setValue hW d2 v9) md_X3_setValue wi_X3_setValue ws_X3_setValue wm_X1_146 dX1_readNumber_97 rfl (by decide) (by decide) d2 rfl rfl (by decide) ?_
      obtain ⟨⟨n1, n2, n3⟩, -⟩ := id F
      have B2 : hs h p (.inr (3, rdL v9 (S.a 25 r) (S.a 26 r) (S.w 27 r) (S.a 28 r) (S.a 29 r) v (S.a 30 r) lt 0)) de = _ := (hs_ne n1).trans B
      refine x_aload_n C dX1_readNumber_100 rfl ?_
      refine x_dup C dX1_readNumber_101 rfl ?_
      refine e_get C Y kd_X1 2 (by decide) wf_X1_9 dX1_readNumber_102 B2 rfl ?_
      refine x_iload_n C dX1_readNumber_105 rfl ?_
      refine x_iadd C dX1_readNumber_106 ?_
      rw [A3, nI_add]
      refine e_put C Y kd_X1 2 (by decide) rfl wf_X1_9 dX1_readNumber_107 B2 (Nat.le_of_ble_eq_true rfl) rfl rfl rfl ?_
      refine x_iconst (v := 1) C dX1_readNumber_110 (by decide) ?_
      exact x_zret C E dX1_readNumber_111 (by decide) (fun q e => by rw [show q = _ from e, ← ev]; exact Or.inl ⟨rfl, hj1, D.fin F _ _⟩)
    | succ t ih =>
      intro x3 v9 hr ev
      have e1 : nI (t + 1) - 1 = nI t := by rw [← nI_1]; exact Int32.add_sub_cancel ..
      rw [e1]
      refine x_iload C dX1_readNumber_60 rfl ?_
      refine x_if_lt (tgt := 94) C dX1_readNumber_62 (by decide) (fun q => absurd q (nI_pos (by omega))) (fun _ => ?_)
      refine x_lload C dX1_readNumber_65 rfl ?_
      refine x_bipush (v := 8) C dX1_readNumber_67 (by decide) ?_
      refine x_lshl C dX1_readNumber_69 ?_
      refine x_aload_n C dX1_readNumber_70 rfl ?_
      refine e_get C Y kd_X1 1 (by decide) wf_X1_28 dX1_readNumber_71 B rfl ?_
      refine x_aload_n C dX1_readNumber_74 rfl ?_
      refine e_get C Y kd_X1 2 (by decide) wf_X1_9 dX1_readNumber_75 B rfl ?_
      refine x_iload C dX1_readNumber_78 rfl ?_
      refine x_iadd C dX1_readNumber_80 ?_
      refine k_at (st := [_]) C Y hW E.cs (by decide) Rh _ dX1_readNumber_81 (by simp [Value.category]) ?_
      rw [A3, nI_add, rAt_in (show i + t < nb by omega) Rh.2.2.2, A1 _ (by omega)]
      refine x_i2l C dX1_readNumber_84 ?_
      refine x_lor C dX1_readNumber_85 ?_
      refine o_lstoreE (L' := [some _, some _, some _, some _, some _, none, some _]) C dX1_readNumber_86 (by rw [hn]; decide) rfl ?_
      refine o_iincE (v := nI t - 1) (L' := [some _, some _, some _, some _, some _, none, some _]) C dX1_readNumber_88 rfl (by rw [Int32.sub_eq_add_neg]; rfl) (by rw [hn]; decide) rfl ?_
      refine x_goto (tgt := 60) C dX1_readNumber_91 (by decide) ?_
      exact ih x3 _ (by omega) ev
  have T53 : ∀ (x3 : Int32) (v9 : Int64), f_wh S i s v9 = f_whole S i s → X z 0 0 (EQ h) 53 [some (.ref de), some (.ref p), some (.int (nI s)), some (.int x3), none, none, none] [.long v9] := fun x3 v9 ev => by
    refine o_lstoreE (L' := [some _, some _, some _, some _, some _, none, none]) C dX1_readNumber_53 (by rw [hn]; decide) rfl ?_
    refine x_iload_n C dX1_readNumber_55 rfl ?_
    refine x_iconst (v := 1) C dX1_readNumber_56 (by decide) ?_
    refine x_isub C dX1_readNumber_57 ?_
    refine o_istoreE (L' := [some _, some _, some _, some _, some _, none, some _]) C dX1_readNumber_58 (by rw [hn]; decide) rfl ?_
    exact LP s x3 v9 (Nat.le_refl _) ev
  have T41 : ∀ x3 : Int32, (x3 = 0 ↔ ¬ (0 < s ∧ 127 < S.a 38 (i + s - 1))) → X z 0 0 (EQ h) 41 [some (.ref de), some (.ref p), some (.int (nI s)), none, none, none, none] [.int x3] := fun x3 hx3 => by
    refine o_istore_nE (L' := [some _, some _, some _, some _, none, none, none]) C dX1_readNumber_41 (by rw [hn]; decide) rfl ?_
    refine x_iload_n C dX1_readNumber_42 rfl ?_
    refine x_if_eq (tgt := 52) C dX1_readNumber_43 (by decide) (fun q0 => ?_) (fun q0 => ?_)
    · exact x_lconst (v := 0) C dX1_readNumber_52 (by decide) (T53 _ _ (by unfold f_whole; rw [if_neg (hx3.mp q0)]))
    · refine x_ldc2 C wk_X1_144 dX1_readNumber_46 ?_
      exact x_goto (tgt := 53) C dX1_readNumber_49 (by decide) (T53 _ _ (by unfold f_whole; rw [if_pos (Decidable.byContradiction fun y => q0 (hx3.mpr y))]))
  have T40 : ¬ (0 < s ∧ 127 < S.a 38 (i + s - 1)) → X z 0 0 (EQ h) 40 [some (.ref de), some (.ref p), some (.int (nI s)), none, none, none, none] [] := fun y => x_iconst (v := 0) C dX1_readNumber_40 (by decide) (T41 0 ⟨fun _ => y, fun _ => rfl⟩)
  refine x_iload_n C dX1_readNumber_10 rfl ?_
  refine x_if_le (tgt := 40) C dX1_readNumber_11 (by decide) (fun q => T40 (fun y => absurd (nI_lt (a := 0) y.1 (by omega)) (Int32.not_lt.mpr q))) (fun q11 => ?_)
  have s0 : 0 < s := Nat.pos_of_ne_zero (fun e => q11 (by rw [e]; decide))
  refine x_aload_n C dX1_readNumber_14 rfl ?_
  refine e_get C Y kd_X1 1 (by decide) wf_X1_28 dX1_readNumber_15 B rfl ?_
  refine x_aload_n C dX1_readNumber_18 rfl ?_
  refine e_get C Y kd_X1 2 (by decide) wf_X1_9 dX1_readNumber_19 B rfl ?_
  refine x_iload_n C dX1_readNumber_22 rfl ?_
  refine x_iadd C dX1_readNumber_23 ?_
  refine x_iconst (v := 1) C dX1_readNumber_24 (by decide) ?_
  refine x_isub C dX1_readNumber_25 ?_
  refine k_at (st := []) C Y hW E.cs (by decide) Rh _ dX1_readNumber_26 (by decide) ?_
  rw [A3, nI_add, show nI (i + s) - 1 = nI (i + s - 1) from nI_sub' (v := i + s) (b := 1) (by omega), rAt_in (show i + s - 1 < nb by omega) Rh.2.2.2, A1 _ (by omega)]
  refine x_sipush (v := 128) C dX1_readNumber_29 (by decide) ?_
  refine x_iand C dX1_readNumber_32 ?_
  refine x_if_eq (tgt := 40) C dX1_readNumber_33 (by decide) (fun q => T40 (fun y => ((byt_128 (A2 _)).mp q) y.2)) (fun q33 => ?_)
  refine x_iconst (v := 1) C dX1_readNumber_36 (by decide) ?_
  exact x_goto (tgt := 41) C dX1_readNumber_37 (by decide) (T41 1 ⟨fun q => absurd q (by decide), fun y => absurd ⟨s0, Decidable.byContradiction fun q => q33 ((byt_128 (A2 _)).mpr q)⟩ y⟩)
theorem d_bcdX (hX : Wx w c) (F : FX c de p v b ba h0 fb nb) (D : DX c li de p v b h0 r lt S h) {i m s : Nat} (A : DA fb nb S i m r) (hs9 : s ≤ 9) (sn : Int32) (mb : Bool) {mi : Int32} (hmi : mi = 0 ↔ mb = false) : T w gw yX1_readBcd cX1_readBcd 11 (some .boolean) 2 (40 * 2) 0 0 [.ref de, .ref p, .int (nI s), .int sn, .int mi] (EQ h)
    (fun q g => (q = some (.int 1) ∧ i + s ≤ m ∧ (∀ k, k < s → ¬ f_bd S i s mb k) ∧ DVx c li de p v b h0 r lt S (sn.toInt64 * f_dv S i s mb s 0) (nI (i + s)) g) ∨ (q = some (.int 0) ∧ (¬ i + s ≤ m ∨ ∃ k, k < s ∧ f_bd S i s mb k) ∧ DFx c li de p v b h0 lt g)) := by
  have hW := hX.1
  refine TA.intro hW rfl (by decide +kernel) (Nat.le_of_ble_eq_true rfl) (fun z C Y E hn h1 hA => ?_)
  rw [show h1 = h from hA]
  clear hA
  obtain ⟨⟨fa, pl, B⟩, d2, ⟨fv, d3, d3'⟩, d4⟩ := id D
  obtain ⟨A1, A2, A3, A4, A5, A6, A7, A8, A9, A10⟩ := id A
  have dw := D.df A
  have Rh := D.row F
  have e1 : S.i 40 + nI s ≤ S.i 39 ↔ i + s ≤ m := by rw [A3, A4, nI_add]; exact nI_leI (by omega) (by omega)
  rw [dv_0] at E
  refine x_aload_n C dX1_readBcd_0 rfl ?_
  refine x_iload_n C dX1_readBcd_1 rfl ?_
  refine u_callV (st := []) C Y hW E.cs (d_areThere hW B (nI s)) md_X1_areThere wi_X1_areThere ws_X1_areThere wm_X1_117 dX1_readBcd_2 rfl (by decide) (by decide) B rfl rfl (by decide) ?_
  by_cases q2 : S.i 40 + nI s ≤ S.i 39
  rotate_left
  · rw [if_neg q2, bI_f q2]
    refine x_if_ne (tgt := 10) C dX1_readBcd_5 (by decide) (fun q => absurd rfl q) (fun _ => ?_)
    refine x_iconst (v := 0) C dX1_readBcd_8 (by decide) ?_
    exact x_zret C E dX1_readBcd_9 (by decide) (fun q e => by rw [show q = _ from e]; exact Or.inr ⟨rfl, Or.inl (fun y => q2 (e1.mpr y)), dw.setD F _ _ _ _ _ A9⟩)
  rw [if_pos q2, bI_t q2]
  have hj1 := e1.mp q2
  refine x_if_ne (tgt := 10) C dX1_readBcd_5 (by decide) (fun _ => ?_) (fun q => absurd q (by decide))
  have LP : ∀ (t k : Nat) (v9 u : Int64) (l10 : Option Value), k + t = s → v9 = csum S i s mb k → u = pw100 k → (∀ j, j < k → ¬ f_bd S i s mb j) → X z 0 0 (EQ h) 19 [some (.ref de), some (.ref p), some (.int (nI s)), some (.int sn), some (.int mi), some (.long v9), none, some (.long u), none, some (.int (nI k)), l10] [] := by
    intro t
    induction t with
    | zero =>
      intro k v9 u l10 hk ev eu ok
      obtain rfl : k = s := by omega
      refine x_iload C dX1_readBcd_19 rfl ?_
      refine x_iload_n C dX1_readBcd_21 rfl ?_
      refine x_icmp_ge (tgt := 119) C dX1_readBcd_22 (by decide) (fun _ => ?_) (fun q => absurd (Int32.le_refl _) q)
      refine x_aload_n C dX1_readBcd_119 rfl ?_
      refine x_iload_n C dX1_readBcd_120 rfl ?_
      refine x_i2l C dX1_readBcd_121 ?_
      refine x_lload C dX1_readBcd_122 rfl ?_
      refine x_lmul C dX1_readBcd_124 ?_
      subst ev
      refine u_callV (st := []) C Y hW E.cs (q_setValue hW d2 _) md_X3_setValue wi_X3_setValue ws_X3_setValue wm_X1_146 dX1_readBcd_125 rfl (by decide) (by decide) d2 rfl rfl (by decide) ?_
      obtain ⟨⟨n1, n2, n3⟩, -⟩ := id F
      have B2 : hs h p (.inr (3, rdL (sn.toInt64 * csum S i k mb k) (S.a 25 r) (S.a 26 r) (S.w 27 r) (S.a 28 r) (S.a 29 r) v (S.a 30 r) lt 0)) de = _ := (hs_ne n1).trans B
      refine x_aload_n C dX1_readBcd_128 rfl ?_
      refine x_dup C dX1_readBcd_129 rfl ?_
      refine e_get C Y kd_X1 2 (by decide) wf_X1_9 dX1_readBcd_130 B2 rfl ?_
      refine x_iload_n C dX1_readBcd_133 rfl ?_
      refine x_iadd C dX1_readBcd_134 ?_
      rw [A3, nI_add]
      refine e_put C Y kd_X1 2 (by decide) rfl wf_X1_9 dX1_readBcd_135 B2 (Nat.le_of_ble_eq_true rfl) rfl rfl rfl ?_
      refine x_iconst (v := 1) C dX1_readBcd_138 (by decide) ?_
      exact x_zret C E dX1_readBcd_139 (by decide) (fun q e => by rw [show q = _ from e]; exact Or.inl ⟨rfl, hj1, ok, D.fin F _ _⟩)
    | succ t ih =>
      intro k v9 u l10 hk ev eu ok
      refine x_iload C dX1_readBcd_19 rfl ?_
      refine x_iload_n C dX1_readBcd_21 rfl ?_
      refine x_icmp_ge (tgt := 119) C dX1_readBcd_22 (by decide) (fun q => absurd q (Int32.not_le.mpr (nI_lt (show k < s by omega) (by omega)))) (fun _ => ?_)
      refine x_aload_n C dX1_readBcd_25 rfl ?_
      refine e_get C Y kd_X1 1 (by decide) wf_X1_28 dX1_readBcd_26 B rfl ?_
      refine x_aload_n C dX1_readBcd_29 rfl ?_
      refine e_get C Y kd_X1 2 (by decide) wf_X1_9 dX1_readBcd_30 B rfl ?_
      refine x_iload C dX1_readBcd_33 rfl ?_
      refine x_iadd C dX1_readBcd_35 ?_
      refine k_at (st := []) C Y hW E.cs (by decide) Rh _ dX1_readBcd_36 (by decide) ?_
      rw [A3, nI_add, rAt_in (show i + k < nb by omega) Rh.2.2.2, A1 _ (by omega)]
      obtain ⟨bb, bb1, bb2⟩ := A2 (i + k)
      have T61 : ∀ x : Int32, (g_dig x 8 = true ↔ ¬ f_bd S i s mb k) → ((x >>> ((4 : Int32) &&& 31)) * 10 + (x &&& 15)).toInt64 = dgt S i s mb k → X z 0 0 (EQ h) 61 [some (.ref de), some (.ref p), some (.int (nI s)), some (.int sn), some (.int mi), some (.long v9), none, some (.long u), none, some (.int (nI k)), some (.int x)] [] := fun x hbd hdg => by
        refine x_iload C dX1_readBcd_61 rfl ?_
        refine k_callSN (kc := 0) (ks := 0) (mc' := 0) (ms' := 0) (st := []) C E.cs hW.1 gw_good (m_areDigits hW x) md_X6_areDigits wt_X6_areDigits (E.cs.nest hX (q := (RX1, 81, yX6_areDigits)) (by simp [nst])) dX1_readBcd_63 rfl (by decide) (by decide) rfl (by decide) (fun r => X.opn (fun g hg => ?_))
        obtain ⟨rfl, e⟩ := hg
        subst e
        refine x_if_ne (tgt := 83) C dX1_readBcd_66 (by decide) (fun q66 => ?_) (fun q66 => ?_)
        · refine x_lload C dX1_readBcd_83 rfl ?_
          refine x_lload C dX1_readBcd_85 rfl ?_
          refine x_iload C dX1_readBcd_87 rfl ?_
          refine x_iconst (v := 4) C dX1_readBcd_89 (by decide) ?_
          refine x_ishr C dX1_readBcd_90 ?_
          refine x_bipush (v := 10) C dX1_readBcd_91 (by decide) ?_
          refine x_imul C dX1_readBcd_93 ?_
          refine x_iload C dX1_readBcd_94 rfl ?_
          refine x_bipush (v := 15) C dX1_readBcd_96 (by decide) ?_
          refine x_iand C dX1_readBcd_98 ?_
          refine x_iadd C dX1_readBcd_99 ?_
          refine x_i2l C dX1_readBcd_100 ?_
          rw [hdg]
          refine x_lmul C dX1_readBcd_101 ?_
          refine x_ladd C dX1_readBcd_102 ?_
          refine o_lstoreE (L' := [some _, some _, some _, some _, some _, some _, none, some _, none, some _, some _]) C dX1_readBcd_103 (by rw [hn]; decide) rfl ?_
          refine x_lload C dX1_readBcd_105 rfl ?_
          refine x_ldc2 C wk_X1_150 dX1_readBcd_107 ?_
          refine x_lmul C dX1_readBcd_110 ?_
          refine o_lstoreE (L' := [some _, some _, some _, some _, some _, some _, none, some _, none, some _, some _]) C dX1_readBcd_111 (by rw [hn]; decide) rfl ?_
          refine o_iincE (v := nI (k + 1)) (L' := [some _, some _, some _, some _, some _, some _, none, some _, none, some _, some _]) C dX1_readBcd_113 rfl (nI_1 k) (by rw [hn]; decide) rfl ?_
          refine x_goto (tgt := 19) C dX1_readBcd_116 (by decide) ?_
          exact ih (k + 1) _ _ _ (by omega) (by rw [ev, eu]; rfl) (by rw [eu]; rfl) (fun j hj => by
            by_cases ej : j = k
            · rw [ej]; exact hbd.mp (Decidable.of_not_not (fun y => q66 (bI_f y)))
            · exact ok j (by omega))
        · refine x_aload_n C dX1_readBcd_69 rfl ?_
          refine x_bipush (v := 7) C dX1_readBcd_70 (by decide) ?_
          refine x_aload_n C dX1_readBcd_72 rfl ?_
          refine e_get C Y kd_X1 2 (by decide) wf_X1_9 dX1_readBcd_73 B rfl ?_
          refine x_iload C dX1_readBcd_76 rfl ?_
          refine x_iadd C dX1_readBcd_78 ?_
          refine u_callV (st := []) C Y hW E.cs (d_wrong hW B 7 _) md_X1_wrong wi_X1_wrong ws_X1_wrong wm_X1_67 dX1_readBcd_79 rfl (by decide) (by decide) B rfl rfl (by decide) ?_
          exact x_zret C E dX1_readBcd_82 (by decide) (fun q e => by rw [show q = _ from e]; exact Or.inr ⟨rfl, Or.inr ⟨k, by omega, Decidable.byContradiction fun y => absurd (bI_t (hbd.mpr y)) (by rw [q66]; decide)⟩, dw.setD F _ _ _ _ _ A9⟩)
      refine o_istoreE (L' := [some _, some _, some _, some _, some _, some _, none, some _, none, some _, some _]) C dX1_readBcd_39 (by rw [hn]; decide) rfl ?_
      refine x_iload C dX1_readBcd_41 rfl ?_
      refine x_if_eq (tgt := 61) C dX1_readBcd_43 (by decide) (fun q43 => ?_) (fun q43 => ?_)
      · have nm : ¬ (mb = true ∧ k + 1 = s) := fun y => by rw [hmi.mp q43] at y; exact absurd y.1 (by decide)
        exact T61 _ (by rw [bb2]; unfold f_bd; rw [bb2, dg_c bb bb1]; exact ⟨fun y z => z.elim y.1 (fun z => z.2 y.2), fun y => ⟨fun z => y (Or.inl z), Decidable.byContradiction fun z => y (Or.inr ⟨nm, z⟩)⟩⟩) (by unfold dgt; rw [bb2, if_neg nm]; exact dg_a bb bb1)
      have mt : mb = true := by cases mb with
        | true => rfl
        | false => exact absurd (hmi.mpr rfl) q43
      refine x_iload C dX1_readBcd_46 rfl ?_
      refine x_iload_n C dX1_readBcd_48 rfl ?_
      refine x_iconst (v := 1) C dX1_readBcd_49 (by decide) ?_
      refine x_isub C dX1_readBcd_50 ?_
      refine x_icmp_ne (tgt := 61) C dX1_readBcd_51 (by decide) (fun q51 => ?_) (fun q51 => ?_)
      · have nm : ¬ (mb = true ∧ k + 1 = s) := fun y => q51 (by rw [← y.2]; exact (nI_sub' (v := k + 1) (b := 1) (by omega)).symm)
        exact T61 _ (by rw [bb2]; unfold f_bd; rw [bb2, dg_c bb bb1]; exact ⟨fun y z => z.elim y.1 (fun z => z.2 y.2), fun y => ⟨fun z => y (Or.inl z), Decidable.byContradiction fun z => y (Or.inr ⟨nm, z⟩)⟩⟩) (by unfold dgt; rw [bb2, if_neg nm]; exact dg_a bb bb1)
      have ks : k + 1 = s := by
        rw [show nI s - 1 = nI (s - 1) from nI_sub' (v := s) (b := 1) (by omega)] at q51
        have := (nI_eq (by omega) (by omega)).mp q51
        omega
      refine x_iload C dX1_readBcd_54 rfl ?_
      refine x_bipush (v := 15) C dX1_readBcd_56 (by decide) ?_
      refine x_iand C dX1_readBcd_58 ?_
      refine o_istoreE (L' := [some _, some _, some _, some _, some _, some _, none, some _, none, some _, some _]) C dX1_readBcd_59 (by rw [hn]; decide) rfl ?_
      exact T61 _ (by rw [bb2]; unfold f_bd; rw [bb2, dg_d bb bb1]; exact ⟨fun y z => z.elim y (fun z => z.1 ⟨mt, ks⟩), fun y z => y (Or.inl z)⟩) (by unfold dgt; rw [bb2, if_pos ⟨mt, ks⟩]; exact dg_b bb bb1)
  refine x_lconst (v := 0) C dX1_readBcd_10 (by decide) ?_
  refine o_lstoreE (L' := [some _, some _, some _, some _, some _, some _, none, none, none, none, none]) C dX1_readBcd_11 (by rw [hn]; decide) rfl ?_
  refine x_lconst (v := 1) C dX1_readBcd_13 (by decide) ?_
  refine o_lstoreE (L' := [some _, some _, some _, some _, some _, some _, none, some _, none, none, none]) C dX1_readBcd_14 (by rw [hn]; decide) rfl ?_
  refine x_iconst (v := 0) C dX1_readBcd_16 (by decide) ?_
  refine o_istoreE (L' := [some _, some _, some _, some _, some _, some _, none, some _, none, some _, none]) C dX1_readBcd_17 (by rw [hn]; decide) rfl ?_
  exact LP s 0 _ _ _ (Nat.zero_add s) rfl rfl (fun j hj => absurd hj (Nat.not_lt_zero j))
end Dec
end
section
/-! The decoder against the model: signed digits, texts. -/
section Dec
variable {w : Wd} {c : Nat → ClassId} {h h0 : PH} {li de p v b ba nb r : Nat} {fb : Nat → Int32} {lt : Value} {S : MS}
theorem d_signedX (hX : Wx w c) (F : FX c de p v b ba h0 fb nb) (D : DX c li de p v b h0 r lt S h) {i m s : Nat} (A : DA fb nb S i m r) (s1 : 1 ≤ s) (hs9 : s ≤ 9) : T w gw yX1_readSignedBcd cX1_readSignedBcd 4 (some .boolean) 3 (40 * 3) 0 0 [.ref de, .ref p, .int (nI s)] (EQ h)
    (fun q g => (q = some (.int 1) ∧ i + s ≤ m ∧ (∀ k, k < s → ¬ f_bd S i s (f_mi S i s true) k) ∧ DVx c li de p v b h0 r lt S (f_dig S i s true) (nI (i + s)) g) ∨ (q = some (.int 0) ∧ (¬ i + s ≤ m ∨ ∃ k, k < s ∧ f_bd S i s (f_mi S i s true) k) ∧ DFx c li de p v b h0 lt g)) := by
  have hW := hX.1
  refine TA.intro hW rfl (by decide +kernel) (Nat.le_of_ble_eq_true rfl) (fun z C Y E hn h1 hA => ?_)
  rw [show h1 = h from hA]
  clear hA
  obtain ⟨⟨fa, pl, B⟩, d2, ⟨fv, d3, d3'⟩, d4⟩ := id D
  obtain ⟨A1, A2, A3, A4, A5, A6, A7, A8, A9, A10⟩ := id A
  have Rh := D.row F
  have T40 : ∀ (x y : Int32) (mb : Bool), (x = 0 ↔ mb = false) → (y = if mb then -1 else 1) → (i + s ≤ m → mb = f_mi S i s true) → X z 0 0 (EQ h) 40 [some (.ref de), some (.ref p), some (.int (nI s)), some (.int x)] [.int y, .int (nI s), .ref p, .ref de] := fun x y mb hx hy hmb => by
    refine x_iload_n C dX1_readSignedBcd_40 rfl ?_
    refine k_callR (kc := 0) (ks := 0) (mc' := 0) (ms' := 0) (st := []) C Y hW E.cs (d_bcdX hX F D A hs9 y mb hx) rfl md_X1_readBcd wi_X1_readBcd ws_X1_readBcd wm_X1_136 dX1_readSignedBcd_41 rfl (by decide) (by decide) B rfl rfl (by decide) (fun q g hg => ?_)
    rcases hg with ⟨rfl, j1, j2, Dg⟩ | ⟨rfl, j1, Dg⟩
    · have em := hmb j1
      subst em
      refine x_zret C E dX1_readSignedBcd_44 (by decide) (fun q e => ?_)
      rw [show q = _ from e]
      refine Or.inl ⟨rfl, j1, j2, ?_⟩
      have ev : y.toInt64 * f_dv S i s (f_mi S i s true) s 0 = f_dig S i s true := by
        unfold f_dig
        rw [hy]
        by_cases q : f_mi S i s true = true
        · rw [if_pos q, if_pos q]
          exact neg_ring _
        · rw [if_neg q, if_neg q]
          show (1 : Int64) * _ = _
          grind
      rw [← ev]
      exact Dg
    · refine x_zret C E dX1_readSignedBcd_44 (by decide) (fun q e => ?_)
      rw [show q = _ from e]
      refine Or.inr ⟨rfl, ?_, Dg⟩
      by_cases q : i + s ≤ m
      · rw [← hmb q]
        exact j1
      · exact Or.inl q
  have T27 : ∀ (x : Int32) (mb : Bool), (x = 0 ↔ mb = false) → (i + s ≤ m → mb = f_mi S i s true) → X z 0 0 (EQ h) 27 [some (.ref de), some (.ref p), some (.int (nI s)), none] [.int x] := fun x mb hx hmb => by
    refine o_istore_nE (L' := [some _, some _, some _, some _]) C dX1_readSignedBcd_27 (by rw [hn]; decide) rfl ?_
    refine x_aload_n C dX1_readSignedBcd_28 rfl ?_
    refine x_aload_n C dX1_readSignedBcd_29 rfl ?_
    refine x_iload_n C dX1_readSignedBcd_30 rfl ?_
    refine x_iload_n C dX1_readSignedBcd_31 rfl ?_
    refine x_if_eq (tgt := 39) C dX1_readSignedBcd_32 (by decide) (fun q => ?_) (fun q => ?_)
    · exact x_iconst (v := 1) C dX1_readSignedBcd_39 (by decide) (T40 _ _ mb hx (by rw [hx.mp q]; rfl) hmb)
    · refine x_iconst (v := -1) C dX1_readSignedBcd_35 (by decide) ?_
      refine x_goto (tgt := 40) C dX1_readSignedBcd_36 (by decide) (T40 _ _ mb hx ?_ hmb)
      cases mb with
      | true => rfl
      | false => exact absurd (hx.mpr rfl) q
  have key : i + s ≤ m → (rAt fb nb (S.i 40 + nI s - 1) = S.a 38 (i + s - 1)) := fun y => by rw [A3, nI_add, show nI (i + s) - 1 = nI (i + s - 1) from nI_sub' (v := i + s) (b := 1) (by omega), rAt_in (show i + s - 1 < nb by omega) Rh.2.2.2, A1 _ (by omega)]
  refine x_aload_n C dX1_readSignedBcd_0 rfl ?_
  refine e_get C Y kd_X1 1 (by decide) wf_X1_28 dX1_readSignedBcd_1 B rfl ?_
  refine x_aload_n C dX1_readSignedBcd_4 rfl ?_
  refine e_get C Y kd_X1 2 (by decide) wf_X1_9 dX1_readSignedBcd_5 B rfl ?_
  refine x_iload_n C dX1_readSignedBcd_8 rfl ?_
  refine x_iadd C dX1_readSignedBcd_9 ?_
  refine x_iconst (v := 1) C dX1_readSignedBcd_10 (by decide) ?_
  refine x_isub C dX1_readSignedBcd_11 ?_
  refine k_at (st := []) C Y hW E.cs (by decide) Rh _ dX1_readSignedBcd_12 (by decide) ?_
  refine x_iconst (v := 4) C dX1_readSignedBcd_15 (by decide) ?_
  refine x_ishr C dX1_readSignedBcd_16 ?_
  refine x_bipush (v := 15) C dX1_readSignedBcd_17 (by decide) ?_
  refine x_icmp_ne (tgt := 26) C dX1_readSignedBcd_19 (by decide) (fun q => ?_) (fun q => ?_)
  · refine x_iconst (v := 0) C dX1_readSignedBcd_26 (by decide) (T27 0 false ⟨fun _ => rfl, fun _ => rfl⟩ (fun y => ?_))
    rw [key y] at q
    exact (decide_eq_false (fun z => q z.2.2)).symm
  · refine x_iconst (v := 1) C dX1_readSignedBcd_22 (by decide) ?_
    refine x_goto (tgt := 27) C dX1_readSignedBcd_23 (by decide) (T27 1 true ⟨fun q => absurd q (by decide), fun q => nomatch q⟩ (fun y => ?_))
    rw [key y] at q
    exact (decide_eq_true ⟨rfl, by omega, q⟩).symm
end Dec
section Rd
variable {w : Wd} {c : Nat → ClassId} {h : PH} {p v b ba nb : Nat} {va sg : Int64} {co fu ta un vn ln : Int32} {lt : Value} {fb : Nat → Int32}
/-- the letters of a reading: one row, if any -/
def LK (c : Nat → ClassId) (h : PH) (lt : Value) : Prop := lt = .null ∨ ∃ (t m : Nat) (fl : Nat → Int32), lt = .ref t ∧ m ≤ 300 ∧ h t = some (.inl (c 0, m, .inl fl))
/-- behind setText -/
def STx (c : Nat → ClassId) (h : PH) (p v : Nat) (co fu : Int32) (sg : Int64) (ta un vn : Int32) (lt : Value) (fb : Nat → Int32) (i s : Nat) (g : PH) : Prop := ∃ lt' : Value, (lt' = lt ∨ ∃ t, lt' = .ref t ∧ h t = none) ∧ g p = some (.inr (3, rdL (nI s).toInt64 co fu sg ta un v vn lt' (nI s))) ∧ LK c g lt' ∧ (0 < s → ∃ (t m : Nat) (fl : Nat → Int32), lt' = .ref t ∧ g t = some (.inl (c 0, m, .inl fl)) ∧ s ≤ m ∧ ∀ j, j < s → fl j = fb (i + j)) ∧ ∀ q, q ≠ p → lt' ≠ .ref q → g q = h q
theorem q_setTextX (hW : Wc w c) (B : h p = some (.inr (3, rdL va co fu sg ta un v vn lt ln))) (K : LK c h lt) (np : lt ≠ .ref p) (R : RW c h b ba fb nb) (rb : b ≠ p ∧ ba ≠ p ∧ lt ≠ .ref b ∧ lt ≠ .ref ba) {i s : Nat} (his : i + s ≤ nb) (hs3 : s ≤ 300) : T w gw yX3_setText cX3_setText 5 none 1 (40 * 1) 1 s [.ref p, .ref b, .int (nI i), .int (nI s)] (EQ h) (fun q g => q = none ∧ STx c h p v co fu sg ta un vn lt fb i s g) := by
  refine TA.intro hW rfl (by decide +kernel) (Nat.le_of_ble_eq_true rfl) (fun z C Y E hn h1 hA => ?_)
  rw [show h1 = h from hA]
  clear hA
  have hn3 := R.2.2.2
  obtain ⟨t0, ht0⟩ := Y.2.1
  have T74 : ∀ (kc ks : Nat) (g : PH) (l4 : Option Value) (lt' : Value) (va' : Int64) (ln' : Int32), (lt' = lt ∨ ∃ t, lt' = .ref t ∧ h t = none) → g p = some (.inr (3, rdL va' co fu sg ta un v vn lt' ln')) → lt' ≠ .ref p → LK c g lt' → (0 < s → ∃ (t m : Nat) (fl : Nat → Int32), lt' = .ref t ∧ g t = some (.inl (c 0, m, .inl fl)) ∧ s ≤ m ∧ ∀ j, j < s → fl j = fb (i + j)) → (∀ q, q ≠ p → lt' ≠ .ref q → g q = h q) → X z kc ks (EQ g) 74 [some (.ref p), some (.ref b), some (.int (nI i)), some (.int (nI s)), l4] [] := fun kc ks g l4 lt' va' ln' x1 B x2 x3 x4 x5 => by
    refine x_aload_n C dX3_setText_74 rfl ?_
    refine x_iload_n C dX3_setText_75 rfl ?_
    refine e_put C Y kd_X3 9 (by decide) rfl wf_X3_41 dX3_setText_76 B (Nat.le_of_ble_eq_true rfl) rfl rfl rfl ?_
    refine x_aload_n C dX3_setText_79 rfl ?_
    refine x_iload_n C dX3_setText_80 rfl ?_
    refine x_i2l C dX3_setText_81 ?_
    refine e_put C Y kd_X3 0 (by decide) rfl wf_X3_9 dX3_setText_82 (hs_self ..) (Nat.le_of_ble_eq_true rfl) rfl rfl (hs_hs ..) ?_
    refine x_vret C E dX3_setText_85 (fun q e => ⟨rfl, lt', x1, ?_⟩)
    rw [show q = _ from e]
    have ne : ∀ t, lt' = .ref t → t ≠ p := fun t e1 e2 => x2 (by rw [e1, e2])
    refine ⟨hs_self .., ?_, fun s0 => ?_, fun q q1 q2 => by rw [hs_ne q1]; exact x5 q q1 q2⟩
    · rcases x3 with y | ⟨t, m, fl, y1, y2, y3⟩
      · exact Or.inl y
      · exact Or.inr ⟨t, m, fl, y1, y2, by rw [hs_ne (ne t y1)]; exact y3⟩
    · obtain ⟨t, m, fl, y1, y2, y3, y4⟩ := x4 s0
      exact ⟨t, m, fl, y1, by rw [hs_ne (ne t y1)]; exact y2, y3, y4⟩
  -- a row t of m letters is there
  have LP : ∀ (t m : Nat) (va' : Int64) (ln' : Int32), (Value.ref t = lt ∨ h t = none) → t ≠ p → m ≤ 300 → s ≤ m → b ≠ t → ba ≠ t → ∀ (rem j : Nat) (fl : Nat → Int32) (g : PH), j + rem = s → g p = some (.inr (3, rdL va' co fu sg ta un v vn (.ref t) ln')) → g t = some (.inl (c 0, m, .inl fl)) → (∀ k, k < j → fl k = fb (i + k)) → (∀ q, q ≠ p → q ≠ t → g q = h q) → X z 0 0 (EQ g) 30 [some (.ref p), some (.ref b), some (.int (nI i)), some (.int (nI s)), some (.int (nI j))] [] := by
    intro t m va' ln' ht tp m3 sm bt bat rem
    have x1 : Value.ref t = lt ∨ ∃ t', Value.ref t = .ref t' ∧ h t' = none := ht.imp id (fun e => ⟨t, rfl, e⟩)
    induction rem with
    | zero =>
      intro j fl g hj Bg Tg ok fr
      obtain rfl : j = s := by omega
      refine x_iload C dX3_setText_30 rfl ?_
      refine x_iload_n C dX3_setText_32 rfl ?_
      exact x_icmp_ge (tgt := 74) C dX3_setText_33 (by decide) (fun _ => T74 0 0 g _ (.ref t) va' ln' x1 Bg (fun e => tp (Value.ref.inj e)) (Or.inr ⟨t, m, fl, rfl, m3, Tg⟩) (fun _ => ⟨t, m, fl, rfl, Tg, sm, ok⟩) (fun q q1 q2 => fr q q1 (fun e => q2 (by rw [e])))) (fun q => absurd (Int32.le_refl _) q)
    | succ rem ih =>
      intro j fl g hj Bg Tg ok fr
      have Rh : RW c g b ba fb nb := ⟨R.1, by rw [fr b rb.1 bt]; exact R.2.1, by rw [fr ba rb.2.1 bat]; exact R.2.2.1, hn3⟩
      refine x_iload C dX3_setText_30 rfl ?_
      refine x_iload_n C dX3_setText_32 rfl ?_
      refine x_icmp_ge (tgt := 74) C dX3_setText_33 (by decide) (fun q => absurd q (Int32.not_le.mpr (nI_lt (show j < s by omega) (by omega)))) (fun _ => ?_)
      refine x_aload_n C dX3_setText_36 rfl ?_
      refine e_get C Y kd_X3 8 (by decide) wf_X3_38 dX3_setText_37 Bg rfl ?_
      refine x_ifnull C dX3_setText_40 ?_
      refine x_iload C dX3_setText_43 rfl ?_
      refine x_aload_n C dX3_setText_45 rfl ?_
      refine e_get C Y kd_X3 8 (by decide) wf_X3_38 dX3_setText_46 Bg rfl ?_
      refine x_alen C ht0 dX3_setText_49 (v := nI m) (fun q e => by rw [e]; exact Tg) rfl ?_
      refine x_icmp_ge (tgt := 74) C dX3_setText_50 (by decide) (fun q => absurd q (Int32.not_le.mpr (nI_lt (show j < m by omega) (by omega)))) (fun c50 => ?_)
      have ra := r_at hW Rh (nI i + nI j)
      rw [nI_add, rAt_in (show i + j < nb by omega) hn3] at ra
      refine x_aload_n C dX3_setText_53 rfl ?_
      refine e_get C Y kd_X3 8 (by decide) wf_X3_38 dX3_setText_54 Bg rfl ?_
      refine x_iload C dX3_setText_57 rfl ?_
      refine x_aload_n C dX3_setText_59 rfl ?_
      refine x_iload_n C dX3_setText_60 rfl ?_
      refine x_iload C dX3_setText_61 rfl ?_
      refine x_iadd C dX3_setText_63 ?_
      rw [nI_add]
      refine u_callV (st := [.int (nI j), .ref t]) C Y hW E.cs ra md_X5_at wi_X5_at ws_X5_at wm_X3_44 dX3_setText_64 rfl (by decide) (by decide) Rh.2.1 rfl rfl (by simp [Value.category]) ?_
      refine e_ist C Y dX3_setText_67 Tg (vp_in_nI (show j < m by omega) (by omega)) rfl ?_
      rw [nI_clamp (by omega)]
      refine o_iincE (v := nI (j + 1)) (L' := [some _, some _, some _, some _, some _]) C dX3_setText_68 rfl (nI_1 j) (by rw [hn]; decide) rfl ?_
      refine x_goto (tgt := 30) C dX3_setText_71 (by decide) ?_
      refine ih (j + 1) (upd fl j (fb (i + j))) _ (by omega) (by rw [hs_ne (Ne.symm tp)]; exact Bg) (hs_self ..) (fun k hk => ?_) (fun q q1 q2 => by rw [hs_ne q2]; exact fr q q1 q2)
      by_cases e : k = j
      · subst e; simp [upd]
      · rw [show upd fl j (fb (i + j)) k = fl k from by simp [upd, e]]
        exact ok k (by omega)
  have T20 : 0 < s → X z 1 s (EQ h) 20 [some (.ref p), some (.ref b), some (.int (nI i)), some (.int (nI s)), none] [] := fun s0 => by
    refine x_aload_n C dX3_setText_20 rfl ?_
    refine x_iload_n C dX3_setText_21 rfl ?_
    refine X.room (kc' := 0 + 1) (ks' := 0 + s) ?_ (by omega) (by omega)
    refine e_newi (kc := 0) (ks := 0) (N := s) C Y dX3_setText_22 (nI_pos (by omega)) (nI_clamp (by omega)) (by omega) (fun q hq => ?_)
    have npq : p ≠ q := fun e => by rw [e, hq] at B; exact nomatch B
    refine e_put C Y kd_X3 8 (by decide) rfl wf_X3_38 dX3_setText_24 (by rw [hs_ne npq]; exact B) (Nat.le_of_ble_eq_true rfl) rfl rfl rfl ?_
    refine x_iconst (v := 0) C dX3_setText_27 (by decide) ?_
    refine o_istoreE (L' := [some _, some _, some _, some _, some _]) C dX3_setText_28 (by rw [hn]; decide) rfl ?_
    exact LP q s _ _ (Or.inr hq) (Ne.symm npq) hs3 (Nat.le_refl _) (fun e => by have := R.2.1; rw [e, hq] at this; exact nomatch this) (fun e => by have := R.2.2.1; rw [e, hq] at this; exact nomatch this) s 0 (fun _ => 0) _ (Nat.zero_add s) (hs_self ..) (by rw [hs_ne (Ne.symm npq), hs_self]) (fun k hk => absurd hk (Nat.not_lt_zero k)) (fun x q1 q2 => by rw [hs_ne q1, hs_ne q2])
  refine x_iload_n C dX3_setText_0 rfl ?_
  refine x_if_le (tgt := 27) C dX3_setText_1 (by decide) (fun q1 => ?_) (fun q1 => ?_)
  · obtain rfl : s = 0 := Nat.eq_zero_of_not_pos (fun y => absurd (nI_lt (a := 0) y (by omega)) (Int32.not_lt.mpr q1))
    refine x_iconst (v := 0) C dX3_setText_27 (by decide) ?_
    refine o_istoreE (L' := [some _, some _, some _, some _, some _]) C dX3_setText_28 (by rw [hn]; decide) rfl ?_
    refine x_iload C dX3_setText_30 rfl ?_
    refine x_iload_n C dX3_setText_32 rfl ?_
    exact x_icmp_ge (tgt := 74) C dX3_setText_33 (by decide) (fun _ => T74 1 0 h _ lt va ln (Or.inl rfl) B np K (fun y => absurd y (Nat.lt_irrefl 0)) (fun _ _ _ => rfl)) (fun q => absurd (Int32.le_refl _) q)
  have s0 : 0 < s := Nat.pos_of_ne_zero (fun e => q1 (by rw [e]; decide))
  refine x_aload_n C dX3_setText_4 rfl ?_
  refine e_get C Y kd_X3 8 (by decide) wf_X3_38 dX3_setText_5 B rfl ?_
  rcases K with rfl | ⟨t, m, fl, rfl, m3, Tt⟩
  · exact x_ifnullN (tgt := 20) C dX3_setText_8 (by decide) (T20 s0)
  · refine x_ifnull C dX3_setText_8 ?_
    refine x_aload_n C dX3_setText_11 rfl ?_
    refine e_get C Y kd_X3 8 (by decide) wf_X3_38 dX3_setText_12 B rfl ?_
    refine x_alen C ht0 dX3_setText_15 (v := nI m) (fun q e => by rw [e]; exact Tt) rfl ?_
    refine x_iload_n C dX3_setText_16 rfl ?_
    refine x_icmp_ge (tgt := 27) C dX3_setText_17 (by decide) (fun q => ?_) (fun _ => T20 s0)
    have sm : s ≤ m := (nI_leI (by omega) (by omega)).mp q
    refine x_iconst (v := 0) C dX3_setText_27 (by decide) ?_
    refine o_istoreE (L' := [some _, some _, some _, some _, some _]) C dX3_setText_28 (by rw [hn]; decide) rfl ?_
    exact (LP t m va ln (Or.inl rfl) (fun e => np (by rw [e])) m3 sm (fun e => rb.2.2.1 (by rw [e])) (fun e => rb.2.2.2 (by rw [e])) s 0 fl h (Nat.zero_add s) B Tt (fun k hk => absurd hk (Nat.not_lt_zero k)) (fun _ _ _ => rfl)).room (Nat.zero_le _) (Nat.zero_le _)
end Rd
end
section
/-! The decoder against the model: texts, values. -/
theorem f_txl_w (S : MS) (tx a q j : Nat) : ∀ k, (f_txl S tx a k).w q j = S.w q j
  | 0 => rfl
  | k + 1 => f_txl_w S tx a q j k
theorem f_txl_a (S : MS) (tx a : Nat) {q : Nat} (h : q ≠ 35) (j : Nat) : ∀ k, (f_txl S tx a k).a q j = S.a q j
  | 0 => rfl
  | k + 1 => by rw [f_txl, MS.si_a, MS.si_a, sa_ne h, f_txl_a S tx a h j k]
theorem f_txl_35 (S : MS) (tx a : Nat) {j : Nat} : ∀ k, j < k → (f_txl S tx a k).a 35 (tx + j) = S.a 38 (a + j)
  | 0, h => absurd h (Nat.not_lt_zero j)
  | k + 1, h => by
    rw [f_txl, MS.si_a, MS.si_a, MS.sa_a]
    by_cases q : j = k
    · rw [if_pos ⟨rfl, by rw [q]⟩, q]
    · rw [if_neg (fun y => q (by omega)), f_txl_35 S tx a k (by omega)]
theorem f_txl_lo (S : MS) (tx a : Nat) {j : Nat} (hj : j < tx) : ∀ k, (f_txl S tx a k).a 35 j = S.a 35 j
  | 0 => rfl
  | k + 1 => by rw [f_txl, MS.si_a, MS.si_a, MS.sa_a, if_neg (fun y => by omega), f_txl_lo S tx a hj k]
section Tx
variable {S : MS} {r tx a n : Nat}
theorem text_w (q j : Nat) : (f_text S r tx a n).w q j = S.w q j := by unfold f_text; rw [f_txl_w]; rfl
theorem text_a {q : Nat} (h1 : q ≠ 32) (h2 : q ≠ 33) (h3 : q ≠ 35) (j : Nat) : (f_text S r tx a n).a q j = S.a q j := by unfold f_text; rw [f_txl_a _ _ _ h3, sa_ne h2, sa_ne h1]
theorem text_32 : (f_text S r tx a n).a 32 r = nI tx := by unfold f_text; rw [f_txl_a _ _ _ (by decide), sa_ne (by decide), MS.sa_a, if_pos ⟨rfl, rfl⟩]
theorem text_33 : (f_text S r tx a n).a 33 r = nI n := by unfold f_text; rw [f_txl_a _ _ _ (by decide), MS.sa_a, if_pos ⟨rfl, rfl⟩]
theorem text_35 {j : Nat} (h : j < n) : (f_text S r tx a n).a 35 (tx + j) = S.a 38 (a + j) := by unfold f_text; rw [f_txl_35 _ _ _ _ h, sa_ne (by decide), sa_ne (by decide)]
theorem text_40 (h : S.i 40 = nI a) : (f_text S r tx a n).i 40 = nI (a + n) := by unfold f_text; exact f_txl_40 _ _ _ _ h
theorem text_i {q : Nat} (h1 : q ≠ 34) (h2 : q ≠ 40) : (f_text S r tx a n).i q = S.i q := by unfold f_text; exact f_txl_i _ _ _ h1 h2 _
end Tx
section Dg
variable {S : MS} {a m : Nat} {mi : Bool}
theorem dg_ok : ∀ t, (∀ k, k < t → ¬ f_bd S a m mi k) → f_dg S a m mi t = S
  | 0, _ => rfl
  | t + 1, h => by rw [f_dg, if_neg (h t (Nat.lt_succ_self t)), dg_ok t (fun k hk => h k (by omega))]
theorem bl_keep {x y : Int32} (h : ¬ S.i 41 = 0) : f_bl S x y = S := if_neg h
theorem dg_bad (h0 : S.i 41 = 0) : ∀ t, (∃ k, k < t ∧ f_bd S a m mi k) → ¬ (f_dg S a m mi t).i 41 = 0
  | 0, h => by obtain ⟨k, h1, -⟩ := h; exact absurd h1 (Nat.not_lt_zero k)
  | t + 1, h => by
    rw [f_dg]
    split
    · by_cases q : (f_dg S a m mi t).i 41 = 0
      · exact bl_no q (by decide)
      · rw [bl_keep q]; exact q
    · rename_i hb
      obtain ⟨k, h1, h2⟩ := h
      refine dg_bad h0 t ⟨k, ?_, h2⟩
      by_cases q : k = t
      · subst q; exact absurd h2 hb
      · omega
theorem mi_f : f_mi S a m false = false := decide_eq_false (fun q => nomatch q.1)
end Dg
/-- a record read whole -/
def DC (c : Nat → ClassId) (li de p v b : Nat) (h0 : PH) (r : Nat) (lt : Value) (Q : MS) (g : PH) : Prop := ∃ lt' : Value, (lt' = lt ∨ ∃ t, lt' = .ref t ∧ h0 t = none) ∧ (∃ fa pl : Int32, g de = some (.inr (1, [.ref li, .ref b, .int (Q.i 40), .int (Q.i 39), .int fa, .int pl, .int (Q.i 37)]))) ∧ g p = some (.inr (3, rdL (Q.w 24 r) (Q.a 25 r) (Q.a 26 r) (Q.w 27 r) (Q.a 28 r) (Q.a 29 r) v (Q.a 30 r) lt' (Q.a 33 r))) ∧
  (∃ fv : Nat → Int32, g v = some (.inl (c 0, 11, .inl fv)) ∧ ∀ j, j < (Q.a 30 r).toNatClampNeg → fv j = Q.a 31 (11 * r + j)) ∧ LK c g lt' ∧ (∀ j, j < (Q.a 33 r).toNatClampNeg → ∃ (t m : Nat) (fl : Nat → Int32), lt' = .ref t ∧ g t = some (.inl (c 0, m, .inl fl)) ∧ j < m ∧ fl j = Q.a 35 ((Q.a 32 r).toNatClampNeg + j)) ∧ ∀ q, q ≠ de → q ≠ p → q ≠ v → lt' ≠ .ref q → g q = h0 q
/-- where the letters lie -/
def LF (c : Nat → ClassId) (de p v b ba : Nat) (h0 : PH) (lt : Value) : Prop := LK c h0 lt ∧ ∀ t, lt = .ref t → t ≠ de ∧ t ≠ p ∧ t ≠ v ∧ t ≠ b ∧ t ≠ ba
section Dec
variable {w : Wd} {c : Nat → ClassId} {h h0 g : PH} {li de p v b ba nb r : Nat} {fb : Nat → Int32} {lt : Value} {S : MS}
theorem LF.at (L : LF c de p v b ba h0 lt) (e : ∀ q, q ≠ de → q ≠ p → q ≠ v → g q = h0 q) : LK c g lt := by
  obtain ⟨K, n⟩ := L
  rcases K with x | ⟨t, m, fl, e1, m3, e2⟩
  · exact Or.inl x
  · obtain ⟨n1, n2, n3, -⟩ := n t e1
    exact Or.inr ⟨t, m, fl, e1, m3, by rw [e t n1 n2 n3]; exact e2⟩
theorem DVx.dc {x : Int64} {j : Int32} (D : DVx c li de p v b h0 r lt S x j g) (L : LF c de p v b ba h0 lt) {Q : MS} (q40 : Q.i 40 = j) (q39 : Q.i 39 = S.i 39) (q37 : Q.i 37 = S.i 37) (q24 : Q.w 24 r = x) (q27 : Q.w 27 r = S.w 27 r) (qa : ∀ q t, 25 ≤ q → q ≤ 31 → Q.a q t = S.a q t) (q33 : Q.a 33 r = 0) : DC c li de p v b h0 r lt Q g := by
  obtain ⟨⟨fa, pl, d1⟩, d2, ⟨fv, d3, d3'⟩, d4⟩ := D
  refine ⟨lt, Or.inl rfl, ⟨fa, pl, by rw [q40, q39, q37]; exact d1⟩, ?_, ⟨fv, d3, fun t ht => ?_⟩, L.at d4, fun t ht => ?_, fun q q1 q2 q3 _ => d4 q q1 q2 q3⟩
  · rw [q24, q27, q33, qa 25 r (by decide) (by decide), qa 26 r (by decide) (by decide), qa 28 r (by decide) (by decide), qa 29 r (by decide) (by decide), qa 30 r (by decide) (by decide)]
    exact d2
  · rw [qa 30 r (by decide) (by decide)] at ht
    rw [qa 31 _ (by decide) (by decide)]
    exact d3' t ht
  · rw [q33] at ht
    exact absurd ht (Nat.not_lt_zero t)
theorem d_textX (hX : Wx w c) (F : FX c de p v b ba h0 fb nb) (L : LF c de p v b ba h0 lt) (D : DX c li de p v b h0 r lt S h) {i m s tx : Nat} (A : DA fb nb S i m r) (hs3 : s ≤ 300) (htx : tx < 2 ^ 31) : T w gw yX1_readText cX1_readText 3 (some .boolean) 2 (40 * 2) 1 (min s (m - i)) [.ref de, .ref p, .int (nI s)] (EQ h)
    (fun q g => (q = some (.int 1) ∧ i + s ≤ m ∧ DC c li de p v b h0 r lt (f_text (S.sw 24 r (nI s).toInt64) r tx i s) g) ∨ (q = some (.int 0) ∧ ¬ i + s ≤ m ∧ DFx c li de p v b h0 lt g)) := by
  have hW := hX.1
  refine TA.intro hW rfl (by decide +kernel) (Nat.le_of_ble_eq_true rfl) (fun z C Y E hn h1 hA => ?_)
  rw [show h1 = h from hA]
  clear hA
  obtain ⟨⟨fa, pl, B⟩, d2, ⟨fv, d3, d3'⟩, d4⟩ := id D
  obtain ⟨A1, A2, A3, A4, A5, A6, A7, A8, A9, A10⟩ := id A
  have dw := D.df A
  have Rh := D.row F
  obtain ⟨⟨n1, n2, n3⟩, ⟨b1, b2, b3⟩, ⟨a1, a2, a3⟩, -⟩ := id F
  have e1 : S.i 40 + nI s ≤ S.i 39 ↔ i + s ≤ m := by rw [A3, A4, nI_add]; exact nI_leI (by omega) (by omega)
  refine x_aload_n C dX1_readText_0 rfl ?_
  refine x_iload_n C dX1_readText_1 rfl ?_
  refine u_callV (st := []) C Y hW E.cs (d_areThere hW B (nI s)) md_X1_areThere wi_X1_areThere ws_X1_areThere wm_X1_117 dX1_readText_2 rfl (by decide) (by decide) B rfl rfl (by decide) ?_
  by_cases q2 : S.i 40 + nI s ≤ S.i 39
  rotate_left
  · rw [if_neg q2, bI_f q2]
    refine x_if_ne (tgt := 10) C dX1_readText_5 (by decide) (fun q => absurd rfl q) (fun _ => ?_)
    refine x_iconst (v := 0) C dX1_readText_8 (by decide) ?_
    exact x_zret C E dX1_readText_9 (by decide) (fun q e => by rw [show q = _ from e]; exact Or.inr ⟨rfl, fun y => q2 (e1.mpr y), dw.setD F _ _ _ _ _ A9⟩)
  rw [if_pos q2, bI_t q2]
  have hj1 := e1.mp q2
  refine x_if_ne (tgt := 10) C dX1_readText_5 (by decide) (fun _ => ?_) (fun q => absurd q (by decide))
  refine x_aload_n C dX1_readText_10 rfl ?_
  refine x_aload_n C dX1_readText_11 rfl ?_
  refine e_get C Y kd_X1 1 (by decide) wf_X1_28 dX1_readText_12 B rfl ?_
  refine x_aload_n C dX1_readText_15 rfl ?_
  refine e_get C Y kd_X1 2 (by decide) wf_X1_9 dX1_readText_16 B rfl ?_
  refine x_iload_n C dX1_readText_19 rfl ?_
  rw [A3]
  refine X.room (kc' := 0 + 1) (ks' := 0 + s) ?_ (by omega) (by omega)
  refine k_callR (kc := 0) (ks := 0) (st := []) C Y hW E.cs (q_setTextX hW d2 (L.at d4) (fun e => (L.2 p e).2.1 rfl) Rh ⟨b2, a2, fun e => (L.2 b e).2.2.2.1 rfl, fun e => (L.2 ba e).2.2.2.2 rfl⟩ (i := i) (s := s) (by omega) hs3) rfl md_X3_setText wi_X3_setText ws_X3_setText wm_X1_140 dX1_readText_20 rfl (by decide) (by decide) d2 rfl rfl (by decide) (fun rr g hg => ?_)
  obtain ⟨rfl, lt', x1, x2, x3, x4, x5⟩ := hg
  have tq : ∀ t, lt' = .ref t → t ≠ de ∧ t ≠ p ∧ t ≠ v := fun t et => by
    rcases x1 with y | ⟨t', y1, y2⟩
    · have := L.2 t (y.symm.trans et)
      exact ⟨this.1, this.2.1, this.2.2.1⟩
    · have e9 := Value.ref.inj (y1.symm.trans et)
      subst e9
      exact ⟨fun e => absurd y2 (by rw [e, B]; exact nofun), fun e => absurd y2 (by rw [e, d2]; exact nofun), fun e => absurd y2 (by rw [e, d3]; exact nofun)⟩
  have Bg : g de = some (.inr (1, [.ref li, .ref b, .int (S.i 40), .int (S.i 39), .int fa, .int pl, .int (S.i 37)])) := by rw [x5 de n1 (fun e => (tq de e).1 rfl)]; exact B
  refine x_aload_n C dX1_readText_23 rfl ?_
  refine x_dup C dX1_readText_24 rfl ?_
  refine e_get C Y kd_X1 2 (by decide) wf_X1_9 dX1_readText_25 Bg rfl ?_
  refine x_iload_n C dX1_readText_28 rfl ?_
  refine x_iadd C dX1_readText_29 ?_
  rw [A3, nI_add]
  refine e_put C Y kd_X1 2 (by decide) rfl wf_X1_9 dX1_readText_30 Bg (Nat.le_of_ble_eq_true rfl) rfl rfl rfl ?_
  refine x_iconst (v := 1) C dX1_readText_33 (by decide) ?_
  refine x_zret C E dX1_readText_34 (by decide) (fun q e => ?_)
  rw [show q = _ from e]
  have cs : (nI s).toNatClampNeg = s := nI_clamp (by omega)
  refine Or.inl ⟨rfl, hj1, lt', ?_, ⟨fa, pl, ?_⟩, ?_, ⟨fv, ?_, fun t ht => ?_⟩, ?_, fun t ht => ?_, fun q q1 q2 q3 q4 => ?_⟩
  · rcases x1 with y | ⟨t, y1, y2⟩
    · exact Or.inl y
    · obtain ⟨t1, t2, t3⟩ := tq t y1
      exact Or.inr ⟨t, y1, by rw [← d4 t t1 t2 t3]; exact y2⟩
  · rw [hs_self, text_40 (show (S.sw 24 r (nI s).toInt64).i 40 = nI i from A3), text_i (by decide) (by decide), text_i (by decide) (by decide)]
    rfl
  · rw [hs_ne (Ne.symm n1), x2, text_w, text_w, text_33, text_a (by decide) (by decide) (by decide), text_a (by decide) (by decide) (by decide), text_a (by decide) (by decide) (by decide), text_a (by decide) (by decide) (by decide), text_a (by decide) (by decide) (by decide), MS.sw_w, if_pos ⟨rfl, rfl⟩]
    rfl
  · rw [hs_ne (Ne.symm n2), x5 v (Ne.symm n3) (fun e => (tq v e).2.2 rfl)]
    exact d3
  · rw [text_a (by decide) (by decide) (by decide)] at ht
    rw [text_a (by decide) (by decide) (by decide)]
    exact d3' t ht
  · rcases x3 with y | ⟨t, mm, fl, y1, y2, y3⟩
    · exact Or.inl y
    · exact Or.inr ⟨t, mm, fl, y1, y2, by rw [hs_ne (tq t y1).1]; exact y3⟩
  · rw [text_33, cs] at ht
    obtain ⟨t9, mm, fl, y1, y2, y3, y4⟩ := x4 (by omega)
    refine ⟨t9, mm, fl, y1, by rw [hs_ne (tq t9 y1).1]; exact y2, by omega, ?_⟩
    rw [text_32, nI_clamp htx, text_35 ht, y4 t ht, A1 _ (by omega)]
    rfl
  · rw [hs_ne q1, x5 q q2 q4]
    exact d4 q q1 q2 q3
theorem d_sizedX (hX : Wx w c) (F : FX c de p v b ba h0 fb nb) (L : LF c de p v b ba h0 lt) (D : DX c li de p v b h0 r lt S h) {i m tx : Nat} (A : DA fb nb S i m r) (h33 : S.a 33 r = 0) (htx : tx < 2 ^ 31) : T w gw yX1_readSized cX1_readSized 3 (some .boolean) 3 (40 * 3) 1 (min (ts1 fb i) (m - (i + 1))) [.ref de, .ref p] (EQ h)
    (fun q g => (q = some (.int 1) ∧ (f_valD S i m r tx (S.a 38 i).toNatClampNeg).i 41 = 0 ∧ (∃ j, i + 1 + ts1 fb i ≤ j ∧ j ≤ m ∧ (f_valD S i m r tx (S.a 38 i).toNatClampNeg).i 40 = nI j) ∧ DC c li de p v b h0 r lt (f_valD S i m r tx (S.a 38 i).toNatClampNeg) g) ∨ (q = some (.int 0) ∧ ¬ (f_valD S i m r tx (S.a 38 i).toNatClampNeg).i 41 = 0 ∧ DFx c li de p v b h0 lt g)) := by
  have hW := hX.1
  refine TA.intro hW rfl (by decide +kernel) (Nat.le_of_ble_eq_true rfl) (fun z C Y E hn h1 hA => ?_)
  rw [show h1 = h from hA]
  clear hA
  obtain ⟨⟨fa, pl, B⟩, d2, ⟨fv, d3, d3'⟩, d4⟩ := id D
  obtain ⟨A1, A2, A3, A4, A5, A6, A7, A8, A9, A10⟩ := id A
  have dw := D.df A
  have Rh := D.row F
  obtain ⟨⟨n1, n2, n3⟩, -⟩ := id F
  have e1 : S.i 40 + nI 1 ≤ S.i 39 ↔ i + 1 ≤ m := by rw [A3, A4, nI_add]; exact nI_leI (by omega) (by omega)
  refine x_aload_n C dX1_readSized_0 rfl ?_
  refine x_iconst (v := 1) C dX1_readSized_1 (by decide) ?_
  refine u_callV (st := []) C Y hW E.cs (d_areThere hW B (nI 1)) md_X1_areThere wi_X1_areThere ws_X1_areThere wm_X1_117 dX1_readSized_2 rfl (by decide) (by decide) B rfl rfl (by decide) ?_
  by_cases q2 : S.i 40 + nI 1 ≤ S.i 39
  rotate_left
  · have hj0 : ¬ i < m := fun y => q2 (e1.mpr y)
    rw [if_neg q2, bI_f q2]
    refine x_if_ne (tgt := 10) C dX1_readSized_5 (by decide) (fun q => absurd rfl q) (fun _ => ?_)
    refine x_iconst (v := 0) C dX1_readSized_8 (by decide) ?_
    exact x_zret C E dX1_readSized_9 (by decide) (fun q e => by rw [show q = _ from e]; exact Or.inr ⟨rfl, by unfold f_valD; rw [if_neg hj0]; exact bl_no A8 (by decide), dw.setD F _ _ _ _ _ A9⟩)
  rw [if_pos q2, bI_t q2]
  have hj1 := e1.mp q2
  have hj0 : i < m := hj1
  refine x_if_ne (tgt := 10) C dX1_readSized_5 (by decide) (fun _ => ?_) (fun q => absurd q (by decide))
  have tk := d_take hW B Rh
  rw [A3, rAt_in (show i < nb by omega) Rh.2.2.2, A1 i (by omega), nI_1] at tk
  refine x_aload_n C dX1_readSized_10 rfl ?_
  refine u_callV (st := []) C Y hW E.cs tk md_X1_take wi_X1_take ws_X1_take wm_X1_85 dX1_readSized_11 rfl (by decide) (by decide) B rfl rfl (by decide) ?_
  obtain ⟨V, hv, ev⟩ := A2 i
  have eV : (S.a 38 i).toNatClampNeg = V := by rw [ev, nI_clamp (by omega)]
  have ets : ts1 fb i = if V ≤ 191 then V else 0 := by
    unfold ts1
    rw [A1 i (by omega), eV]
  rw [ets, ev]
  rw [ets, eV] at E
  have D1 : DX c li de p v b h0 r lt (S.si 40 (nI (i + 1))) (hs h de (.inr (1, [.ref li, .ref b, .int (nI (i + 1)), .int (S.i 39), .int fa, .int pl, .int (S.i 37)]))) := ⟨⟨fa, pl, hs_self ..⟩, by rw [hs_ne (Ne.symm n1)]; exact d2, ⟨fv, by rw [hs_ne (Ne.symm n2)]; exact d3, d3'⟩, fun q q1 q2 q3 => by rw [hs_ne q1]; exact d4 q q1 q2 q3⟩
  have A' : DA fb nb (S.si 40 (nI (i + 1))) (i + 1) m r := ⟨A1, A2, rfl, A4, hj1, A6, A7, A8, A9, A10⟩
  have h33' : (S.si 40 (nI (i + 1))).a 33 r = 0 := h33
  change X z _ _ (EQ (hs h de (.inr (1, [.ref li, .ref b, .int (nI (i + 1)), .int (S.i 39), .int fa, .int pl, .int (S.i 37)])))) _ _ _
  generalize hS1 : S.si 40 (nI (i + 1)) = S1 at D1 A' h33'
  generalize hs h de (.inr (1, [.ref li, .ref b, .int (nI (i + 1)), .int (S.i 39), .int fa, .int pl, .int (S.i 37)])) = g at D1 ⊢
  have fd : f_valD S i m r tx V = (if f_vok V then (if i + 1 + f_vn V ≤ m then f_v3 S1 i r tx V else f_bl S1 4 (nI m)) else f_bl S1 8 (nI i)) := by unfold f_valD; rw [if_pos hj0, hS1]
  rw [fd] at E
  clear fd hS1 ev eV ets dw
  obtain ⟨⟨fa', pl', B⟩, -⟩ := id D1
  have A8' := A'.2.2.2.2.2.2.2.1
  have dw := D1.df A'
  have gt_ : ∀ {x : Nat} {k : Int32} (hx : x < 2 ^ 31), k = nI x → (k < nI V ↔ x < V) := fun hx e => by rw [e]; exact ⟨fun g => (nI_ltI hx (by omega)).mp g, fun g => nI_lt g (by omega)⟩
  refine o_istore_nE (L' := [some _, some _, some _]) C dX1_readSized_14 (by rw [hn]; decide) rfl ?_
  refine x_iload_n C dX1_readSized_15 rfl ?_
  refine x_sipush (v := 191) C dX1_readSized_16 (by decide) ?_
  refine x_icmp_gt (tgt := 29) C dX1_readSized_19 (by decide) (fun q => ?_) (fun q => ?_)
  rotate_left
  · have hv1 : V ≤ 191 := Nat.le_of_not_lt (fun g => q ((gt_ (x := 191) (by decide) rfl).mpr g))
    rw [if_pos hv1]
    rw [if_pos hv1] at E
    refine x_aload_n C dX1_readSized_22 rfl ?_
    refine x_aload_n C dX1_readSized_23 rfl ?_
    refine x_iload_n C dX1_readSized_24 rfl ?_
    refine X.room (kc' := 0 + 1) (ks' := 0 + min V (m - (i + 1))) ?_ (by omega) (by omega)
    rw [if_pos (show f_vok V from Or.inl (by omega)), show f_vn V = V from if_pos (by omega)] at E
    refine k_callR (kc := 0) (ks := 0) (st := []) C Y hW E.cs (d_textX hX F L D1 (s := V) (tx := tx) A' (by omega) htx) rfl md_X1_readText wi_X1_readText ws_X1_readText wm_X1_97 dX1_readSized_25 rfl (by decide) (by decide) B rfl rfl (by decide) (fun rr g hg => ?_)
    rcases hg with ⟨rfl, j1, Dg⟩ | ⟨rfl, j1, Dg⟩
    · refine x_zret C E dX1_readSized_28 (by decide) (fun q e => ?_)
      rw [show q = _ from e, if_pos j1, show f_v3 S1 i r tx V = f_text (S1.sw 24 r (nI V).toInt64) r tx (i + 1) V from if_pos (by omega)]
      exact Or.inl ⟨rfl, by rw [text_i (by decide) (by decide)]; exact A8', ⟨i + 1 + V, Nat.le_refl _, j1, text_40 A'.2.2.1⟩, Dg⟩
    · refine x_zret C E dX1_readSized_28 (by decide) (fun q e => ?_)
      rw [show q = _ from e, if_neg j1]
      exact Or.inr ⟨rfl, bl_no A8' (by decide), Dg⟩
  have hv1 : 191 < V := (gt_ (x := 191) (by decide) rfl).mp q
  rw [if_neg (show ¬ V ≤ 191 by omega)]
  rw [if_neg (show ¬ V ≤ 191 by omega)] at E
  refine X.room (kc' := 0) (ks' := 0) ?_ (by omega) (by omega)
  refine x_iload_n C dX1_readSized_29 rfl ?_
  refine x_sipush (v := 201) C dX1_readSized_30 (by decide) ?_
  refine x_icmp_gt (tgt := 49) C dX1_readSized_33 (by decide) (fun q => ?_) (fun q => ?_)
  rotate_left
  · have hv2 : V ≤ 201 := Nat.le_of_not_lt (fun g => q ((gt_ (x := 201) (by decide) rfl).mpr g))
    refine x_aload_n C dX1_readSized_36 rfl ?_
    refine x_aload_n C dX1_readSized_37 rfl ?_
    refine x_iload_n C dX1_readSized_38 rfl ?_
    refine x_sipush (v := 192) C dX1_readSized_39 (by decide) ?_
    refine x_isub C dX1_readSized_42 ?_
    rw [show nI V - 192 = nI (V - 192) from nI_sub' (b := 192) (by omega)]
    refine x_iconst (v := 1) C dX1_readSized_43 (by decide) ?_
    refine x_iconst (v := 0) C dX1_readSized_44 (by decide) ?_
    rw [if_pos (show f_vok V from Or.inl (by omega)), show f_vn V = V - 192 from (if_neg (by omega)).trans (if_pos (by omega))] at E
    refine k_callR (kc := 0) (ks := 0) (mc' := 0) (ms' := 0) (st := []) C Y hW E.cs (d_bcdX hX F D1 A' (s := V - 192) (by omega) (1) false (mi := 0) ⟨fun _ => rfl, fun _ => rfl⟩) rfl md_X1_readBcd wi_X1_readBcd ws_X1_readBcd wm_X1_136 dX1_readSized_45 rfl (by decide) (by decide) B rfl rfl (by decide) (fun rr g hg => ?_)
    have f3 : f_v3 S1 i r tx V = (f_digS S1 (i + 1) (V - 192) false).sw 24 r (f_dig S1 (i + 1) (V - 192) false) := by
      unfold f_v3
      rw [if_neg (show ¬ V < 192 by omega), if_pos (show V < 224 by omega), show f_vn V = V - 192 from (if_neg (by omega)).trans (if_pos (by omega)), if_pos (show V < 208 by omega)]
    rcases hg with ⟨rfl, j1, j2, Dg⟩ | ⟨rfl, j1, Dg⟩
    · refine x_zret C E dX1_readSized_48 (by decide) (fun q e => ?_)
      rw [show q = _ from e, if_pos j1, f3]
      have ed : f_digS S1 (i + 1) (V - 192) false = S1.si 40 (nI (i + 1 + (V - 192))) := by unfold f_digS; rw [mi_f, dg_ok _ j2]
      rw [ed]
      exact Or.inl ⟨rfl, A8', ⟨i + 1 + (V - 192), by omega, j1, rfl⟩, Dg.dc L rfl rfl rfl (by
          rw [MS.sw_w, if_pos ⟨rfl, rfl⟩]
          exact ((show (1 : Int32).toInt64 * f_dv S1 (i + 1) (V - 192) false (V - 192) 0 = f_dig S1 (i + 1) (V - 192) false by
              unfold f_dig
              rw [mi_f, if_neg (by decide)]
              show (1 : Int64) * _ = _
              grind)).symm) rfl (fun _ _ _ _ => rfl) h33'⟩
    · refine x_zret C E dX1_readSized_48 (by decide) (fun q e => ?_)
      rw [show q = _ from e, f3]
      refine Or.inr ⟨rfl, ?_, Dg⟩
      by_cases q9 : i + 1 + (V - 192) ≤ m
      · rw [if_pos q9]
        have := dg_bad (mi := false) A8' _ (j1.resolve_left (fun y => y q9))
        unfold f_digS
        rw [mi_f, MS.sw_i, MS.si_i, if_neg (by decide)]
        exact this
      · rw [if_neg q9]
        exact bl_no A8' (by decide)
  have hv2 : 201 < V := (gt_ (x := 201) (by decide) rfl).mp q
  have T101 : ¬ f_vok V → X z 0 0 (EQ g) 101 [some (.ref de), some (.ref p), some (.int (nI V))] [] := fun nok => by
    rw [if_neg nok] at E
    refine x_aload_n C dX1_readSized_101 rfl ?_
    refine x_bipush (v := 8) C dX1_readSized_102 (by decide) ?_
    refine x_aload_n C dX1_readSized_104 rfl ?_
    refine e_get C Y kd_X1 2 (by decide) wf_X1_9 dX1_readSized_105 B rfl ?_
    refine x_iconst (v := 1) C dX1_readSized_108 (by decide) ?_
    refine x_isub C dX1_readSized_109 ?_
    refine u_callV (st := []) C Y hW E.cs (d_wrong hW B 8 _) md_X1_wrong wi_X1_wrong ws_X1_wrong wm_X1_67 dX1_readSized_110 rfl (by decide) (by decide) B rfl rfl (by decide) ?_
    exact x_zret C E dX1_readSized_113 (by decide) (fun q e => by rw [show q = _ from e]; exact Or.inr ⟨rfl, bl_no A8' (by decide), dw.setD F _ _ _ _ _ A'.2.2.2.2.2.2.2.2.1⟩)
  have lt_ : ∀ {x : Nat} {k : Int32} (hx : x < 2 ^ 31), k = nI x → (nI V < k ↔ V < x) := fun hx e => by rw [e]; exact ⟨fun g => (nI_ltI (by omega) hx).mp g, fun g => nI_lt g hx⟩
  have T76 : ¬ (208 ≤ V ∧ V ≤ 217) → X z 0 0 (EQ g) 76 [some (.ref de), some (.ref p), some (.int (nI V))] [] := fun nok => by
    refine x_iload_n C dX1_readSized_76 rfl ?_
    refine x_sipush (v := 224) C dX1_readSized_77 (by decide) ?_
    refine x_icmp_lt (tgt := 101) C dX1_readSized_80 (by decide) (fun q1 => T101 (fun y => by have := (lt_ (x := 224) (by decide) rfl).mp q1; rcases y with y | y | y <;> omega)) (fun q1 => ?_)
    refine x_iload_n C dX1_readSized_83 rfl ?_
    refine x_sipush (v := 232) C dX1_readSized_84 (by decide) ?_
    refine x_icmp_gt (tgt := 101) C dX1_readSized_87 (by decide) (fun q1 => T101 (fun y => by have := (gt_ (x := 232) (by decide) rfl).mp q1; rcases y with y | y | y <;> omega)) (fun q2 => ?_)
    have w1 : 224 ≤ V := Nat.le_of_not_lt (fun g => q1 ((lt_ (x := 224) (by decide) rfl).mpr g))
    have w2 : V ≤ 232 := Nat.le_of_not_lt (fun g => q2 ((gt_ (x := 232) (by decide) rfl).mpr g))
    refine x_aload_n C dX1_readSized_90 rfl ?_
    refine x_aload_n C dX1_readSized_91 rfl ?_
    refine x_iload_n C dX1_readSized_92 rfl ?_
    refine x_sipush (v := 224) C dX1_readSized_93 (by decide) ?_
    refine x_isub C dX1_readSized_96 ?_
    rw [show nI V - 224 = nI (V - 224) from nI_sub' (b := 224) w1]
    rw [if_pos (show f_vok V from Or.inr (Or.inr ⟨w1, w2⟩)), show f_vn V = V - 224 from (if_neg (by omega)).trans ((if_neg (by omega)).trans (if_neg (by omega)))] at E
    refine k_callR (kc := 0) (ks := 0) (mc' := 0) (ms' := 0) (st := []) C Y hW E.cs (d_numberX hW F D1 A' (s := V - 224) (by omega)) rfl md_X1_readNumber wi_X1_readNumber ws_X1_readNumber wm_X1_127 dX1_readSized_97 rfl (by decide) (by decide) B rfl rfl (by decide) (fun rr g hg => ?_)
    have f3 : f_v3 S1 i r tx V = (S1.si 40 (nI (i + 1 + (V - 224)))).sw 24 r (f_whole S1 (i + 1) (V - 224)) := by
      unfold f_v3
      rw [if_neg (show ¬ V < 192 by omega), if_neg (show ¬ V < 224 by omega), show f_vn V = V - 224 from (if_neg (by omega)).trans ((if_neg (by omega)).trans (if_neg (by omega)))]
    rcases hg with ⟨rfl, j1, Dg⟩ | ⟨rfl, j1, Dg⟩
    · refine x_zret C E dX1_readSized_100 (by decide) (fun q e => ?_)
      rw [show q = _ from e, if_pos j1, f3]
      exact Or.inl ⟨rfl, A8', ⟨i + 1 + (V - 224), by omega, j1, rfl⟩, Dg.dc L rfl rfl rfl (by rw [MS.sw_w, if_pos ⟨rfl, rfl⟩]) rfl (fun _ _ _ _ => rfl) h33'⟩
    · refine x_zret C E dX1_readSized_100 (by decide) (fun q e => ?_)
      rw [show q = _ from e, if_neg j1]
      exact Or.inr ⟨rfl, bl_no A8' (by decide), Dg⟩
  refine x_iload_n C dX1_readSized_49 rfl ?_
  refine x_sipush (v := 208) C dX1_readSized_50 (by decide) ?_
  refine x_icmp_lt (tgt := 76) C dX1_readSized_53 (by decide) (fun q1 => T76 (fun y => by have := (lt_ (x := 208) (by decide) rfl).mp q1; omega)) (fun q1 => ?_)
  refine x_iload_n C dX1_readSized_56 rfl ?_
  refine x_sipush (v := 217) C dX1_readSized_57 (by decide) ?_
  refine x_icmp_gt (tgt := 76) C dX1_readSized_60 (by decide) (fun q1 => T76 (fun y => by have := (gt_ (x := 217) (by decide) rfl).mp q1; omega)) (fun q2 => ?_)
  have w1 : 208 ≤ V := Nat.le_of_not_lt (fun g => q1 ((lt_ (x := 208) (by decide) rfl).mpr g))
  have w2 : V ≤ 217 := Nat.le_of_not_lt (fun g => q2 ((gt_ (x := 217) (by decide) rfl).mpr g))
  refine x_aload_n C dX1_readSized_63 rfl ?_
  refine x_aload_n C dX1_readSized_64 rfl ?_
  refine x_iload_n C dX1_readSized_65 rfl ?_
  refine x_sipush (v := 208) C dX1_readSized_66 (by decide) ?_
  refine x_isub C dX1_readSized_69 ?_
  rw [show nI V - 208 = nI (V - 208) from nI_sub' (b := 208) w1]
  refine x_iconst (v := -1) C dX1_readSized_70 (by decide) ?_
  refine x_iconst (v := 0) C dX1_readSized_71 (by decide) ?_
  rw [if_pos (show f_vok V from Or.inr (Or.inl ⟨by omega, by omega⟩)), show f_vn V = V - 208 from (if_neg (by omega)).trans ((if_neg (by omega)).trans (if_pos (by omega)))] at E
  refine k_callR (kc := 0) (ks := 0) (mc' := 0) (ms' := 0) (st := []) C Y hW E.cs (d_bcdX hX F D1 A' (s := V - 208) (by omega) (-1) false (mi := 0) ⟨fun _ => rfl, fun _ => rfl⟩) rfl md_X1_readBcd wi_X1_readBcd ws_X1_readBcd wm_X1_136 dX1_readSized_72 rfl (by decide) (by decide) B rfl rfl (by decide) (fun rr g hg => ?_)
  have f3 : f_v3 S1 i r tx V = (f_digS S1 (i + 1) (V - 208) false).sw 24 r (-(f_dig S1 (i + 1) (V - 208) false)) := by
    unfold f_v3
    rw [if_neg (show ¬ V < 192 by omega), if_pos (show V < 224 by omega), show f_vn V = V - 208 from (if_neg (by omega)).trans ((if_neg (by omega)).trans (if_pos (by omega))), if_neg (show ¬ V < 208 by omega)]
  rcases hg with ⟨rfl, j1, j2, Dg⟩ | ⟨rfl, j1, Dg⟩
  · refine x_zret C E dX1_readSized_75 (by decide) (fun q e => ?_)
    rw [show q = _ from e, if_pos j1, f3]
    have ed : f_digS S1 (i + 1) (V - 208) false = S1.si 40 (nI (i + 1 + (V - 208))) := by unfold f_digS; rw [mi_f, dg_ok _ j2]
    rw [ed]
    exact Or.inl ⟨rfl, A8', ⟨i + 1 + (V - 208), by omega, j1, rfl⟩, Dg.dc L rfl rfl rfl (by
        rw [MS.sw_w, if_pos ⟨rfl, rfl⟩]
        exact ((show (-1 : Int32).toInt64 * f_dv S1 (i + 1) (V - 208) false (V - 208) 0 = -(f_dig S1 (i + 1) (V - 208) false) by
            unfold f_dig
            rw [mi_f, if_neg (by decide)]
            exact neg_ring _)).symm) rfl (fun _ _ _ _ => rfl) h33'⟩
  · refine x_zret C E dX1_readSized_75 (by decide) (fun q e => ?_)
    rw [show q = _ from e, f3]
    refine Or.inr ⟨rfl, ?_, Dg⟩
    by_cases q9 : i + 1 + (V - 208) ≤ m
    · rw [if_pos q9]
      have := dg_bad (mi := false) A8' _ (j1.resolve_left (fun y => y q9))
      unfold f_digS
      rw [mi_f, MS.sw_i, MS.si_i, if_neg (by decide)]
      exact this
    · rw [if_neg q9]
      exact bl_no A8' (by decide)
end Dec
end
section
/-! The decoder against the model: a value. -/
section Dec
variable {w : Wd} {c : Nat → ClassId} {h h0 g : PH} {li de p v b ba nb r : Nat} {fb : Nat → Int32} {lt : Value} {S : MS}
theorem d_valueX (hX : Wx w c) (F : FX c de p v b ba h0 fb nb) (L : LF c de p v b ba h0 lt) (D : DX c li de p v b h0 r lt S h) {i m cc : Nat} (A : DA fb nb S i m r) (h33 : S.a 33 r = 0) (h25 : S.a 25 r = nI cc) (hcc : cc ≤ 14) (er : f_r S = r) (htx : f_tx S < 2 ^ 31) (sta : Int32) : T w gw yX1_readValue cX1_readValue 4 (some .boolean) 4 (40 * 4) 1 (min (tsv fb (nI cc) i) (m - i)) [.ref de, .ref p, .int sta] (EQ h)
    (fun q g => (q = some (.int 1) ∧ cc ≠ 8 ∧ (f_value S cc).i 41 = 0 ∧ (∃ j, i + tsv fb (nI cc) i ≤ j ∧ j ≤ m ∧ (f_value S cc).i 40 = nI j) ∧ DC c li de p v b h0 r lt (f_value S cc) g) ∨ (q = some (.int 0) ∧ (cc = 8 ∨ ¬ (f_value S cc).i 41 = 0) ∧ DFx c li de p v b h0 lt g)) := by
  have hW := hX.1
  refine TA.intro hW rfl (by decide +kernel) (Nat.le_of_ble_eq_true rfl) (fun z C Y E hn h1 hA => ?_)
  rw [show h1 = h from hA]
  clear hA
  obtain ⟨⟨fa, pl, B⟩, Bp, ⟨fv0, d3, d3'⟩, d4⟩ := id D
  obtain ⟨A1, A2, A3, A4, A5, A6, A7, A8, A9, A10⟩ := id A
  have dw := D.df A
  rw [h25] at Bp
  obtain ⟨-, fat, fen⟩ := WFp.of A3 A4 A5 (by omega)
  have fN : cc ≠ 13 → f_value S cc = f_valN S i m r cc (f_size cc) := fun n => by unfold f_value; rw [if_neg n, fat, fen, er]
  refine x_aload_n C dX1_readValue_0 rfl ?_
  refine u_callV (st := []) C Y hW E.cs (q_codeOf hW Bp) md_X3_codeOf wi_X3_codeOf ws_X3_codeOf wm_X1_101 dX1_readValue_1 rfl (by decide) (by decide) Bp rfl rfl (by decide) ?_
  refine o_istore_nE (L' := [some _, some _, some _, some _]) C dX1_readValue_4 (by rw [hn]; decide) rfl ?_
  refine x_iload_n C dX1_readValue_5 rfl ?_
  have Tnum : ∀ (s pc : Nat) (x : Int32), s ≤ 8 → tsv fb (nI cc) i = 0 → x = nI s → cc < 8 → f_size cc = s → decode cX1_readValue pc = .ok (.invokevirtual 127, 3) → decode cX1_readValue (pc + 3) = .ok (.ireturn, 1) → X z 0 0 (EQ h) pc [some (.ref de), some (.ref p), some (.int sta), some (.int (nI cc))] [.int x, .ref p, .ref de] := fun s pc x hs8 ht ex c8 es d1 d2 => by
    subst ex
    have fv := fN (by omega)
    rw [es] at fv
    unfold f_valN at fv
    rw [if_pos c8] at fv
    refine k_callR (kc := 0) (ks := 0) (mc' := 0) (ms' := 0) (st := []) C Y hW E.cs (d_numberX hW F D A (s := s) hs8) rfl md_X1_readNumber wi_X1_readNumber ws_X1_readNumber wm_X1_127 d1 rfl (by decide) (by decide) B rfl rfl (by decide) (fun rr g hg => ?_)
    rcases hg with ⟨rfl, j1, Dg⟩ | ⟨rfl, j1, Dg⟩
    · refine x_zret C E d2 (by decide) (fun q e => ?_)
      rw [if_pos j1] at fv
      rw [show q = _ from e, fv]
      exact Or.inl ⟨rfl, by omega, A8, ⟨i + s, by omega, j1, rfl⟩, Dg.dc L rfl rfl rfl (by rw [MS.sw_w, if_pos ⟨rfl, rfl⟩]) rfl (fun _ _ _ _ => rfl) h33⟩
    · refine x_zret C E d2 (by decide) (fun q e => ?_)
      rw [if_neg j1] at fv
      rw [show q = _ from e, fv]
      exact Or.inr ⟨rfl, Or.inr (bl_no A8 (by decide)), Dg⟩
  have Tbcd : ∀ (s pc : Nat) (x : Int32), 1 ≤ s → s ≤ 9 → tsv fb (nI cc) i = 0 → x = nI s → 8 < cc → cc ≠ 13 → f_size cc = s → decode cX1_readValue pc = .ok (.invokevirtual 130, 3) → decode cX1_readValue (pc + 3) = .ok (.ireturn, 1) → X z 0 0 (EQ h) pc [some (.ref de), some (.ref p), some (.int sta), some (.int (nI cc))] [.int x, .ref p, .ref de] := fun s pc x hs1 hs8 ht ex c8 c13 es d1 d2 => by
    subst ex
    have fv := fN c13
    rw [es] at fv
    unfold f_valN at fv
    rw [if_neg (show ¬ cc < 8 by omega)] at fv
    refine k_callR (kc := 0) (ks := 0) (mc' := 0) (ms' := 0) (st := []) C Y hW E.cs (d_signedX hX F D A hs1 hs8) rfl md_X1_readSignedBcd wi_X1_readSignedBcd ws_X1_readSignedBcd wm_X1_130 d1 rfl (by decide) (by decide) B rfl rfl (by decide) (fun rr g hg => ?_)
    rcases hg with ⟨rfl, j1, j2, Dg⟩ | ⟨rfl, j1, Dg⟩
    · refine x_zret C E d2 (by decide) (fun q e => ?_)
      rw [if_pos j1] at fv
      unfold f_digS at fv
      rw [dg_ok _ j2] at fv
      rw [show q = _ from e, fv]
      exact Or.inl ⟨rfl, by omega, A8, ⟨i + s, by omega, j1, rfl⟩, Dg.dc L rfl rfl rfl (by rw [MS.sw_w, if_pos ⟨rfl, rfl⟩]) rfl (fun _ _ _ _ => rfl) h33⟩
    · refine x_zret C E d2 (by decide) (fun q e => ?_)
      rw [show q = _ from e]
      refine Or.inr ⟨rfl, Or.inr ?_, Dg⟩
      rw [fv]
      by_cases q9 : i + s ≤ m
      · rw [if_pos q9]
        have := dg_bad A8 _ (j1.resolve_left (fun y => y q9))
        unfold f_digS
        rw [MS.sw_i, MS.si_i, if_neg (by decide)]
        exact this
      · rw [if_neg q9]
        exact bl_no A8 (by decide)
  have Tdef : cc = 8 → X z 0 0 (EQ h) 136 [some (.ref de), some (.ref p), some (.int sta), some (.int (nI cc))] [] := fun c8 => by
    refine x_aload_n C dX1_readValue_136 rfl ?_
    refine x_bipush (v := 9) C dX1_readValue_137 (by decide) ?_
    refine x_iload_n C dX1_readValue_139 rfl ?_
    refine u_callV (st := []) C Y hW E.cs (d_wrong hW B 9 _) md_X1_wrong wi_X1_wrong ws_X1_wrong wm_X1_67 dX1_readValue_140 rfl (by decide) (by decide) B rfl rfl (by decide) ?_
    exact x_zret C E dX1_readValue_143 (by decide) (fun q e => by rw [show q = _ from e]; exact Or.inr ⟨rfl, Or.inl c8, dw.setD F _ _ _ _ _ A9⟩)
  rcases (show cc = 0 ∨ cc = 1 ∨ cc = 2 ∨ cc = 3 ∨ cc = 4 ∨ cc = 5 ∨ cc = 6 ∨ cc = 7 ∨ cc = 8 ∨ cc = 9 ∨ cc = 10 ∨ cc = 11 ∨ cc = 12 ∨ cc = 13 ∨ cc = 14 by omega) with rfl | rfl | rfl | rfl | rfl | rfl | rfl | rfl | rfl | rfl | rfl | rfl | rfl | rfl | rfl
  · refine x_tblIn (tgt := 80) (off := 74) C dX1_readValue_6 (by decide) (by decide) (by decide) (by decide) ?_
    refine x_iconst (v := 1) C dX1_readValue_80 (by decide) ?_
    refine x_zret C E dX1_readValue_81 (by decide) (fun q e => ?_)
    rw [show q = _ from e]
    have fv := fN (by decide)
    unfold f_valN at fv
    rw [if_pos (show 0 < 8 by decide), show f_size 0 = 0 from rfl, if_pos (show i + 0 ≤ m by omega)] at fv
    rw [fv]
    have Dv : DVx c li de p v b h0 r lt S 0 (nI i) h := ⟨⟨fa, pl, by rw [← A3]; exact B⟩, by rw [h25]; exact Bp, ⟨fv0, d3, d3'⟩, d4⟩
    exact Or.inl ⟨rfl, by decide, A8, ⟨i, by rw [show tsv fb _ i = 0 from if_neg (by decide)]; omega, A5, rfl⟩, Dv.dc L rfl rfl rfl (by rw [MS.sw_w, if_pos ⟨rfl, rfl⟩]; rfl) rfl (fun _ _ _ _ => rfl) h33⟩
  · refine x_tblIn (tgt := 82) (off := 76) C dX1_readValue_6 (by decide) (by decide) (by decide) (by decide) ?_
    refine X.room (kc' := 0) (ks' := 0) ?_ (Nat.zero_le _) (Nat.zero_le _)
    refine x_aload_n C dX1_readValue_82 rfl ?_
    refine x_aload_n C dX1_readValue_83 rfl ?_
    refine x_iload_n C dX1_readValue_84 rfl ?_
    exact Tnum 1 85 _ (by decide) (show tsv fb _ i = 0 from if_neg (by decide)) rfl (by decide) rfl dX1_readValue_85 dX1_readValue_88
  · refine x_tblIn (tgt := 82) (off := 76) C dX1_readValue_6 (by decide) (by decide) (by decide) (by decide) ?_
    refine X.room (kc' := 0) (ks' := 0) ?_ (Nat.zero_le _) (Nat.zero_le _)
    refine x_aload_n C dX1_readValue_82 rfl ?_
    refine x_aload_n C dX1_readValue_83 rfl ?_
    refine x_iload_n C dX1_readValue_84 rfl ?_
    exact Tnum 2 85 _ (by decide) (show tsv fb _ i = 0 from if_neg (by decide)) rfl (by decide) rfl dX1_readValue_85 dX1_readValue_88
  · refine x_tblIn (tgt := 82) (off := 76) C dX1_readValue_6 (by decide) (by decide) (by decide) (by decide) ?_
    refine X.room (kc' := 0) (ks' := 0) ?_ (Nat.zero_le _) (Nat.zero_le _)
    refine x_aload_n C dX1_readValue_82 rfl ?_
    refine x_aload_n C dX1_readValue_83 rfl ?_
    refine x_iload_n C dX1_readValue_84 rfl ?_
    exact Tnum 3 85 _ (by decide) (show tsv fb _ i = 0 from if_neg (by decide)) rfl (by decide) rfl dX1_readValue_85 dX1_readValue_88
  · refine x_tblIn (tgt := 82) (off := 76) C dX1_readValue_6 (by decide) (by decide) (by decide) (by decide) ?_
    refine X.room (kc' := 0) (ks' := 0) ?_ (Nat.zero_le _) (Nat.zero_le _)
    refine x_aload_n C dX1_readValue_82 rfl ?_
    refine x_aload_n C dX1_readValue_83 rfl ?_
    refine x_iload_n C dX1_readValue_84 rfl ?_
    exact Tnum 4 85 _ (by decide) (show tsv fb _ i = 0 from if_neg (by decide)) rfl (by decide) rfl dX1_readValue_85 dX1_readValue_88
  · refine x_tblIn (tgt := 89) (off := 83) C dX1_readValue_6 (by decide) (by decide) (by decide) (by decide) ?_
    refine X.room (kc' := 0) (ks' := 0) ?_ (Nat.zero_le _) (Nat.zero_le _)
    refine x_aload_n C dX1_readValue_89 rfl ?_
    refine x_aload_n C dX1_readValue_90 rfl ?_
    refine x_iconst (v := 4) C dX1_readValue_91 (by decide) ?_
    exact Tnum 4 92 _ (by decide) (show tsv fb _ i = 0 from if_neg (by decide)) rfl (by decide) rfl dX1_readValue_92 dX1_readValue_95
  · refine x_tblIn (tgt := 96) (off := 90) C dX1_readValue_6 (by decide) (by decide) (by decide) (by decide) ?_
    refine X.room (kc' := 0) (ks' := 0) ?_ (Nat.zero_le _) (Nat.zero_le _)
    refine x_aload_n C dX1_readValue_96 rfl ?_
    refine x_aload_n C dX1_readValue_97 rfl ?_
    refine x_bipush (v := 6) C dX1_readValue_98 (by decide) ?_
    exact Tnum 6 100 _ (by decide) (show tsv fb _ i = 0 from if_neg (by decide)) rfl (by decide) rfl dX1_readValue_100 dX1_readValue_103
  · refine x_tblIn (tgt := 104) (off := 98) C dX1_readValue_6 (by decide) (by decide) (by decide) (by decide) ?_
    refine X.room (kc' := 0) (ks' := 0) ?_ (Nat.zero_le _) (Nat.zero_le _)
    refine x_aload_n C dX1_readValue_104 rfl ?_
    refine x_aload_n C dX1_readValue_105 rfl ?_
    refine x_bipush (v := 8) C dX1_readValue_106 (by decide) ?_
    exact Tnum 8 108 _ (by decide) (show tsv fb _ i = 0 from if_neg (by decide)) rfl (by decide) rfl dX1_readValue_108 dX1_readValue_111
  · refine x_tblIn (tgt := 136) (off := 130) C dX1_readValue_6 (by decide) (by decide) (by decide) (by decide) ?_
    exact (Tdef rfl).room (Nat.zero_le _) (Nat.zero_le _)
  · refine x_tblIn (tgt := 112) (off := 106) C dX1_readValue_6 (by decide) (by decide) (by decide) (by decide) ?_
    refine X.room (kc' := 0) (ks' := 0) ?_ (Nat.zero_le _) (Nat.zero_le _)
    refine x_aload_n C dX1_readValue_112 rfl ?_
    refine x_aload_n C dX1_readValue_113 rfl ?_
    refine x_iload_n C dX1_readValue_114 rfl ?_
    refine x_bipush (v := 8) C dX1_readValue_115 (by decide) ?_
    refine x_isub C dX1_readValue_117 ?_
    exact Tbcd 1 118 _ (by decide) (by decide) (show tsv fb _ i = 0 from if_neg (by decide)) (by decide) (by decide) (by decide) rfl dX1_readValue_118 dX1_readValue_121
  · refine x_tblIn (tgt := 112) (off := 106) C dX1_readValue_6 (by decide) (by decide) (by decide) (by decide) ?_
    refine X.room (kc' := 0) (ks' := 0) ?_ (Nat.zero_le _) (Nat.zero_le _)
    refine x_aload_n C dX1_readValue_112 rfl ?_
    refine x_aload_n C dX1_readValue_113 rfl ?_
    refine x_iload_n C dX1_readValue_114 rfl ?_
    refine x_bipush (v := 8) C dX1_readValue_115 (by decide) ?_
    refine x_isub C dX1_readValue_117 ?_
    exact Tbcd 2 118 _ (by decide) (by decide) (show tsv fb _ i = 0 from if_neg (by decide)) (by decide) (by decide) (by decide) rfl dX1_readValue_118 dX1_readValue_121
  · refine x_tblIn (tgt := 112) (off := 106) C dX1_readValue_6 (by decide) (by decide) (by decide) (by decide) ?_
    refine X.room (kc' := 0) (ks' := 0) ?_ (Nat.zero_le _) (Nat.zero_le _)
    refine x_aload_n C dX1_readValue_112 rfl ?_
    refine x_aload_n C dX1_readValue_113 rfl ?_
    refine x_iload_n C dX1_readValue_114 rfl ?_
    refine x_bipush (v := 8) C dX1_readValue_115 (by decide) ?_
    refine x_isub C dX1_readValue_117 ?_
    exact Tbcd 3 118 _ (by decide) (by decide) (show tsv fb _ i = 0 from if_neg (by decide)) (by decide) (by decide) (by decide) rfl dX1_readValue_118 dX1_readValue_121
  · refine x_tblIn (tgt := 112) (off := 106) C dX1_readValue_6 (by decide) (by decide) (by decide) (by decide) ?_
    refine X.room (kc' := 0) (ks' := 0) ?_ (Nat.zero_le _) (Nat.zero_le _)
    refine x_aload_n C dX1_readValue_112 rfl ?_
    refine x_aload_n C dX1_readValue_113 rfl ?_
    refine x_iload_n C dX1_readValue_114 rfl ?_
    refine x_bipush (v := 8) C dX1_readValue_115 (by decide) ?_
    refine x_isub C dX1_readValue_117 ?_
    exact Tbcd 4 118 _ (by decide) (by decide) (show tsv fb _ i = 0 from if_neg (by decide)) (by decide) (by decide) (by decide) rfl dX1_readValue_118 dX1_readValue_121
  · refine x_tblIn (tgt := 130) (off := 124) C dX1_readValue_6 (by decide) (by decide) (by decide) (by decide) ?_
    have e13 : tsv fb (nI 13) i = ts1 fb i := if_pos rfl
    rw [e13]
    rw [e13] at E
    refine x_aload_n C dX1_readValue_130 rfl ?_
    refine x_aload_n C dX1_readValue_131 rfl ?_
    refine X.room (kc' := 0 + 1) (ks' := 0 + min (ts1 fb i) (m - (i + 1))) ?_ (by omega) (by omega)
    have f13 : f_value S 13 = f_valD S i m r (f_tx S) (S.a 38 i).toNatClampNeg := by unfold f_value; rw [if_pos rfl, fat, fen, er]
    refine k_callR (kc := 0) (ks := 0) (st := []) C Y hW E.cs (d_sizedX hX F L D A h33 htx) rfl md_X1_readSized wi_X1_readSized ws_X1_readSized wm_X1_133 dX1_readValue_132 rfl (by decide) (by decide) B rfl rfl (by decide) (fun rr g hg => ?_)
    rw [← f13] at hg
    rcases hg with ⟨rfl, j1, ⟨j, j2, j3, j4⟩, Dg⟩ | ⟨rfl, j1, Dg⟩
    · exact x_zret C E dX1_readValue_135 (by decide) (fun q e => by rw [show q = _ from e]; exact Or.inl ⟨rfl, by decide, j1, ⟨j, by omega, j3, j4⟩, Dg⟩)
    · exact x_zret C E dX1_readValue_135 (by decide) (fun q e => by rw [show q = _ from e]; exact Or.inr ⟨rfl, Or.inr j1, Dg⟩)
  · refine x_tblIn (tgt := 122) (off := 116) C dX1_readValue_6 (by decide) (by decide) (by decide) (by decide) ?_
    refine X.room (kc' := 0) (ks' := 0) ?_ (Nat.zero_le _) (Nat.zero_le _)
    refine x_aload_n C dX1_readValue_122 rfl ?_
    refine x_aload_n C dX1_readValue_123 rfl ?_
    refine x_bipush (v := 6) C dX1_readValue_124 (by decide) ?_
    exact Tbcd 6 126 _ (by decide) (by decide) (show tsv fb _ i = 0 from if_neg (by decide)) rfl (by decide) (by decide) rfl dX1_readValue_126 dX1_readValue_129
end Dec
end
