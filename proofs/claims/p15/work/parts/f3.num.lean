/-! The decoder against the model: numbers and digits. -/
/-- the draft with a value, its decoder's place at j -/
def DVx (c : Nat → ClassId) (li de p v b : Nat) (h0 : PH) (r : Nat) (lt : Value) (S : MS) (x : Int64) (j : Int32) (h : PH) : Prop :=
  (∃ fa pl : Int32, h de = some (.inr (1, [.ref li, .ref b, .int j, .int (S.i 39), .int fa, .int pl, .int (S.i 37)]))) ∧ h p = some (.inr (3, rdL x (S.a 25 r) (S.a 26 r) (S.w 27 r) (S.a 28 r) (S.a 29 r) v (S.a 30 r) lt 0)) ∧
  (∃ fv : Nat → Int32, h v = some (.inl (c 0, 11, .inl fv)) ∧ ∀ j, j < (S.a 30 r).toNatClampNeg → fv j = S.a 31 (11 * r + j)) ∧ ∀ q, q ≠ de → q ≠ p → q ≠ v → h q = h0 q
/-- the digits' sum, the lowest first -/
def dgt (S : MS) (a m : Nat) (mi : Bool) (k : Nat) : Int64 := (if mi = true ∧ k + 1 = m then (0 : Int32) else 10 * (S.a 38 (a + k) >>> ((4 : Int32) &&& 31))).toInt64 + (S.a 38 (a + k) &&& 15).toInt64
def pw100 : Nat → Int64
  | 0 => 1
  | k + 1 => pw100 k * 100
def csum (S : MS) (a m : Nat) (mi : Bool) : Nat → Int64
  | 0 => 0
  | k + 1 => csum S a m mi k + pw100 k * dgt S a m mi k
theorem dv_ring (p v h l c : Int64) : (p * (100 * v + h + l)) + c = (p * 100) * v + (c + p * (h + l)) := by grind
theorem neg_ring (x : Int64) : (-1 : Int64) * x = -x := by grind
theorem dv_eq (S : MS) (a m : Nat) (mi : Bool) : ∀ k v, f_dv S a m mi k v = pw100 k * v + csum S a m mi k
  | 0, v => by
    show v = 1 * v + 0
    grind
  | k + 1, v => by
    rw [f_dv, dv_eq S a m mi k, dv_ring]
    rfl
theorem dv_0 (S : MS) (a m : Nat) (mi : Bool) (k : Nat) : f_dv S a m mi k 0 = csum S a m mi k := by
  rw [dv_eq]
  grind
theorem dg_a : ∀ b, b < 256 → (((nI b >>> ((4 : Int32) &&& 31)) * 10 + (nI b &&& 15)).toInt64 = (10 * (nI b >>> ((4 : Int32) &&& 31))).toInt64 + (nI b &&& 15).toInt64) := by decide +kernel
theorem dg_b : ∀ b, b < 256 → ((((nI b &&& 15) >>> ((4 : Int32) &&& 31)) * 10 + ((nI b &&& 15) &&& 15)).toInt64 = (0 : Int32).toInt64 + (nI b &&& 15).toInt64) := by decide +kernel
theorem dg_c : ∀ b, b < 256 → (g_dig (nI b) 8 = true ↔ ¬ (9 < nI b &&& 15) ∧ nI b >>> ((4 : Int32) &&& 31) ≤ 9) := by decide +kernel
theorem dg_d : ∀ b, b < 256 → (g_dig (nI b &&& 15) 8 = true ↔ ¬ (9 < nI b &&& 15)) := by decide +kernel
section Dec
variable {w : Wd} {c : Nat → ClassId} {h h0 : PH} {li de p v b ba nb r : Nat} {fb : Nat → Int32} {lt : Value} {S : MS}
theorem DX.row (D : DX c li de p v b h0 r lt S h) (F : FX c de p v b ba h0 fb nb) : RW c h b ba fb nb := F.row D.2.2.2
theorem DX.fin (D : DX c li de p v b h0 r lt S h) (F : FX c de p v b ba h0 fb nb) {fa pl : Int32} (x : Int64) (j : Int32) : DVx c li de p v b h0 r lt S x j (hs (hs h p (.inr (3, rdL x (S.a 25 r) (S.a 26 r) (S.w 27 r) (S.a 28 r) (S.a 29 r) v (S.a 30 r) lt 0))) de (.inr (1, [.ref li, .ref b, .int j, .int (S.i 39), .int fa, .int pl, .int (S.i 37)]))) := by
  obtain ⟨⟨n1, n2, n3⟩, -⟩ := F
  obtain ⟨-, -, ⟨fv, d3, d3'⟩, d4⟩ := D
  exact ⟨⟨fa, pl, hs_self ..⟩, by rw [hs_ne (Ne.symm n1), hs_self], ⟨fv, by rw [hs_ne (Ne.symm n2), hs_ne (Ne.symm n3)]; exact d3, d3'⟩, fun q q1 q2 q3 => by rw [hs_ne q1, hs_ne q2]; exact d4 q q1 q2 q3⟩
theorem d_numberX (hW : Wc w c) (F : FX c de p v b ba h0 fb nb) (D : DX c li de p v b h0 r lt S h) {i m s : Nat} (A : DA fb nb S i m r) (hs8 : s ≤ 8) : T w gw yX1_readNumber cX1_readNumber 7 (some .boolean) 2 (40 * 2) 0 0 [.ref de, .ref p, .int (nI s)] (EQ h)
    (fun q g => (q = some (.int 1) ∧ i + s ≤ m ∧ DVx c li de p v b h0 r lt S (f_whole S i s) (nI (i + s)) g) ∨ (q = some (.int 0) ∧ ¬ i + s ≤ m ∧ DFx c li de p v b h0 lt g)) := by
  refine TA.intro hW rfl (by decide +kernel) (Nat.le_of_ble_eq_true rfl) (fun z C Y E hn h1 hA => ?_)
  rw [show h1 = h from hA]
  clear hA
  obtain ⟨⟨fa, pl, B⟩, d2, ⟨fv, d3, d3'⟩, d4⟩ := id D
  obtain ⟨A1, A2, A3, A4, A5, A6, A7, A8, A9, A10⟩ := id A
  have dw := D.df A
  have Rh := D.row F
  have e1 : S.i 40 + nI s ≤ S.i 39 ↔ i + s ≤ m := by rw [A3, A4, nI_add]; exact nI_leI (by omega) (by omega)
  refine x_aload_n C dX1_readNumber_0 rfl ?_
  refine x_iload_n C dX1_readNumber_1 rfl ?_
  refine u_callV (st := []) C Y hW E.cs (d_areThere hW B (nI s)) md_X1_areThere wi_X1_areThere ws_X1_areThere wm_X1_117 dX1_readNumber_2 rfl (by decide) (by decide) B rfl rfl (by decide) ?_
  by_cases q2 : S.i 40 + nI s ≤ S.i 39
  rotate_left
  · rw [if_neg q2, bI_f q2]
    refine x_if_ne (tgt := 10) C dX1_readNumber_5 (by decide) (fun q => absurd rfl q) (fun _ => ?_)
    refine x_iconst (v := 0) C dX1_readNumber_8 (by decide) ?_
    exact x_zret C E dX1_readNumber_9 (by decide) (fun q e => by rw [show q = _ from e]; exact Or.inr ⟨rfl, fun y => q2 (e1.mpr y), dw.setD F _ _ _ _ _ A9⟩)
  rw [if_pos q2, bI_t q2]
  have hj1 := e1.mp q2
  refine x_if_ne (tgt := 10) C dX1_readNumber_5 (by decide) (fun _ => ?_) (fun q => absurd q (by decide))
  have LP : ∀ (t : Nat) (x3 : Int32) (v9 : Int64), t ≤ s → f_wh S i t v9 = f_whole S i s → X z 0 0 (EQ h) 60 [some (.ref de), some (.ref p), some (.int (nI s)), some (.int x3), some (.long v9), none, some (.int (nI t - 1))] [] := by
    intro t
    induction t with
    | zero =>
      intro x3 v9 hr ev
      refine x_iload C dX1_readNumber_60 rfl ?_
      refine x_if_lt (tgt := 94) C dX1_readNumber_62 (by decide) (fun _ => ?_) (fun q => absurd (by decide) q)
      refine x_aload_n C dX1_readNumber_94 rfl ?_
      refine x_lload C dX1_readNumber_95 rfl ?_
      refine u_callV (st := []) C Y hW E.cs (q_setValue hW d2 v9) md_X3_setValue wi_X3_setValue ws_X3_setValue wm_X1_146 dX1_readNumber_97 rfl (by decide) (by decide) d2 rfl rfl (by decide) ?_
      obtain ⟨⟨n1, n2, n3⟩, -⟩ := id F
      have B2 : hs h p (.inr (3, rdL v9 (S.a 25 r) (S.a 26 r) (S.w 27 r) (S.a 28 r) (S.a 29 r) v (S.a 30 r) lt 0)) de = _ := (hs_ne n1).trans B
      refine x_aload_n C dX1_readNumber_100 rfl ?_
      refine x_dup C dX1_readNumber_101 rfl ?_
      refine e_get C Y kd_X1 2 (by decide) wf_X1_9 dX1_readNumber_102 B2 rfl ?_
      refine x_iload_n C dX1_readNumber_105 rfl ?_
      refine x_iadd C dX1_readNumber_106 ?_
      rw [A3, nI_add]
      refine e_put C Y kd_X1 2 (by decide) rfl wf_X1_9 dX1_readNumber_107 B2 (Nat.le_of_ble_eq_true rfl) rfl rfl rfl ?_
      refine x_iconst (v := 1) C dX1_readNumber_110 (by decide) ?_
      exact x_zret C E dX1_readNumber_111 (by decide) (fun q e => by rw [show q = _ from e, ← ev]; exact Or.inl ⟨rfl, hj1, D.fin F _ _⟩)
    | succ t ih =>
      intro x3 v9 hr ev
      have e1 : nI (t + 1) - 1 = nI t := by rw [← nI_1]; exact Int32.add_sub_cancel ..
      rw [e1]
      refine x_iload C dX1_readNumber_60 rfl ?_
      refine x_if_lt (tgt := 94) C dX1_readNumber_62 (by decide) (fun q => absurd q (nI_pos (by omega))) (fun _ => ?_)
      refine x_lload C dX1_readNumber_65 rfl ?_
      refine x_bipush (v := 8) C dX1_readNumber_67 (by decide) ?_
      refine x_lshl C dX1_readNumber_69 ?_
      refine x_aload_n C dX1_readNumber_70 rfl ?_
      refine e_get C Y kd_X1 1 (by decide) wf_X1_28 dX1_readNumber_71 B rfl ?_
      refine x_aload_n C dX1_readNumber_74 rfl ?_
      refine e_get C Y kd_X1 2 (by decide) wf_X1_9 dX1_readNumber_75 B rfl ?_
      refine x_iload C dX1_readNumber_78 rfl ?_
      refine x_iadd C dX1_readNumber_80 ?_
      refine k_at (st := [_]) C Y hW E.cs (by decide) Rh _ dX1_readNumber_81 (by simp [Value.category]) ?_
      rw [A3, nI_add, rAt_in (show i + t < nb by omega) Rh.2.2.2, A1 _ (by omega)]
      refine x_i2l C dX1_readNumber_84 ?_
      refine x_lor C dX1_readNumber_85 ?_
      refine o_lstoreE (L' := [some _, some _, some _, some _, some _, none, some _]) C dX1_readNumber_86 (by rw [hn]; decide) rfl ?_
      refine o_iincE (v := nI t - 1) (L' := [some _, some _, some _, some _, some _, none, some _]) C dX1_readNumber_88 rfl (by rw [Int32.sub_eq_add_neg]; rfl) (by rw [hn]; decide) rfl ?_
      refine x_goto (tgt := 60) C dX1_readNumber_91 (by decide) ?_
      exact ih x3 _ (by omega) ev
  have T53 : ∀ (x3 : Int32) (v9 : Int64), f_wh S i s v9 = f_whole S i s → X z 0 0 (EQ h) 53 [some (.ref de), some (.ref p), some (.int (nI s)), some (.int x3), none, none, none] [.long v9] := fun x3 v9 ev => by
    refine o_lstoreE (L' := [some _, some _, some _, some _, some _, none, none]) C dX1_readNumber_53 (by rw [hn]; decide) rfl ?_
    refine x_iload_n C dX1_readNumber_55 rfl ?_
    refine x_iconst (v := 1) C dX1_readNumber_56 (by decide) ?_
    refine x_isub C dX1_readNumber_57 ?_
    refine o_istoreE (L' := [some _, some _, some _, some _, some _, none, some _]) C dX1_readNumber_58 (by rw [hn]; decide) rfl ?_
    exact LP s x3 v9 (Nat.le_refl _) ev
  have T41 : ∀ x3 : Int32, (x3 = 0 ↔ ¬ (0 < s ∧ 127 < S.a 38 (i + s - 1))) → X z 0 0 (EQ h) 41 [some (.ref de), some (.ref p), some (.int (nI s)), none, none, none, none] [.int x3] := fun x3 hx3 => by
    refine o_istore_nE (L' := [some _, some _, some _, some _, none, none, none]) C dX1_readNumber_41 (by rw [hn]; decide) rfl ?_
    refine x_iload_n C dX1_readNumber_42 rfl ?_
    refine x_if_eq (tgt := 52) C dX1_readNumber_43 (by decide) (fun q0 => ?_) (fun q0 => ?_)
    · exact x_lconst (v := 0) C dX1_readNumber_52 (by decide) (T53 _ _ (by unfold f_whole; rw [if_neg (hx3.mp q0)]))
    · refine x_ldc2 C wk_X1_144 dX1_readNumber_46 ?_
      exact x_goto (tgt := 53) C dX1_readNumber_49 (by decide) (T53 _ _ (by unfold f_whole; rw [if_pos (Decidable.byContradiction fun y => q0 (hx3.mpr y))]))
  have T40 : ¬ (0 < s ∧ 127 < S.a 38 (i + s - 1)) → X z 0 0 (EQ h) 40 [some (.ref de), some (.ref p), some (.int (nI s)), none, none, none, none] [] := fun y => x_iconst (v := 0) C dX1_readNumber_40 (by decide) (T41 0 ⟨fun _ => y, fun _ => rfl⟩)
  refine x_iload_n C dX1_readNumber_10 rfl ?_
  refine x_if_le (tgt := 40) C dX1_readNumber_11 (by decide) (fun q => T40 (fun y => absurd (nI_lt (a := 0) y.1 (by omega)) (Int32.not_lt.mpr q))) (fun q11 => ?_)
  have s0 : 0 < s := Nat.pos_of_ne_zero (fun e => q11 (by rw [e]; decide))
  refine x_aload_n C dX1_readNumber_14 rfl ?_
  refine e_get C Y kd_X1 1 (by decide) wf_X1_28 dX1_readNumber_15 B rfl ?_
  refine x_aload_n C dX1_readNumber_18 rfl ?_
  refine e_get C Y kd_X1 2 (by decide) wf_X1_9 dX1_readNumber_19 B rfl ?_
  refine x_iload_n C dX1_readNumber_22 rfl ?_
  refine x_iadd C dX1_readNumber_23 ?_
  refine x_iconst (v := 1) C dX1_readNumber_24 (by decide) ?_
  refine x_isub C dX1_readNumber_25 ?_
  refine k_at (st := []) C Y hW E.cs (by decide) Rh _ dX1_readNumber_26 (by decide) ?_
  rw [A3, nI_add, show nI (i + s) - 1 = nI (i + s - 1) from nI_sub' (v := i + s) (b := 1) (by omega), rAt_in (show i + s - 1 < nb by omega) Rh.2.2.2, A1 _ (by omega)]
  refine x_sipush (v := 128) C dX1_readNumber_29 (by decide) ?_
  refine x_iand C dX1_readNumber_32 ?_
  refine x_if_eq (tgt := 40) C dX1_readNumber_33 (by decide) (fun q => T40 (fun y => ((byt_128 (A2 _)).mp q) y.2)) (fun q33 => ?_)
  refine x_iconst (v := 1) C dX1_readNumber_36 (by decide) ?_
  exact x_goto (tgt := 41) C dX1_readNumber_37 (by decide) (T41 1 ⟨fun q => absurd q (by decide), fun y => absurd ⟨s0, Decidable.byContradiction fun q => q33 ((byt_128 (A2 _)).mpr q)⟩ y⟩)
theorem d_bcdX (hX : Wx w c) (F : FX c de p v b ba h0 fb nb) (D : DX c li de p v b h0 r lt S h) {i m s : Nat} (A : DA fb nb S i m r) (hs9 : s ≤ 9) (sn : Int32) (mb : Bool) {mi : Int32} (hmi : mi = 0 ↔ mb = false) : T w gw yX1_readBcd cX1_readBcd 11 (some .boolean) 2 (40 * 2) 0 0 [.ref de, .ref p, .int (nI s), .int sn, .int mi] (EQ h)
    (fun q g => (q = some (.int 1) ∧ i + s ≤ m ∧ (∀ k, k < s → ¬ f_bd S i s mb k) ∧ DVx c li de p v b h0 r lt S (sn.toInt64 * f_dv S i s mb s 0) (nI (i + s)) g) ∨ (q = some (.int 0) ∧ (¬ i + s ≤ m ∨ ∃ k, k < s ∧ f_bd S i s mb k) ∧ DFx c li de p v b h0 lt g)) := by
  have hW := hX.1
  refine TA.intro hW rfl (by decide +kernel) (Nat.le_of_ble_eq_true rfl) (fun z C Y E hn h1 hA => ?_)
  rw [show h1 = h from hA]
  clear hA
  obtain ⟨⟨fa, pl, B⟩, d2, ⟨fv, d3, d3'⟩, d4⟩ := id D
  obtain ⟨A1, A2, A3, A4, A5, A6, A7, A8, A9, A10⟩ := id A
  have dw := D.df A
  have Rh := D.row F
  have e1 : S.i 40 + nI s ≤ S.i 39 ↔ i + s ≤ m := by rw [A3, A4, nI_add]; exact nI_leI (by omega) (by omega)
  rw [dv_0] at E
  refine x_aload_n C dX1_readBcd_0 rfl ?_
  refine x_iload_n C dX1_readBcd_1 rfl ?_
  refine u_callV (st := []) C Y hW E.cs (d_areThere hW B (nI s)) md_X1_areThere wi_X1_areThere ws_X1_areThere wm_X1_117 dX1_readBcd_2 rfl (by decide) (by decide) B rfl rfl (by decide) ?_
  by_cases q2 : S.i 40 + nI s ≤ S.i 39
  rotate_left
  · rw [if_neg q2, bI_f q2]
    refine x_if_ne (tgt := 10) C dX1_readBcd_5 (by decide) (fun q => absurd rfl q) (fun _ => ?_)
    refine x_iconst (v := 0) C dX1_readBcd_8 (by decide) ?_
    exact x_zret C E dX1_readBcd_9 (by decide) (fun q e => by rw [show q = _ from e]; exact Or.inr ⟨rfl, Or.inl (fun y => q2 (e1.mpr y)), dw.setD F _ _ _ _ _ A9⟩)
  rw [if_pos q2, bI_t q2]
  have hj1 := e1.mp q2
  refine x_if_ne (tgt := 10) C dX1_readBcd_5 (by decide) (fun _ => ?_) (fun q => absurd q (by decide))
  have LP : ∀ (t k : Nat) (v9 u : Int64) (l10 : Option Value), k + t = s → v9 = csum S i s mb k → u = pw100 k → (∀ j, j < k → ¬ f_bd S i s mb j) → X z 0 0 (EQ h) 19 [some (.ref de), some (.ref p), some (.int (nI s)), some (.int sn), some (.int mi), some (.long v9), none, some (.long u), none, some (.int (nI k)), l10] [] := by
    intro t
    induction t with
    | zero =>
      intro k v9 u l10 hk ev eu ok
      obtain rfl : k = s := by omega
      refine x_iload C dX1_readBcd_19 rfl ?_
      refine x_iload_n C dX1_readBcd_21 rfl ?_
      refine x_icmp_ge (tgt := 119) C dX1_readBcd_22 (by decide) (fun _ => ?_) (fun q => absurd (Int32.le_refl _) q)
      refine x_aload_n C dX1_readBcd_119 rfl ?_
      refine x_iload_n C dX1_readBcd_120 rfl ?_
      refine x_i2l C dX1_readBcd_121 ?_
      refine x_lload C dX1_readBcd_122 rfl ?_
      refine x_lmul C dX1_readBcd_124 ?_
      subst ev
      refine u_callV (st := []) C Y hW E.cs (q_setValue hW d2 _) md_X3_setValue wi_X3_setValue ws_X3_setValue wm_X1_146 dX1_readBcd_125 rfl (by decide) (by decide) d2 rfl rfl (by decide) ?_
      obtain ⟨⟨n1, n2, n3⟩, -⟩ := id F
      have B2 : hs h p (.inr (3, rdL (sn.toInt64 * csum S i k mb k) (S.a 25 r) (S.a 26 r) (S.w 27 r) (S.a 28 r) (S.a 29 r) v (S.a 30 r) lt 0)) de = _ := (hs_ne n1).trans B
      refine x_aload_n C dX1_readBcd_128 rfl ?_
      refine x_dup C dX1_readBcd_129 rfl ?_
      refine e_get C Y kd_X1 2 (by decide) wf_X1_9 dX1_readBcd_130 B2 rfl ?_
      refine x_iload_n C dX1_readBcd_133 rfl ?_
      refine x_iadd C dX1_readBcd_134 ?_
      rw [A3, nI_add]
      refine e_put C Y kd_X1 2 (by decide) rfl wf_X1_9 dX1_readBcd_135 B2 (Nat.le_of_ble_eq_true rfl) rfl rfl rfl ?_
      refine x_iconst (v := 1) C dX1_readBcd_138 (by decide) ?_
      exact x_zret C E dX1_readBcd_139 (by decide) (fun q e => by rw [show q = _ from e]; exact Or.inl ⟨rfl, hj1, ok, D.fin F _ _⟩)
    | succ t ih =>
      intro k v9 u l10 hk ev eu ok
      refine x_iload C dX1_readBcd_19 rfl ?_
      refine x_iload_n C dX1_readBcd_21 rfl ?_
      refine x_icmp_ge (tgt := 119) C dX1_readBcd_22 (by decide) (fun q => absurd q (Int32.not_le.mpr (nI_lt (show k < s by omega) (by omega)))) (fun _ => ?_)
      refine x_aload_n C dX1_readBcd_25 rfl ?_
      refine e_get C Y kd_X1 1 (by decide) wf_X1_28 dX1_readBcd_26 B rfl ?_
      refine x_aload_n C dX1_readBcd_29 rfl ?_
      refine e_get C Y kd_X1 2 (by decide) wf_X1_9 dX1_readBcd_30 B rfl ?_
      refine x_iload C dX1_readBcd_33 rfl ?_
      refine x_iadd C dX1_readBcd_35 ?_
      refine k_at (st := []) C Y hW E.cs (by decide) Rh _ dX1_readBcd_36 (by decide) ?_
      rw [A3, nI_add, rAt_in (show i + k < nb by omega) Rh.2.2.2, A1 _ (by omega)]
      obtain ⟨bb, bb1, bb2⟩ := A2 (i + k)
      have T61 : ∀ x : Int32, (g_dig x 8 = true ↔ ¬ f_bd S i s mb k) → ((x >>> ((4 : Int32) &&& 31)) * 10 + (x &&& 15)).toInt64 = dgt S i s mb k → X z 0 0 (EQ h) 61 [some (.ref de), some (.ref p), some (.int (nI s)), some (.int sn), some (.int mi), some (.long v9), none, some (.long u), none, some (.int (nI k)), some (.int x)] [] := fun x hbd hdg => by
        refine x_iload C dX1_readBcd_61 rfl ?_
        refine k_callSN (kc := 0) (ks := 0) (mc' := 0) (ms' := 0) (st := []) C E.cs hW.1 gw_good (m_areDigits hW x) md_X6_areDigits wt_X6_areDigits (E.cs.nest hX (q := (RX1, 81, yX6_areDigits)) (by simp [nst])) dX1_readBcd_63 rfl (by decide) (by decide) rfl (by decide) (fun r => X.opn (fun g hg => ?_))
        obtain ⟨rfl, e⟩ := hg
        subst e
        refine x_if_ne (tgt := 83) C dX1_readBcd_66 (by decide) (fun q66 => ?_) (fun q66 => ?_)
        · refine x_lload C dX1_readBcd_83 rfl ?_
          refine x_lload C dX1_readBcd_85 rfl ?_
          refine x_iload C dX1_readBcd_87 rfl ?_
          refine x_iconst (v := 4) C dX1_readBcd_89 (by decide) ?_
          refine x_ishr C dX1_readBcd_90 ?_
          refine x_bipush (v := 10) C dX1_readBcd_91 (by decide) ?_
          refine x_imul C dX1_readBcd_93 ?_
          refine x_iload C dX1_readBcd_94 rfl ?_
          refine x_bipush (v := 15) C dX1_readBcd_96 (by decide) ?_
          refine x_iand C dX1_readBcd_98 ?_
          refine x_iadd C dX1_readBcd_99 ?_
          refine x_i2l C dX1_readBcd_100 ?_
          rw [hdg]
          refine x_lmul C dX1_readBcd_101 ?_
          refine x_ladd C dX1_readBcd_102 ?_
          refine o_lstoreE (L' := [some _, some _, some _, some _, some _, some _, none, some _, none, some _, some _]) C dX1_readBcd_103 (by rw [hn]; decide) rfl ?_
          refine x_lload C dX1_readBcd_105 rfl ?_
          refine x_ldc2 C wk_X1_150 dX1_readBcd_107 ?_
          refine x_lmul C dX1_readBcd_110 ?_
          refine o_lstoreE (L' := [some _, some _, some _, some _, some _, some _, none, some _, none, some _, some _]) C dX1_readBcd_111 (by rw [hn]; decide) rfl ?_
          refine o_iincE (v := nI (k + 1)) (L' := [some _, some _, some _, some _, some _, some _, none, some _, none, some _, some _]) C dX1_readBcd_113 rfl (nI_1 k) (by rw [hn]; decide) rfl ?_
          refine x_goto (tgt := 19) C dX1_readBcd_116 (by decide) ?_
          exact ih (k + 1) _ _ _ (by omega) (by rw [ev, eu]; rfl) (by rw [eu]; rfl) (fun j hj => by
            by_cases ej : j = k
            · rw [ej]; exact hbd.mp (Decidable.of_not_not (fun y => q66 (bI_f y)))
            · exact ok j (by omega))
        · refine x_aload_n C dX1_readBcd_69 rfl ?_
          refine x_bipush (v := 7) C dX1_readBcd_70 (by decide) ?_
          refine x_aload_n C dX1_readBcd_72 rfl ?_
          refine e_get C Y kd_X1 2 (by decide) wf_X1_9 dX1_readBcd_73 B rfl ?_
          refine x_iload C dX1_readBcd_76 rfl ?_
          refine x_iadd C dX1_readBcd_78 ?_
          refine u_callV (st := []) C Y hW E.cs (d_wrong hW B 7 _) md_X1_wrong wi_X1_wrong ws_X1_wrong wm_X1_67 dX1_readBcd_79 rfl (by decide) (by decide) B rfl rfl (by decide) ?_
          exact x_zret C E dX1_readBcd_82 (by decide) (fun q e => by rw [show q = _ from e]; exact Or.inr ⟨rfl, Or.inr ⟨k, by omega, Decidable.byContradiction fun y => absurd (bI_t (hbd.mpr y)) (by rw [q66]; decide)⟩, dw.setD F _ _ _ _ _ A9⟩)
      refine o_istoreE (L' := [some _, some _, some _, some _, some _, some _, none, some _, none, some _, some _]) C dX1_readBcd_39 (by rw [hn]; decide) rfl ?_
      refine x_iload C dX1_readBcd_41 rfl ?_
      refine x_if_eq (tgt := 61) C dX1_readBcd_43 (by decide) (fun q43 => ?_) (fun q43 => ?_)
      · have nm : ¬ (mb = true ∧ k + 1 = s) := fun y => by rw [hmi.mp q43] at y; exact absurd y.1 (by decide)
        exact T61 _ (by rw [bb2]; unfold f_bd; rw [bb2, dg_c bb bb1]; exact ⟨fun y z => z.elim y.1 (fun z => z.2 y.2), fun y => ⟨fun z => y (Or.inl z), Decidable.byContradiction fun z => y (Or.inr ⟨nm, z⟩)⟩⟩) (by unfold dgt; rw [bb2, if_neg nm]; exact dg_a bb bb1)
      have mt : mb = true := by cases mb with
        | true => rfl
        | false => exact absurd (hmi.mpr rfl) q43
      refine x_iload C dX1_readBcd_46 rfl ?_
      refine x_iload_n C dX1_readBcd_48 rfl ?_
      refine x_iconst (v := 1) C dX1_readBcd_49 (by decide) ?_
      refine x_isub C dX1_readBcd_50 ?_
      refine x_icmp_ne (tgt := 61) C dX1_readBcd_51 (by decide) (fun q51 => ?_) (fun q51 => ?_)
      · have nm : ¬ (mb = true ∧ k + 1 = s) := fun y => q51 (by rw [← y.2]; exact (nI_sub' (v := k + 1) (b := 1) (by omega)).symm)
        exact T61 _ (by rw [bb2]; unfold f_bd; rw [bb2, dg_c bb bb1]; exact ⟨fun y z => z.elim y.1 (fun z => z.2 y.2), fun y => ⟨fun z => y (Or.inl z), Decidable.byContradiction fun z => y (Or.inr ⟨nm, z⟩)⟩⟩) (by unfold dgt; rw [bb2, if_neg nm]; exact dg_a bb bb1)
      have ks : k + 1 = s := by
        rw [show nI s - 1 = nI (s - 1) from nI_sub' (v := s) (b := 1) (by omega)] at q51
        have := (nI_eq (by omega) (by omega)).mp q51
        omega
      refine x_iload C dX1_readBcd_54 rfl ?_
      refine x_bipush (v := 15) C dX1_readBcd_56 (by decide) ?_
      refine x_iand C dX1_readBcd_58 ?_
      refine o_istoreE (L' := [some _, some _, some _, some _, some _, some _, none, some _, none, some _, some _]) C dX1_readBcd_59 (by rw [hn]; decide) rfl ?_
      exact T61 _ (by rw [bb2]; unfold f_bd; rw [bb2, dg_d bb bb1]; exact ⟨fun y z => z.elim y (fun z => z.1 ⟨mt, ks⟩), fun y z => y (Or.inl z)⟩) (by unfold dgt; rw [bb2, if_pos ⟨mt, ks⟩]; exact dg_b bb bb1)
  refine x_lconst (v := 0) C dX1_readBcd_10 (by decide) ?_
  refine o_lstoreE (L' := [some _, some _, some _, some _, some _, some _, none, none, none, none, none]) C dX1_readBcd_11 (by rw [hn]; decide) rfl ?_
  refine x_lconst (v := 1) C dX1_readBcd_13 (by decide) ?_
  refine o_lstoreE (L' := [some _, some _, some _, some _, some _, some _, none, some _, none, none, none]) C dX1_readBcd_14 (by rw [hn]; decide) rfl ?_
  refine x_iconst (v := 0) C dX1_readBcd_16 (by decide) ?_
  refine o_istoreE (L' := [some _, some _, some _, some _, some _, some _, none, some _, none, some _, none]) C dX1_readBcd_17 (by rw [hn]; decide) rfl ?_
  exact LP s 0 _ _ _ (Nat.zero_add s) rfl rfl (fun j hj => absurd hj (Nat.not_lt_zero j))
end Dec
