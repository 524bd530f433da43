/-! The decoder against the model: its steps, told whole. -/
section Rd
variable {w : Wd} {c : Nat → ClassId} {h : PH} {p v : Nat} {va sg : Int64} {co fu ta un vn ln : Int32} {lt : Value}
theorem q_addDifeX (hW : Wc w c) (B : h p = some (.inr (3, rdL va co fu sg ta un v vn lt ln))) (i x : Int32) : TC w yX3_addDife cX3_addDife 3 none 0 [.ref p, .int i, .int x] h none (hs h p (.inr (3, rdL va co fu (sg ||| (x &&& 15).toInt64 <<< (((1 : Int32) + 4 * i).toInt64 &&& 63)) (ta ||| ((x >>> ((4 : Int32) &&& 31)) &&& 3) <<< (((2 : Int32) * i) &&& 31)) (un ||| ((x >>> ((6 : Int32) &&& 31)) &&& 1) <<< (i &&& 31)) v vn lt ln))) := by
  refine TC.intro hW rfl (by decide +kernel) (Nat.le_of_ble_eq_true rfl) (fun z C Y E hn => ?_)
  refine x_aload_n C dX3_addDife_0 rfl ?_
  refine x_dup C dX3_addDife_1 rfl ?_
  refine e_get C Y kd_X3 3 (by decide) wf_X3_22 dX3_addDife_2 B rfl ?_
  refine x_iload_n C dX3_addDife_5 rfl ?_
  refine x_bipush (v := 15) C dX3_addDife_6 (by decide) ?_
  refine x_iand C dX3_addDife_8 ?_
  refine x_i2l C dX3_addDife_9 ?_
  refine x_iconst (v := 1) C dX3_addDife_10 (by decide) ?_
  refine x_iconst (v := 4) C dX3_addDife_11 (by decide) ?_
  refine x_iload_n C dX3_addDife_12 rfl ?_
  refine x_imul C dX3_addDife_13 ?_
  refine x_iadd C dX3_addDife_14 ?_
  refine x_lshl C dX3_addDife_15 ?_
  refine x_lor C dX3_addDife_16 ?_
  refine e_put C Y kd_X3 3 (by decide) rfl wf_X3_22 dX3_addDife_17 B (Nat.le_of_ble_eq_true rfl) rfl rfl rfl ?_
  refine x_aload_n C dX3_addDife_20 rfl ?_
  refine x_dup C dX3_addDife_21 rfl ?_
  refine e_get C Y kd_X3 4 (by decide) wf_X3_25 dX3_addDife_22 (hs_self ..) rfl ?_
  refine x_iload_n C dX3_addDife_25 rfl ?_
  refine x_iconst (v := 4) C dX3_addDife_26 (by decide) ?_
  refine x_ishr C dX3_addDife_27 ?_
  refine x_iconst (v := 3) C dX3_addDife_28 (by decide) ?_
  refine x_iand C dX3_addDife_29 ?_
  refine x_iconst (v := 2) C dX3_addDife_30 (by decide) ?_
  refine x_iload_n C dX3_addDife_31 rfl ?_
  refine x_imul C dX3_addDife_32 ?_
  refine x_ishl C dX3_addDife_33 ?_
  refine x_ior C dX3_addDife_34 ?_
  refine e_put C Y kd_X3 4 (by decide) rfl wf_X3_25 dX3_addDife_35 (hs_self ..) (Nat.le_of_ble_eq_true rfl) rfl rfl (hs_hs ..) ?_
  refine x_aload_n C dX3_addDife_38 rfl ?_
  refine x_dup C dX3_addDife_39 rfl ?_
  refine e_get C Y kd_X3 5 (by decide) wf_X3_28 dX3_addDife_40 (hs_self ..) rfl ?_
  refine x_iload_n C dX3_addDife_43 rfl ?_
  refine x_bipush (v := 6) C dX3_addDife_44 (by decide) ?_
  refine x_ishr C dX3_addDife_46 ?_
  refine x_iconst (v := 1) C dX3_addDife_47 (by decide) ?_
  refine x_iand C dX3_addDife_48 ?_
  refine x_iload_n C dX3_addDife_49 rfl ?_
  refine x_ishl C dX3_addDife_50 ?_
  refine x_ior C dX3_addDife_51 ?_
  refine e_put C Y kd_X3 5 (by decide) rfl wf_X3_28 dX3_addDife_52 (hs_self ..) (Nat.le_of_ble_eq_true rfl) rfl rfl (hs_hs ..) ?_
  exact e_vret C E dX3_addDife_55 rfl rfl
theorem q_addVifX (hW : Wc w c) {k : Nat} (k11 : k < 11) (B : h p = some (.inr (3, rdL va co fu sg ta un v (nI k) lt ln))) {f : Nat → Int32} (V : h v = some (.inl (c 0, 11, .inl f))) (n0 : p ≠ v) (x : Int32) : TC w yX3_addVif cX3_addVif 2 none 0 [.ref p, .int x] h none (hs (hs h v (.inl (c 0, 11, .inl (upd f k x)))) p (.inr (3, rdL va co fu sg ta un v (nI (k + 1)) lt ln))) := by
  refine TC.intro hW rfl (by decide +kernel) (Nat.le_of_ble_eq_true rfl) (fun z C Y E hn => ?_)
  obtain ⟨t, ht⟩ := Y.2.1
  refine x_aload_n C dX3_addVif_0 rfl ?_
  refine e_get C Y kd_X3 7 (by decide) wf_X3_35 dX3_addVif_1 B rfl ?_
  refine x_aload_n C dX3_addVif_4 rfl ?_
  refine e_get C Y kd_X3 6 (by decide) wf_X3_31 dX3_addVif_5 B rfl ?_
  refine x_alen C ht dX3_addVif_8 (v := 11) (fun q e => by rw [e]; exact V) rfl ?_
  refine x_icmp_ge (tgt := 32) C dX3_addVif_9 (by decide) (fun c9 => absurd c9 (Int32.not_le.mpr (nI_lt (b := 11) k11 (by decide)))) (fun c9 => ?_)
  have B2 : ∀ e, hs h v e p = some (.inr (3, rdL va co fu sg ta un v (nI k) lt ln)) := fun e => by rw [hs_ne n0]; exact B
  refine x_aload_n C dX3_addVif_12 rfl ?_
  refine e_get C Y kd_X3 6 (by decide) wf_X3_31 dX3_addVif_13 B rfl ?_
  refine x_aload_n C dX3_addVif_16 rfl ?_
  refine e_get C Y kd_X3 7 (by decide) wf_X3_35 dX3_addVif_17 B rfl ?_
  refine x_iload_n C dX3_addVif_20 rfl ?_
  refine e_ist C Y dX3_addVif_21 V (vp_in_nI k11 (by decide)) rfl ?_
  rw [nI_clamp (by omega)]
  refine x_aload_n C dX3_addVif_22 rfl ?_
  refine x_dup C dX3_addVif_23 rfl ?_
  refine e_get C Y kd_X3 7 (by decide) wf_X3_35 dX3_addVif_24 (B2 _) rfl ?_
  refine x_iconst (v := 1) C dX3_addVif_27 (by decide) ?_
  refine x_iadd C dX3_addVif_28 ?_
  rw [nI_1]
  refine e_put C Y kd_X3 7 (by decide) rfl wf_X3_35 dX3_addVif_29 (B2 _) (Nat.le_of_ble_eq_true rfl) rfl rfl rfl ?_
  exact e_vret C E dX3_addVif_32 rfl rfl
end Rd
/-- the places of a record's draft are apart; the frame lies in a row -/
def FX (c : Nat → ClassId) (de p v b ba : Nat) (h0 : PH) (fb : Nat → Int32) (nb : Nat) : Prop := (de ≠ p ∧ de ≠ v ∧ p ≠ v) ∧ (b ≠ de ∧ b ≠ p ∧ b ≠ v) ∧ (ba ≠ de ∧ ba ≠ p ∧ ba ≠ v) ∧ RW c h0 b ba fb nb
/-- the draft, at p (its VIFs at v), is the model's record r, so far -/
def DX (c : Nat → ClassId) (li de p v b : Nat) (h0 : PH) (r : Nat) (lt : Value) (S : MS) (h : PH) : Prop :=
  (∃ fa pl : Int32, h de = some (.inr (1, [.ref li, .ref b, .int (S.i 40), .int (S.i 39), .int fa, .int pl, .int (S.i 37)]))) ∧ h p = some (.inr (3, rdL 0 (S.a 25 r) (S.a 26 r) (S.w 27 r) (S.a 28 r) (S.a 29 r) v (S.a 30 r) lt 0)) ∧
  (∃ fv : Nat → Int32, h v = some (.inl (c 0, 11, .inl fv)) ∧ ∀ j, j < (S.a 30 r).toNatClampNeg → fv j = S.a 31 (11 * r + j)) ∧ ∀ q, q ≠ de → q ≠ p → q ≠ v → h q = h0 q
/-- the draft, somehow -/
def DFx (c : Nat → ClassId) (li de p v b : Nat) (h0 : PH) (lt : Value) (h : PH) : Prop :=
  (∃ at_ en fa pl mo : Int32, h de = some (.inr (1, [.ref li, .ref b, .int at_, .int en, .int fa, .int pl, .int mo])) ∧ (mo = 0 ∨ mo = 1)) ∧ (∃ (va sg : Int64) (co fu ta un ln : Int32) (vn : Nat), vn ≤ 11 ∧ h p = some (.inr (3, rdL va co fu sg ta un v (nI vn) lt ln))) ∧
  (∃ fv : Nat → Int32, h v = some (.inl (c 0, 11, .inl fv))) ∧ ∀ q, q ≠ de → q ≠ p → q ≠ v → h q = h0 q
/-- the frame's bytes are the model's data; where it stands -/
def DA (fb : Nat → Int32) (nb : Nat) (S : MS) (i m r : Nat) : Prop := (∀ j, j < nb → fb j = S.a 38 j) ∧ (∀ j, byt (S.a 38 j)) ∧ S.i 40 = nI i ∧ S.i 39 = nI m ∧ i ≤ m ∧ m ≤ 256 ∧ m ≤ nb ∧ S.i 41 = 0 ∧ (S.i 37 = 0 ∨ S.i 37 = 1) ∧ ∃ k, k ≤ 11 ∧ S.a 30 r = nI k
section Stop
variable {S : MS} {r : Nat}
theorem dl_stop (h : ¬ S.i 41 = 0) (b : Int32) (i : Nat) : ∀ t, f_dl r t S b i = S
  | 0 => rfl
  | t + 1 => by rw [f_dl, if_neg (fun q => h q.2)]
theorem vl_stop (h : ¬ S.i 41 = 0) (b : Int32) (i : Nat) : ∀ t, f_vl r t S b i = S
  | 0 => rfl
  | t + 1 => by rw [f_vl, if_neg (fun q => h q.2)]
theorem dl_end {b : Int32} (h : ¬ 127 < b) (i : Nat) : ∀ t, f_dl r t S b i = S
  | 0 => rfl
  | t + 1 => by rw [f_dl, if_neg (fun q => h q.1)]
theorem vl_end {b : Int32} (h : ¬ 127 < b) (i : Nat) : ∀ t, f_vl r t S b i = S
  | 0 => rfl
  | t + 1 => by rw [f_vl, if_neg (fun q => h q.1)]
theorem bl_no {x y : Int32} (h : S.i 41 = 0) (hx : ¬ x = 0) : ¬ (f_bl S x y).i 41 = 0 := by rw [f_bl_41 h]; exact hx
end Stop
theorem exD_st {f : Nat → Int32} {rem j : Nat} {la : Int32} (q : ¬ la &&& 128 = 0) : exD f (rem + 1) la j = exD f rem (f j) (j + 1) := by rw [exD, if_neg q]
theorem exD_no {f : Nat → Int32} {rem j : Nat} {la : Int32} (q : la &&& 128 = 0) : exD f (rem + 1) la j = j := by rw [exD, if_pos q]
theorem byt_128 {x : Int32} (h : byt x) : x &&& 128 = 0 ↔ ¬ 127 < x := by
  obtain ⟨b, h1, rfl⟩ := h
  have key : ∀ b, b < 256 → (nI b &&& 128 = 0 ↔ ¬ (127 : Int32) < nI b) := by decide +kernel
  exact key b h1
theorem byt_15l {x : Int32} : (x &&& 15).toInt64 = x.toInt64 &&& 15 := bl_ext (fun i hi => by
  rw [bl_i2l _ hi, bl_and, bl_15, bl_i2l _ hi, b_and, b_and, b_15, b_15]
  by_cases q : i < 32
  · rw [if_pos q, if_pos q]
  · rw [if_neg q, if_neg q, decide_eq_false (show ¬ i < 4 by omega), decide_eq_false (show ¬ 31 < 4 by omega)])
section Dec
variable {w : Wd} {c : Nat → ClassId} {h h0 : PH} {li de p v b ba nb r : Nat} {fb : Nat → Int32} {lt : Value} {S : MS}
theorem FX.row (F : FX c de p v b ba h0 fb nb) (e : ∀ q, q ≠ de → q ≠ p → q ≠ v → h q = h0 q) : RW c h b ba fb nb := by
  obtain ⟨-, ⟨b1, b2, b3⟩, ⟨a1, a2, a3⟩, R⟩ := F
  exact ⟨R.1, by rw [e b b1 b2 b3]; exact R.2.1, by rw [e ba a1 a2 a3]; exact R.2.2.1, R.2.2.2⟩
theorem DX.df (D : DX c li de p v b h0 r lt S h) {i m : Nat} (A : DA fb nb S i m r) : DFx c li de p v b h0 lt h := by
  obtain ⟨⟨fa, pl, d1⟩, d2, ⟨fv, d3, -⟩, d4⟩ := D
  obtain ⟨-, -, -, -, -, -, -, -, mo, k, k1, k2⟩ := A
  rw [k2] at d2
  exact ⟨⟨_, _, fa, pl, _, d1, mo⟩, ⟨_, _, _, _, _, _, _, k, k1, d2⟩, ⟨fv, d3⟩, d4⟩
theorem DFx.setD (D : DFx c li de p v b h0 lt h) (F : FX c de p v b ba h0 fb nb) (at_ en fa pl mo : Int32) (hm : mo = 0 ∨ mo = 1) : DFx c li de p v b h0 lt (hs h de (.inr (1, [.ref li, .ref b, .int at_, .int en, .int fa, .int pl, .int mo]))) := by
  obtain ⟨-, ⟨va, sg, co, fu, ta, un, ln, vn, v1, d2⟩, ⟨fv, d3⟩, d4⟩ := D
  obtain ⟨⟨n1, n2, n3⟩, -⟩ := F
  exact ⟨⟨_, _, _, _, _, hs_self .., hm⟩, ⟨va, sg, co, fu, ta, un, ln, vn, v1, by rw [hs_ne (Ne.symm n1)]; exact d2⟩, ⟨fv, by rw [hs_ne (Ne.symm n2)]; exact d3⟩, fun q q1 q2 q3 => by rw [hs_ne q1]; exact d4 q q1 q2 q3⟩
theorem d_difesX (hW : Wc w c) (F : FX c de p v b ba h0 fb nb) (D : DX c li de p v b h0 r lt S h) {i m : Nat} (A : DA fb nb S i m r) {x : Int32} (hx : byt x) : T w gw yX1_readDifes cX1_readDifes 5 (some .boolean) 2 (40 * 2) 0 0 [.ref de, .ref p, .int x] (EQ h)
    (fun q g => (q = some (.int 1) ∧ DA fb nb (f_dl r 12 S x 0) (exD fb 11 x i) m r ∧ (f_dl r 12 S x 0).a 30 r = S.a 30 r ∧ DX c li de p v b h0 r lt (f_dl r 12 S x 0) g) ∨ (q = some (.int 0) ∧ ¬ (f_dl r 12 S x 0).i 41 = 0 ∧ DFx c li de p v b h0 lt g)) := by
  refine TA.intro hW rfl (by decide +kernel) (Nat.le_of_ble_eq_true rfl) (fun z C Y E hn h1 hA => ?_)
  rw [show h1 = h from hA]
  clear hA
  generalize hFD : f_dl r 12 S x 0 = FD at E
  have T65 : ∀ (h : PH) (Q : MS) (j : Nat) (l3 l4 : Option Value), FD = Q → exD fb 11 x i = j → DA fb nb Q j m r → Q.a 30 r = S.a 30 r → DX c li de p v b h0 r lt Q h → X z 0 0 (EQ h) 65 [some (.ref de), some (.ref p), some (.int x), l3, l4] [] := fun h Q j l3 l4 e1 hj A e30 D => by
    refine x_iconst (v := 1) C dX1_readDifes_65 (by decide) ?_
    exact x_zret C E dX1_readDifes_66 (by decide) (fun g e => by rw [show g = _ from e]; exact Or.inl ⟨rfl, by rw [e1, hj]; exact A, by rw [e1]; exact e30, by rw [e1]; exact D⟩)
  have LP : ∀ (rem k j : Nat) (la : Int32) (Q : MS) (h : PH), k + rem = 10 → byt la → FD = f_dl r (rem + 2) Q la k → exD fb 11 x i = exD fb (rem + 1) la j → DA fb nb Q j m r → Q.a 30 r = S.a 30 r → DX c li de p v b h0 r lt Q h → X z 0 0 (EQ h) 5 [some (.ref de), some (.ref p), some (.int x), some (.int la), some (.int (nI k))] [] := by
    intro rem
    induction rem with
    | zero =>
      intro k j la Q h hk bla e0 hj A e30 D
      obtain rfl : k = 10 := by omega
      obtain ⟨⟨fa, pl, B⟩, d2, d3, d4⟩ := id D
      obtain ⟨A1, A2, A3, A4, A5, A6, A7, A8, A9, A10⟩ := id A
      have dw := D.df A
      refine x_iload C dX1_readDifes_5 rfl ?_
      refine x_bipush (v := 10) C dX1_readDifes_7 (by decide) ?_
      refine x_icmp_gt (tgt := 65) C dX1_readDifes_9 (by decide) (fun q => absurd q (by decide)) (fun _ => ?_)
      refine x_iload_n C dX1_readDifes_12 rfl ?_
      refine x_sipush (v := 128) C dX1_readDifes_13 (by decide) ?_
      refine x_iand C dX1_readDifes_16 ?_
      refine x_if_eq (tgt := 65) C dX1_readDifes_17 (by decide) (fun q => T65 h Q j _ _ (by rw [e0]; exact dl_end ((byt_128 bla).mp q) _ _) (hj.trans (exD_no q)) A e30 D) (fun q17 => ?_)
      have g17 : 127 < la := Decidable.byContradiction fun q => q17 ((byt_128 bla).mpr q)
      have fl : ¬ (FD).i 41 = 0 := by
        rw [e0, f_dl, if_pos ⟨g17, A8⟩]
        have n1 : ¬ (f_d2 (f_nx Q).2 10).i 41 = 0 := by
          unfold f_d2
          by_cases q : (f_nx Q).2.i 41 = 0
          · rw [if_pos ⟨rfl, q⟩]; exact bl_no q (by decide)
          · rw [if_neg (fun y => q y.2)]; exact q
        rw [show f_d3 (f_d2 (f_nx Q).2 10) r (f_nx Q).1 10 = f_d2 (f_nx Q).2 10 from if_neg (by decide), dl_stop n1]
        exact n1
      refine x_aload_n C dX1_readDifes_20 rfl ?_
      refine x_iconst (v := 1) C dX1_readDifes_21 (by decide) ?_
      refine u_callV (st := []) C Y hW E.cs (d_areThere hW B (nI 1)) md_X1_areThere wi_X1_areThere ws_X1_areThere wm_X1_117 dX1_readDifes_22 rfl (by decide) (by decide) B rfl rfl (by decide) ?_
      by_cases q22 : Q.i 40 + nI 1 ≤ Q.i 39
      · rw [if_pos q22, bI_t q22]
        refine x_if_ne (tgt := 30) C dX1_readDifes_25 (by decide) (fun _ => ?_) (fun q => absurd q (by decide))
        refine x_iload C dX1_readDifes_30 rfl ?_
        refine x_bipush (v := 10) C dX1_readDifes_32 (by decide) ?_
        refine x_icmp_ne (tgt := 47) C dX1_readDifes_34 (by decide) (fun q => absurd rfl q) (fun _ => ?_)
        refine x_aload_n C dX1_readDifes_37 rfl ?_
        refine x_iconst (v := 5) C dX1_readDifes_38 (by decide) ?_
        refine x_aload_n C dX1_readDifes_39 rfl ?_
        refine e_get C Y kd_X1 2 (by decide) wf_X1_9 dX1_readDifes_40 B rfl ?_
        refine u_callV (st := []) C Y hW E.cs (d_wrong hW B 5 (Q.i 40)) md_X1_wrong wi_X1_wrong ws_X1_wrong wm_X1_67 dX1_readDifes_43 rfl (by decide) (by decide) B rfl rfl (by decide) ?_
        exact x_zret C E dX1_readDifes_46 (by decide) (fun q e => by rw [show q = _ from e]; exact Or.inr ⟨rfl, fl, dw.setD F _ _ _ _ _ A9⟩)
      · rw [if_neg q22, bI_f q22]
        refine x_if_ne (tgt := 30) C dX1_readDifes_25 (by decide) (fun q => absurd rfl q) (fun _ => ?_)
        refine x_iconst (v := 0) C dX1_readDifes_28 (by decide) ?_
        exact x_zret C E dX1_readDifes_29 (by decide) (fun q e => by rw [show q = _ from e]; exact Or.inr ⟨rfl, fl, dw.setD F _ _ _ _ _ A9⟩)
    | succ rem ih =>
      intro k j la Q h hk bla e0 hj A e30 D
      obtain ⟨⟨fa, pl, B⟩, d2, ⟨fv, d3, d3'⟩, d4⟩ := id D
      obtain ⟨A1, A2, A3, A4, A5, A6, A7, A8, A9, A10⟩ := id A
      have dw := D.df A
      refine x_iload C dX1_readDifes_5 rfl ?_
      refine x_bipush (v := 10) C dX1_readDifes_7 (by decide) ?_
      refine x_icmp_gt (tgt := 65) C dX1_readDifes_9 (by decide) (fun q => absurd q (Int32.not_lt.mpr (nI_le (show k ≤ 10 by omega) (by decide)))) (fun _ => ?_)
      refine x_iload_n C dX1_readDifes_12 rfl ?_
      refine x_sipush (v := 128) C dX1_readDifes_13 (by decide) ?_
      refine x_iand C dX1_readDifes_16 ?_
      refine x_if_eq (tgt := 65) C dX1_readDifes_17 (by decide) (fun q => T65 h Q j _ _ (by rw [e0]; exact dl_end ((byt_128 bla).mp q) _ _) (hj.trans (exD_no q)) A e30 D) (fun q17 => ?_)
      have g17 : 127 < la := Decidable.byContradiction fun q => q17 ((byt_128 bla).mpr q)
      rw [f_dl, if_pos ⟨g17, A8⟩] at e0
      obtain ⟨fw, fat, fen⟩ := WFp.of A3 A4 A5 (by omega)
      have e1 : Q.i 40 + nI 1 ≤ Q.i 39 ↔ j + 1 ≤ m := by rw [A3, A4, nI_add]; exact nI_leI (by omega) (by omega)
      refine x_aload_n C dX1_readDifes_20 rfl ?_
      refine x_iconst (v := 1) C dX1_readDifes_21 (by decide) ?_
      refine u_callV (st := []) C Y hW E.cs (d_areThere hW B (nI 1)) md_X1_areThere wi_X1_areThere ws_X1_areThere wm_X1_117 dX1_readDifes_22 rfl (by decide) (by decide) B rfl rfl (by decide) ?_
      by_cases q22 : Q.i 40 + nI 1 ≤ Q.i 39
      · have hj1 := e1.mp q22
        have nx : f_nx Q = (Q.a 38 j, Q.si 40 (nI (j + 1))) := by unfold f_nx; rw [fat, fen, if_pos (by omega)]
        rw [nx] at e0
        have e2 : f_d3 (f_d2 (Q.si 40 (nI (j + 1))) k) r (Q.a 38 j) k = f_df1 (Q.si 40 (nI (j + 1))) r (Q.a 38 j) k := by
          rw [show f_d2 (Q.si 40 (nI (j + 1))) k = Q.si 40 (nI (j + 1)) from if_neg (fun q => by have := q.1; omega)]
          exact if_pos (by omega)
        rw [e2] at e0
        rw [if_pos q22, bI_t q22]
        refine x_if_ne (tgt := 30) C dX1_readDifes_25 (by decide) (fun _ => ?_) (fun q => absurd q (by decide))
        refine x_iload C dX1_readDifes_30 rfl ?_
        refine x_bipush (v := 10) C dX1_readDifes_32 (by decide) ?_
        refine x_icmp_ne (tgt := 47) C dX1_readDifes_34 (by decide) (fun _ => ?_) (fun q => absurd ((nI_eq (b := 10) (by omega) (by decide)).mp q) (by omega))
        have Rh := F.row d4
        have tk := d_take hW B Rh
        rw [A3, rAt_in (show j < nb by omega) Rh.2.2.2, A1 j (by omega), nI_1] at tk
        refine x_aload_n C dX1_readDifes_47 rfl ?_
        refine u_callV (st := []) C Y hW E.cs tk md_X1_take wi_X1_take ws_X1_take wm_X1_85 dX1_readDifes_48 rfl (by decide) (by decide) B rfl rfl (by decide) ?_
        refine o_istore_nE (L' := [some _, some _, some _, some _, some _]) C dX1_readDifes_51 (by rw [hn]; decide) rfl ?_
        refine x_aload_n C dX1_readDifes_52 rfl ?_
        refine x_iload C dX1_readDifes_53 rfl ?_
        refine x_iload_n C dX1_readDifes_55 rfl ?_
        obtain ⟨⟨n1, n2, n3⟩, -⟩ := id F
        have B2 : hs h de (.inr (1, [.ref li, .ref b, .int (nI (j + 1)), .int (Q.i 39), .int fa, .int pl, .int (Q.i 37)])) p = _ := (hs_ne (Ne.symm n1)).trans d2
        refine u_callV (st := []) C Y hW E.cs (q_addDifeX hW B2 (nI k) (Q.a 38 j)) md_X3_addDife wi_X3_addDife ws_X3_addDife wm_X1_120 dX1_readDifes_56 rfl (by decide) (by decide) B2 rfl rfl (by decide) ?_
        refine o_iincE (v := nI (k + 1)) (L' := [some _, some _, some _, some _, some _]) C dX1_readDifes_59 rfl (nI_1 k) (by rw [hn]; decide) rfl ?_
        refine x_goto (tgt := 5) C dX1_readDifes_62 (by decide) ?_
        have qa : ∀ q t, q ≠ 28 → q ≠ 29 → (f_df1 (Q.si 40 (nI (j + 1))) r (Q.a 38 j) k).a q t = Q.a q t := fun q t q1 q2 => by unfold f_df1; rw [sa_ne q2, sa_ne q1]; rfl
        have q28 : (f_df1 (Q.si 40 (nI (j + 1))) r (Q.a 38 j) k).a 28 r = Q.a 28 r ||| ((Q.a 38 j >>> ((4 : Int32) &&& 31)) &&& 3) <<< (((2 : Int32) * nI k) &&& 31) := by
          unfold f_df1
          rw [sa_ne (by decide), MS.sa_a, if_pos ⟨rfl, rfl⟩]
          rfl
        have q29 : (f_df1 (Q.si 40 (nI (j + 1))) r (Q.a 38 j) k).a 29 r = Q.a 29 r ||| ((Q.a 38 j >>> ((6 : Int32) &&& 31)) &&& 1) <<< (nI k &&& 31) := by
          unfold f_df1
          rw [MS.sa_a, if_pos ⟨rfl, rfl⟩]
          rfl
        have q27 : (f_df1 (Q.si 40 (nI (j + 1))) r (Q.a 38 j) k).w 27 r = Q.w 27 r ||| (Q.a 38 j &&& 15).toInt64 <<< (((1 : Int32) + 4 * nI k).toInt64 &&& 63) := by
          unfold f_df1
          rw [MS.sa_w, MS.sa_w, MS.sw_w, if_pos ⟨rfl, rfl⟩, byt_15l]
          rfl
        have qi : ∀ q, (f_df1 (Q.si 40 (nI (j + 1))) r (Q.a 38 j) k).i q = if q = 40 then nI (j + 1) else Q.i q := fun q => by unfold f_df1; rw [MS.sa_i, MS.sa_i, MS.sw_i, MS.si_i]
        refine ih (k + 1) (j + 1) _ (f_df1 (Q.si 40 (nI (j + 1))) r (Q.a 38 j) k) _ (by omega) (A2 j) e0 (by rw [← A1 j (by omega)]; exact hj.trans (exD_st q17)) ⟨fun t ht => by rw [qa 38 t (by decide) (by decide)]; exact A1 t ht, fun t => by rw [qa 38 t (by decide) (by decide)]; exact A2 t, by rw [qi]; rfl, by rw [qi]; exact A4, hj1, A6, A7, by rw [qi]; exact A8, by rw [qi]; exact A9, by rw [qa 30 r (by decide) (by decide)]; exact A10⟩ (by rw [qa 30 r (by decide) (by decide)]; exact e30) ⟨⟨fa, pl, ?_⟩, ?_, ⟨fv, ?_, fun t ht => ?_⟩, fun q q1 q2 q3 => ?_⟩
        · rw [hs_ne n1, hs_self, qi, qi, qi]
          rfl
        · rw [hs_self, qa 25 r (by decide) (by decide), qa 26 r (by decide) (by decide), q27, q28, q29, qa 30 r (by decide) (by decide)]
        · rw [hs_ne (Ne.symm n3), hs_ne (Ne.symm n2)]
          exact d3
        · rw [qa 30 r (by decide) (by decide)] at ht
          rw [qa 31 _ (by decide) (by decide)]
          exact d3' t ht
        · rw [hs_ne q2, hs_ne q1]
          exact d4 q q1 q2 q3
      · have hj1 : ¬ j + 1 ≤ m := fun q => q22 (e1.mpr q)
        have nx : f_nx Q = (0, f_bl Q 4 (nI m)) := by unfold f_nx; rw [fat, fen, if_neg (by omega)]
        rw [nx] at e0
        have fl : ¬ (FD).i 41 = 0 := by
          rw [e0]
          have n0 : ¬ (f_bl Q 4 (nI m)).i 41 = 0 := bl_no A8 (by decide)
          have n1 : f_d2 (f_bl Q 4 (nI m)) k = f_bl Q 4 (nI m) := if_neg (fun y => n0 y.2)
          rw [n1]
          have n2 : ¬ (f_d3 (f_bl Q 4 (nI m)) r 0 k).i 41 = 0 := by
            unfold f_d3
            split
            · exact n0
            · exact n0
          rw [dl_stop n2]
          exact n2
        rw [if_neg q22, bI_f q22]
        refine x_if_ne (tgt := 30) C dX1_readDifes_25 (by decide) (fun q => absurd rfl q) (fun _ => ?_)
        refine x_iconst (v := 0) C dX1_readDifes_28 (by decide) ?_
        exact x_zret C E dX1_readDifes_29 (by decide) (fun q e => by rw [show q = _ from e]; exact Or.inr ⟨rfl, fl, dw.setD F _ _ _ _ _ A9⟩)
  refine x_iload_n C dX1_readDifes_0 rfl ?_
  refine o_istore_nE (L' := [some _, some _, some _, some _, none]) C dX1_readDifes_1 (by rw [hn]; decide) rfl ?_
  refine x_iconst (v := 0) C dX1_readDifes_2 (by decide) ?_
  refine o_istoreE (L' := [some _, some _, some _, some _, some _]) C dX1_readDifes_3 (by rw [hn]; decide) rfl ?_
  exact LP 10 0 i x S h rfl hx hFD.symm rfl A rfl D
end Dec
