/-! The decoder against the model: VIFs, numbers. -/
section Dec
variable {w : Wd} {c : Nat → ClassId} {h h0 : PH} {li de p v b ba nb r : Nat} {fb : Nat → Int32} {lt : Value} {S : MS}
theorem d_vifsX (hW : Wc w c) (F : FX c de p v b ba h0 fb nb) (D : DX c li de p v b h0 r lt S h) {i m : Nat} (A : DA fb nb S i m r) (h30 : S.a 30 r = nI 0) : T w gw yX1_readVifs cX1_readVifs 4 (some .boolean) 2 (40 * 2) 0 0 [.ref de, .ref p] (EQ h)
    (fun q g => (q = some (.int 1) ∧ DA fb nb (f_vl r 13 S 128 0) (exD fb 12 128 i) m r ∧ DX c li de p v b h0 r lt (f_vl r 13 S 128 0) g) ∨ (q = some (.int 0) ∧ ¬ (f_vl r 13 S 128 0).i 41 = 0 ∧ DFx c li de p v b h0 lt g)) := by
  refine TA.intro hW rfl (by decide +kernel) (Nat.le_of_ble_eq_true rfl) (fun z C Y E hn h1 hA => ?_)
  rw [show h1 = h from hA]
  clear hA
  generalize hFD : f_vl r 13 S 128 0 = FD at E
  have T63 : ∀ (h : PH) (Q : MS) (j : Nat) (l2 l3 : Option Value), FD = Q → exD fb 12 128 i = j → DA fb nb Q j m r → DX c li de p v b h0 r lt Q h → X z 0 0 (EQ h) 63 [some (.ref de), some (.ref p), l2, l3] [] := fun h Q j l2 l3 e1 hj A D => by
    refine x_iconst (v := 1) C dX1_readVifs_63 (by decide) ?_
    exact x_zret C E dX1_readVifs_64 (by decide) (fun g e => by rw [show g = _ from e]; exact Or.inl ⟨rfl, by rw [e1, hj]; exact A, by rw [e1]; exact D⟩)
  have LP : ∀ (rem k j : Nat) (la : Int32) (Q : MS) (h : PH), k + rem = 11 → byt la → FD = f_vl r (rem + 2) Q la k → exD fb 12 128 i = exD fb (rem + 1) la j → Q.a 30 r = nI k → DA fb nb Q j m r → DX c li de p v b h0 r lt Q h → X z 0 0 (EQ h) 6 [some (.ref de), some (.ref p), some (.int la), some (.int (nI k))] [] := by
    intro rem
    induction rem with
    | zero =>
      intro k j la Q h hk bla e0 hj q30 A D
      obtain rfl : k = 11 := by omega
      obtain ⟨⟨fa, pl, B⟩, d2, d3, d4⟩ := id D
      obtain ⟨A1, A2, A3, A4, A5, A6, A7, A8, A9, A10⟩ := id A
      have dw := D.df A
      refine x_iload_n C dX1_readVifs_6 rfl ?_
      refine x_bipush (v := 11) C dX1_readVifs_7 (by decide) ?_
      refine x_icmp_gt (tgt := 63) C dX1_readVifs_9 (by decide) (fun q => absurd q (by decide)) (fun _ => ?_)
      refine x_iload_n C dX1_readVifs_12 rfl ?_
      refine x_sipush (v := 128) C dX1_readVifs_13 (by decide) ?_
      refine x_iand C dX1_readVifs_16 ?_
      refine x_if_eq (tgt := 63) C dX1_readVifs_17 (by decide) (fun q => T63 h Q j _ _ (by rw [e0]; exact vl_end ((byt_128 bla).mp q) _ _) (hj.trans (exD_no q)) A D) (fun q17 => ?_)
      have g17 : 127 < la := Decidable.byContradiction fun q => q17 ((byt_128 bla).mpr q)
      have fl : ¬ FD.i 41 = 0 := by
        rw [e0, f_vl, if_pos ⟨g17, A8⟩]
        have n1 : ¬ (f_v2 (f_nx Q).2 11).i 41 = 0 := by
          unfold f_v2
          by_cases q : (f_nx Q).2.i 41 = 0
          · rw [if_pos ⟨rfl, q⟩]; exact bl_no q (by decide)
          · rw [if_neg (fun y => q y.2)]; exact q
        rw [show f_v4 (f_v2 (f_nx Q).2 11) r (f_nx Q).1 11 = f_v2 (f_nx Q).2 11 from if_neg (fun y => n1 y.2), vl_stop n1]
        exact n1
      refine x_aload_n C dX1_readVifs_20 rfl ?_
      refine x_iconst (v := 1) C dX1_readVifs_21 (by decide) ?_
      refine u_callV (st := []) C Y hW E.cs (d_areThere hW B (nI 1)) md_X1_areThere wi_X1_areThere ws_X1_areThere wm_X1_117 dX1_readVifs_22 rfl (by decide) (by decide) B rfl rfl (by decide) ?_
      by_cases q22 : Q.i 40 + nI 1 ≤ Q.i 39
      · rw [if_pos q22, bI_t q22]
        refine x_if_ne (tgt := 30) C dX1_readVifs_25 (by decide) (fun _ => ?_) (fun q => absurd q (by decide))
        refine x_iload_n C dX1_readVifs_30 rfl ?_
        refine x_bipush (v := 10) C dX1_readVifs_31 (by decide) ?_
        refine x_icmp_le (tgt := 47) C dX1_readVifs_33 (by decide) (fun q => absurd q (by decide)) (fun _ => ?_)
        refine x_aload_n C dX1_readVifs_36 rfl ?_
        refine x_bipush (v := 6) C dX1_readVifs_37 (by decide) ?_
        refine x_aload_n C dX1_readVifs_39 rfl ?_
        refine e_get C Y kd_X1 2 (by decide) wf_X1_9 dX1_readVifs_40 B rfl ?_
        refine u_callV (st := []) C Y hW E.cs (d_wrong hW B 6 (Q.i 40)) md_X1_wrong wi_X1_wrong ws_X1_wrong wm_X1_67 dX1_readVifs_43 rfl (by decide) (by decide) B rfl rfl (by decide) ?_
        exact x_zret C E dX1_readVifs_46 (by decide) (fun q e => by rw [show q = _ from e]; exact Or.inr ⟨rfl, fl, dw.setD F _ _ _ _ _ A9⟩)
      · rw [if_neg q22, bI_f q22]
        refine x_if_ne (tgt := 30) C dX1_readVifs_25 (by decide) (fun q => absurd rfl q) (fun _ => ?_)
        refine x_iconst (v := 0) C dX1_readVifs_28 (by decide) ?_
        exact x_zret C E dX1_readVifs_29 (by decide) (fun q e => by rw [show q = _ from e]; exact Or.inr ⟨rfl, fl, dw.setD F _ _ _ _ _ A9⟩)
    | succ rem ih =>
      intro k j la Q h hk bla e0 hj q30 A D
      obtain ⟨⟨fa, pl, B⟩, d2, ⟨fv, d3, d3'⟩, d4⟩ := id D
      obtain ⟨A1, A2, A3, A4, A5, A6, A7, A8, A9, A10⟩ := id A
      have dw := D.df A
      refine x_iload_n C dX1_readVifs_6 rfl ?_
      refine x_bipush (v := 11) C dX1_readVifs_7 (by decide) ?_
      refine x_icmp_gt (tgt := 63) C dX1_readVifs_9 (by decide) (fun q => absurd q (Int32.not_lt.mpr (nI_le (show k ≤ 11 by omega) (by decide)))) (fun _ => ?_)
      refine x_iload_n C dX1_readVifs_12 rfl ?_
      refine x_sipush (v := 128) C dX1_readVifs_13 (by decide) ?_
      refine x_iand C dX1_readVifs_16 ?_
      refine x_if_eq (tgt := 63) C dX1_readVifs_17 (by decide) (fun q => ?_) (fun q17 => ?_)
      · exact T63 h Q j _ _ (by rw [e0]; exact vl_end ((byt_128 bla).mp q) _ _) (hj.trans (exD_no q)) A D
      have g17 : 127 < la := Decidable.byContradiction fun q => q17 ((byt_128 bla).mpr q)
      rw [f_vl, if_pos ⟨g17, A8⟩] at e0
      obtain ⟨fw, fat, fen⟩ := WFp.of A3 A4 A5 (by omega)
      have e1 : Q.i 40 + nI 1 ≤ Q.i 39 ↔ j + 1 ≤ m := by rw [A3, A4, nI_add]; exact nI_leI (by omega) (by omega)
      refine x_aload_n C dX1_readVifs_20 rfl ?_
      refine x_iconst (v := 1) C dX1_readVifs_21 (by decide) ?_
      refine u_callV (st := []) C Y hW E.cs (d_areThere hW B (nI 1)) md_X1_areThere wi_X1_areThere ws_X1_areThere wm_X1_117 dX1_readVifs_22 rfl (by decide) (by decide) B rfl rfl (by decide) ?_
      by_cases q22 : Q.i 40 + nI 1 ≤ Q.i 39
      · have hj1 := e1.mp q22
        have nx : f_nx Q = (Q.a 38 j, Q.si 40 (nI (j + 1))) := by unfold f_nx; rw [fat, fen, if_pos (by omega)]
        rw [nx] at e0
        have e2 : f_v4 (f_v2 (Q.si 40 (nI (j + 1))) k) r (Q.a 38 j) k = ((Q.si 40 (nI (j + 1))).sa 31 (11 * r + k) (Q.a 38 j)).sa 30 r (Q.a 30 r + 1) := by
          rw [show f_v2 (Q.si 40 (nI (j + 1))) k = Q.si 40 (nI (j + 1)) from if_neg (fun q => by have := q.1; omega)]
          exact if_pos ⟨by omega, A8⟩
        rw [e2] at e0
        rw [if_pos q22, bI_t q22]
        refine x_if_ne (tgt := 30) C dX1_readVifs_25 (by decide) (fun _ => ?_) (fun q => absurd q (by decide))
        refine x_iload_n C dX1_readVifs_30 rfl ?_
        refine x_bipush (v := 10) C dX1_readVifs_31 (by decide) ?_
        refine x_icmp_le (tgt := 47) C dX1_readVifs_33 (by decide) (fun _ => ?_) (fun q => absurd (nI_le (b := 10) (show k ≤ 10 by omega) (by decide)) q)
        have Rh := F.row d4
        have tk := d_take hW B Rh
        rw [A3, rAt_in (show j < nb by omega) Rh.2.2.2, A1 j (by omega), nI_1] at tk
        refine x_aload_n C dX1_readVifs_47 rfl ?_
        refine u_callV (st := []) C Y hW E.cs tk md_X1_take wi_X1_take ws_X1_take wm_X1_85 dX1_readVifs_48 rfl (by decide) (by decide) B rfl rfl (by decide) ?_
        refine o_istore_nE (L' := [some _, some _, some _, some _]) C dX1_readVifs_51 (by rw [hn]; decide) rfl ?_
        refine x_aload_n C dX1_readVifs_52 rfl ?_
        refine x_iload_n C dX1_readVifs_53 rfl ?_
        obtain ⟨⟨n1, n2, n3⟩, -⟩ := id F
        rw [q30] at d2
        have B2 : hs h de (.inr (1, [.ref li, .ref b, .int (nI (j + 1)), .int (Q.i 39), .int fa, .int pl, .int (Q.i 37)])) p = _ := (hs_ne (Ne.symm n1)).trans d2
        have V2 : hs h de (.inr (1, [.ref li, .ref b, .int (nI (j + 1)), .int (Q.i 39), .int fa, .int pl, .int (Q.i 37)])) v = _ := (hs_ne (Ne.symm n2)).trans d3
        refine u_callV (st := []) C Y hW E.cs (q_addVifX hW (show k < 11 by omega) B2 V2 n3 (Q.a 38 j)) md_X3_addVif wi_X3_addVif ws_X3_addVif wm_X1_124 dX1_readVifs_54 rfl (by decide) (by decide) B2 rfl rfl (by decide) ?_
        refine o_iincE (v := nI (k + 1)) (L' := [some _, some _, some _, some _]) C dX1_readVifs_57 rfl (nI_1 k) (by rw [hn]; decide) rfl ?_
        refine x_goto (tgt := 6) C dX1_readVifs_60 (by decide) ?_
        have qa : ∀ q t, q ≠ 31 → q ≠ 30 → (((Q.si 40 (nI (j + 1))).sa 31 (11 * r + k) (Q.a 38 j)).sa 30 r (Q.a 30 r + 1)).a q t = Q.a q t := fun q t q1 q2 => by rw [sa_ne q2, sa_ne q1]; rfl
        have q30' : (((Q.si 40 (nI (j + 1))).sa 31 (11 * r + k) (Q.a 38 j)).sa 30 r (Q.a 30 r + 1)).a 30 r = nI (k + 1) := by rw [MS.sa_a, if_pos ⟨rfl, rfl⟩, q30, nI_1]
        have q31 : ∀ t, (((Q.si 40 (nI (j + 1))).sa 31 (11 * r + k) (Q.a 38 j)).sa 30 r (Q.a 30 r + 1)).a 31 (11 * r + t) = if t = k then Q.a 38 j else Q.a 31 (11 * r + t) := fun t => by
          rw [sa_ne (by decide), MS.sa_a]
          by_cases q : t = k
          · rw [if_pos ⟨rfl, by rw [q]⟩, if_pos q]
          · rw [if_neg (fun y => q (by omega)), if_neg q]; rfl
        have qi : ∀ q, (((Q.si 40 (nI (j + 1))).sa 31 (11 * r + k) (Q.a 38 j)).sa 30 r (Q.a 30 r + 1)).i q = if q = 40 then nI (j + 1) else Q.i q := fun q => by rw [MS.sa_i, MS.sa_i, MS.si_i]
        have qw : ∀ t, (((Q.si 40 (nI (j + 1))).sa 31 (11 * r + k) (Q.a 38 j)).sa 30 r (Q.a 30 r + 1)).w 27 t = Q.w 27 t := fun t => rfl
        refine ih (k + 1) (j + 1) _ (((Q.si 40 (nI (j + 1))).sa 31 (11 * r + k) (Q.a 38 j)).sa 30 r (Q.a 30 r + 1)) _ (by omega) (A2 j) e0 (by rw [← A1 j (by omega)]; exact hj.trans (exD_st q17)) q30' ⟨fun t ht => by rw [qa 38 t (by decide) (by decide)]; exact A1 t ht, fun t => by rw [qa 38 t (by decide) (by decide)]; exact A2 t, by rw [qi]; rfl, by rw [qi]; exact A4, hj1, A6, A7, by rw [qi]; exact A8, by rw [qi]; exact A9, ⟨k + 1, by omega, q30'⟩⟩ ⟨⟨fa, pl, ?_⟩, ?_, ⟨upd fv k (Q.a 38 j), ?_, fun t ht => ?_⟩, fun q q1 q2 q3 => ?_⟩
        · rw [hs_ne n1, hs_ne n2, hs_self, qi, qi, qi]
          rfl
        · rw [hs_self, qa 25 r (by decide) (by decide), qa 26 r (by decide) (by decide), qw, qa 28 r (by decide) (by decide), qa 29 r (by decide) (by decide), q30']
        · rw [hs_ne (Ne.symm n3), hs_self]
        · rw [q30', nI_clamp (by omega)] at ht
          rw [q31]
          by_cases q : t = k
          · subst q; rw [if_pos rfl]; simp [upd]
          · rw [if_neg q, ← d3' t (by rw [q30, nI_clamp (by omega)]; omega)]
            simp [upd, q]
        · rw [hs_ne q2, hs_ne q3, hs_ne q1]
          exact d4 q q1 q2 q3
      · have hj1 : ¬ j + 1 ≤ m := fun q => q22 (e1.mpr q)
        have nx : f_nx Q = (0, f_bl Q 4 (nI m)) := by unfold f_nx; rw [fat, fen, if_neg (by omega)]
        rw [nx] at e0
        have fl : ¬ FD.i 41 = 0 := by
          rw [e0]
          have n0 : ¬ (f_bl Q 4 (nI m)).i 41 = 0 := bl_no A8 (by decide)
          have n1 : f_v2 (f_bl Q 4 (nI m)) k = f_bl Q 4 (nI m) := if_neg (fun y => n0 y.2)
          rw [n1, show f_v4 (f_bl Q 4 (nI m)) r 0 k = f_bl Q 4 (nI m) from if_neg (fun y => n0 y.2), vl_stop n0]
          exact n0
        rw [if_neg q22, bI_f q22]
        refine x_if_ne (tgt := 30) C dX1_readVifs_25 (by decide) (fun q => absurd rfl q) (fun _ => ?_)
        refine x_iconst (v := 0) C dX1_readVifs_28 (by decide) ?_
        exact x_zret C E dX1_readVifs_29 (by decide) (fun q e => by rw [show q = _ from e]; exact Or.inr ⟨rfl, fl, dw.setD F _ _ _ _ _ A9⟩)
  refine x_sipush (v := 128) C dX1_readVifs_0 (by decide) ?_
  refine o_istore_nE (L' := [some _, some _, some _, none]) C dX1_readVifs_3 (by rw [hn]; decide) rfl ?_
  refine x_iconst (v := 0) C dX1_readVifs_4 (by decide) ?_
  refine o_istore_nE (L' := [some _, some _, some _, some _]) C dX1_readVifs_5 (by rw [hn]; decide) rfl ?_
  exact LP 11 0 i 128 S h rfl ⟨128, by decide, rfl⟩ hFD.symm rfl h30 A D
end Dec
