/-! What a Meter, a Reading, a list tell; a page set. -/
section Met
variable {w : Wd} {c : Nat → ClassId} {u ma an aa n m : Nat} {h0 h : PH} {W : Nat → Prop} {α : Nat → Int64} {f : Nat → Option Nat} {κ : Nat → Nat}
theorem t_detail (hX : Wx w c) (D : BX c u ma an aa h0 W α f κ h) (hm : κ m = 1) (x : Int32) : T w gw yX2_detail cX2_detail 2 (some .int) 1 (40 * 1) 0 0 [.ref m, .int x] (EQ h) (fun r g => g = h ∧ ∃ v, r = some (.int v)) := by
  have hW := hX.1
  obtain ⟨n, n90, D⟩ := D
  obtain ⟨pr, se, pt, bt, ac, pg, sz, B, k1, k2, k3⟩ := D.me hm
  obtain ⟨s, Bs⟩ := D.sz k2
  refine TA.intro hW rfl (by decide +kernel) (Nat.le_of_ble_eq_true rfl) (fun z C Y E hn h1 hA => ?_)
  rw [show h1 = h from hA]
  clear hA
  refine x_iload_n C dX2_detail_0 rfl ?_
  by_cases g : x.toInt < 1 ∨ 6 < x.toInt
  · refine x_tblOut (tgt := 78) C dX2_detail_1 g (by decide) ?_
    refine x_iconst (v := 1) C dX2_detail_78 (by decide) ?_
    exact x_iret C E dX2_detail_79 (fun q e => ⟨e, _, rfl⟩)
  rcases (show x.toInt = 1 ∨ x.toInt = 2 ∨ x.toInt = 3 ∨ x.toInt = 4 ∨ x.toInt = 5 ∨ x.toInt = 6 by omega) with e | e | e | e | e | e
  · obtain rfl : x = 1 := Int32.toInt_inj.mp (by rw [e]; rfl)
    refine x_tblIn (tgt := 40) (off := 39) C dX2_detail_1 (by decide) (by decide) (by decide) (by decide) ?_
    refine x_aload_n C dX2_detail_40 rfl ?_
    refine e_get C Y kd_X2 1 (by decide) wf_X2_34 dX2_detail_41 B rfl ?_
    exact x_iret C E dX2_detail_44 (fun q e => ⟨e, _, rfl⟩)
  · obtain rfl : x = 2 := Int32.toInt_inj.mp (by rw [e]; rfl)
    refine x_tblIn (tgt := 45) (off := 44) C dX2_detail_1 (by decide) (by decide) (by decide) (by decide) ?_
    refine x_aload_n C dX2_detail_45 rfl ?_
    refine e_get C Y kd_X2 2 (by decide) wf_X2_9 dX2_detail_46 B rfl ?_
    have T57 : ∀ v : Int32, X z 0 0 (EQ h) 57 [some (.ref m), some (.int 2)] [.int v] := fun v => x_iret C E dX2_detail_57 (fun q e => ⟨e, _, rfl⟩)
    refine x_if_eq (tgt := 56) C dX2_detail_49 (by decide) (fun _ => ?_) (fun _ => ?_)
    · exact x_iconst (v := 0) C dX2_detail_56 (by decide) (T57 _)
    · refine x_iconst (v := 1) C dX2_detail_52 (by decide) ?_
      exact x_goto (tgt := 57) C dX2_detail_53 (by decide) (T57 _)
  · obtain rfl : x = 3 := Int32.toInt_inj.mp (by rw [e]; rfl)
    refine x_tblIn (tgt := 58) (off := 57) C dX2_detail_1 (by decide) (by decide) (by decide) (by decide) ?_
    refine x_aload_n C dX2_detail_58 rfl ?_
    refine u_callV (st := []) C Y hW E.cs (t_pageNumber hW B Bs) md_X2_pageNumber wi_X2_pageNumber ws_X2_pageNumber wm_X2_57 dX2_detail_59 rfl (by decide) (by decide) B rfl rfl (by decide) ?_
    exact x_iret C E dX2_detail_62 (fun q e => ⟨e, _, rfl⟩)
  · obtain rfl : x = 4 := Int32.toInt_inj.mp (by rw [e]; rfl)
    refine x_tblIn (tgt := 63) (off := 62) C dX2_detail_1 (by decide) (by decide) (by decide) (by decide) ?_
    refine x_aload_n C dX2_detail_63 rfl ?_
    refine e_get C Y kd_X2 5 (by decide) wf_X2_24 dX2_detail_64 B rfl ?_
    exact x_iret C E dX2_detail_67 (fun q e => ⟨e, _, rfl⟩)
  · obtain rfl : x = 5 := Int32.toInt_inj.mp (by rw [e]; rfl)
    refine x_tblIn (tgt := 68) (off := 67) C dX2_detail_1 (by decide) (by decide) (by decide) (by decide) ?_
    refine x_aload_n C dX2_detail_68 rfl ?_
    refine e_get C Y kd_X2 6 (by decide) wf_X2_28 dX2_detail_69 B rfl ?_
    exact x_iret C E dX2_detail_72 (fun q e => ⟨e, _, rfl⟩)
  · obtain rfl : x = 6 := Int32.toInt_inj.mp (by rw [e]; rfl)
    refine x_tblIn (tgt := 73) (off := 72) C dX2_detail_1 (by decide) (by decide) (by decide) (by decide) ?_
    refine x_aload_n C dX2_detail_73 rfl ?_
    refine e_get C Y kd_X2 7 (by decide) wf_X2_31 dX2_detail_74 B rfl ?_
    exact x_iret C E dX2_detail_77 (fun q e => ⟨e, _, rfl⟩)
variable {b ba nb : Nat} {fb : Nat → Int32}
theorem t_setPage (hX : Wx w c) (hm : κ m = 1) (Rb : RW c h0 b ba fb nb) (o1 : W b) (o2 : W ba) {j : Nat} (hj : j < 3) : T w gw yX2_setPage cX2_setPage 5 none 2 (40 * 2) 0 0 [.ref m, .int (nI j), .ref b] (BX c u ma an aa h0 W α f κ) (fun r g => r = none ∧ BX c u ma an aa h0 W α f κ g) := by
  have hW := hX.1
  refine TA.intro hW rfl (by decide +kernel) (Nat.le_of_ble_eq_true rfl) (fun z C Y E hn h D => ?_)
  obtain ⟨t5, ht5⟩ : ∃ t : Nat, z.tys[t]? = some (c 5, .array .int) := by rw [E.2.2.2.1]; exact hX.2.2.2.2.2
  obtain ⟨s, hs6, es⟩ : ∃ s, s ≤ 60 ∧ (if (60 : Int32) < nI nb then (60 : Int32) else nI nb) = nI s := by
    by_cases q : (60 : Int32) < nI nb
    · exact ⟨60, Nat.le_refl _, by rw [if_pos q]; rfl⟩
    · exact ⟨nb, Nat.le_of_not_lt (fun g => q (nI_lt g (Nat.lt_of_le_of_lt Rb.2.2.2 (by decide)))), if_neg q⟩
  have R := D.out Rb o1 o2
  have LP : ∀ (r i : Nat) (h : PH), i + r = s → BX c u ma an aa h0 W α f κ h → X z 0 0 (EQ h) 23 [some (.ref m), some (.int (nI j)), some (.ref b), some (.int (nI s)), some (.int (nI i))] [] := by
    intro r
    induction r with
    | zero =>
      intro i h hi D
      obtain rfl : i = s := by omega
      obtain ⟨n, n90, D⟩ := D
      obtain ⟨pr, se, pt, bt, ac, pg, sz, B, k1, k2, k3⟩ := D.me hm
      obtain ⟨s9, Bs⟩ := D.sz k2
      refine x_iload C dX2_setPage_23 rfl ?_
      refine x_iload_n C dX2_setPage_25 rfl ?_
      refine x_icmp_ge (tgt := 50) C dX2_setPage_26 (by decide) (fun _ => ?_) (fun q => absurd (Int32.le_refl _) q)
      refine x_aload_n C dX2_setPage_50 rfl ?_
      refine e_get C Y kd_X2 4 (by decide) wf_X2_20 dX2_setPage_51 B rfl ?_
      refine x_iload_n C dX2_setPage_54 rfl ?_
      refine x_iload_n C dX2_setPage_55 rfl ?_
      refine e_ist C Y dX2_setPage_56 Bs (vp_in_nI hj (by decide)) rfl ?_
      exact x_vret C E dX2_setPage_57 (fun g e => ⟨rfl, n, n90, by rw [e]; exact D.put (by omega) (by rw [k2]; exact ⟨_, rfl⟩)⟩)
    | succ r ih =>
      intro i h hi D
      have Rh := D.out Rb o1 o2
      obtain ⟨n, n90, D⟩ := D
      obtain ⟨pr, se, pt, bt, ac, pg, sz, B, k1, k2, k3⟩ := D.me hm
      obtain ⟨g, Bg, Bg3⟩ := D.pg k1
      obtain ⟨t, t1, t2⟩ := Bg3 j hj
      obtain ⟨s9, Bt⟩ := D.pp t2
      refine x_iload C dX2_setPage_23 rfl ?_
      refine x_iload_n C dX2_setPage_25 rfl ?_
      refine x_icmp_ge (tgt := 50) C dX2_setPage_26 (by decide) (fun q => absurd q (Int32.not_le.mpr (nI_lt (show i < s by omega) (by omega)))) (fun _ => ?_)
      refine x_aload_n C dX2_setPage_29 rfl ?_
      refine e_get C Y kd_X2 3 (by decide) wf_X2_17 dX2_setPage_30 B rfl ?_
      refine x_iload_n C dX2_setPage_33 rfl ?_
      refine e_ald2 C ht5 dX2_setPage_34 Bg rfl hj (by decide) t1 ?_
      refine x_iload C dX2_setPage_35 rfl ?_
      refine x_aload_n C dX2_setPage_37 rfl ?_
      refine x_iload C dX2_setPage_38 rfl ?_
      refine u_callV (st := [.int (nI i), .ref t]) C Y hW E.cs (r_at hW Rh _) md_X5_at wi_X5_at ws_X5_at wm_X2_53 dX2_setPage_40 rfl (by decide) (by decide) Rh.2.1 rfl rfl (by simp [Value.category]) ?_
      refine e_ist C Y dX2_setPage_43 Bt (vp_in_nI (show i < 60 by omega) (by decide)) rfl ?_
      refine o_iincE (v := nI (i + 1)) (L' := [some _, some _, some _, some _, some _]) C dX2_setPage_44 rfl (nI_1 i) (by rw [hn]; decide) rfl ?_
      refine x_goto (tgt := 23) C dX2_setPage_47 (by decide) ?_
      exact ih (i + 1) _ (by omega) ⟨n, n90, D.put (by omega) (by rw [t2]; exact ⟨_, rfl⟩)⟩
  refine x_iload_n C dX2_setPage_0 rfl ?_
  refine x_if_lt (tgt := 9) C dX2_setPage_1 (by decide) (fun q => absurd q (nI_pos (by omega))) (fun _ => ?_)
  refine x_iload_n C dX2_setPage_4 rfl ?_
  refine x_iconst (v := 3) C dX2_setPage_5 (by decide) ?_
  refine x_icmp_lt (tgt := 10) C dX2_setPage_6 (by decide) (fun _ => ?_) (fun q => absurd (nI_lt hj (by decide)) q)
  refine x_aload_n C dX2_setPage_10 rfl ?_
  refine u_callV (st := []) C Y hW E.cs (r_size hW R) md_X5_size wi_X5_size ws_X5_size wm_X2_41 dX2_setPage_11 rfl (by decide) (by decide) R.2.1 rfl rfl (by decide) ?_
  refine x_bipush (v := 60) C dX2_setPage_14 (by decide) ?_
  refine x_min C wm_X2_47 dX2_setPage_16 (by rw [E.fr_]; decide) (by rw [E.lo_]; decide) ?_
  rw [es]
  refine o_istore_nE (L' := [some _, some _, some _, some _, none]) C dX2_setPage_19 (by rw [hn]; decide) rfl ?_
  refine x_iconst (v := 0) C dX2_setPage_20 (by decide) ?_
  refine o_istoreE (L' := [some _, some _, some _, some _, some _]) C dX2_setPage_21 (by rw [hn]; decide) rfl ?_
  exact LP s 0 h (by omega) D
end Met
section Tell
variable {w : Wd} {c : Nat → ClassId} {li ra de p : Nat} {h0 h : PH} {W : Nat → Prop} {κ : Nat → Nat}
theorem q_textAt (hX : Wx w c) (D : DK c li ra de h0 W κ h) (hp : κ p = 1) (x : Int32) : T w gw yX3_textAt cX3_textAt 2 (some .int) 0 (40 * 0) 0 0 [.ref p, .int x] (EQ h) (fun r g => g = h ∧ ∃ v, r = some (.int v)) := by
  obtain ⟨e, B, va, sg, co, fu, ta, un, ln, v, vn, lt, rfl, v1, v2, v3⟩ := D.rd hp
  refine TA.intro hX.1 rfl (by decide +kernel) (Nat.le_of_ble_eq_true rfl) (fun z C Y E hn h1 hA => ?_)
  rw [show h1 = h from hA]
  clear hA
  obtain ⟨t0, ht0⟩ := Y.2.1
  have T29 : X z 0 0 (EQ h) 29 [some (.ref p), some (.int x)] [] := by
    refine x_iconst (v := -1) C dX3_textAt_29 (by decide) ?_
    exact x_iret C E dX3_textAt_30 (fun q e => ⟨e, _, rfl⟩)
  refine x_aload_n C dX3_textAt_0 rfl ?_
  refine e_get C Y kd_X3 8 (by decide) wf_X3_38 dX3_textAt_1 B rfl ?_
  rcases v3 with rfl | ⟨t, rfl, ht⟩
  · exact x_ifnullN (tgt := 29) C dX3_textAt_4 (by decide) T29
  obtain ⟨m, f, m1, m2⟩ := D.lt ht
  refine x_ifnull C dX3_textAt_4 ?_
  refine x_iload_n C dX3_textAt_7 rfl ?_
  refine x_if_lt (tgt := 29) C dX3_textAt_8 (by decide) (fun _ => T29) (fun c8 => ?_)
  refine x_iload_n C dX3_textAt_11 rfl ?_
  refine x_aload_n C dX3_textAt_12 rfl ?_
  refine e_get C Y kd_X3 8 (by decide) wf_X3_38 dX3_textAt_13 B rfl ?_
  refine x_alen C ht0 dX3_textAt_16 (v := nI m) (fun q e => by rw [e]; exact m2) rfl ?_
  refine x_icmp_ge (tgt := 29) C dX3_textAt_17 (by decide) (fun _ => T29) (fun c17 => ?_)
  obtain ⟨j, hj, rfl⟩ := nI_of c8
  have hj2 : j < m := (nI_ltI hj (by omega)).mp (Int32.not_le.mp c17)
  refine x_aload_n C dX3_textAt_20 rfl ?_
  refine e_get C Y kd_X3 8 (by decide) wf_X3_38 dX3_textAt_21 B rfl ?_
  refine x_iload_n C dX3_textAt_24 rfl ?_
  refine e_ild C Y dX3_textAt_25 m2 (vp_in_nI hj2 (by omega)) ?_
  refine x_goto (tgt := 30) C dX3_textAt_26 (by decide) ?_
  exact x_iret C E dX3_textAt_30 (fun q e => ⟨e, _, rfl⟩)
theorem q_detail (hX : Wx w c) (D : DK c li ra de h0 W κ h) (hp : κ p = 1) (x : Int32) : T w gw yX3_detail cX3_detail 2 (some .long) 0 (40 * 0) 0 0 [.ref p, .int x] (EQ h) (fun r g => g = h ∧ ∃ v, r = some (.long v)) := by
  obtain ⟨e, B, va, sg, co, fu, ta, un, ln, v, vn, lt, rfl, v1, v2, v3⟩ := D.rd hp
  obtain ⟨f, m2⟩ := D.vf v1
  refine TA.intro hX.1 rfl (by decide +kernel) (Nat.le_of_ble_eq_true rfl) (fun z C Y E hn h1 hA => ?_)
  rw [show h1 = h from hA]
  clear hA
  obtain ⟨t0, ht0⟩ := Y.2.1
  refine x_iload_n C dX3_detail_0 rfl ?_
  by_cases g : x.toInt < 0 ∨ 6 < x.toInt
  · refine x_tblOut (tgt := 84) C dX3_detail_1 g (by decide) ?_
    have T115 : X z 0 0 (EQ h) 115 [some (.ref p), some (.int x)] [] := by
      refine x_ldc2 C wk_X3_50 dX3_detail_115 ?_
      exact x_lret C E dX3_detail_118 (fun q e => ⟨e, _, rfl⟩)
    refine x_iload_n C dX3_detail_84 rfl ?_
    refine x_bipush (v := 7) C dX3_detail_85 (by decide) ?_
    refine x_icmp_lt (tgt := 115) C dX3_detail_87 (by decide) (fun _ => T115) (fun c7 => ?_)
    obtain ⟨j, hj, rfl⟩ := nI_of (x := x) (fun q => c7 (Int32.lt_trans q (by decide)))
    have hj7 : 7 ≤ j := Nat.le_of_not_lt (fun q => c7 (nI_lt q (by decide)))
    refine x_iload_n C dX3_detail_90 rfl ?_
    refine x_bipush (v := 7) C dX3_detail_91 (by decide) ?_
    refine x_isub C dX3_detail_93 ?_
    rw [show nI j - 7 = nI (j - 7) from nI_sub' hj7]
    refine x_aload_n C dX3_detail_94 rfl ?_
    refine e_get C Y kd_X3 6 (by decide) wf_X3_31 dX3_detail_95 B rfl ?_
    refine x_alen C ht0 dX3_detail_98 (v := nI 11) (fun q e => by rw [e]; exact m2) rfl ?_
    refine x_icmp_ge (tgt := 115) C dX3_detail_99 (by decide) (fun _ => T115) (fun c17 => ?_)
    have hj2 : j - 7 < 11 := (nI_ltI (by omega) (by decide)).mp (Int32.not_le.mp c17)
    refine x_aload_n C dX3_detail_102 rfl ?_
    refine e_get C Y kd_X3 6 (by decide) wf_X3_31 dX3_detail_103 B rfl ?_
    refine x_iload_n C dX3_detail_106 rfl ?_
    refine x_bipush (v := 7) C dX3_detail_107 (by decide) ?_
    refine x_isub C dX3_detail_109 ?_
    rw [show nI j - 7 = nI (j - 7) from nI_sub' hj7]
    refine e_ild C Y dX3_detail_110 m2 (vp_in_nI hj2 (by decide)) ?_
    refine x_i2l C dX3_detail_111 ?_
    refine x_goto (tgt := 118) C dX3_detail_112 (by decide) ?_
    exact x_lret C E dX3_detail_118 (fun q e => ⟨e, _, rfl⟩)
  rcases (show x.toInt = 0 ∨ x.toInt = 1 ∨ x.toInt = 2 ∨ x.toInt = 3 ∨ x.toInt = 4 ∨ x.toInt = 5 ∨ x.toInt = 6 by omega) with e | e | e | e | e | e | e
  · obtain rfl : x = 0 := Int32.toInt_inj.mp (by rw [e]; rfl)
    refine x_tblIn (tgt := 44) (off := 43) C dX3_detail_1 (by decide) (by decide) (by decide) (by decide) ?_
    refine x_aload_n C dX3_detail_44 rfl ?_
    refine e_get C Y kd_X3 0 (by decide) wf_X3_9 dX3_detail_45 B rfl ?_
    exact x_lret C E dX3_detail_48 (fun q e => ⟨e, _, rfl⟩)
  · obtain rfl : x = 1 := Int32.toInt_inj.mp (by rw [e]; rfl)
    refine x_tblIn (tgt := 49) (off := 48) C dX3_detail_1 (by decide) (by decide) (by decide) (by decide) ?_
    refine x_aload_n C dX3_detail_49 rfl ?_
    refine e_get C Y kd_X3 1 (by decide) wf_X3_15 dX3_detail_50 B rfl ?_
    refine x_i2l C dX3_detail_53 ?_
    exact x_lret C E dX3_detail_54 (fun q e => ⟨e, _, rfl⟩)
  · obtain rfl : x = 2 := Int32.toInt_inj.mp (by rw [e]; rfl)
    refine x_tblIn (tgt := 55) (off := 54) C dX3_detail_1 (by decide) (by decide) (by decide) (by decide) ?_
    refine x_aload_n C dX3_detail_55 rfl ?_
    refine e_get C Y kd_X3 2 (by decide) wf_X3_19 dX3_detail_56 B rfl ?_
    refine x_i2l C dX3_detail_59 ?_
    exact x_lret C E dX3_detail_60 (fun q e => ⟨e, _, rfl⟩)
  · obtain rfl : x = 3 := Int32.toInt_inj.mp (by rw [e]; rfl)
    refine x_tblIn (tgt := 61) (off := 60) C dX3_detail_1 (by decide) (by decide) (by decide) (by decide) ?_
    refine x_aload_n C dX3_detail_61 rfl ?_
    refine e_get C Y kd_X3 3 (by decide) wf_X3_22 dX3_detail_62 B rfl ?_
    exact x_lret C E dX3_detail_65 (fun q e => ⟨e, _, rfl⟩)
  · obtain rfl : x = 4 := Int32.toInt_inj.mp (by rw [e]; rfl)
    refine x_tblIn (tgt := 66) (off := 65) C dX3_detail_1 (by decide) (by decide) (by decide) (by decide) ?_
    refine x_aload_n C dX3_detail_66 rfl ?_
    refine e_get C Y kd_X3 4 (by decide) wf_X3_25 dX3_detail_67 B rfl ?_
    refine x_i2l C dX3_detail_70 ?_
    exact x_lret C E dX3_detail_71 (fun q e => ⟨e, _, rfl⟩)
  · obtain rfl : x = 5 := Int32.toInt_inj.mp (by rw [e]; rfl)
    refine x_tblIn (tgt := 72) (off := 71) C dX3_detail_1 (by decide) (by decide) (by decide) (by decide) ?_
    refine x_aload_n C dX3_detail_72 rfl ?_
    refine e_get C Y kd_X3 5 (by decide) wf_X3_28 dX3_detail_73 B rfl ?_
    refine x_i2l C dX3_detail_76 ?_
    exact x_lret C E dX3_detail_77 (fun q e => ⟨e, _, rfl⟩)
  · obtain rfl : x = 6 := Int32.toInt_inj.mp (by rw [e]; rfl)
    refine x_tblIn (tgt := 78) (off := 77) C dX3_detail_1 (by decide) (by decide) (by decide) (by decide) ?_
    refine x_aload_n C dX3_detail_78 rfl ?_
    refine e_get C Y kd_X3 7 (by decide) wf_X3_35 dX3_detail_79 B rfl ?_
    refine x_i2l C dX3_detail_82 ?_
    exact x_lret C E dX3_detail_83 (fun q e => ⟨e, _, rfl⟩)
theorem l_at (hX : Wx w c) (D : DK c li ra de h0 W κ h) (x : Int32) : T w gw yX4_at cX4_at 2 (some (.object "MeterBus$Reading")) 0 (40 * 0) 0 0 [.ref li, .int x] (EQ h) (fun r g => g = h ∧ (r = some .null ∨ ∃ p, r = some (.ref p) ∧ κ p = 1)) := by
  obtain ⟨⟨n, n1, n2⟩, ⟨g, g1, g2⟩, -⟩ := D
  refine TA.intro hX.1 rfl (by decide +kernel) (Nat.le_of_ble_eq_true rfl) (fun z C Y E hn h1 hA => ?_)
  rw [show h1 = h from hA]
  clear hA
  obtain ⟨t, ht⟩ := hX.tR E.cs
  have T30 : X z 0 0 (EQ h) 30 [some (.ref li), some (.int x)] [] := by
    refine x_null C dX4_at_30 ?_
    exact x_aret C E (Or.inl ⟨_, rfl⟩) dX4_at_31 (Or.inl rfl) (fun q e => ⟨e, Or.inl rfl⟩)
  refine x_iload_n C dX4_at_0 rfl ?_
  refine x_if_lt (tgt := 30) C dX4_at_1 (by decide) (fun _ => T30) (fun c1 => ?_)
  refine x_iload_n C dX4_at_4 rfl ?_
  refine x_aload_n C dX4_at_5 rfl ?_
  refine e_get C Y kd_X4 1 (by decide) wf_X4_17 dX4_at_6 n2 rfl ?_
  refine x_icmp_ge (tgt := 30) C dX4_at_9 (by decide) (fun _ => T30) (fun c9 => ?_)
  refine x_iload_n C dX4_at_12 rfl ?_
  refine x_aload_n C dX4_at_13 rfl ?_
  refine e_get C Y kd_X4 0 (by decide) wf_X4_11 dX4_at_14 n2 rfl ?_
  refine x_alen C ht dX4_at_17 (v := nI 101) (fun q e => by rw [e]; exact g1) rfl ?_
  refine x_icmp_ge (tgt := 30) C dX4_at_18 (by decide) (fun _ => T30) (fun c17 => ?_)
  obtain ⟨j, hj, rfl⟩ := nI_of c1
  have hj2 : j < 101 := (nI_ltI hj (by decide)).mp (Int32.not_le.mp c17)
  refine x_aload_n C dX4_at_21 rfl ?_
  refine e_get C Y kd_X4 0 (by decide) wf_X4_11 dX4_at_22 n2 rfl ?_
  refine x_iload_n C dX4_at_25 rfl ?_
  refine x_aald C ht dX4_at_26 (fun q e => by rw [e]; exact g1) (vp_in_nI hj2 (by decide)) ?_
  refine x_goto (tgt := 31) C dX4_at_27 (by decide) ?_
  rw [nI_clamp hj]
  cases e : g j with
  | none => exact x_aret C E (Or.inl ⟨_, rfl⟩) dX4_at_31 (Or.inl rfl) (fun q e => ⟨e, Or.inl rfl⟩)
  | some p => exact x_aret C E (Or.inl ⟨_, rfl⟩) dX4_at_31 (Or.inr ⟨_, rfl⟩) (fun q e9 => ⟨e9, Or.inr ⟨p, rfl, g2 j p e⟩⟩)
end Tell
