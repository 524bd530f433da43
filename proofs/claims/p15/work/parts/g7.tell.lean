/-! MeterBus against the model: found, record, text, count. -/
section Tell
variable {w : Wd} {c : Nat → ClassId} {a : Nat → Nat} {h h0 : PH} {p r v : Nat} {W : Nat → Prop} {κ ω : Nat → Nat} {S : MS} {gr : Nat → Option Nat} {va sg : Int64} {co fu ta un ln : Int32} {lt : Value}
theorem l_atX (hX : Wx w c) (XE : ELx c a κ ω S h r gr) (x : Int32) : T w gw yX4_at cX4_at 2 (some (.object "MeterBus$Reading")) 0 (40 * 0) 0 0 [.ref (a 7), .int x] (EQ h) (fun q g => g = h ∧ ((q = some .null ∧ ¬ q_rec S x) ∨ ∃ p j, q = some (.ref p) ∧ x = nI j ∧ j < r ∧ gr j = some p ∧ REx c h S j p)) := by
  obtain ⟨x0, n2, x2, x3, g1, x5, x6, x7⟩ := XE
  have qi : q_rec S x ↔ ∃ j, j < r ∧ x = nI j := by
    unfold q_rec
    rw [x2]
    constructor
    · intro y
      obtain ⟨j, hj, rfl⟩ := nI_of (Int32.not_lt.mpr y.1)
      by_cases q : r = 0
      · subst q
        exact absurd (Int32.le_trans y.1 y.2) (by decide)
      · have y2 := y.2
        rw [show nI r - 1 = nI (r - 1) from nI_sub' (v := r) (b := 1) (by omega)] at y2
        have := (nI_leI hj (by omega)).mp y2
        exact ⟨j, by omega, rfl⟩
    · rintro ⟨j, hj, rfl⟩
      refine ⟨nI_le (a := 0) (by omega) (by omega), ?_⟩
      rw [show nI r - 1 = nI (r - 1) from nI_sub' (v := r) (b := 1) (by omega)]
      exact nI_le (by omega) (by omega)
  refine TA.intro hX.1 rfl (by decide +kernel) (Nat.le_of_ble_eq_true rfl) (fun z C Y E hn h1 hA => ?_)
  rw [show h1 = h from hA]
  clear hA
  obtain ⟨t, ht⟩ := hX.tR E.cs
  have T30 : ¬ q_rec S x → X z 0 0 (EQ h) 30 [some (.ref (a 7)), some (.int x)] [] := fun nq => by
    refine x_null C dX4_at_30 ?_
    exact x_aret C E (Or.inl ⟨_, rfl⟩) dX4_at_31 (Or.inl rfl) (fun q e => ⟨e, Or.inl ⟨rfl, nq⟩⟩)
  refine x_iload_n C dX4_at_0 rfl ?_
  refine x_if_lt (tgt := 30) C dX4_at_1 (by decide) (fun q => T30 (fun y => absurd q (Int32.not_lt.mpr y.1))) (fun c1 => ?_)
  obtain ⟨j, hj, rfl⟩ := nI_of c1
  refine x_iload_n C dX4_at_4 rfl ?_
  refine x_aload_n C dX4_at_5 rfl ?_
  refine e_get C Y kd_X4 1 (by decide) wf_X4_17 dX4_at_6 n2 rfl ?_
  refine x_icmp_ge (tgt := 30) C dX4_at_9 (by decide) (fun q => T30 (fun y => by obtain ⟨j2, h2, e2⟩ := qi.mp y; rw [e2] at q; exact absurd (nI_lt h2 (by omega)) (Int32.not_lt.mpr q))) (fun c9 => ?_)
  have hjr : j < r := (nI_ltI hj (by omega)).mp (Int32.not_le.mp c9)
  refine x_iload_n C dX4_at_12 rfl ?_
  refine x_aload_n C dX4_at_13 rfl ?_
  refine e_get C Y kd_X4 0 (by decide) wf_X4_11 dX4_at_14 n2 rfl ?_
  refine x_alen C ht dX4_at_17 (v := nI 101) (fun q e => by rw [e]; exact g1) rfl ?_
  refine x_icmp_ge (tgt := 30) C dX4_at_18 (by decide) (fun q => absurd (nI_lt (b := 101) (show j < 101 by omega) (by decide)) (Int32.not_lt.mpr q)) (fun c17 => ?_)
  have hj2 : j < 101 := by omega
  refine x_aload_n C dX4_at_21 rfl ?_
  refine e_get C Y kd_X4 0 (by decide) wf_X4_11 dX4_at_22 n2 rfl ?_
  refine x_iload_n C dX4_at_25 rfl ?_
  refine x_aald C ht dX4_at_26 (fun q e => by rw [e]; exact g1) (vp_in_nI hj2 (by decide)) ?_
  refine x_goto (tgt := 31) C dX4_at_27 (by decide) ?_
  rw [nI_clamp hj]
  obtain ⟨p, p1, p2⟩ := x6 j hjr
  rw [p1]
  exact x_aret C E (Or.inl ⟨_, rfl⟩) dX4_at_31 (Or.inr ⟨_, rfl⟩) (fun q e9 => ⟨e9, Or.inr ⟨p, j, rfl, rfl, hjr, p1, p2⟩⟩)
theorem q_textAtX (hX : Wx w c) {vn : Int32} {t m j : Nat} {fl : Nat → Int32} (B : h p = some (.inr (3, rdL va co fu sg ta un v vn (.ref t) ln))) (m2 : h t = some (.inl (c 0, m, .inl fl))) (m1 : m ≤ 300) (hj2 : j < m) : T w gw yX3_textAt cX3_textAt 2 (some .int) 0 (40 * 0) 0 0 [.ref p, .int (nI j)] (EQ h) (fun r g => g = h ∧ r = some (.int (fl j))) := by
  refine TA.intro hX.1 rfl (by decide +kernel) (Nat.le_of_ble_eq_true rfl) (fun z C Y E hn h1 hA => ?_)
  rw [show h1 = h from hA]
  clear hA
  obtain ⟨t0, ht0⟩ := Y.2.1
  refine x_aload_n C dX3_textAt_0 rfl ?_
  refine e_get C Y kd_X3 8 (by decide) wf_X3_38 dX3_textAt_1 B rfl ?_
  refine x_ifnull C dX3_textAt_4 ?_
  refine x_iload_n C dX3_textAt_7 rfl ?_
  refine x_if_lt (tgt := 29) C dX3_textAt_8 (by decide) (fun q => absurd q (nI_pos (by omega))) (fun c8 => ?_)
  refine x_iload_n C dX3_textAt_11 rfl ?_
  refine x_aload_n C dX3_textAt_12 rfl ?_
  refine e_get C Y kd_X3 8 (by decide) wf_X3_38 dX3_textAt_13 B rfl ?_
  refine x_alen C ht0 dX3_textAt_16 (v := nI m) (fun q e => by rw [e]; exact m2) rfl ?_
  refine x_icmp_ge (tgt := 29) C dX3_textAt_17 (by decide) (fun q => absurd (nI_lt hj2 (by omega)) (Int32.not_lt.mpr q)) (fun c17 => ?_)
  refine x_aload_n C dX3_textAt_20 rfl ?_
  refine e_get C Y kd_X3 8 (by decide) wf_X3_38 dX3_textAt_21 B rfl ?_
  refine x_iload_n C dX3_textAt_24 rfl ?_
  refine e_ild C Y dX3_textAt_25 m2 (vp_in_nI hj2 (by omega)) ?_
  rw [nI_clamp (by omega)]
  refine x_goto (tgt := 30) C dX3_textAt_26 (by decide) ?_
  exact x_iret C E dX3_textAt_30 (fun q e => ⟨e, rfl⟩)
def dtl (va : Int64) (co fu : Int32) (sg : Int64) (ta un vn : Int32) (fv : Nat → Int32) (x : Nat) : Int64 := if x = 0 then va else if x = 1 then co.toInt64 else if x = 2 then fu.toInt64 else if x = 3 then sg else if x = 4 then ta.toInt64 else if x = 5 then un.toInt64 else if x = 6 then vn.toInt64 else (fv (x - 7)).toInt64
theorem rec_dtl {j t vn : Nat} {fv : Nat → Int32} (hv : ∀ i, i < (S.a 30 j).toNatClampNeg → fv i = S.a 31 (11 * j + i)) (evn : S.a 30 j = nI vn) (vn2 : vn ≤ 11) (t18 : t < 7 + vn) : f_record S j t = dtl (S.w 24 j) (S.a 25 j) (S.a 26 j) (S.w 27 j) (S.a 28 j) (S.a 29 j) (S.a 30 j) fv t := by
  have e7 : 7 ≤ t → (S.a 31 (11 * j + t - 7)).toInt64 = (fv (t - 7)).toInt64 := fun h7 => by rw [hv (t - 7) (by rw [evn, nI_clamp (by omega)]; omega), show 11 * j + t - 7 = 11 * j + (t - 7) by omega]
  unfold f_record dtl
  split
  · rfl
  split
  · rfl
  split
  · rfl
  split
  · rfl
  split
  · rfl
  split
  · rfl
  split
  · rfl
  exact e7 (by omega)
theorem q_detailX (hX : Wx w c) {vn : Int32} {fv : Nat → Int32} (B : h p = some (.inr (3, rdL va co fu sg ta un v vn lt ln))) (m2 : h v = some (.inl (c 0, 11, .inl fv))) {x : Nat} (hx : x < 18) : T w gw yX3_detail cX3_detail 2 (some .long) 0 (40 * 0) 0 0 [.ref p, .int (nI x)] (EQ h) (fun r g => g = h ∧ r = some (.long (dtl va co fu sg ta un vn fv x))) := by
  refine TA.intro hX.1 rfl (by decide +kernel) (Nat.le_of_ble_eq_true rfl) (fun z C Y E hn h1 hA => ?_)
  rw [show h1 = h from hA]
  clear hA
  obtain ⟨t0, ht0⟩ := Y.2.1
  refine x_iload_n C dX3_detail_0 rfl ?_
  by_cases hj7 : 7 ≤ x
  · refine x_tblOut (tgt := 84) C dX3_detail_1 (Or.inr (by have : (6 : Int32) < nI x := nI_lt (a := 6) (by omega) (by omega); exact Int32.lt_iff_toInt_lt.mp this)) (by decide) ?_
    refine x_iload_n C dX3_detail_84 rfl ?_
    refine x_bipush (v := 7) C dX3_detail_85 (by decide) ?_
    refine x_icmp_lt (tgt := 115) C dX3_detail_87 (by decide) (fun q => absurd (nI_le (a := 7) hj7 (by omega)) (Int32.not_le.mpr q)) (fun c7 => ?_)
    refine x_iload_n C dX3_detail_90 rfl ?_
    refine x_bipush (v := 7) C dX3_detail_91 (by decide) ?_
    refine x_isub C dX3_detail_93 ?_
    rw [show nI x - 7 = nI (x - 7) from nI_sub' hj7]
    refine x_aload_n C dX3_detail_94 rfl ?_
    refine e_get C Y kd_X3 6 (by decide) wf_X3_31 dX3_detail_95 B rfl ?_
    refine x_alen C ht0 dX3_detail_98 (v := nI 11) (fun q e => by rw [e]; exact m2) rfl ?_
    refine x_icmp_ge (tgt := 115) C dX3_detail_99 (by decide) (fun q => absurd (nI_lt (b := 11) (show x - 7 < 11 by omega) (by decide)) (Int32.not_lt.mpr q)) (fun c17 => ?_)
    have hj2 : x - 7 < 11 := by omega
    refine x_aload_n C dX3_detail_102 rfl ?_
    refine e_get C Y kd_X3 6 (by decide) wf_X3_31 dX3_detail_103 B rfl ?_
    refine x_iload_n C dX3_detail_106 rfl ?_
    refine x_bipush (v := 7) C dX3_detail_107 (by decide) ?_
    refine x_isub C dX3_detail_109 ?_
    rw [show nI x - 7 = nI (x - 7) from nI_sub' hj7]
    refine e_ild C Y dX3_detail_110 m2 (vp_in_nI hj2 (by decide)) ?_
    rw [nI_clamp (by omega)]
    refine x_i2l C dX3_detail_111 ?_
    refine x_goto (tgt := 118) C dX3_detail_112 (by decide) ?_
    exact x_lret C E dX3_detail_118 (fun q e => ⟨e, by unfold dtl; rw [if_neg (by omega), if_neg (by omega), if_neg (by omega), if_neg (by omega), if_neg (by omega), if_neg (by omega), if_neg (by omega)]⟩)
  rcases (show x = 0 ∨ x = 1 ∨ x = 2 ∨ x = 3 ∨ x = 4 ∨ x = 5 ∨ x = 6 by omega) with rfl | rfl | rfl | rfl | rfl | rfl | rfl
  · refine x_tblIn (tgt := 44) (off := 43) C dX3_detail_1 (by decide) (by decide) (by decide) (by decide) ?_
    refine x_aload_n C dX3_detail_44 rfl ?_
    refine e_get C Y kd_X3 0 (by decide) wf_X3_9 dX3_detail_45 B rfl ?_
    exact x_lret C E dX3_detail_48 (fun q e => ⟨e, rfl⟩)
  · refine x_tblIn (tgt := 49) (off := 48) C dX3_detail_1 (by decide) (by decide) (by decide) (by decide) ?_
    refine x_aload_n C dX3_detail_49 rfl ?_
    refine e_get C Y kd_X3 1 (by decide) wf_X3_15 dX3_detail_50 B rfl ?_
    refine x_i2l C dX3_detail_53 ?_
    exact x_lret C E dX3_detail_54 (fun q e => ⟨e, rfl⟩)
  · refine x_tblIn (tgt := 55) (off := 54) C dX3_detail_1 (by decide) (by decide) (by decide) (by decide) ?_
    refine x_aload_n C dX3_detail_55 rfl ?_
    refine e_get C Y kd_X3 2 (by decide) wf_X3_19 dX3_detail_56 B rfl ?_
    refine x_i2l C dX3_detail_59 ?_
    exact x_lret C E dX3_detail_60 (fun q e => ⟨e, rfl⟩)
  · refine x_tblIn (tgt := 61) (off := 60) C dX3_detail_1 (by decide) (by decide) (by decide) (by decide) ?_
    refine x_aload_n C dX3_detail_61 rfl ?_
    refine e_get C Y kd_X3 3 (by decide) wf_X3_22 dX3_detail_62 B rfl ?_
    exact x_lret C E dX3_detail_65 (fun q e => ⟨e, rfl⟩)
  · refine x_tblIn (tgt := 66) (off := 65) C dX3_detail_1 (by decide) (by decide) (by decide) (by decide) ?_
    refine x_aload_n C dX3_detail_66 rfl ?_
    refine e_get C Y kd_X3 4 (by decide) wf_X3_25 dX3_detail_67 B rfl ?_
    refine x_i2l C dX3_detail_70 ?_
    exact x_lret C E dX3_detail_71 (fun q e => ⟨e, rfl⟩)
  · refine x_tblIn (tgt := 72) (off := 71) C dX3_detail_1 (by decide) (by decide) (by decide) (by decide) ?_
    refine x_aload_n C dX3_detail_72 rfl ?_
    refine e_get C Y kd_X3 5 (by decide) wf_X3_28 dX3_detail_73 B rfl ?_
    refine x_i2l C dX3_detail_76 ?_
    exact x_lret C E dX3_detail_77 (fun q e => ⟨e, rfl⟩)
  · refine x_tblIn (tgt := 78) (off := 77) C dX3_detail_1 (by decide) (by decide) (by decide) (by decide) ?_
    refine x_aload_n C dX3_detail_78 rfl ?_
    refine e_get C Y kd_X3 7 (by decide) wf_X3_35 dX3_detail_79 B rfl ?_
    refine x_i2l C dX3_detail_82 ?_
    exact x_lret C E dX3_detail_83 (fun q e => ⟨e, rfl⟩)
end Tell
section Calls
variable {w : Wd} {c : Nat → ClassId} {a : Nat → Nat} {h9 : PH} {V : Nat → Prop} {α : Nat → Int64} {f : Nat → Option Nat} {κ κd ω ωd : Nat → Nat} {S S' : MS} {h g : PH}
theorem zy_found (hX : Wx w c) (hS : MH S) (Z : ZI c a h9 V α f κ κd ω ωd S h) (k i : Int32) : TCX w yX6_found cX6_found 3 (some .int) 1 6 [.ref (a 0), .int k, .int i] h
    (fun r g => ∃ v S', r = some (.int v) ∧ (∀ M, Wm w M → TF w M yX7_found cX7_found 3 (some .int) 1 [.int k, .int i] S (some (.int v)) S') ∧ S'.i 0 = 0 ∧ ZQ c a h9 V S' g) (fun En g => ∃ v S', (∀ M, Wm w M → TF w M yX7_found cX7_found 3 (some .int) 1 [.int k, .int i] S (some (.int v)) S') ∧ (En = IOE ∧ S'.i 0 = 1) ∧ ZQ c a h9 V S' g) := by
  have hW := hX.1
  obtain ⟨fn, gf, Bx, e20, f12, Bf, af⟩ := Z.2.2.2.2.2.2.1
  have mf : ∀ M, Wm w M → _ := fun M hM => s_found (S := S) (M := M) (w := w) hM fn e20 (by omega) k i
  refine TCX.intro hX.1 rfl (by decide +kernel) (Nat.le_of_ble_eq_true rfl) (fun z C Y E hn => ?_)
  have T18 : ¬ q_found S k i → X z 1 6 (EQ h) 18 [some (.ref (a 0)), some (.int k), some (.int i)] [] := fun nf => u_thr (kc := 0) (ks := 0) hX C E exs_IOE at_76 wc_X6_72 wz_IndexOutOfBoundsException (show (154, "no such found one or byte") ∈ txts by simp [txts]) dX6_found_18 dX6_found_21 dX6_found_22 dX6_found_24 dX6_found_27 (by decide) (fun g e => ⟨_, _, fun M hM => mf M hM, ⟨rfl, by rw [MS.si_i, if_pos rfl, bI_t nf]⟩, by rw [show g = h from e]; exact Z.q0 hS _⟩)
  obtain ⟨t1, ht1⟩ := Y.2.2.1
  refine x_aload_n C dX6_found_0 rfl ?_
  refine x_iload_n C dX6_found_1 rfl ?_
  refine k_callR (kc := 1) (ks := 6) (mc' := 0) (ms' := 0) (st := []) C Y hW E.1 (zy_isFound hX Z k) rfl md_X6_isFoundOne wi_X6_isFoundOne ws_X6_isFoundOne wm_X6_151 dX6_found_2 rfl (by decide) (by decide) Bx rfl rfl (by decide) (fun r g hg => ?_)
  obtain ⟨eg, hg⟩ := hg
  rw [eg]
  rcases hg with ⟨rfl, nf⟩ | ⟨rfl, j, fn', hjf, f12', e20', rfl⟩
  · exact x_if_eq (tgt := 18) C dX6_found_5 (by decide) (fun _ => T18 (fun y => nf y.1)) (fun q => absurd rfl q)
  have efn : fn' = fn := (nI_eq (by omega) (by omega)).mp (e20'.symm.trans e20)
  subst efn
  have hj : j < 12 := by omega
  have q1 := (fnd_iff e20 f12).mpr ⟨j, hjf, rfl⟩
  refine x_if_eq (tgt := 18) C dX6_found_5 (by decide) (fun q => absurd q (by decide)) (fun _ => ?_)
  refine x_iload_n C dX6_found_8 rfl ?_
  refine x_if_lt (tgt := 18) C dX6_found_9 (by decide) (fun q => T18 (fun y => absurd q (Int32.not_lt.mpr y.2.1))) (fun c9 => ?_)
  obtain ⟨t, ht, rfl⟩ := nI_of c9
  refine x_iload_n C dX6_found_12 rfl ?_
  refine x_bipush (v := 8) C dX6_found_13 (by decide) ?_
  refine x_icmp_lt (tgt := 28) C dX6_found_15 (by decide) (fun c15 => ?_) (fun q => T18 (fun y => q (by have := (nI_leI ht (b := 7) (by decide)).mp y.2.2; exact nI_lt (b := 8) (by omega) (by decide))))
  have t8 : t < 8 := (nI_ltI ht (b := 8) (by decide)).mp c15
  refine x_aload_n C dX6_found_28 rfl ?_
  refine e_get C Y kd_X6 4 (by decide) wf_X6_39 dX6_found_29 Bx rfl ?_
  refine x_iload_n C dX6_found_32 rfl ?_
  refine x_lald C ht1 dX6_found_33 (fun q e => by rw [e]; exact Bf) (vp_in_nI hj (by decide)) ?_
  rw [nI_clamp (show j < 2 ^ 31 by omega)]
  refine x_bipush (v := 8) C dX6_found_34 (by decide) ?_
  refine x_iload_n C dX6_found_36 rfl ?_
  refine x_imul C dX6_found_37 ?_
  refine x_lushr C dX6_found_38 ?_
  refine x_l2i C dX6_found_39 ?_
  refine x_sipush (v := 255) C dX6_found_40 (by decide) ?_
  refine x_iand C dX6_found_43 ?_
  have qf : q_found S (nI j) (nI t) := ⟨q1, nI_le (a := 0) (by omega) (by omega), nI_le (b := 7) (by omega) (by decide)⟩
  refine E.go C Y (fun z' C Y E hn => x_iret C E dX6_found_44 (fun g e => ⟨_, S.si 0 (bI (¬ q_found S (nI j) (nI t))), rfl, fun M hM => ?_, ?_, by rw [show g = h from e]; exact Z.q0 hS (bI (¬ q_found S (nI j) (nI t)))⟩))
  · have := mf M hM
    have ea : by8 (gf j) t &&& 255 = S.a 21 (8 * j + t) := af j hjf t t8
    rw [if_pos qf, nI_clamp (by omega), nI_clamp (by omega), ← ea] at this
    exact this
  · rw [MS.si_i, if_pos rfl, bI_f (fun y => y qf)]
theorem zy_record (hX : Wx w c) (hS : MH S) (Z : ZI c a h9 V α f κ κd ω ωd S h) (k i : Int32) : TCX w yX6_record cX6_record 4 (some .long) 1 6 [.ref (a 0), .int k, .int i] h
    (fun r g => ∃ v S', r = some (.long v) ∧ (∀ M, Wm w M → TF w M yX7_record cX7_record 4 (some .long) 1 [.int k, .int i] S (some (.long v)) S') ∧ S'.i 0 = 0 ∧ ZQ c a h9 V S' g) (fun En g => ∃ v S', (∀ M, Wm w M → TF w M yX7_record cX7_record 4 (some .long) 1 [.int k, .int i] S (some (.long v)) S') ∧ (En = IOE ∧ S'.i 0 = 1) ∧ ZQ c a h9 V S' g) := by
  have hW := hX.1
  have Bx := Z.x
  obtain ⟨rn, gr, x⟩ := Z.2.2.2.2.2.2.2.x
  have Bl := x.2.1
  have s23 := x.2.2.1
  have r100 := x.2.2.2.1
  refine TCX.intro hX.1 rfl (by decide +kernel) (Nat.le_of_ble_eq_true rfl) (fun z C Y E hn => ?_)
  have T28 : ∀ l : Option Value, ¬ q_record S k i → X z 1 6 (EQ h) 28 [some (.ref (a 0)), some (.int k), some (.int i), l] [] := fun l nf => u_thr (kc := 0) (ks := 0) hX C E exs_IOE at_76 wc_X6_72 wz_IndexOutOfBoundsException (show (193, "no such record or what") ∈ txts by simp [txts]) dX6_record_28 dX6_record_31 dX6_record_32 dX6_record_34 dX6_record_37 (by decide) (fun g e => ⟨0, _, fun M hM => s_record_x hM rn s23 r100 k i nf, ⟨rfl, by rw [MS.si_i, if_pos rfl]⟩, by rw [show g = h from e]; exact Z.q0 hS 1⟩)
  refine x_aload_n C dX6_record_0 rfl ?_
  refine e_get C Y kd_X6 2 (by decide) wf_X6_26 dX6_record_1 Bx rfl ?_
  refine x_iload_n C dX6_record_4 rfl ?_
  refine k_callR (kc := 1) (ks := 6) (mc' := 0) (ms' := 0) (st := []) C Y hW E.1 (l_atX hX x k) rfl md_X4_at wi_X4_at ws_X4_at wm_X6_185 dX6_record_5 rfl (by decide) (by decide) Bl rfl rfl (by decide) (fun r g hg => ?_)
  obtain ⟨eg, hg⟩ := hg
  rw [eg]
  rcases hg with ⟨rfl, nq⟩ | ⟨p, j, rfl, rfl, hjr, hgr, R⟩
  · refine o_astore_nN (L' := [some _, some _, some _, some _]) C dX6_record_8 (by rw [hn]; decide) rfl ?_
    refine x_aload_nN C dX6_record_9 rfl ?_
    exact x_ifnullN (tgt := 28) C dX6_record_10 (by decide) (T28 _ (fun y => nq y.1))
  have kp := x.kp Z.1.dec hgr
  have v11 := R.vle Z.1.dec kp
  obtain ⟨v, lt, fv, B, Bv, hv, -⟩ := R
  have q1 : q_rec S (nI j) := by
    unfold q_rec
    rw [s23, show nI rn - 1 = nI (rn - 1) from nI_sub' (v := rn) (b := 1) (by omega)]
    exact ⟨nI_le (a := 0) (by omega) (by omega), nI_le (by omega) (by omega)⟩
  have ecl : (nI j).toNatClampNeg = j := nI_clamp (by omega)
  obtain ⟨vn, vn2, evn⟩ : ∃ vn, vn ≤ 11 ∧ S.a 30 j = nI vn := by
    obtain ⟨e0, e1, va, sg, co, fu, ta, un, ln, v', vn, lt', e2, -, e4, -⟩ := Z.1.dec.rd kp
    rw [e2] at e1
    exact ⟨vn, e4, rd_vn B e1⟩
  refine o_astore_nE (L' := [some _, some _, some _, some _]) C dX6_record_8 (by rw [hn]; decide) rfl ?_
  refine x_aload_n C dX6_record_9 rfl ?_
  refine x_ifnull C dX6_record_10 ?_
  refine x_iload_n C dX6_record_13 rfl ?_
  refine x_if_lt (tgt := 28) C dX6_record_14 (by decide) (fun q => T28 _ (fun y => y.2.1 q)) (fun c14 => ?_)
  obtain ⟨t, ht, rfl⟩ := nI_of c14
  refine x_iload_n C dX6_record_17 rfl ?_
  refine x_bipush (v := 7) C dX6_record_18 (by decide) ?_
  refine x_aload_n C dX6_record_20 rfl ?_
  refine u_callV (st := [.int 7, .int (nI t)]) C Y hW E.1 (q_vifNumber hW B) md_X3_vifNumber wi_X3_vifNumber ws_X3_vifNumber wm_X6_188 dX6_record_21 rfl (by decide) (by decide) B rfl rfl (by simp [Value.category]) ?_
  refine x_iadd C dX6_record_24 ?_
  refine x_icmp_lt (tgt := 38) C dX6_record_25 (by decide) (fun c25 => ?_) (fun q => T28 _ (fun y => q (by have y3 := y.2.2; rw [ecl] at y3; exact y3)))
  rw [evn, show (7 : Int32) + nI vn = nI (7 + vn) from nI_add 7 vn] at c25
  have t18 : t < 7 + vn := (nI_ltI ht (by omega)).mp c25
  refine x_aload_n C dX6_record_38 rfl ?_
  refine x_iload_n C dX6_record_39 rfl ?_
  refine k_callR (kc := 1) (ks := 6) (mc' := 0) (ms' := 0) (st := []) C Y hW E.1 (q_detailX hX B Bv (x := t) (by omega)) rfl md_X3_detail wi_X3_detail ws_X3_detail wm_X6_195 dX6_record_40 rfl (by decide) (by decide) B rfl rfl (by decide) (fun r g2 hg => ?_)
  obtain ⟨eg2, rfl⟩ := hg
  rw [eg2]
  exact E.go C Y (fun z' C Y E hn => x_lret C E dX6_record_43 (fun g e => ⟨_, S.si 0 0, rfl, fun M hM => by
    have := s_record_t (S := S) hM rn j t vn s23 r100 hjr evn vn2 t18
    rw [rec_dtl hv evn vn2 t18] at this
    exact this, by rw [MS.si_i, if_pos rfl], by rw [show g = h from e]; exact Z.q0 hS 0⟩))
theorem zy_text (hX : Wx w c) (hS : MH S) (Z : ZI c a h9 V α f κ κd ω ωd S h) (k i : Int32) : TCX w yX6_text cX6_text 4 (some .int) 1 6 [.ref (a 0), .int k, .int i] h
    (fun r g => ∃ v S', r = some (.int v) ∧ (∀ M, Wm w M → TF w M yX7_text cX7_text 4 (some .int) 1 [.int k, .int i] S (some (.int v)) S') ∧ S'.i 0 = 0 ∧ ZQ c a h9 V S' g) (fun En g => ∃ v S', (∀ M, Wm w M → TF w M yX7_text cX7_text 4 (some .int) 1 [.int k, .int i] S (some (.int v)) S') ∧ (En = IOE ∧ S'.i 0 = 1) ∧ ZQ c a h9 V S' g) := by
  have hW := hX.1
  have Bx := Z.x
  obtain ⟨rn, gr, x⟩ := Z.2.2.2.2.2.2.2.x
  have Bl := x.2.1
  have s23 := x.2.2.1
  have r100 := x.2.2.2.1
  refine TCX.intro hX.1 rfl (by decide +kernel) (Nat.le_of_ble_eq_true rfl) (fun z C Y E hn => ?_)
  have T25 : ∀ l : Option Value, ¬ q_text S k i → X z 1 6 (EQ h) 25 [some (.ref (a 0)), some (.int k), some (.int i), l] [] := fun l nf => u_thr (kc := 0) (ks := 0) hX C E exs_IOE at_76 wc_X6_72 wz_IndexOutOfBoundsException (show (201, "no such record or byte of a text") ∈ txts by simp [txts]) dX6_text_25 dX6_text_28 dX6_text_29 dX6_text_31 dX6_text_34 (by decide) (fun g e => ⟨0, _, fun M hM => s_text_x hM rn s23 r100 k i nf, ⟨rfl, by rw [MS.si_i, if_pos rfl]⟩, by rw [show g = h from e]; exact Z.q0 hS 1⟩)
  refine x_aload_n C dX6_text_0 rfl ?_
  refine e_get C Y kd_X6 2 (by decide) wf_X6_26 dX6_text_1 Bx rfl ?_
  refine x_iload_n C dX6_text_4 rfl ?_
  refine k_callR (kc := 1) (ks := 6) (mc' := 0) (ms' := 0) (st := []) C Y hW E.1 (l_atX hX x k) rfl md_X4_at wi_X4_at ws_X4_at wm_X6_185 dX6_text_5 rfl (by decide) (by decide) Bl rfl rfl (by decide) (fun r g hg => ?_)
  obtain ⟨eg, hg⟩ := hg
  rw [eg]
  rcases hg with ⟨rfl, nq⟩ | ⟨p, j, rfl, rfl, hjr, hgr, R⟩
  · refine o_astore_nN (L' := [some _, some _, some _, some _]) C dX6_text_8 (by rw [hn]; decide) rfl ?_
    refine x_aload_nN C dX6_text_9 rfl ?_
    exact x_ifnullN (tgt := 25) C dX6_text_10 (by decide) (T25 _ (fun y => nq y.1))
  have kp := x.kp Z.1.dec hgr
  obtain ⟨v, lt, fv, B, Bv, hv, hl⟩ := R
  have ecl : (nI j).toNatClampNeg = j := nI_clamp (by omega)
  obtain ⟨rq, rq1, rq2, RQ⟩ := hS.2.1
  have erq : rq = rn := (nI_eq (by omega) (by omega)).mp (rq1.symm.trans s23)
  subst erq
  obtain ⟨-, n, en, n3, ho⟩ := RQ j hjr
  refine o_astore_nE (L' := [some _, some _, some _, some _]) C dX6_text_8 (by rw [hn]; decide) rfl ?_
  refine x_aload_n C dX6_text_9 rfl ?_
  refine x_ifnull C dX6_text_10 ?_
  refine x_iload_n C dX6_text_13 rfl ?_
  refine x_if_lt (tgt := 25) C dX6_text_14 (by decide) (fun q => T25 _ (fun y => absurd q (Int32.not_lt.mpr y.2.1))) (fun c14 => ?_)
  obtain ⟨t, ht, rfl⟩ := nI_of c14
  refine x_iload_n C dX6_text_17 rfl ?_
  refine x_aload_n C dX6_text_18 rfl ?_
  refine u_callV (st := [.int (nI t)]) C Y hW E.1 (q_textSize hW B) md_X3_textSize wi_X3_textSize ws_X3_textSize wm_X6_198 dX6_text_19 rfl (by decide) (by decide) B rfl rfl (by simp [Value.category]) ?_
  refine x_icmp_lt (tgt := 35) C dX6_text_22 (by decide) (fun c22 => ?_) (fun q => T25 _ (fun y => q (by
    have y3 := y.2.2
    rw [ecl, en] at y3
    by_cases n0 : n = 0
    · subst n0
      exact absurd (Int32.le_trans (nI_le (a := 0) (Nat.zero_le t) ht) y3) (by decide)
    · rw [show nI n - 1 = nI (n - 1) from nI_sub' (v := n) (b := 1) (by omega)] at y3
      have := (nI_leI ht (by omega)).mp y3
      rw [en]
      exact nI_lt (by omega) (by omega))))
  rw [en] at c22
  have tn : t < n := (nI_ltI ht (by omega)).mp c22
  obtain ⟨t9, mm, fl, t1, t2, t3, t4⟩ := hl t (by rw [en, nI_clamp (by omega)]; exact tn)
  obtain ⟨o, o1, o2⟩ := ho (by omega)
  subst t1
  have m300 : mm ≤ 300 := by
    obtain ⟨e0, e1, va, sg, co, fu, ta, un, ln, v', vn, lt', e2, -, -, e5⟩ := Z.1.dec.rd kp
    rw [e2] at e1
    have := (rd_inj B e1).2
    rcases e5 with y | ⟨t', y1, y2⟩
    · rw [y] at this; exact nomatch this
    · have e9 := Value.ref.inj (this.trans y1)
      subst e9
      obtain ⟨m', f', z1, z2⟩ := Z.1.dec.lt y2
      rw [t2] at z2
      simp only [Option.some.injEq, Sum.inl.injEq, Prod.mk.injEq, true_and] at z2
      omega
  refine x_aload_n C dX6_text_35 rfl ?_
  refine x_iload_n C dX6_text_36 rfl ?_
  refine k_callR (kc := 1) (ks := 6) (mc' := 0) (ms' := 0) (st := []) C Y hW E.1 (q_textAtX hX B t2 m300 t3) rfl md_X3_textAt wi_X3_textAt ws_X3_textAt wm_X6_203 dX6_text_37 rfl (by decide) (by decide) B rfl rfl (by decide) (fun r g2 hg => ?_)
  obtain ⟨eg2, rfl⟩ := hg
  rw [eg2]
  exact E.go C Y (fun z' C Y E hn => x_iret C E dX6_text_40 (fun g e => ⟨_, S.si 0 0, rfl, fun M hM => by
    have := s_text_t (S := S) hM rq j t n o s23 r100 hjr en n3 tn o1 o2
    rw [t4, o1, nI_clamp (by omega)]
    exact this, by rw [MS.si_i, if_pos rfl], by rw [show g = h from e]; exact Z.q0 hS 0⟩))
end Calls
