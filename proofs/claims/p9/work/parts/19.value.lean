section
/-! Decoder: what has a size of its own; a value. -/
/-- the bytes of a Row are bytes -/
def HB (f : Nat → Int32) (n : Nat) : Prop := ∀ j, j < n → ∃ v, v < 256 ∧ f j = nI v
/-- how long a text is that begins by the byte at j -/
def ts1 (f : Nat → Int32) (j : Nat) : Nat := if (f j).toNatClampNeg ≤ 191 then (f j).toNatClampNeg else 0
theorem ts1_le (f : Nat → Int32) (j : Nat) : ts1 f j ≤ 191 := by unfold ts1; split <;> omega
theorem nI_sub' {v b : Nat} (h : b ≤ v) : nI v - nI b = nI (v - b) := by
  rw [show nI v = nI (v - b) + nI b from by rw [nI_add]; exact congrArg nI (by omega)]
  exact Int32.add_sub_cancel ..
theorem out14 {x : Int32} (g : ¬ ((0 : Int32) ≤ x ∧ x ≤ 14)) : x.toInt < 0 ∨ 14 < x.toInt := by
  rw [Int32.le_iff_toInt_le, Int32.le_iff_toInt_le] at g
  have e0 : (0 : Int32).toInt = 0 := by decide
  have e5 : (14 : Int32).toInt = 14 := by decide
  rw [e0, e5] at g
  omega
section Dec
variable {w : Wd} {c : Nat → ClassId} {h h0 : PH} {li ra de p b ba n : Nat} {W : Nat → Prop} {f : Nat → Int32} {co : Int32}
theorem RS.lo {lo lo' m : Nat} {r : Option Value} (g : RS c li ra de h0 W p co b lo m r h) (hl : lo' ≤ lo) : RS c li ra de h0 W p co b lo' m r h := g.imp (fun ⟨e, i, h1, h2, h3⟩ => ⟨e, i, by omega, h2, h3⟩) id
theorem RS.bool {lo m : Nat} {r : Option Value} (g : RS c li ra de h0 W p co b lo m r h) : r = some (.int 1) ∨ r = some (.int 0) := g.imp (fun q => q.1) (fun q => q.1)
section Ret
variable {z : Fx} {cc : ByteArray} {own : String} {kc ks pc : Nat} {L : List (Option Value)} {fr lo : Nat} {y : MethodName}
/-- what a step has answered is the answer -/
theorem k_rs (C : Cx z own cc gw) {l1 l2 m : Nat} {r : Option Value} (E : Ct z w gw y (some .boolean) fr lo (RS c li ra de h0 W p co b l2 m)) (d : decode cc pc = .ok (.ireturn, 1)) (g : RS c li ra de h0 W p co b l1 m r h) (hl : l2 ≤ l1) : X z kc ks (EQ h) pc L (r.toList ++ []) := by
  have g2 := g.lo hl
  rcases g.bool with rfl | rfl
  · exact x_zret C E d (by decide) (fun q e => by subst e; exact g2)
  · exact x_zret C E d (by decide) (fun q e => by subst e; exact g2)
end Ret
theorem d_sized (hX : Wx w c) (R : RW c h0 b ba f n) (o1 : W b) (o2 : W ba) (hb : HB f n) {i m : Nat} (hi : i ≤ m) (hm : m ≤ 256) (hmn : m ≤ n) : T w gw yX1_readSized cX1_readSized 3 (some .boolean) 3 (40 * 3) 1 (min (ts1 f i) (m - (i + 1))) [.ref de, .ref p] (DE c li ra de h0 W p co b (nI i) (nI m)) (RS c li ra de h0 W p co b (i + 1 + ts1 f i) m) := by
  have hW := hX.1
  refine TA.intro hW rfl (by decide +kernel) (Nat.le_of_ble_eq_true rfl) (fun z C Y E hn h D => ?_)
  refine x_aload_n C dX1_readSized_0 rfl ?_
  refine x_iconst (v := 1) C dX1_readSized_1 (by decide) ?_
  refine k_there (s := 1) (st := []) C Y hW E.cs (by decide) hi hm (by decide) D dX1_readSized_2 (by decide) (fun hj1 => ?_) (fun g Dg => ?_)
  rotate_left
  · refine x_if_ne (tgt := 10) C dX1_readSized_5 (by decide) (fun q => absurd rfl q) (fun _ => ?_)
    refine x_iconst (v := 0) C dX1_readSized_8 (by decide) ?_
    exact x_zret C E dX1_readSized_9 (by decide) (fun q e => by subst e; exact RS.no Dg)
  refine x_if_ne (tgt := 10) C dX1_readSized_5 (by decide) (fun _ => ?_) (fun q => absurd q (by decide))
  refine x_aload_n C dX1_readSized_10 rfl ?_
  refine k_take (st := []) C Y hW E.cs (by decide) R o1 o2 D dX1_readSized_11 (by decide) (fun g Dg => ?_)
  rw [nI_1] at Dg
  rw [rAt_in (by omega) R.2.2.2]
  obtain ⟨v, hv, ev⟩ := hb i (by omega)
  have ets : ts1 f i = if v ≤ 191 then v else 0 := by
    unfold ts1
    rw [ev, nI_clamp (by omega)]
  rw [ets, ev]
  rw [ets] at E
  obtain ⟨-, fa, pl, mo, B, hm1⟩ := id Dg
  have gt_ : ∀ {x : Nat} {k : Int32} (hx : x < 2 ^ 31), k = nI x → (k < nI v ↔ x < v) := fun hx e => by rw [e]; exact ⟨fun g => (nI_ltI hx (by omega)).mp g, fun g => nI_lt g (by omega)⟩
  refine o_istore_nE (L' := [some _, some _, some _]) C dX1_readSized_14 (by rw [hn]; decide) rfl ?_
  refine x_iload_n C dX1_readSized_15 rfl ?_
  refine x_sipush (v := 191) C dX1_readSized_16 (by decide) ?_
  refine x_icmp_gt (tgt := 29) C dX1_readSized_19 (by decide) (fun q => ?_) (fun q => ?_)
  rotate_left
  · have hv1 : v ≤ 191 := Nat.le_of_not_lt (fun g => q ((gt_ (x := 191) (by decide) rfl).mpr g))
    rw [if_pos hv1]
    rw [if_pos hv1] at E
    refine x_aload_n C dX1_readSized_22 rfl ?_
    refine x_aload_n C dX1_readSized_23 rfl ?_
    refine x_iload_n C dX1_readSized_24 rfl ?_
    refine X.room (kc' := 0 + 1) (ks' := 0 + min v (m - (i + 1))) ?_ (by omega) (by omega)
    refine k_callR (kc := 0) (ks := 0) (st := []) C Y hW E.cs (d_text hX R o1 o2 (s := v) hj1 hm (by omega)) Dg md_X1_readText wi_X1_readText ws_X1_readText wm_X1_97 dX1_readSized_25 rfl (by decide) (by decide) B rfl rfl (by decide) (fun r g hg => ?_)
    exact k_rs C E dX1_readSized_28 hg (by omega)
  have hv1 : 191 < v := (gt_ (x := 191) (by decide) rfl).mp q
  rw [if_neg (by omega)]
  rw [if_neg (by omega)] at E
  refine X.room (kc' := 0) (ks' := 0) ?_ (by omega) (by omega)
  refine x_iload_n C dX1_readSized_29 rfl ?_
  refine x_sipush (v := 201) C dX1_readSized_30 (by decide) ?_
  refine x_icmp_gt (tgt := 49) C dX1_readSized_33 (by decide) (fun q => ?_) (fun q => ?_)
  rotate_left
  · have hv2 : v ≤ 201 := Nat.le_of_not_lt (fun g => q ((gt_ (x := 201) (by decide) rfl).mpr g))
    refine x_aload_n C dX1_readSized_36 rfl ?_
    refine x_aload_n C dX1_readSized_37 rfl ?_
    refine x_iload_n C dX1_readSized_38 rfl ?_
    refine x_sipush (v := 192) C dX1_readSized_39 (by decide) ?_
    refine x_isub C dX1_readSized_42 ?_
    rw [show nI v - 192 = nI (v - 192) from nI_sub' (b := 192) (by omega)]
    refine x_iconst (v := 1) C dX1_readSized_43 (by decide) ?_
    refine x_iconst (v := 0) C dX1_readSized_44 (by decide) ?_
    refine k_callR (kc := 0) (ks := 0) (mc' := 0) (ms' := 0) (st := []) C Y hW E.cs (d_bcd hX R o1 o2 (s := v - 192) hj1 hm (by omega) 1 0) Dg md_X1_readBcd wi_X1_readBcd ws_X1_readBcd wm_X1_136 dX1_readSized_45 rfl (by decide) (by decide) B rfl rfl (by decide) (fun r g hg => ?_)
    exact k_rs C E dX1_readSized_48 hg (by omega)
  have T101 : X z 0 0 (EQ g) 101 [some (.ref de), some (.ref p), some (.int (nI v))] [] := by
    refine x_aload_n C dX1_readSized_101 rfl ?_
    refine x_bipush (v := 8) C dX1_readSized_102 (by decide) ?_
    refine x_aload_n C dX1_readSized_104 rfl ?_
    refine e_get C Y kd_X1 2 (by decide) wf_X1_9 dX1_readSized_105 B rfl ?_
    refine x_iconst (v := 1) C dX1_readSized_108 (by decide) ?_
    refine x_isub C dX1_readSized_109 ?_
    refine k_wrong (st := []) C Y hW E.cs (by decide) Dg dX1_readSized_110 (by decide) (fun g Dg => ?_)
    exact x_zret C E dX1_readSized_113 (by decide) (fun q e => by subst e; exact RS.no Dg)
  have lt_ : ∀ {x : Nat} {k : Int32} (hx : x < 2 ^ 31), k = nI x → (nI v < k ↔ v < x) := fun hx e => by rw [e]; exact ⟨fun g => (nI_ltI (by omega) hx).mp g, fun g => nI_lt g hx⟩
  have T76 : X z 0 0 (EQ g) 76 [some (.ref de), some (.ref p), some (.int (nI v))] [] := by
    refine x_iload_n C dX1_readSized_76 rfl ?_
    refine x_sipush (v := 224) C dX1_readSized_77 (by decide) ?_
    refine x_icmp_lt (tgt := 101) C dX1_readSized_80 (by decide) (fun _ => T101) (fun q1 => ?_)
    refine x_iload_n C dX1_readSized_83 rfl ?_
    refine x_sipush (v := 232) C dX1_readSized_84 (by decide) ?_
    refine x_icmp_gt (tgt := 101) C dX1_readSized_87 (by decide) (fun _ => T101) (fun q2 => ?_)
    have w1 : 224 ≤ v := Nat.le_of_not_lt (fun g => q1 ((lt_ (x := 224) (by decide) rfl).mpr g))
    have w2 : v ≤ 232 := Nat.le_of_not_lt (fun g => q2 ((gt_ (x := 232) (by decide) rfl).mpr g))
    refine x_aload_n C dX1_readSized_90 rfl ?_
    refine x_aload_n C dX1_readSized_91 rfl ?_
    refine x_iload_n C dX1_readSized_92 rfl ?_
    refine x_sipush (v := 224) C dX1_readSized_93 (by decide) ?_
    refine x_isub C dX1_readSized_96 ?_
    rw [show nI v - 224 = nI (v - 224) from nI_sub' (b := 224) w1]
    refine k_callR (kc := 0) (ks := 0) (mc' := 0) (ms' := 0) (st := []) C Y hW E.cs (d_number hW R o1 o2 (s := v - 224) hj1 hm (by omega)) Dg md_X1_readNumber wi_X1_readNumber ws_X1_readNumber wm_X1_127 dX1_readSized_97 rfl (by decide) (by decide) B rfl rfl (by decide) (fun r g hg => ?_)
    exact k_rs C E dX1_readSized_100 hg (by omega)
  refine x_iload_n C dX1_readSized_49 rfl ?_
  refine x_sipush (v := 208) C dX1_readSized_50 (by decide) ?_
  refine x_icmp_lt (tgt := 76) C dX1_readSized_53 (by decide) (fun _ => T76) (fun q1 => ?_)
  refine x_iload_n C dX1_readSized_56 rfl ?_
  refine x_sipush (v := 217) C dX1_readSized_57 (by decide) ?_
  refine x_icmp_gt (tgt := 76) C dX1_readSized_60 (by decide) (fun _ => T76) (fun q2 => ?_)
  have w1 : 208 ≤ v := Nat.le_of_not_lt (fun g => q1 ((lt_ (x := 208) (by decide) rfl).mpr g))
  have w2 : v ≤ 217 := Nat.le_of_not_lt (fun g => q2 ((gt_ (x := 217) (by decide) rfl).mpr g))
  refine x_aload_n C dX1_readSized_63 rfl ?_
  refine x_aload_n C dX1_readSized_64 rfl ?_
  refine x_iload_n C dX1_readSized_65 rfl ?_
  refine x_sipush (v := 208) C dX1_readSized_66 (by decide) ?_
  refine x_isub C dX1_readSized_69 ?_
  rw [show nI v - 208 = nI (v - 208) from nI_sub' (b := 208) w1]
  refine x_iconst (v := -1) C dX1_readSized_70 (by decide) ?_
  refine x_iconst (v := 0) C dX1_readSized_71 (by decide) ?_
  refine k_callR (kc := 0) (ks := 0) (mc' := 0) (ms' := 0) (st := []) C Y hW E.cs (d_bcd hX R o1 o2 (s := v - 208) hj1 hm (by omega) (-1) 0) Dg md_X1_readBcd wi_X1_readBcd ws_X1_readBcd wm_X1_136 dX1_readSized_72 rfl (by decide) (by decide) B rfl rfl (by decide) (fun r g hg => ?_)
  exact k_rs C E dX1_readSized_75 hg (by omega)
/-- how long the text of a value at j is, by the CODE -/
def tsv (f : Nat → Int32) (co : Int32) (j : Nat) : Nat := if co = 13 then ts1 f j else 0
theorem d_value (hX : Wx w c) (R : RW c h0 b ba f n) (o1 : W b) (o2 : W ba) (hb : HB f n) {i m : Nat} (hi : i ≤ m) (hm : m ≤ 256) (hmn : m ≤ n) (sta : Int32) : T w gw yX1_readValue cX1_readValue 4 (some .boolean) 4 (40 * 4) 1 (min (tsv f co i) (m - i)) [.ref de, .ref p, .int sta] (DE c li ra de h0 W p co b (nI i) (nI m)) (RS c li ra de h0 W p co b (i + tsv f co i) m) := by
  have hW := hX.1
  refine TA.intro hW rfl (by decide +kernel) (Nat.le_of_ble_eq_true rfl) (fun z C Y E hn h D => ?_)
  obtain ⟨κ, Dk, hp, va, sg, fu, ta, un, ln, v, vn, lt, Bp, v1, v2, v3⟩ := D.1.get
  obtain ⟨-, fa, pl, mo, B, hm1⟩ := id D
  refine x_aload_n C dX1_readValue_0 rfl ?_
  refine u_callV (st := []) C Y hW E.cs (q_codeOf hW Bp) md_X3_codeOf wi_X3_codeOf ws_X3_codeOf wm_X1_101 dX1_readValue_1 rfl (by decide) (by decide) Bp rfl rfl (by decide) ?_
  refine o_istore_nE (L' := [some _, some _, some _, some _]) C dX1_readValue_4 (by rw [hn]; decide) rfl ?_
  refine x_iload_n C dX1_readValue_5 rfl ?_
  have Tnum : ∀ (s pc : Nat) (x : Int32), s ≤ 8 → tsv f co i = 0 → x = nI s → decode cX1_readValue pc = .ok (.invokevirtual 127, 3) → decode cX1_readValue (pc + 3) = .ok (.ireturn, 1) → X z 0 0 (EQ h) pc [some (.ref de), some (.ref p), some (.int sta), some (.int co)] [.int x, .ref p, .ref de] := fun s pc x hs8 ht ex d1 d2 => by
    subst ex
    refine k_callR (kc := 0) (ks := 0) (mc' := 0) (ms' := 0) (st := []) C Y hW E.cs (d_number hW R o1 o2 (s := s) hi hm hs8) D md_X1_readNumber wi_X1_readNumber ws_X1_readNumber wm_X1_127 d1 rfl (by decide) (by decide) B rfl rfl (by decide) (fun r g hg => ?_)
    exact k_rs C E d2 hg (by omega)
  have Tbcd : ∀ (s pc : Nat) (x : Int32), s ≤ 9 → tsv f co i = 0 → x = nI s → decode cX1_readValue pc = .ok (.invokevirtual 130, 3) → decode cX1_readValue (pc + 3) = .ok (.ireturn, 1) → X z 0 0 (EQ h) pc [some (.ref de), some (.ref p), some (.int sta), some (.int co)] [.int x, .ref p, .ref de] := fun s pc x hs8 ht ex d1 d2 => by
    subst ex
    refine k_callR (kc := 0) (ks := 0) (mc' := 0) (ms' := 0) (st := []) C Y hW E.cs (d_signed hX R o1 o2 (s := s) hi hm hs8) D md_X1_readSignedBcd wi_X1_readSignedBcd ws_X1_readSignedBcd wm_X1_130 d1 rfl (by decide) (by decide) B rfl rfl (by decide) (fun r g hg => ?_)
    exact k_rs C E d2 hg (by omega)
  have Tdef : X z 0 0 (EQ h) 136 [some (.ref de), some (.ref p), some (.int sta), some (.int co)] [] := by
    refine x_aload_n C dX1_readValue_136 rfl ?_
    refine x_bipush (v := 9) C dX1_readValue_137 (by decide) ?_
    refine x_iload_n C dX1_readValue_139 rfl ?_
    refine k_wrong (st := []) C Y hW E.cs (by decide) D dX1_readValue_140 (by decide) (fun g Dg => ?_)
    exact x_zret C E dX1_readValue_143 (by decide) (fun q e => by subst e; exact RS.no Dg)
  by_cases g : (0 : Int32) ≤ co ∧ co ≤ 14
  · obtain ⟨j, hj, rfl⟩ := nI_of (Int32.not_lt.mpr g.1)
    have hj2 : j ≤ 14 := Nat.le_of_not_lt (fun q => absurd (nI_lt q hj) (Int32.not_lt.mpr g.2))
    rcases (show j = 0 ∨ j = 1 ∨ j = 2 ∨ j = 3 ∨ j = 4 ∨ j = 5 ∨ j = 6 ∨ j = 7 ∨ j = 8 ∨ j = 9 ∨ j = 10 ∨ j = 11 ∨ j = 12 ∨ j = 13 ∨ j = 14 by omega) with rfl | rfl | rfl | rfl | rfl | rfl | rfl | rfl | rfl | rfl | rfl | rfl | rfl | rfl | rfl
    · refine x_tblIn (tgt := 80) (off := 74) C dX1_readValue_6 (by decide) (by decide) (by decide) (by decide) ?_
      refine x_iconst (v := 1) C dX1_readValue_80 (by decide) ?_
      exact x_zret C E dX1_readValue_81 (by decide) (fun q e => by subst e; exact RS.yes (by rw [show tsv f _ i = 0 from if_neg (by decide)]; exact Nat.le_refl _) hi D)
    · refine x_tblIn (tgt := 82) (off := 76) C dX1_readValue_6 (by decide) (by decide) (by decide) (by decide) ?_
      refine X.room (kc' := 0) (ks' := 0) ?_ (Nat.zero_le _) (Nat.zero_le _)
      refine x_aload_n C dX1_readValue_82 rfl ?_
      refine x_aload_n C dX1_readValue_83 rfl ?_
      refine x_iload_n C dX1_readValue_84 rfl ?_
      exact Tnum 1 85 _ (by decide) (show tsv f _ i = 0 from if_neg (by decide)) rfl dX1_readValue_85 dX1_readValue_88
    · refine x_tblIn (tgt := 82) (off := 76) C dX1_readValue_6 (by decide) (by decide) (by decide) (by decide) ?_
      refine X.room (kc' := 0) (ks' := 0) ?_ (Nat.zero_le _) (Nat.zero_le _)
      refine x_aload_n C dX1_readValue_82 rfl ?_
      refine x_aload_n C dX1_readValue_83 rfl ?_
      refine x_iload_n C dX1_readValue_84 rfl ?_
      exact Tnum 2 85 _ (by decide) (show tsv f _ i = 0 from if_neg (by decide)) rfl dX1_readValue_85 dX1_readValue_88
    · refine x_tblIn (tgt := 82) (off := 76) C dX1_readValue_6 (by decide) (by decide) (by decide) (by decide) ?_
      refine X.room (kc' := 0) (ks' := 0) ?_ (Nat.zero_le _) (Nat.zero_le _)
      refine x_aload_n C dX1_readValue_82 rfl ?_
      refine x_aload_n C dX1_readValue_83 rfl ?_
      refine x_iload_n C dX1_readValue_84 rfl ?_
      exact Tnum 3 85 _ (by decide) (show tsv f _ i = 0 from if_neg (by decide)) rfl dX1_readValue_85 dX1_readValue_88
    · refine x_tblIn (tgt := 82) (off := 76) C dX1_readValue_6 (by decide) (by decide) (by decide) (by decide) ?_
      refine X.room (kc' := 0) (ks' := 0) ?_ (Nat.zero_le _) (Nat.zero_le _)
      refine x_aload_n C dX1_readValue_82 rfl ?_
      refine x_aload_n C dX1_readValue_83 rfl ?_
      refine x_iload_n C dX1_readValue_84 rfl ?_
      exact Tnum 4 85 _ (by decide) (show tsv f _ i = 0 from if_neg (by decide)) rfl dX1_readValue_85 dX1_readValue_88
    · refine x_tblIn (tgt := 89) (off := 83) C dX1_readValue_6 (by decide) (by decide) (by decide) (by decide) ?_
      refine X.room (kc' := 0) (ks' := 0) ?_ (Nat.zero_le _) (Nat.zero_le _)
      refine x_aload_n C dX1_readValue_89 rfl ?_
      refine x_aload_n C dX1_readValue_90 rfl ?_
      refine x_iconst (v := 4) C dX1_readValue_91 (by decide) ?_
      exact Tnum 4 92 _ (by decide) (show tsv f _ i = 0 from if_neg (by decide)) rfl dX1_readValue_92 dX1_readValue_95
    · refine x_tblIn (tgt := 96) (off := 90) C dX1_readValue_6 (by decide) (by decide) (by decide) (by decide) ?_
      refine X.room (kc' := 0) (ks' := 0) ?_ (Nat.zero_le _) (Nat.zero_le _)
      refine x_aload_n C dX1_readValue_96 rfl ?_
      refine x_aload_n C dX1_readValue_97 rfl ?_
      refine x_bipush (v := 6) C dX1_readValue_98 (by decide) ?_
      exact Tnum 6 100 _ (by decide) (show tsv f _ i = 0 from if_neg (by decide)) rfl dX1_readValue_100 dX1_readValue_103
    · refine x_tblIn (tgt := 104) (off := 98) C dX1_readValue_6 (by decide) (by decide) (by decide) (by decide) ?_
      refine X.room (kc' := 0) (ks' := 0) ?_ (Nat.zero_le _) (Nat.zero_le _)
      refine x_aload_n C dX1_readValue_104 rfl ?_
      refine x_aload_n C dX1_readValue_105 rfl ?_
      refine x_bipush (v := 8) C dX1_readValue_106 (by decide) ?_
      exact Tnum 8 108 _ (by decide) (show tsv f _ i = 0 from if_neg (by decide)) rfl dX1_readValue_108 dX1_readValue_111
    · refine x_tblIn (tgt := 136) (off := 130) C dX1_readValue_6 (by decide) (by decide) (by decide) (by decide) ?_
      exact Tdef.room (Nat.zero_le _) (Nat.zero_le _)
    · refine x_tblIn (tgt := 112) (off := 106) C dX1_readValue_6 (by decide) (by decide) (by decide) (by decide) ?_
      refine X.room (kc' := 0) (ks' := 0) ?_ (Nat.zero_le _) (Nat.zero_le _)
      refine x_aload_n C dX1_readValue_112 rfl ?_
      refine x_aload_n C dX1_readValue_113 rfl ?_
      refine x_iload_n C dX1_readValue_114 rfl ?_
      refine x_bipush (v := 8) C dX1_readValue_115 (by decide) ?_
      refine x_isub C dX1_readValue_117 ?_
      exact Tbcd 1 118 _ (by decide) (show tsv f _ i = 0 from if_neg (by decide)) (by decide) dX1_readValue_118 dX1_readValue_121
    · refine x_tblIn (tgt := 112) (off := 106) C dX1_readValue_6 (by decide) (by decide) (by decide) (by decide) ?_
      refine X.room (kc' := 0) (ks' := 0) ?_ (Nat.zero_le _) (Nat.zero_le _)
      refine x_aload_n C dX1_readValue_112 rfl ?_
      refine x_aload_n C dX1_readValue_113 rfl ?_
      refine x_iload_n C dX1_readValue_114 rfl ?_
      refine x_bipush (v := 8) C dX1_readValue_115 (by decide) ?_
      refine x_isub C dX1_readValue_117 ?_
      exact Tbcd 2 118 _ (by decide) (show tsv f _ i = 0 from if_neg (by decide)) (by decide) dX1_readValue_118 dX1_readValue_121
    · refine x_tblIn (tgt := 112) (off := 106) C dX1_readValue_6 (by decide) (by decide) (by decide) (by decide) ?_
      refine X.room (kc' := 0) (ks' := 0) ?_ (Nat.zero_le _) (Nat.zero_le _)
      refine x_aload_n C dX1_readValue_112 rfl ?_
      refine x_aload_n C dX1_readValue_113 rfl ?_
      refine x_iload_n C dX1_readValue_114 rfl ?_
      refine x_bipush (v := 8) C dX1_readValue_115 (by decide) ?_
      refine x_isub C dX1_readValue_117 ?_
      exact Tbcd 3 118 _ (by decide) (show tsv f _ i = 0 from if_neg (by decide)) (by decide) dX1_readValue_118 dX1_readValue_121
    · refine x_tblIn (tgt := 112) (off := 106) C dX1_readValue_6 (by decide) (by decide) (by decide) (by decide) ?_
      refine X.room (kc' := 0) (ks' := 0) ?_ (Nat.zero_le _) (Nat.zero_le _)
      refine x_aload_n C dX1_readValue_112 rfl ?_
      refine x_aload_n C dX1_readValue_113 rfl ?_
      refine x_iload_n C dX1_readValue_114 rfl ?_
      refine x_bipush (v := 8) C dX1_readValue_115 (by decide) ?_
      refine x_isub C dX1_readValue_117 ?_
      exact Tbcd 4 118 _ (by decide) (show tsv f _ i = 0 from if_neg (by decide)) (by decide) dX1_readValue_118 dX1_readValue_121
    · refine x_tblIn (tgt := 130) (off := 124) C dX1_readValue_6 (by decide) (by decide) (by decide) (by decide) ?_
      have e13 : tsv f (nI 13) i = ts1 f i := if_pos rfl
      rw [e13]
      rw [e13] at E
      refine x_aload_n C dX1_readValue_130 rfl ?_
      refine x_aload_n C dX1_readValue_131 rfl ?_
      refine X.room (kc' := 0 + 1) (ks' := 0 + min (ts1 f i) (m - (i + 1))) ?_ (by omega) (by omega)
      refine k_callR (kc := 0) (ks := 0) (st := []) C Y hW E.cs (d_sized hX R o1 o2 hb hi hm hmn) D md_X1_readSized wi_X1_readSized ws_X1_readSized wm_X1_133 dX1_readValue_132 rfl (by decide) (by decide) B rfl rfl (by decide) (fun r g hg => ?_)
      exact k_rs C E dX1_readValue_135 hg (by omega)
    · refine x_tblIn (tgt := 122) (off := 116) C dX1_readValue_6 (by decide) (by decide) (by decide) (by decide) ?_
      refine X.room (kc' := 0) (ks' := 0) ?_ (Nat.zero_le _) (Nat.zero_le _)
      refine x_aload_n C dX1_readValue_122 rfl ?_
      refine x_aload_n C dX1_readValue_123 rfl ?_
      refine x_bipush (v := 6) C dX1_readValue_124 (by decide) ?_
      exact Tbcd 6 126 _ (by decide) (show tsv f _ i = 0 from if_neg (by decide)) rfl dX1_readValue_126 dX1_readValue_129
  · exact x_tblOut (tgt := 136) C dX1_readValue_6 (out14 g) (by decide) (Tdef.room (Nat.zero_le _) (Nat.zero_le _))
end Dec
end
section
/-! Decoder: one item. -/
theorem exD_ge (f : Nat → Int32) : ∀ (r : Nat) (la : Int32) (j : Nat), j ≤ exD f r la j
  | 0, _, j => Nat.le_refl j
  | r + 1, la, j => by
    unfold exD
    split
    · exact Nat.le_refl _
    · exact Nat.le_trans (Nat.le_succ j) (exD_ge f r _ _)
theorem exD_128 (f : Nat → Int32) (j : Nat) : j + 1 ≤ exD f 12 128 j := by
  rw [show exD f 12 128 j = exD f 11 (f j) (j + 1) from if_neg (by decide)]
  exact exD_ge f 11 _ _
/-- where the value of a record at i stands -/
def vpos (f : Nat → Int32) (i : Nat) : Nat := exD f 12 128 (exD f 11 (f i) (i + 1))
theorem vpos_ge (f : Nat → Int32) (i : Nat) : i + 2 ≤ vpos f i := Nat.le_trans (Nat.succ_le_succ (exD_ge f 11 (f i) (i + 1))) (exD_128 f _)
/-- how many slots a text of the record at i takes; how far the record goes at least -/
def itx (f : Nat → Int32) (i m : Nat) : Nat := if f i = 15 then m - (i + 1) else min (tsv f (f i &&& 15) (vpos f i)) (m - vpos f i)
def ilo (f : Nat → Int32) (i m : Nat) : Nat := if f i = 15 then m else vpos f i + tsv f (f i &&& 15) (vpos f i)
def DQ (c : Nat → ClassId) (li ra de : Nat) (h0 : PH) (W : Nat → Prop) (b : Nat) (a e : Int32) (h : PH) : Prop := (∃ κ, DK c li ra de h0 W κ h) ∧ ∃ fa pl mo : Int32, h de = some (.inr (1, [.ref li, .ref b, .int a, .int e, .int fa, .int pl, .int mo])) ∧ (mo = 0 ∨ mo = 1)
def RQ (c : Nat → ClassId) (li ra de : Nat) (h0 : PH) (W : Nat → Prop) (b lo m : Nat) (r : Option Value) (g : PH) : Prop := (r = some (.int 1) ∧ ∃ i, lo ≤ i ∧ i ≤ m ∧ DQ c li ra de h0 W b (nI i) (nI m) g) ∨ (r = some (.int 0) ∧ ∃ a, DQ c li ra de h0 W b a (nI m) g)
section Dec
variable {w : Wd} {c : Nat → ClassId} {h h0 : PH} {li ra de p b ba n : Nat} {W : Nat → Prop} {f : Nat → Int32} {co : Int32}
theorem DE.dq {a e : Int32} (D : DE c li ra de h0 W p co b a e h) : DQ c li ra de h0 W b a e h := by
  obtain ⟨⟨κ, D, -⟩, r⟩ := D
  exact ⟨⟨κ, D⟩, r⟩
theorem DQ.set {a e : Int32} (D : DQ c li ra de h0 W b a e h) {fa pl mo : Int32} (a' e' fa' pl' mo' : Int32) (b' : Nat) (hm : mo' = 0 ∨ mo' = 1) : DQ c li ra de h0 W b' a' e' (hs h de (.inr (1, [.ref li, .ref b', .int a', .int e', .int fa', .int pl', .int mo']))) := by
  obtain ⟨⟨κ, D⟩, -⟩ := D
  exact ⟨⟨κ, D.putD _ _ _ _ _ _ hm⟩, fa', pl', mo', hs_self .., hm⟩
theorem DQ.row {a e : Int32} (D : DQ c li ra de h0 W b a e h) {b2 : Nat} (R : RW c h0 b2 ba f n) (o1 : W b2) (o2 : W ba) : RW c h b2 ba f n := by
  obtain ⟨⟨κ, D⟩, -⟩ := D
  exact D.row R o1 o2
theorem RQ.no {a : Int32} {lo m : Nat} (D : DQ c li ra de h0 W b a (nI m) h) : RQ c li ra de h0 W b lo m (some (.int 0)) h := Or.inr ⟨rfl, _, D⟩
theorem RQ.yes {i lo m : Nat} (h1 : lo ≤ i) (h2 : i ≤ m) (D : DQ c li ra de h0 W b (nI i) (nI m) h) : RQ c li ra de h0 W b lo m (some (.int 1)) h := Or.inl ⟨rfl, i, h1, h2, D⟩
theorem d_item0 (hX : Wx w c) (R : RW c h0 b ba f n) (o1 : W b) (o2 : W ba) {i m : Nat} (hi : i < m) (hm : m ≤ 256) (hmn : m ≤ n) (hv : f i = 47 ∨ f i = 31) : T w gw yX1_readItem cX1_readItem 5 (some .boolean) 6 (40 * 6) 0 0 [.ref de] (DQ c li ra de h0 W b (nI i) (nI m)) (RQ c li ra de h0 W b (i + 1) m) := by
  have hW := hX.1
  refine TA.intro hW rfl (by decide +kernel) (Nat.le_of_ble_eq_true rfl) (fun z C Y E hn h D => ?_)
  obtain ⟨-, fa, pl, mo, B, hm1⟩ := id D
  have Rh := D.row R o1 o2
  refine x_aload_n C dX1_readItem_0 rfl ?_
  refine e_get C Y kd_X1 2 (by decide) wf_X1_9 dX1_readItem_1 B rfl ?_
  refine o_istore_nE (L' := [some _, some _, none, none, none]) C dX1_readItem_4 (by rw [hn]; decide) rfl ?_
  refine x_aload_n C dX1_readItem_5 rfl ?_
  refine u_callV (st := []) C Y hW E.cs (d_take hW B Rh) md_X1_take wi_X1_take ws_X1_take wm_X1_85 dX1_readItem_6 rfl (by decide) (by decide) B rfl rfl (by decide) ?_
  have D1 := D.set (fa := fa) (pl := pl) (mo := mo) (nI i + 1) (nI m) fa pl mo b hm1
  rw [nI_1] at D1 ⊢
  rw [rAt_in (by omega) R.2.2.2]
  refine o_istore_nE (L' := [some _, some _, some _, none, none]) C dX1_readItem_9 (by rw [hn]; decide) rfl ?_
  refine x_iload_n C dX1_readItem_10 rfl ?_
  refine x_bipush (v := 47) C dX1_readItem_11 (by decide) ?_
  refine x_icmp_ne (tgt := 18) C dX1_readItem_13 (by decide) (fun q => ?_) (fun q => ?_)
  rotate_left
  · refine x_iconst (v := 1) C dX1_readItem_16 (by decide) ?_
    exact x_zret C E dX1_readItem_17 (by decide) (fun g e => by subst e; exact RQ.yes (Nat.le_refl _) hi D1)
  have hv2 : f i = 31 := hv.resolve_left q
  refine x_iload_n C dX1_readItem_18 rfl ?_
  refine x_bipush (v := 31) C dX1_readItem_19 (by decide) ?_
  refine x_icmp_ne (tgt := 58) C dX1_readItem_21 (by decide) (fun q => absurd hv2 q) (fun _ => ?_)
  refine x_aload_n C dX1_readItem_24 rfl ?_
  refine x_iconst (v := 1) C dX1_readItem_25 (by decide) ?_
  refine e_put C Y kd_X1 6 (by decide) rfl wf_X1_24 dX1_readItem_26 (hs_self ..) (Nat.le_of_ble_eq_true rfl) (by decide) (by decide) (hs_hs ..) ?_
  have D2 := D.set (fa := fa) (pl := pl) (mo := mo) (nI (i + 1)) (nI m) fa pl 1 b (Or.inr rfl)
  refine x_aload_n C dX1_readItem_29 rfl ?_
  refine e_get C Y kd_X1 2 (by decide) wf_X1_9 dX1_readItem_30 (hs_self ..) rfl ?_
  refine x_aload_n C dX1_readItem_33 rfl ?_
  refine e_get C Y kd_X1 3 (by decide) wf_X1_15 dX1_readItem_34 (hs_self ..) rfl ?_
  refine x_icmp_eq (tgt := 52) C dX1_readItem_37 (by decide) (fun q => ?_) (fun q => ?_)
  · refine x_iconst (v := 1) C dX1_readItem_52 (by decide) ?_
    refine x_goto (tgt := 57) C dX1_readItem_53 (by decide) ?_
    exact x_zret C E dX1_readItem_57 (by decide) (fun g e => by subst e; exact RQ.yes (Nat.le_refl _) hi D2)
  · refine x_aload_n C dX1_readItem_40 rfl ?_
    refine x_iconst (v := 4) C dX1_readItem_41 (by decide) ?_
    refine x_aload_n C dX1_readItem_42 rfl ?_
    refine e_get C Y kd_X1 2 (by decide) wf_X1_9 dX1_readItem_43 (hs_self ..) rfl ?_
    refine u_callV (st := []) C Y hW E.cs (d_wrong hW (hs_self ..) 4 _) md_X1_wrong wi_X1_wrong ws_X1_wrong wm_X1_67 dX1_readItem_46 rfl (by decide) (by decide) (hs_self ..) rfl rfl (by decide) ?_
    refine x_if_eq (tgt := 56) C dX1_readItem_49 (by decide) (fun _ => ?_) (fun q => absurd rfl q)
    refine x_iconst (v := 0) C dX1_readItem_56 (by decide) ?_
    exact x_zret C E dX1_readItem_57 (by decide) (fun g e => by subst e; exact RQ.no (D2.set (fa := fa) (pl := pl) (mo := 1) _ _ _ _ _ b (Or.inr rfl)))
theorem d_item (hX : Wx w c) (R : RW c h0 b ba f n) (o1 : W b) (o2 : W ba) (hb : HB f n) {i m : Nat} (hi : i < m) (hm : m ≤ 256) (hmn : m ≤ n) (hv : ¬ f i = 47 ∧ ¬ f i = 31) : T w gw yX1_readItem cX1_readItem 5 (some .boolean) 6 (40 * 6) 3 (21 + itx f i m) [.ref de] (DQ c li ra de h0 W b (nI i) (nI m)) (RQ c li ra de h0 W b (ilo f i m) m) := by
  have hW := hX.1
  refine TA.intro hW rfl (by decide +kernel) (Nat.le_of_ble_eq_true rfl) (fun z C Y E hn h D => ?_)
  obtain ⟨-, fa, pl, mo, B, hm1⟩ := id D
  have Rh := D.row R o1 o2
  refine x_aload_n C dX1_readItem_0 rfl ?_
  refine e_get C Y kd_X1 2 (by decide) wf_X1_9 dX1_readItem_1 B rfl ?_
  refine o_istore_nE (L' := [some _, some _, none, none, none]) C dX1_readItem_4 (by rw [hn]; decide) rfl ?_
  refine x_aload_n C dX1_readItem_5 rfl ?_
  refine u_callV (st := []) C Y hW E.cs (d_take hW B Rh) md_X1_take wi_X1_take ws_X1_take wm_X1_85 dX1_readItem_6 rfl (by decide) (by decide) B rfl rfl (by decide) ?_
  have D1 := D.set (fa := fa) (pl := pl) (mo := mo) (nI i + 1) (nI m) fa pl mo b hm1
  rw [nI_1] at D1 ⊢
  rw [rAt_in (by omega) R.2.2.2]
  obtain ⟨⟨κ1, Dk1⟩, -⟩ := id D1
  have lde : li ≠ de := Dk1.2.2.2.2.1.2.2.2.2.1
  have nL : (∃ n, n ≤ 100 ∧ hs h de (.inr (1, [.ref li, .ref b, .int (nI (i + 1)), .int (nI m), .int fa, .int pl, .int mo])) li = some (.inr (4, [.ref ra, .int (nI n)]))) := Dk1.1
  obtain ⟨nl, nl1, nl2⟩ := nL
  refine o_istore_nE (L' := [some _, some _, some _, none, none]) C dX1_readItem_9 (by rw [hn]; decide) rfl ?_
  refine x_iload_n C dX1_readItem_10 rfl ?_
  refine x_bipush (v := 47) C dX1_readItem_11 (by decide) ?_
  refine x_icmp_ne (tgt := 18) C dX1_readItem_13 (by decide) (fun _ => ?_) (fun q => absurd q hv.1)
  refine x_iload_n C dX1_readItem_18 rfl ?_
  refine x_bipush (v := 31) C dX1_readItem_19 (by decide) ?_
  refine x_icmp_ne (tgt := 58) C dX1_readItem_21 (by decide) (fun _ => ?_) (fun q => absurd q hv.2)
  refine x_aload_n C dX1_readItem_58 rfl ?_
  refine e_get C Y kd_X1 0 (by decide) wf_X1_32 dX1_readItem_59 (hs_self ..) rfl ?_
  refine X.room (kc' := 1 + 2) (ks' := itx f i m + 21) ?_ (by omega) (by omega)
  refine k_callR (kc := 1) (ks := itx f i m) (st := []) C Y hW E.cs (l_draft hX _) ⟨Dk1, hs_self ..⟩ md_X4_draft wi_X4_draft ws_X4_draft wm_X1_88 dX1_readItem_62 rfl (by decide) (by decide) nl2 rfl rfl (by decide) (fun r g hg => ?_)
  obtain ⟨κ, p, rfl, hp, Dk, hde⟩ := hg
  obtain ⟨e0, e1, va, sg, co, fu, ta, un, ln, v, vn, lt, e2, v1, v2, v3⟩ := Dk.rd hp
  subst e2
  refine o_astore_nE (L' := [some _, some _, some _, some _, none]) C dX1_readItem_65 (by rw [hn]; decide) rfl ?_
  refine x_aload_n C dX1_readItem_66 rfl ?_
  refine x_iload_n C dX1_readItem_67 rfl ?_
  refine u_callV (st := []) C Y hW E.cs (q_begin hW e1 (f i)) md_X3_begin wi_X3_begin ws_X3_begin wm_X1_92 dX1_readItem_68 rfl (by decide) (by decide) e1 rfl rfl (by decide) ?_
  have DEp : DE c li ra de h0 W p (f i &&& 15) b (nI (i + 1)) (nI m) (hs g p (.inr (3, rdL 0 (f i &&& 15) ((f i >>> ((4 : Int32) &&& 31)) &&& 3) ((f i >>> ((6 : Int32) &&& 31)) &&& 1).toInt64 0 0 v 0 lt 0))) := ⟨⟨κ, Dk.putRd hp ⟨_, _, _, _, _, _, _, v, 0, lt, rfl, v1, by decide, v3⟩, hp, _, _, hs_self ..⟩, fa, pl, mo, by rw [hs_ne (Dk.pd (by omega))]; exact hde, hm1⟩
  generalize hs g p (.inr (3, rdL 0 (f i &&& 15) ((f i >>> ((4 : Int32) &&& 31)) &&& 3) ((f i >>> ((6 : Int32) &&& 31)) &&& 1).toInt64 0 0 v 0 lt 0)) = g1 at DEp
  clear e1 hde Dk hp κ v1 v2 v3
  -- behind the steps
  have T179 : ∀ (kc ks : Nat) (g : PH) (aa : Int32) (l4 : Option Value), DQ c li ra de h0 W b aa (nI m) g → X z kc ks (EQ g) 179 [some (.ref de), some (.int (nI i)), some (.int (f i)), some (.ref p), l4] [] := fun kc ks g aa l4 D => by
    refine x_iconst (v := 0) C dX1_readItem_179 (by decide) ?_
    exact x_zret C E dX1_readItem_180 (by decide) (fun q e => by subst e; exact RQ.no D)
  have T150 : ∀ (kc ks : Nat) (g : PH) (x : Int32), ((x = 1 ∧ ∃ j, ilo f i m ≤ j ∧ j ≤ m ∧ DQ c li ra de h0 W b (nI j) (nI m) g) ∨ (x = 0 ∧ ∃ a, DQ c li ra de h0 W b a (nI m) g)) → X z kc ks (EQ g) 150 [some (.ref de), some (.int (nI i)), some (.int (f i)), some (.ref p), some (.int x)] [] := fun kc ks g x hx => by
    refine x_iload C dX1_readItem_150 rfl ?_
    rcases hx with ⟨rfl, j, j1, j2, Dj⟩ | ⟨rfl, aa, Da⟩
    · refine x_if_eq (tgt := 179) C dX1_readItem_152 (by decide) (fun q => absurd q (by decide)) (fun _ => ?_)
      obtain ⟨⟨κ, Dk⟩, fa, pl, mo, B, hm1⟩ := id Dj
      obtain ⟨nn, nn1, nn2⟩ := Dk.1
      refine x_aload_n C dX1_readItem_155 rfl ?_
      refine e_get C Y kd_X1 0 (by decide) wf_X1_32 dX1_readItem_156 B rfl ?_
      refine k_callR (kc := kc) (ks := ks) (mc' := 0) (ms' := 0) (st := []) C Y hW E.cs (l_takes hW nn1 nn2) rfl md_X4_takesDraft wi_X4_takesDraft ws_X4_takesDraft wm_X1_114 dX1_readItem_159 rfl (by decide) (by decide) nn2 rfl rfl (by decide) (fun r g2 hg => ?_)
      obtain ⟨hr, mm, mm1, rfl⟩ := hg
      have Dl : DQ c li ra de h0 W b (nI j) (nI m) (hs g li (.inr (4, [.ref ra, .int (nI mm)]))) := ⟨⟨κ, Dk.putL mm1⟩, fa, pl, mo, by rw [hs_ne (Ne.symm lde)]; exact B, hm1⟩
      have Bl : hs g li (.inr (4, [.ref ra, .int (nI mm)])) de = some (.inr (1, [.ref li, .ref b, .int (nI j), .int (nI m), .int fa, .int pl, .int mo])) := by rw [hs_ne (Ne.symm lde)]; exact B
      rcases hr with rfl | rfl
      · refine x_if_ne (tgt := 175) C dX1_readItem_162 (by decide) (fun q => absurd rfl q) (fun _ => ?_)
        refine x_aload_n C dX1_readItem_165 rfl ?_
        refine x_bipush (v := 10) C dX1_readItem_166 (by decide) ?_
        refine x_iload_n C dX1_readItem_168 rfl ?_
        refine u_callV (st := []) C Y hW E.cs (d_wrong hW Bl 10 _) md_X1_wrong wi_X1_wrong ws_X1_wrong wm_X1_67 dX1_readItem_169 rfl (by decide) (by decide) Bl rfl rfl (by decide) ?_
        refine x_if_eq (tgt := 179) C dX1_readItem_172 (by decide) (fun _ => ?_) (fun q => absurd rfl q)
        exact T179 _ _ _ _ _ (Dl.set (fa := fa) (pl := pl) (mo := mo) (nI j) _ _ _ _ b hm1)
      · refine x_if_ne (tgt := 175) C dX1_readItem_162 (by decide) (fun _ => ?_) (fun q => absurd q (by decide))
        refine x_iconst (v := 1) C dX1_readItem_175 (by decide) ?_
        refine x_goto (tgt := 180) C dX1_readItem_176 (by decide) ?_
        exact x_zret C E dX1_readItem_180 (by decide) (fun q e => by subst e; exact RQ.yes j1 j2 Dl)
    · refine x_if_eq (tgt := 179) C dX1_readItem_152 (by decide) (fun _ => ?_) (fun q => absurd rfl q)
      exact T179 _ _ _ aa _ Da
  obtain ⟨-, fa, pl, mo, B, hm1⟩ := id DEp
  refine x_iload_n C dX1_readItem_71 rfl ?_
  refine x_bipush (v := 15) C dX1_readItem_72 (by decide) ?_
  refine x_icmp_ne (tgt := 96) C dX1_readItem_74 (by decide) (fun q15 => ?_) (fun q15 => ?_)
  rotate_left
  · have ei : itx f i m = m - (i + 1) := if_pos q15
    have el : ilo f i m = m := if_pos q15
    refine x_aload_n C dX1_readItem_77 rfl ?_
    refine x_aload_n C dX1_readItem_78 rfl ?_
    refine x_aload_n C dX1_readItem_79 rfl ?_
    refine e_get C Y kd_X1 3 (by decide) wf_X1_15 dX1_readItem_80 B rfl ?_
    refine x_aload_n C dX1_readItem_83 rfl ?_
    refine e_get C Y kd_X1 2 (by decide) wf_X1_9 dX1_readItem_84 B rfl ?_
    refine x_isub C dX1_readItem_87 ?_
    rw [nI_sub' (show i + 1 ≤ m by omega)]
    refine X.room (kc' := 0 + 1) (ks' := 0 + min (m - (i + 1)) (m - (i + 1))) ?_ (by omega) (by omega)
    refine k_callR (kc := 0) (ks := 0) (st := []) C Y hW E.cs (d_text hX R o1 o2 (s := m - (i + 1)) (show i + 1 ≤ m by omega) hm (by omega)) DEp md_X1_readText wi_X1_readText ws_X1_readText wm_X1_97 dX1_readItem_88 rfl (by decide) (by decide) B rfl rfl (by decide) (fun r g hg => ?_)
    rcases hg with ⟨rfl, j, j1, j2, Dg⟩ | ⟨rfl, aa, Dg⟩
    · refine o_istoreE (L' := [some _, some _, some _, some _, some _]) C dX1_readItem_91 (by rw [hn]; decide) rfl ?_
      refine x_goto (tgt := 150) C dX1_readItem_93 (by decide) ?_
      exact T150 _ _ _ _ (Or.inl ⟨rfl, j, by omega, j2, Dg.dq⟩)
    · refine o_istoreE (L' := [some _, some _, some _, some _, some _]) C dX1_readItem_91 (by rw [hn]; decide) rfl ?_
      refine x_goto (tgt := 150) C dX1_readItem_93 (by decide) ?_
      exact T150 _ _ _ _ (Or.inr ⟨rfl, aa, Dg.dq⟩)
  have ei : itx f i m = min (tsv f (f i &&& 15) (vpos f i)) (m - vpos f i) := if_neg q15
  have el : ilo f i m = vpos f i + tsv f (f i &&& 15) (vpos f i) := if_neg q15
  obtain ⟨κ, Dk, hp, va, sg, fu, ta, un, ln, v, vn, lt, Bp, v1, v2, v3⟩ := DEp.1.get
  refine x_aload_n C dX1_readItem_96 rfl ?_
  refine u_callV (st := []) C Y hW E.cs (q_codeOf hW Bp) md_X3_codeOf wi_X3_codeOf ws_X3_codeOf wm_X1_101 dX1_readItem_97 rfl (by decide) (by decide) Bp rfl rfl (by decide) ?_
  refine x_bipush (v := 15) C dX1_readItem_100 (by decide) ?_
  refine x_icmp_ne (tgt := 117) C dX1_readItem_102 (by decide) (fun _ => ?_) (fun _ => ?_)
  rotate_left
  · refine x_aload_n C dX1_readItem_105 rfl ?_
    refine x_bipush (v := 9) C dX1_readItem_106 (by decide) ?_
    refine x_iload_n C dX1_readItem_108 rfl ?_
    refine k_wrong (st := []) C Y hW E.cs (by decide) DEp dX1_readItem_109 (by decide) (fun g Dg => ?_)
    refine o_istoreE (L' := [some _, some _, some _, some _, some _]) C dX1_readItem_112 (by rw [hn]; decide) rfl ?_
    refine x_goto (tgt := 150) C dX1_readItem_114 (by decide) ?_
    exact T150 _ _ _ _ (Or.inr ⟨rfl, _, Dg.dq⟩)
  have T147 : ∀ (kc ks : Nat) (g : PH) (aa : Int32), DE c li ra de h0 W p (f i &&& 15) b aa (nI m) g → X z kc ks (EQ g) 147 [some (.ref de), some (.int (nI i)), some (.int (f i)), some (.ref p), none] [] := fun kc ks g aa D => by
    refine x_iconst (v := 0) C dX1_readItem_147 (by decide) ?_
    refine o_istoreE (L' := [some _, some _, some _, some _, some _]) C dX1_readItem_148 (by rw [hn]; decide) rfl ?_
    exact T150 _ _ _ _ (Or.inr ⟨rfl, _, D.dq⟩)
  refine x_aload_n C dX1_readItem_117 rfl ?_
  refine x_aload_n C dX1_readItem_118 rfl ?_
  refine x_iload_n C dX1_readItem_119 rfl ?_
  refine k_callR (kc := 1) (ks := itx f i m) (mc' := 0) (ms' := 0) (st := []) C Y hW E.cs (d_difes hW R o1 o2 (f i) (show i + 1 ≤ m by omega) hm hmn) DEp md_X1_readDifes wi_X1_readDifes ws_X1_readDifes wm_X1_104 dX1_readItem_120 rfl (by decide) (by decide) B rfl rfl (by decide) (fun r g hg => ?_)
  rcases hg with ⟨rfl, j2, Dg⟩ | ⟨rfl, aa, Dg⟩
  rotate_left
  · refine x_if_eq (tgt := 147) C dX1_readItem_123 (by decide) (fun _ => ?_) (fun q => absurd rfl q)
    exact T147 _ _ _ _ Dg
  refine x_if_eq (tgt := 147) C dX1_readItem_123 (by decide) (fun q => absurd q (by decide)) (fun _ => ?_)
  obtain ⟨-, fa2, pl2, mo2, B2, hm2⟩ := id Dg
  refine x_aload_n C dX1_readItem_126 rfl ?_
  refine x_aload_n C dX1_readItem_127 rfl ?_
  refine k_callR (kc := 1) (ks := itx f i m) (mc' := 0) (ms' := 0) (st := []) C Y hW E.cs (d_vifs hW R o1 o2 j2 hm hmn) Dg md_X1_readVifs wi_X1_readVifs ws_X1_readVifs wm_X1_107 dX1_readItem_128 rfl (by decide) (by decide) B2 rfl rfl (by decide) (fun r g hg => ?_)
  rcases hg with ⟨rfl, j3, Dg⟩ | ⟨rfl, aa, Dg⟩
  rotate_left
  · refine x_if_eq (tgt := 147) C dX1_readItem_131 (by decide) (fun _ => ?_) (fun q => absurd rfl q)
    exact T147 _ _ _ _ Dg
  refine x_if_eq (tgt := 147) C dX1_readItem_131 (by decide) (fun q => absurd q (by decide)) (fun _ => ?_)
  obtain ⟨-, fa3, pl3, mo3, B3, hm3⟩ := id Dg
  refine x_aload_n C dX1_readItem_134 rfl ?_
  refine x_aload_n C dX1_readItem_135 rfl ?_
  refine x_iload_n C dX1_readItem_136 rfl ?_
  refine X.room (kc' := 0 + 1) (ks' := 0 + min (tsv f (f i &&& 15) (vpos f i)) (m - vpos f i)) ?_ (by omega) (by omega)
  refine k_callR (kc := 0) (ks := 0) (st := []) C Y hW E.cs (d_value hX R o1 o2 hb (i := vpos f i) j3 hm hmn (nI i)) Dg md_X1_readValue wi_X1_readValue ws_X1_readValue wm_X1_111 dX1_readItem_137 rfl (by decide) (by decide) B3 rfl rfl (by decide) (fun r g hg => ?_)
  rcases hg with ⟨rfl, j, j4, j5, Dg⟩ | ⟨rfl, aa, Dg⟩
  · refine x_if_eq (tgt := 147) C dX1_readItem_140 (by decide) (fun q => absurd q (by decide)) (fun _ => ?_)
    refine x_iconst (v := 1) C dX1_readItem_143 (by decide) ?_
    refine x_goto (tgt := 148) C dX1_readItem_144 (by decide) ?_
    refine o_istoreE (L' := [some _, some _, some _, some _, some _]) C dX1_readItem_148 (by rw [hn]; decide) rfl ?_
    exact T150 _ _ _ _ (Or.inl ⟨rfl, j, by omega, j5, Dg.dq⟩)
  · refine x_if_eq (tgt := 147) C dX1_readItem_140 (by decide) (fun _ => ?_) (fun q => absurd rfl q)
    exact T147 _ _ _ _ Dg
end Dec
end
section
/-! Decoder: a whole frame. -/
section Dec
variable {w : Wd} {c : Nat → ClassId} {h h0 : PH} {li ra de p b ba n : Nat} {W : Nat → Prop} {f : Nat → Int32}
theorem d_frame (hW : Wc w c) (R : RW c h0 b ba f n) (o1 : W b) (o2 : W ba) {a e : Int32} : T w gw yX1_frameIsWell cX1_frameIsWell 2 (some .boolean) 2 (40 * 2) 0 0 [.ref de] (DQ c li ra de h0 W b a e) (fun r g => (r = some (.int 1) ∧ 21 ≤ n ∧ n ≤ 258 ∧ DQ c li ra de h0 W b a (nI (n - 2)) g) ∨ (r = some (.int 0) ∧ ∃ a' e', DQ c li ra de h0 W b a' e' g)) := by
  refine TA.intro hW rfl (by decide +kernel) (Nat.le_of_ble_eq_true rfl) (fun z C Y E hn h D => ?_)
  obtain ⟨-, fa, pl, mo, B, hm1⟩ := id D
  have Rh := D.row R o1 o2
  have hw : ∀ (pc : Nat) (x q : Int32) (l1 : Option Value), decode cX1_frameIsWell pc = .ok (.invokevirtual 67, 3) → decode cX1_frameIsWell (pc + 3) = .ok (.ireturn, 1) → X z 0 0 (EQ h) pc [some (.ref de), l1] [.int q, .int x, .ref de] := fun pc x q l1 d1 d2 => by
    refine u_callV (st := []) C Y hW E.cs (d_wrong hW B x q) md_X1_wrong wi_X1_wrong ws_X1_wrong wm_X1_67 d1 rfl (by decide) (by decide) B rfl rfl (by decide) ?_
    exact x_zret C E d2 (by decide) (fun g e => by subst e; exact Or.inr ⟨rfl, _, _, D.set (fa := fa) (pl := pl) (mo := mo) a _ _ _ _ b hm1⟩)
  refine x_aload_n C dX1_frameIsWell_0 rfl ?_
  refine e_get C Y kd_X1 1 (by decide) wf_X1_28 dX1_frameIsWell_1 B rfl ?_
  refine x_iconst (v := 1) C dX1_frameIsWell_4 (by decide) ?_
  refine k_at (st := []) C Y hW E.cs (by decide) Rh _ dX1_frameIsWell_5 (by decide) ?_
  generalize hl1 : rAt f n 1 = l1
  refine o_istore_nE (L' := [some _, some _]) C dX1_frameIsWell_8 (by rw [hn]; decide) rfl ?_
  refine x_aload_n C dX1_frameIsWell_9 rfl ?_
  refine e_get C Y kd_X1 1 (by decide) wf_X1_28 dX1_frameIsWell_10 B rfl ?_
  refine x_iconst (v := 0) C dX1_frameIsWell_13 (by decide) ?_
  refine k_at (st := []) C Y hW E.cs (by decide) Rh _ dX1_frameIsWell_14 (by decide) ?_
  refine x_bipush (v := 104) C dX1_frameIsWell_17 (by decide) ?_
  refine x_icmp_eq (tgt := 29) C dX1_frameIsWell_19 (by decide) (fun _ => ?_) (fun _ => ?_)
  rotate_left
  · refine x_aload_n C dX1_frameIsWell_22 rfl ?_
    refine x_iconst (v := 1) C dX1_frameIsWell_23 (by decide) ?_
    refine x_iconst (v := 0) C dX1_frameIsWell_24 (by decide) ?_
    exact hw 25 _ _ _ dX1_frameIsWell_25 dX1_frameIsWell_28
  have T42 : X z 0 0 (EQ h) 42 [some (.ref de), some (.int l1)] [] := by
    refine x_aload_n C dX1_frameIsWell_42 rfl ?_
    refine x_iconst (v := 1) C dX1_frameIsWell_43 (by decide) ?_
    refine x_iconst (v := 1) C dX1_frameIsWell_44 (by decide) ?_
    exact hw 45 _ _ _ dX1_frameIsWell_45 dX1_frameIsWell_48
  refine x_iload_n C dX1_frameIsWell_29 rfl ?_
  refine x_bipush (v := 15) C dX1_frameIsWell_30 (by decide) ?_
  refine x_icmp_lt (tgt := 42) C dX1_frameIsWell_32 (by decide) (fun _ => T42) (fun q1 => ?_)
  refine x_iload_n C dX1_frameIsWell_35 rfl ?_
  refine x_sipush (v := 252) C dX1_frameIsWell_36 (by decide) ?_
  refine x_icmp_le (tgt := 49) C dX1_frameIsWell_39 (by decide) (fun q2 => ?_) (fun _ => T42)
  obtain ⟨l, hl, rfl⟩ := nI_of (x := l1) (fun g => q1 (Int32.lt_trans g (by decide)))
  have l15 : 15 ≤ l := Nat.le_of_not_lt (fun g => q1 (nI_lt g (by decide)))
  have l252 : l ≤ 252 := Nat.le_of_not_lt (fun g => absurd (nI_lt g hl) (Int32.not_lt.mpr q2))
  refine x_aload_n C dX1_frameIsWell_49 rfl ?_
  refine e_get C Y kd_X1 1 (by decide) wf_X1_28 dX1_frameIsWell_50 B rfl ?_
  refine x_iconst (v := 2) C dX1_frameIsWell_53 (by decide) ?_
  refine k_at (st := []) C Y hW E.cs (by decide) Rh _ dX1_frameIsWell_54 (by decide) ?_
  refine x_iload_n C dX1_frameIsWell_57 rfl ?_
  refine x_icmp_eq (tgt := 68) C dX1_frameIsWell_58 (by decide) (fun _ => ?_) (fun _ => ?_)
  rotate_left
  · refine x_aload_n C dX1_frameIsWell_61 rfl ?_
    refine x_iconst (v := 1) C dX1_frameIsWell_62 (by decide) ?_
    refine x_iconst (v := 2) C dX1_frameIsWell_63 (by decide) ?_
    exact hw 64 _ _ _ dX1_frameIsWell_64 dX1_frameIsWell_67
  refine x_aload_n C dX1_frameIsWell_68 rfl ?_
  refine e_get C Y kd_X1 1 (by decide) wf_X1_28 dX1_frameIsWell_69 B rfl ?_
  refine x_iconst (v := 3) C dX1_frameIsWell_72 (by decide) ?_
  refine k_at (st := []) C Y hW E.cs (by decide) Rh _ dX1_frameIsWell_73 (by decide) ?_
  refine x_bipush (v := 104) C dX1_frameIsWell_76 (by decide) ?_
  refine x_icmp_eq (tgt := 88) C dX1_frameIsWell_78 (by decide) (fun _ => ?_) (fun _ => ?_)
  rotate_left
  · refine x_aload_n C dX1_frameIsWell_81 rfl ?_
    refine x_iconst (v := 1) C dX1_frameIsWell_82 (by decide) ?_
    refine x_iconst (v := 3) C dX1_frameIsWell_83 (by decide) ?_
    exact hw 84 _ _ _ dX1_frameIsWell_84 dX1_frameIsWell_87
  refine x_aload_n C dX1_frameIsWell_88 rfl ?_
  refine e_get C Y kd_X1 1 (by decide) wf_X1_28 dX1_frameIsWell_89 B rfl ?_
  refine u_callV (st := []) C Y hW E.cs (r_size hW Rh) md_X5_size wi_X5_size ws_X5_size wm_X1_71 dX1_frameIsWell_92 rfl (by decide) (by decide) Rh.2.1 rfl rfl (by decide) ?_
  refine x_iload_n C dX1_frameIsWell_95 rfl ?_
  refine x_bipush (v := 6) C dX1_frameIsWell_96 (by decide) ?_
  refine x_iadd C dX1_frameIsWell_98 ?_
  refine x_icmp_eq (tgt := 122) C dX1_frameIsWell_99 (by decide) (fun q3 => ?_) (fun _ => ?_)
  rotate_left
  · refine x_aload_n C dX1_frameIsWell_102 rfl ?_
    refine x_iconst (v := 1) C dX1_frameIsWell_103 (by decide) ?_
    refine x_aload_n C dX1_frameIsWell_104 rfl ?_
    refine e_get C Y kd_X1 1 (by decide) wf_X1_28 dX1_frameIsWell_105 B rfl ?_
    refine u_callV (st := [.int 1, .ref de]) C Y hW E.cs (r_size hW Rh) md_X5_size wi_X5_size ws_X5_size wm_X1_71 dX1_frameIsWell_108 rfl (by decide) (by decide) Rh.2.1 rfl rfl (by simp [Value.category]) ?_
    refine x_iload_n C dX1_frameIsWell_111 rfl ?_
    refine x_bipush (v := 6) C dX1_frameIsWell_112 (by decide) ?_
    refine x_iadd C dX1_frameIsWell_114 ?_
    refine x_min C wm_X1_72 dX1_frameIsWell_115 (by rw [E.fr_]; decide) (by rw [E.lo_]; simp [Value.category]) ?_
    exact hw 118 _ _ _ dX1_frameIsWell_118 dX1_frameIsWell_121
  have en : n = l + 6 := by
    have hn3 := R.2.2.2
    rw [show nI l + 6 = nI (l + 6) from nI_add l 6] at q3
    exact (nI_eq (by omega) (by omega)).mp q3
  refine x_aload_n C dX1_frameIsWell_122 rfl ?_
  refine e_get C Y kd_X1 1 (by decide) wf_X1_28 dX1_frameIsWell_123 B rfl ?_
  refine x_iconst (v := 4) C dX1_frameIsWell_126 (by decide) ?_
  refine k_at (st := []) C Y hW E.cs (by decide) Rh _ dX1_frameIsWell_127 (by decide) ?_
  refine x_bipush (v := 8) C dX1_frameIsWell_130 (by decide) ?_
  refine x_icmp_eq (tgt := 142) C dX1_frameIsWell_132 (by decide) (fun _ => ?_) (fun _ => ?_)
  rotate_left
  · refine x_aload_n C dX1_frameIsWell_135 rfl ?_
    refine x_iconst (v := 1) C dX1_frameIsWell_136 (by decide) ?_
    refine x_iconst (v := 4) C dX1_frameIsWell_137 (by decide) ?_
    exact hw 138 _ _ _ dX1_frameIsWell_138 dX1_frameIsWell_141
  refine x_aload_n C dX1_frameIsWell_142 rfl ?_
  refine e_get C Y kd_X1 1 (by decide) wf_X1_28 dX1_frameIsWell_143 B rfl ?_
  refine x_bipush (v := 6) C dX1_frameIsWell_146 (by decide) ?_
  refine k_at (st := []) C Y hW E.cs (by decide) Rh _ dX1_frameIsWell_148 (by decide) ?_
  refine x_bipush (v := 114) C dX1_frameIsWell_151 (by decide) ?_
  refine x_icmp_eq (tgt := 164) C dX1_frameIsWell_153 (by decide) (fun _ => ?_) (fun _ => ?_)
  rotate_left
  · refine x_aload_n C dX1_frameIsWell_156 rfl ?_
    refine x_iconst (v := 1) C dX1_frameIsWell_157 (by decide) ?_
    refine x_bipush (v := 6) C dX1_frameIsWell_158 (by decide) ?_
    exact hw 160 _ _ _ dX1_frameIsWell_160 dX1_frameIsWell_163
  refine x_aload_n C dX1_frameIsWell_164 rfl ?_
  refine x_iload_n C dX1_frameIsWell_165 rfl ?_
  refine x_iconst (v := 4) C dX1_frameIsWell_166 (by decide) ?_
  refine x_iadd C dX1_frameIsWell_167 ?_
  rw [show nI l + 4 = nI (n - 2) from by rw [en]; exact nI_add l 4]
  refine e_put C Y kd_X1 3 (by decide) rfl wf_X1_15 dX1_frameIsWell_168 B (Nat.le_of_ble_eq_true rfl) rfl rfl rfl ?_
  have D2 := D.set (fa := fa) (pl := pl) (mo := mo) a (nI (n - 2)) fa pl mo b hm1
  have B2 : hs h de (.inr (1, [.ref li, .ref b, .int a, .int (nI (n - 2)), .int fa, .int pl, .int mo])) de = some (.inr (1, [.ref li, .ref b, .int a, .int (nI (n - 2)), .int fa, .int pl, .int mo])) := hs_self ..
  have R2 := D2.row R o1 o2
  change X z 0 0 (EQ (hs h de (.inr (1, [.ref li, .ref b, .int a, .int (nI (n - 2)), .int fa, .int pl, .int mo])))) _ _ _
  generalize hs h de (.inr (1, [.ref li, .ref b, .int a, .int (nI (n - 2)), .int fa, .int pl, .int mo])) = h2 at D2 B2 R2 ⊢
  have T203 : X z 0 0 (EQ h2) 203 [some (.ref de), some (.int (nI l))] [] := by
    refine x_iconst (v := 1) C dX1_frameIsWell_203 (by decide) ?_
    refine x_goto (tgt := 208) C dX1_frameIsWell_204 (by decide) ?_
    exact x_zret C E dX1_frameIsWell_208 (by decide) (fun g e => by subst e; exact Or.inl ⟨rfl, by omega, by omega, D2⟩)
  refine x_aload_n C dX1_frameIsWell_171 rfl ?_
  refine e_get C Y kd_X1 1 (by decide) wf_X1_28 dX1_frameIsWell_172 B2 rfl ?_
  refine x_aload_n C dX1_frameIsWell_175 rfl ?_
  refine e_get C Y kd_X1 3 (by decide) wf_X1_15 dX1_frameIsWell_176 B2 rfl ?_
  refine x_iconst (v := 1) C dX1_frameIsWell_179 (by decide) ?_
  refine x_iadd C dX1_frameIsWell_180 ?_
  refine k_at (st := []) C Y hW E.cs (by decide) R2 _ dX1_frameIsWell_181 (by decide) ?_
  refine x_bipush (v := 22) C dX1_frameIsWell_184 (by decide) ?_
  refine x_icmp_eq (tgt := 203) C dX1_frameIsWell_186 (by decide) (fun _ => T203) (fun _ => ?_)
  refine x_aload_n C dX1_frameIsWell_189 rfl ?_
  refine x_iconst (v := 1) C dX1_frameIsWell_190 (by decide) ?_
  refine x_aload_n C dX1_frameIsWell_191 rfl ?_
  refine e_get C Y kd_X1 3 (by decide) wf_X1_15 dX1_frameIsWell_192 B2 rfl ?_
  refine x_iconst (v := 1) C dX1_frameIsWell_195 (by decide) ?_
  refine x_iadd C dX1_frameIsWell_196 ?_
  refine u_callV (st := []) C Y hW E.cs (d_wrong hW B2 1 _) md_X1_wrong wi_X1_wrong ws_X1_wrong wm_X1_67 dX1_frameIsWell_197 rfl (by decide) (by decide) B2 rfl rfl (by decide) ?_
  refine x_if_eq (tgt := 207) C dX1_frameIsWell_200 (by decide) (fun _ => ?_) (fun q => absurd rfl q)
  refine x_iconst (v := 0) C dX1_frameIsWell_207 (by decide) ?_
  exact x_zret C E dX1_frameIsWell_208 (by decide) (fun g e => by subst e; exact Or.inr ⟨rfl, _, _, D2.set (fa := fa) (pl := pl) (mo := mo) a _ _ _ _ b hm1⟩)
theorem d_sum (hW : Wc w c) (R : RW c h0 b ba f n) (o1 : W b) (o2 : W ba) {a : Int32} {m : Nat} (hm : m ≤ 256) : T w gw yX1_sumIsWell cX1_sumIsWell 1 (some .boolean) 2 (40 * 2) 0 0 [.ref de] (DQ c li ra de h0 W b a (nI m)) (fun r g => (r = some (.int 1) ∨ r = some (.int 0)) ∧ DQ c li ra de h0 W b a (nI m) g) := by
  refine TA.intro hW rfl (by decide +kernel) (Nat.le_of_ble_eq_true rfl) (fun z C Y E hn h D => ?_)
  obtain ⟨-, fa, pl, mo, B, hm1⟩ := id D
  have Rh := D.row R o1 o2
  refine x_aload_n C dX1_sumIsWell_0 rfl ?_
  refine e_get C Y kd_X1 1 (by decide) wf_X1_28 dX1_sumIsWell_1 B rfl ?_
  refine x_aload_n C dX1_sumIsWell_4 rfl ?_
  refine e_get C Y kd_X1 3 (by decide) wf_X1_15 dX1_sumIsWell_5 B rfl ?_
  refine k_at (st := []) C Y hW E.cs (by decide) Rh _ dX1_sumIsWell_8 (by decide) ?_
  refine x_aload_n C dX1_sumIsWell_11 rfl ?_
  refine e_get C Y kd_X1 1 (by decide) wf_X1_28 dX1_sumIsWell_12 B rfl ?_
  refine x_iconst (v := 4) C dX1_sumIsWell_15 (by decide) ?_
  refine x_aload_n C dX1_sumIsWell_16 rfl ?_
  refine e_get C Y kd_X1 3 (by decide) wf_X1_15 dX1_sumIsWell_17 B rfl ?_
  refine u_callV (st := [_]) C Y hW E.cs (r_sum hW Rh 4 m (by decide) (by omega)) md_X5_sum wi_X5_sum ws_X5_sum wm_X1_78 dX1_sumIsWell_20 rfl (by decide) (by decide) Rh.2.1 rfl rfl (by simp [Value.category]) ?_
  refine x_icmp_eq (tgt := 38) C dX1_sumIsWell_23 (by decide) (fun _ => ?_) (fun _ => ?_)
  · refine x_iconst (v := 1) C dX1_sumIsWell_38 (by decide) ?_
    refine x_goto (tgt := 43) C dX1_sumIsWell_39 (by decide) ?_
    exact x_zret C E dX1_sumIsWell_43 (by decide) (fun g e => by subst e; exact ⟨Or.inl rfl, D⟩)
  · refine x_aload_n C dX1_sumIsWell_26 rfl ?_
    refine x_iconst (v := 2) C dX1_sumIsWell_27 (by decide) ?_
    refine x_aload_n C dX1_sumIsWell_28 rfl ?_
    refine e_get C Y kd_X1 3 (by decide) wf_X1_15 dX1_sumIsWell_29 B rfl ?_
    refine u_callV (st := []) C Y hW E.cs (d_wrong hW B 2 _) md_X1_wrong wi_X1_wrong ws_X1_wrong wm_X1_67 dX1_sumIsWell_32 rfl (by decide) (by decide) B rfl rfl (by decide) ?_
    refine x_if_eq (tgt := 42) C dX1_sumIsWell_35 (by decide) (fun _ => ?_) (fun q => absurd rfl q)
    refine x_iconst (v := 0) C dX1_sumIsWell_42 (by decide) ?_
    exact x_zret C E dX1_sumIsWell_43 (by decide) (fun g e => by subst e; exact ⟨Or.inr rfl, D.set (fa := fa) (pl := pl) (mo := mo) a _ _ _ _ b hm1⟩)
theorem d_ident (hX : Wx w c) (R : RW c h0 b ba f n) (o1 : W b) (o2 : W ba) {a e : Int32} : T w gw yX1_identIsWell cX1_identIsWell 2 (some .boolean) 2 (40 * 2) 0 0 [.ref de] (DQ c li ra de h0 W b a e) (fun r g => (r = some (.int 1) ∨ r = some (.int 0)) ∧ DQ c li ra de h0 W b a e g) := by
  have hW := hX.1
  refine TA.intro hW rfl (by decide +kernel) (Nat.le_of_ble_eq_true rfl) (fun z C Y E hn h D => ?_)
  obtain ⟨-, fa, pl, mo, B, hm1⟩ := id D
  have Rh := D.row R o1 o2
  have LP : ∀ (r k : Nat), k + r = 11 → X z 0 0 (EQ h) 3 [some (.ref de), some (.int (nI k))] [] := by
    intro r
    induction r with
    | zero =>
      intro k hk
      obtain rfl : k = 11 := by omega
      refine x_iload_n C dX1_identIsWell_3 rfl ?_
      refine x_bipush (v := 11) C dX1_identIsWell_4 (by decide) ?_
      refine x_icmp_ge (tgt := 36) C dX1_identIsWell_6 (by decide) (fun _ => ?_) (fun q => absurd (Int32.le_refl _) q)
      refine x_iconst (v := 1) C dX1_identIsWell_36 (by decide) ?_
      exact x_zret C E dX1_identIsWell_37 (by decide) (fun g e => by subst e; exact ⟨Or.inl rfl, D⟩)
    | succ r ih =>
      intro k hk
      refine x_iload_n C dX1_identIsWell_3 rfl ?_
      refine x_bipush (v := 11) C dX1_identIsWell_4 (by decide) ?_
      refine x_icmp_ge (tgt := 36) C dX1_identIsWell_6 (by decide) (fun q => absurd q (Int32.not_le.mpr (nI_lt (show k < 11 by omega) (by decide)))) (fun _ => ?_)
      refine x_aload_n C dX1_identIsWell_9 rfl ?_
      refine e_get C Y kd_X1 1 (by decide) wf_X1_28 dX1_identIsWell_10 B rfl ?_
      refine x_iload_n C dX1_identIsWell_13 rfl ?_
      refine k_at (st := []) C Y hW E.cs (by decide) Rh _ dX1_identIsWell_14 (by decide) ?_
      refine k_callSN (kc := 0) (ks := 0) (mc' := 0) (ms' := 0) (st := []) C E.cs hW.1 gw_good (m_areDigits hW _) md_X6_areDigits wt_X6_areDigits (E.cs.nest hX (q := (RX1, 81, yX6_areDigits)) (by simp [nst])) dX1_identIsWell_17 rfl (by decide) (by decide) rfl (by decide) (fun r => X.opn (fun g hg => ?_))
      obtain ⟨rfl, e⟩ := hg
      subst e
      refine x_if_ne (tgt := 30) C dX1_identIsWell_20 (by decide) (fun _ => ?_) (fun _ => ?_)
      · refine o_iincE (v := nI (k + 1)) (L' := [some _, some _]) C dX1_identIsWell_30 rfl (nI_1 k) (by rw [hn]; decide) rfl ?_
        refine x_goto (tgt := 3) C dX1_identIsWell_33 (by decide) ?_
        exact ih (k + 1) (by omega)
      · refine x_aload_n C dX1_identIsWell_23 rfl ?_
        refine x_iconst (v := 3) C dX1_identIsWell_24 (by decide) ?_
        refine x_iload_n C dX1_identIsWell_25 rfl ?_
        refine u_callV (st := []) C Y hW E.cs (d_wrong hW B 3 _) md_X1_wrong wi_X1_wrong ws_X1_wrong wm_X1_67 dX1_identIsWell_26 rfl (by decide) (by decide) B rfl rfl (by decide) ?_
        exact x_zret C E dX1_identIsWell_29 (by decide) (fun g e => by subst e; exact ⟨Or.inr rfl, D.set (fa := fa) (pl := pl) (mo := mo) a _ _ _ _ b hm1⟩)
  refine x_bipush (v := 7) C dX1_identIsWell_0 (by decide) ?_
  refine o_istore_nE (L' := [some _, some _]) C dX1_identIsWell_2 (by rw [hn]; decide) rfl ?_
  exact LP 4 7 rfl
end Dec
end
section
/-! Decoder: reads; how much it makes is bounded by the frame's length. -/
def Bc (r : Nat) : Nat := 3 * ((r + 1) / 2)
def Bs (r : Nat) : Nat := 21 * ((r + 1) / 2) + r
section Dec
variable {w : Wd} {c : Nat → ClassId} {h h0 : PH} {li ra de p b ba n : Nat} {W : Nat → Prop} {f : Nat → Int32}
theorem d_reads (hX : Wx w c) (R : RW c h0 b ba f n) (o1 : W b) (o2 : W ba) (hb : HB f n) : T w gw yX1_reads cX1_reads 5 (some .boolean) 7 (40 * 7) (Bc (n - 21)) (Bs (n - 21)) [.ref de, .ref b] (fun h => ∃ κ, DK c li ra de h0 W κ h) (fun r g => (r = some (.int 1) ∨ r = some (.int 0)) ∧ ∃ a e, DQ c li ra de h0 W b a e g) := by
  have hW := hX.1
  refine TA.intro hW rfl (by decide +kernel) (Nat.le_of_ble_eq_true rfl) (fun z C Y E hn h D => ?_)
  obtain ⟨κ, D⟩ := D
  obtain ⟨fr, at_, en, fa, pl, mo, B, hm1⟩ := D.2.2.1
  have lde : li ≠ de := D.2.2.2.2.1.2.2.2.2.1
  refine x_aload_n C dX1_reads_0 rfl ?_
  refine x_aload_n C dX1_reads_1 rfl ?_
  refine e_put C Y kd_X1 1 (by decide) rfl wf_X1_28 dX1_reads_2 B (Nat.le_of_ble_eq_true rfl) rfl rfl rfl ?_
  refine x_aload_n C dX1_reads_5 rfl ?_
  refine x_iconst (v := 0) C dX1_reads_6 (by decide) ?_
  refine e_put C Y kd_X1 6 (by decide) rfl wf_X1_24 dX1_reads_7 (hs_self ..) (Nat.le_of_ble_eq_true rfl) (by decide) (by decide) (hs_hs ..) ?_
  refine x_aload_n C dX1_reads_10 rfl ?_
  refine u_callV (st := []) C Y hW E.cs (d_forget hW (hs_self ..)) md_X1_forgetFault wi_X1_forgetFault ws_X1_forgetFault wm_X1_36 dX1_reads_11 rfl (by decide) (by decide) (hs_self ..) rfl rfl (by decide) ?_
  rw [hs_hs]
  have Q : DQ c li ra de h0 W b at_ en (hs h de (.inr (1, [.ref li, .ref b, .int at_, .int en, .int 0, .int (-1), .int 0]))) := ⟨⟨κ, D.putD _ _ _ _ _ _ (Or.inl rfl)⟩, 0, -1, 0, hs_self .., Or.inl rfl⟩
  change X z _ _ (EQ (hs h de (.inr (1, [.ref li, .ref b, .int at_, .int en, .int 0, .int (-1), .int 0])))) _ _ _
  generalize hs h de (.inr (1, [.ref li, .ref b, .int at_, .int en, .int 0, .int (-1), .int 0])) = h1 at Q ⊢
  clear B D κ
  obtain ⟨⟨κ, D⟩, fa1, pl1, mo1, B, hm2⟩ := id Q
  obtain ⟨nb, nb1, nb2⟩ := D.1
  refine x_aload_n C dX1_reads_14 rfl ?_
  refine e_get C Y kd_X1 0 (by decide) wf_X1_32 dX1_reads_15 B rfl ?_
  refine u_callV (st := []) C Y hW E.cs (l_size hW nb2) md_X4_size wi_X4_size ws_X4_size wm_X1_39 dX1_reads_18 rfl (by decide) (by decide) nb2 rfl rfl (by decide) ?_
  refine o_istore_nE (L' := [some _, some _, some _, none, none]) C dX1_reads_21 (by rw [hn]; decide) rfl ?_
  -- the ends
  have Y104 : ∀ (kc ks : Nat) (g : PH) (aa ee x : Int32) (l4 : Option Value), (x = 1 ∨ x = 0) → DQ c li ra de h0 W b aa ee g → X z kc ks (EQ g) 104 [some (.ref de), some (.ref b), some (.int (nI nb)), some (.int x), l4] [] := fun kc ks g aa ee x l4 hx D => by
    refine x_iload_n C dX1_reads_104 rfl ?_
    rcases hx with rfl | rfl
    · exact x_zret C E dX1_reads_105 (by decide) (fun q e => by subst e; exact ⟨Or.inl rfl, _, _, D⟩)
    · exact x_zret C E dX1_reads_105 (by decide) (fun q e => by subst e; exact ⟨Or.inr rfl, _, _, D⟩)
  have Y92 : ∀ (kc ks : Nat) (g : PH) (aa ee x : Int32) (l4 : Option Value), (x = 1 ∨ x = 0) → DQ c li ra de h0 W b aa ee g → X z kc ks (EQ g) 92 [some (.ref de), some (.ref b), some (.int (nI nb)), some (.int x), l4] [] := fun kc ks g aa ee x l4 hx D => by
    refine x_iload_n C dX1_reads_92 rfl ?_
    refine x_if_ne (tgt := 104) C dX1_reads_93 (by decide) (fun _ => Y104 kc ks g aa ee x l4 hx D) (fun _ => ?_)
    obtain ⟨⟨κ, Dk⟩, fa, pl, mo, B, hm⟩ := id D
    obtain ⟨nn, nn1, nn2⟩ := Dk.1
    refine x_aload_n C dX1_reads_96 rfl ?_
    refine e_get C Y kd_X1 0 (by decide) wf_X1_32 dX1_reads_97 B rfl ?_
    refine x_iload_n C dX1_reads_100 rfl ?_
    refine k_callR (kc := kc) (ks := ks) (mc' := 0) (ms' := 0) (st := []) C Y hW E.cs (l_cut hW nn1 nn2 (nI nb)) rfl md_X4_cutTo wi_X4_cutTo ws_X4_cutTo wm_X1_58 dX1_reads_101 rfl (by decide) (by decide) nn2 rfl rfl (by decide) (fun r g2 hg => ?_)
    obtain ⟨rfl, mm, mm1, rfl⟩ := hg
    exact Y104 kc ks _ aa ee x l4 hx ⟨⟨κ, Dk.putL mm1⟩, fa, pl, mo, by rw [hs_ne (Ne.symm lde)]; exact B, hm⟩
  have N58 : ∀ (kc ks : Nat) (g : PH) (aa ee : Int32) (k : Nat), k ≤ 300 → DQ c li ra de h0 W b aa ee g → X z kc ks (EQ g) 58 [some (.ref de), some (.ref b), some (.int (nI nb)), some (.int 0), some (.int (nI k))] [] := fun kc ks g aa ee k hk D => by
    refine x_iload C dX1_reads_58 rfl ?_
    refine x_sipush (v := 300) C dX1_reads_60 (by decide) ?_
    refine x_icmp_ge (tgt := 92) C dX1_reads_63 (by decide) (fun _ => Y92 kc ks g aa ee 0 _ (Or.inr rfl) D) (fun _ => ?_)
    refine x_iload_n C dX1_reads_66 rfl ?_
    exact x_if_eq (tgt := 92) C dX1_reads_67 (by decide) (fun _ => Y92 kc ks g aa ee 0 _ (Or.inr rfl) D) (fun q => absurd rfl q)
  have N48 : ∀ (kc ks : Nat) (g : PH) (aa ee : Int32), DQ c li ra de h0 W b aa ee g → X z kc ks (EQ g) 47 [some (.ref de), some (.ref b), some (.int (nI nb)), none, none] [] := fun kc ks g aa ee D => by
    obtain ⟨-, fa, pl, mo, B, hm⟩ := id D
    refine x_iconst (v := 0) C dX1_reads_47 (by decide) ?_
    refine o_istore_nE (L' := [some _, some _, some _, some _, none]) C dX1_reads_48 (by rw [hn]; decide) rfl ?_
    refine x_aload_n C dX1_reads_49 rfl ?_
    refine x_bipush (v := 19) C dX1_reads_50 (by decide) ?_
    refine e_put C Y kd_X1 2 (by decide) rfl wf_X1_9 dX1_reads_52 B (Nat.le_of_ble_eq_true rfl) rfl rfl rfl ?_
    refine x_iconst (v := 0) C dX1_reads_55 (by decide) ?_
    refine o_istoreE (L' := [some _, some _, some _, some _, some _]) C dX1_reads_56 (by rw [hn]; decide) rfl ?_
    exact N58 kc ks _ 19 ee 0 (by decide) (D.set (fa := fa) (pl := pl) (mo := mo) 19 ee fa pl mo b hm)
  refine x_aload_n C dX1_reads_22 rfl ?_
  refine k_callR (kc := Bc (n - 21)) (ks := Bs (n - 21)) (mc' := 0) (ms' := 0) (st := []) C Y hW E.cs (d_frame hW R o1 o2) Q md_X1_frameIsWell wi_X1_frameIsWell ws_X1_frameIsWell wm_X1_45 dX1_reads_23 rfl (by decide) (by decide) B rfl rfl (by decide) (fun r g hg => ?_)
  rcases hg with ⟨rfl, n21, n258, Dg⟩ | ⟨rfl, aa, ee, Dg⟩
  rotate_left
  · refine x_if_eq (tgt := 47) C dX1_reads_26 (by decide) (fun _ => N48 _ _ _ _ _ Dg) (fun q => absurd rfl q)
  refine x_if_eq (tgt := 47) C dX1_reads_26 (by decide) (fun q => absurd q (by decide)) (fun _ => ?_)
  obtain ⟨-, fa2, pl2, mo2, B2, hm3⟩ := id Dg
  refine x_aload_n C dX1_reads_29 rfl ?_
  refine k_callR (kc := Bc (n - 21)) (ks := Bs (n - 21)) (mc' := 0) (ms' := 0) (st := []) C Y hW E.cs (d_sum hW R o1 o2 (show n - 2 ≤ 256 by omega)) Dg md_X1_sumIsWell wi_X1_sumIsWell ws_X1_sumIsWell wm_X1_49 dX1_reads_30 rfl (by decide) (by decide) B2 rfl rfl (by decide) (fun r g hg => ?_)
  obtain ⟨hr, Dg⟩ := hg
  rcases hr with rfl | rfl
  rotate_left
  · refine x_if_eq (tgt := 47) C dX1_reads_33 (by decide) (fun _ => N48 _ _ _ _ _ Dg) (fun q => absurd rfl q)
  refine x_if_eq (tgt := 47) C dX1_reads_33 (by decide) (fun q => absurd q (by decide)) (fun _ => ?_)
  obtain ⟨-, fa3, pl3, mo3, B3, hm4⟩ := id Dg
  refine x_aload_n C dX1_reads_36 rfl ?_
  refine k_callR (kc := Bc (n - 21)) (ks := Bs (n - 21)) (mc' := 0) (ms' := 0) (st := []) C Y hW E.cs (d_ident hX R o1 o2) Dg md_X1_identIsWell wi_X1_identIsWell ws_X1_identIsWell wm_X1_52 dX1_reads_37 rfl (by decide) (by decide) B3 rfl rfl (by decide) (fun r g hg => ?_)
  obtain ⟨hr, Dg⟩ := hg
  rcases hr with rfl | rfl
  rotate_left
  · refine x_if_eq (tgt := 47) C dX1_reads_40 (by decide) (fun _ => N48 _ _ _ _ _ Dg) (fun q => absurd rfl q)
  refine x_if_eq (tgt := 47) C dX1_reads_40 (by decide) (fun q => absurd q (by decide)) (fun _ => ?_)
  obtain ⟨-, fa4, pl4, mo4, B4, hm5⟩ := id Dg
  have LP : ∀ (r k i : Nat) (g : PH), k + r = 300 → i ≤ n - 2 → DQ c li ra de h0 W b (nI i) (nI (n - 2)) g → X z (Bc (n - 2 - i)) (Bs (n - 2 - i)) (EQ g) 58 [some (.ref de), some (.ref b), some (.int (nI nb)), some (.int 1), some (.int (nI k))] [] := by
    intro r
    induction r with
    | zero =>
      intro k i g hk hi D
      obtain rfl : k = 300 := by omega
      refine x_iload C dX1_reads_58 rfl ?_
      refine x_sipush (v := 300) C dX1_reads_60 (by decide) ?_
      exact x_icmp_ge (tgt := 92) C dX1_reads_63 (by decide) (fun _ => Y92 _ _ g _ _ 1 _ (Or.inl rfl) D) (fun q => absurd (Int32.le_refl _) q)
    | succ r ih =>
      intro k i g hk hi D
      obtain ⟨-, fa, pl, mo, B, hm⟩ := id D
      refine x_iload C dX1_reads_58 rfl ?_
      refine x_sipush (v := 300) C dX1_reads_60 (by decide) ?_
      refine x_icmp_ge (tgt := 92) C dX1_reads_63 (by decide) (fun _ => Y92 _ _ g _ _ 1 _ (Or.inl rfl) D) (fun _ => ?_)
      refine x_iload_n C dX1_reads_66 rfl ?_
      refine x_if_eq (tgt := 92) C dX1_reads_67 (by decide) (fun q => absurd q (by decide)) (fun _ => ?_)
      refine x_aload_n C dX1_reads_70 rfl ?_
      refine e_get C Y kd_X1 2 (by decide) wf_X1_9 dX1_reads_71 B rfl ?_
      refine x_aload_n C dX1_reads_74 rfl ?_
      refine e_get C Y kd_X1 3 (by decide) wf_X1_15 dX1_reads_75 B rfl ?_
      refine x_icmp_ge (tgt := 92) C dX1_reads_78 (by decide) (fun _ => Y92 _ _ g _ _ 1 _ (Or.inl rfl) D) (fun q78 => ?_)
      have him : i < n - 2 := (nI_ltI (by omega) (by omega)).mp (Int32.not_le.mp q78)
      refine x_aload_n C dX1_reads_81 rfl ?_
      have back : ∀ (kc ks lo : Nat) (rr : Option Value) (g2 : PH), RQ c li ra de h0 W b lo (n - 2) rr g2 → (∀ i', lo ≤ i' → i' ≤ n - 2 → Bc (n - 2 - i') ≤ kc ∧ Bs (n - 2 - i') ≤ ks) → X z kc ks (EQ g2) 85 [some (.ref de), some (.ref b), some (.int (nI nb)), some (.int 1), some (.int (nI k))] (rr.toList ++ []) := fun kc ks lo rr g2 hr hk2 => by
        rcases hr with ⟨rfl, i', j1, j2, Dg⟩ | ⟨rfl, aa, Dg⟩
        · refine o_istore_nE (L' := [some _, some _, some _, some _, some _]) C dX1_reads_85 (by rw [hn]; decide) rfl ?_
          refine o_iincE (v := nI (k + 1)) (L' := [some _, some _, some _, some _, some _]) C dX1_reads_86 rfl (nI_1 k) (by rw [hn]; decide) rfl ?_
          refine x_goto (tgt := 58) C dX1_reads_89 (by decide) ?_
          exact (ih (k + 1) i' g2 (by omega) j2 Dg).room (hk2 i' j1 j2).1 (hk2 i' j1 j2).2
        · refine o_istore_nE (L' := [some _, some _, some _, some _, some _]) C dX1_reads_85 (by rw [hn]; decide) rfl ?_
          refine o_iincE (v := nI (k + 1)) (L' := [some _, some _, some _, some _, some _]) C dX1_reads_86 rfl (nI_1 k) (by rw [hn]; decide) rfl ?_
          refine x_goto (tgt := 58) C dX1_reads_89 (by decide) ?_
          exact N58 kc ks g2 aa _ (k + 1) (by omega) Dg
      by_cases hv : f i = 47 ∨ f i = 31
      · refine k_callR (kc := Bc (n - 2 - i)) (ks := Bs (n - 2 - i)) (mc' := 0) (ms' := 0) (st := []) C Y hW E.cs (d_item0 hX R o1 o2 him (by omega) (by omega) hv) D md_X1_readItem wi_X1_readItem ws_X1_readItem wm_X1_55 dX1_reads_82 rfl (by decide) (by decide) B rfl rfl (by decide) (fun rr g2 hg => back _ _ _ rr g2 hg (fun i' a1 a2 => ?_))
        unfold Bc Bs
        omega
      · have hv' : ¬ f i = 47 ∧ ¬ f i = 31 := ⟨fun q => hv (Or.inl q), fun q => hv (Or.inr q)⟩
        have vp := vpos_ge f i
        have cost : 3 ≤ Bc (n - 2 - i) ∧ 21 + itx f i (n - 2) ≤ Bs (n - 2 - i) := by
          unfold Bc Bs itx
          split <;> omega
        refine X.room (kc' := (Bc (n - 2 - i) - 3) + 3) (ks' := (Bs (n - 2 - i) - (21 + itx f i (n - 2))) + (21 + itx f i (n - 2))) ?_ (by omega) (by omega)
        refine k_callR (kc := Bc (n - 2 - i) - 3) (ks := Bs (n - 2 - i) - (21 + itx f i (n - 2))) (st := []) C Y hW E.cs (d_item hX R o1 o2 hb him (by omega) (by omega) hv') D md_X1_readItem wi_X1_readItem ws_X1_readItem wm_X1_55 dX1_reads_82 rfl (by decide) (by decide) B rfl rfl (by decide) (fun rr g2 hg => back _ _ _ rr g2 hg (fun i' a1 a2 => ?_))
        unfold ilo at a1
        unfold itx Bc Bs at *
        by_cases e15 : f i = 15
        · rw [if_pos e15] at a1 cost ⊢
          omega
        · rw [if_neg e15] at a1 cost ⊢
          omega
  refine x_iconst (v := 1) C dX1_reads_43 (by decide) ?_
  refine x_goto (tgt := 48) C dX1_reads_44 (by decide) ?_
  refine o_istore_nE (L' := [some _, some _, some _, some _, none]) C dX1_reads_48 (by rw [hn]; decide) rfl ?_
  refine x_aload_n C dX1_reads_49 rfl ?_
  refine x_bipush (v := 19) C dX1_reads_50 (by decide) ?_
  refine e_put C Y kd_X1 2 (by decide) rfl wf_X1_9 dX1_reads_52 B4 (Nat.le_of_ble_eq_true rfl) rfl rfl rfl ?_
  refine x_iconst (v := 0) C dX1_reads_55 (by decide) ?_
  refine o_istoreE (L' := [some _, some _, some _, some _, some _]) C dX1_reads_56 (by rw [hn]; decide) rfl ?_
  exact (LP 300 0 19 _ rfl (by omega) (Dg.set (fa := fa4) (pl := pl4) (mo := mo4) (nI 19) _ _ _ _ b hm5)).room (by rw [show n - 2 - 19 = n - 21 by omega]; exact Nat.le_refl _) (by rw [show n - 2 - 19 = n - 21 by omega]; exact Nat.le_refl _)
end Dec
end
