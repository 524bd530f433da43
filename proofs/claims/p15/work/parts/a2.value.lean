/-! Decoder: what has a size of its own; a value. -/
/-- the bytes of a Row are bytes -/
def HB (f : Nat → Int32) (n : Nat) : Prop := ∀ j, j < n → ∃ v, v < 256 ∧ f j = nI v
/-- how long a text is that begins by the byte at j -/
def ts1 (f : Nat → Int32) (j : Nat) : Nat := if (f j).toNatClampNeg ≤ 191 then (f j).toNatClampNeg else 0
theorem ts1_le (f : Nat → Int32) (j : Nat) : ts1 f j ≤ 191 := by unfold ts1; split <;> omega
theorem nI_sub' {v b : Nat} (h : b ≤ v) : nI v - nI b = nI (v - b) := by
  rw [show nI v = nI (v - b) + nI b from by rw [nI_add]; exact congrArg nI (by omega)]
  exact Int32.add_sub_cancel ..
theorem out14 {x : Int32} (g : ¬ ((0 : Int32) ≤ x ∧ x ≤ 14)) : x.toInt < 0 ∨ 14 < x.toInt := by
  rw [Int32.le_iff_toInt_le, Int32.le_iff_toInt_le] at g
  have e0 : (0 : Int32).toInt = 0 := by decide
  have e5 : (14 : Int32).toInt = 14 := by decide
  rw [e0, e5] at g
  omega
section Dec
variable {w : Wd} {c : Nat → ClassId} {h h0 : PH} {li ra de p b ba n : Nat} {W : Nat → Prop} {f : Nat → Int32} {co : Int32}
theorem RS.lo {lo lo' m : Nat} {r : Option Value} (g : RS c li ra de h0 W p co b lo m r h) (hl : lo' ≤ lo) : RS c li ra de h0 W p co b lo' m r h := g.imp (fun ⟨e, i, h1, h2, h3⟩ => ⟨e, i, by omega, h2, h3⟩) id
theorem RS.bool {lo m : Nat} {r : Option Value} (g : RS c li ra de h0 W p co b lo m r h) : r = some (.int 1) ∨ r = some (.int 0) := g.imp (fun q => q.1) (fun q => q.1)
section Ret
variable {z : Fx} {cc : ByteArray} {own : String} {kc ks pc : Nat} {L : List (Option Value)} {fr lo : Nat} {y : MethodName}
/-- what a step has answered is the answer -/
theorem k_rs (C : Cx z own cc gw) {l1 l2 m : Nat} {r : Option Value} (E : Ct z w gw y (some .boolean) fr lo (RS c li ra de h0 W p co b l2 m)) (d : decode cc pc = .ok (.ireturn, 1)) (g : RS c li ra de h0 W p co b l1 m r h) (hl : l2 ≤ l1) : X z kc ks (EQ h) pc L (r.toList ++ []) := by
  have g2 := g.lo hl
  rcases g.bool with rfl | rfl
  · exact x_zret C E d (by decide) (fun q e => by subst e; exact g2)
  · exact x_zret C E d (by decide) (fun q e => by subst e; exact g2)
end Ret
theorem d_sized (hX : Wx w c) (R : RW c h0 b ba f n) (o1 : W b) (o2 : W ba) (hb : HB f n) {i m : Nat} (hi : i ≤ m) (hm : m ≤ 256) (hmn : m ≤ n) : T w gw yX1_readSized cX1_readSized 3 (some .boolean) 3 (40 * 3) 1 (min (ts1 f i) (m - (i + 1))) [.ref de, .ref p] (DE c li ra de h0 W p co b (nI i) (nI m)) (RS c li ra de h0 W p co b (i + 1 + ts1 f i) m) := by
  have hW := hX.1
  refine TA.intro hW rfl (by decide +kernel) (Nat.le_of_ble_eq_true rfl) (fun z C Y E hn h D => ?_)
  refine x_aload_n C dX1_readSized_0 rfl ?_
  refine x_iconst (v := 1) C dX1_readSized_1 (by decide) ?_
  refine k_there (s := 1) (st := []) C Y hW E.cs (by decide) hi hm (by decide) D dX1_readSized_2 (by decide) (fun hj1 => ?_) (fun g Dg => ?_)
  rotate_left
  · refine x_if_ne (tgt := 10) C dX1_readSized_5 (by decide) (fun q => absurd rfl q) (fun _ => ?_)
    refine x_iconst (v := 0) C dX1_readSized_8 (by decide) ?_
    exact x_zret C E dX1_readSized_9 (by decide) (fun q e => by subst e; exact RS.no Dg)
  refine x_if_ne (tgt := 10) C dX1_readSized_5 (by decide) (fun _ => ?_) (fun q => absurd q (by decide))
  refine x_aload_n C dX1_readSized_10 rfl ?_
  refine k_take (st := []) C Y hW E.cs (by decide) R o1 o2 D dX1_readSized_11 (by decide) (fun g Dg => ?_)
  rw [nI_1] at Dg
  rw [rAt_in (by omega) R.2.2.2]
  obtain ⟨v, hv, ev⟩ := hb i (by omega)
  have ets : ts1 f i = if v ≤ 191 then v else 0 := by
    unfold ts1
    rw [ev, nI_clamp (by omega)]
  rw [ets, ev]
  rw [ets] at E
  obtain ⟨-, fa, pl, mo, B, hm1⟩ := id Dg
  have gt_ : ∀ {x : Nat} {k : Int32} (hx : x < 2 ^ 31), k = nI x → (k < nI v ↔ x < v) := fun hx e => by rw [e]; exact ⟨fun g => (nI_ltI hx (by omega)).mp g, fun g => nI_lt g (by omega)⟩
  refine o_istore_nE (L' := [some _, some _, some _]) C dX1_readSized_14 (by rw [hn]; decide) rfl ?_
  refine x_iload_n C dX1_readSized_15 rfl ?_
  refine x_sipush (v := 191) C dX1_readSized_16 (by decide) ?_
  refine x_icmp_gt (tgt := 29) C dX1_readSized_19 (by decide) (fun q => ?_) (fun q => ?_)
  rotate_left
  · have hv1 : v ≤ 191 := Nat.le_of_not_lt (fun g => q ((gt_ (x := 191) (by decide) rfl).mpr g))
    rw [if_pos hv1]
    rw [if_pos hv1] at E
    refine x_aload_n C dX1_readSized_22 rfl ?_
    refine x_aload_n C dX1_readSized_23 rfl ?_
    refine x_iload_n C dX1_readSized_24 rfl ?_
    refine X.room (kc' := 0 + 1) (ks' := 0 + min v (m - (i + 1))) ?_ (by omega) (by omega)
    refine k_callR (kc := 0) (ks := 0) (st := []) C Y hW E.cs (d_text hX R o1 o2 (s := v) hj1 hm (by omega)) Dg md_X1_readText wi_X1_readText ws_X1_readText wm_X1_97 dX1_readSized_25 rfl (by decide) (by decide) B rfl rfl (by decide) (fun r g hg => ?_)
    exact k_rs C E dX1_readSized_28 hg (by omega)
  have hv1 : 191 < v := (gt_ (x := 191) (by decide) rfl).mp q
  rw [if_neg (by omega)]
  rw [if_neg (by omega)] at E
  refine X.room (kc' := 0) (ks' := 0) ?_ (by omega) (by omega)
  refine x_iload_n C dX1_readSized_29 rfl ?_
  refine x_sipush (v := 201) C dX1_readSized_30 (by decide) ?_
  refine x_icmp_gt (tgt := 49) C dX1_readSized_33 (by decide) (fun q => ?_) (fun q => ?_)
  rotate_left
  · have hv2 : v ≤ 201 := Nat.le_of_not_lt (fun g => q ((gt_ (x := 201) (by decide) rfl).mpr g))
    refine x_aload_n C dX1_readSized_36 rfl ?_
    refine x_aload_n C dX1_readSized_37 rfl ?_
    refine x_iload_n C dX1_readSized_38 rfl ?_
    refine x_sipush (v := 192) C dX1_readSized_39 (by decide) ?_
    refine x_isub C dX1_readSized_42 ?_
    rw [show nI v - 192 = nI (v - 192) from nI_sub' (b := 192) (by omega)]
    refine x_iconst (v := 1) C dX1_readSized_43 (by decide) ?_
    refine x_iconst (v := 0) C dX1_readSized_44 (by decide) ?_
    refine k_callR (kc := 0) (ks := 0) (mc' := 0) (ms' := 0) (st := []) C Y hW E.cs (d_bcd hX R o1 o2 (s := v - 192) hj1 hm (by omega) 1 0) Dg md_X1_readBcd wi_X1_readBcd ws_X1_readBcd wm_X1_136 dX1_readSized_45 rfl (by decide) (by decide) B rfl rfl (by decide) (fun r g hg => ?_)
    exact k_rs C E dX1_readSized_48 hg (by omega)
  have T101 : X z 0 0 (EQ g) 101 [some (.ref de), some (.ref p), some (.int (nI v))] [] := by
    refine x_aload_n C dX1_readSized_101 rfl ?_
    refine x_bipush (v := 8) C dX1_readSized_102 (by decide) ?_
    refine x_aload_n C dX1_readSized_104 rfl ?_
    refine e_get C Y kd_X1 2 (by decide) wf_X1_9 dX1_readSized_105 B rfl ?_
    refine x_iconst (v := 1) C dX1_readSized_108 (by decide) ?_
    refine x_isub C dX1_readSized_109 ?_
    refine k_wrong (st := []) C Y hW E.cs (by decide) Dg dX1_readSized_110 (by decide) (fun g Dg => ?_)
    exact x_zret C E dX1_readSized_113 (by decide) (fun q e => by subst e; exact RS.no Dg)
  have lt_ : ∀ {x : Nat} {k : Int32} (hx : x < 2 ^ 31), k = nI x → (nI v < k ↔ v < x) := fun hx e => by rw [e]; exact ⟨fun g => (nI_ltI (by omega) hx).mp g, fun g => nI_lt g hx⟩
  have T76 : X z 0 0 (EQ g) 76 [some (.ref de), some (.ref p), some (.int (nI v))] [] := by
    refine x_iload_n C dX1_readSized_76 rfl ?_
    refine x_sipush (v := 224) C dX1_readSized_77 (by decide) ?_
    refine x_icmp_lt (tgt := 101) C dX1_readSized_80 (by decide) (fun _ => T101) (fun q1 => ?_)
    refine x_iload_n C dX1_readSized_83 rfl ?_
    refine x_sipush (v := 232) C dX1_readSized_84 (by decide) ?_
    refine x_icmp_gt (tgt := 101) C dX1_readSized_87 (by decide) (fun _ => T101) (fun q2 => ?_)
    have w1 : 224 ≤ v := Nat.le_of_not_lt (fun g => q1 ((lt_ (x := 224) (by decide) rfl).mpr g))
    have w2 : v ≤ 232 := Nat.le_of_not_lt (fun g => q2 ((gt_ (x := 232) (by decide) rfl).mpr g))
    refine x_aload_n C dX1_readSized_90 rfl ?_
    refine x_aload_n C dX1_readSized_91 rfl ?_
    refine x_iload_n C dX1_readSized_92 rfl ?_
    refine x_sipush (v := 224) C dX1_readSized_93 (by decide) ?_
    refine x_isub C dX1_readSized_96 ?_
    rw [show nI v - 224 = nI (v - 224) from nI_sub' (b := 224) w1]
    refine k_callR (kc := 0) (ks := 0) (mc' := 0) (ms' := 0) (st := []) C Y hW E.cs (d_number hW R o1 o2 (s := v - 224) hj1 hm (by omega)) Dg md_X1_readNumber wi_X1_readNumber ws_X1_readNumber wm_X1_127 dX1_readSized_97 rfl (by decide) (by decide) B rfl rfl (by decide) (fun r g hg => ?_)
    exact k_rs C E dX1_readSized_100 hg (by omega)
  refine x_iload_n C dX1_readSized_49 rfl ?_
  refine x_sipush (v := 208) C dX1_readSized_50 (by decide) ?_
  refine x_icmp_lt (tgt := 76) C dX1_readSized_53 (by decide) (fun _ => T76) (fun q1 => ?_)
  refine x_iload_n C dX1_readSized_56 rfl ?_
  refine x_sipush (v := 217) C dX1_readSized_57 (by decide) ?_
  refine x_icmp_gt (tgt := 76) C dX1_readSized_60 (by decide) (fun _ => T76) (fun q2 => ?_)
  have w1 : 208 ≤ v := Nat.le_of_not_lt (fun g => q1 ((lt_ (x := 208) (by decide) rfl).mpr g))
  have w2 : v ≤ 217 := Nat.le_of_not_lt (fun g => q2 ((gt_ (x := 217) (by decide) rfl).mpr g))
  refine x_aload_n C dX1_readSized_63 rfl ?_
  refine x_aload_n C dX1_readSized_64 rfl ?_
  refine x_iload_n C dX1_readSized_65 rfl ?_
  refine x_sipush (v := 208) C dX1_readSized_66 (by decide) ?_
  refine x_isub C dX1_readSized_69 ?_
  rw [show nI v - 208 = nI (v - 208) from nI_sub' (b := 208) w1]
  refine x_iconst (v := -1) C dX1_readSized_70 (by decide) ?_
  refine x_iconst (v := 0) C dX1_readSized_71 (by decide) ?_
  refine k_callR (kc := 0) (ks := 0) (mc' := 0) (ms' := 0) (st := []) C Y hW E.cs (d_bcd hX R o1 o2 (s := v - 208) hj1 hm (by omega) (-1) 0) Dg md_X1_readBcd wi_X1_readBcd ws_X1_readBcd wm_X1_136 dX1_readSized_72 rfl (by decide) (by decide) B rfl rfl (by decide) (fun r g hg => ?_)
  exact k_rs C E dX1_readSized_75 hg (by omega)
/-- how long the text of a value at j is, by the CODE -/
def tsv (f : Nat → Int32) (co : Int32) (j : Nat) : Nat := if co = 13 then ts1 f j else 0
theorem d_value (hX : Wx w c) (R : RW c h0 b ba f n) (o1 : W b) (o2 : W ba) (hb : HB f n) {i m : Nat} (hi : i ≤ m) (hm : m ≤ 256) (hmn : m ≤ n) (sta : Int32) : T w gw yX1_readValue cX1_readValue 4 (some .boolean) 4 (40 * 4) 1 (min (tsv f co i) (m - i)) [.ref de, .ref p, .int sta] (DE c li ra de h0 W p co b (nI i) (nI m)) (RS c li ra de h0 W p co b (i + tsv f co i) m) := by
  have hW := hX.1
  refine TA.intro hW rfl (by decide +kernel) (Nat.le_of_ble_eq_true rfl) (fun z C Y E hn h D => ?_)
  obtain ⟨κ, Dk, hp, va, sg, fu, ta, un, ln, v, vn, lt, Bp, v1, v2, v3⟩ := D.1.get
  obtain ⟨-, fa, pl, mo, B, hm1⟩ := id D
  refine x_aload_n C dX1_readValue_0 rfl ?_
  refine u_callV (st := []) C Y hW E.cs (q_codeOf hW Bp) md_X3_codeOf wi_X3_codeOf ws_X3_codeOf wm_X1_101 dX1_readValue_1 rfl (by decide) (by decide) Bp rfl rfl (by decide) ?_
  refine o_istore_nE (L' := [some _, some _, some _, some _]) C dX1_readValue_4 (by rw [hn]; decide) rfl ?_
  refine x_iload_n C dX1_readValue_5 rfl ?_
  have Tnum : ∀ (s pc : Nat) (x : Int32), s ≤ 8 → tsv f co i = 0 → x = nI s → decode cX1_readValue pc = .ok (.invokevirtual 127, 3) → decode cX1_readValue (pc + 3) = .ok (.ireturn, 1) → X z 0 0 (EQ h) pc [some (.ref de), some (.ref p), some (.int sta), some (.int co)] [.int x, .ref p, .ref de] := fun s pc x hs8 ht ex d1 d2 => by
    subst ex
    refine k_callR (kc := 0) (ks := 0) (mc' := 0) (ms' := 0) (st := []) C Y hW E.cs (d_number hW R o1 o2 (s := s) hi hm hs8) D md_X1_readNumber wi_X1_readNumber ws_X1_readNumber wm_X1_127 d1 rfl (by decide) (by decide) B rfl rfl (by decide) (fun r g hg => ?_)
    exact k_rs C E d2 hg (by omega)
  have Tbcd : ∀ (s pc : Nat) (x : Int32), s ≤ 9 → tsv f co i = 0 → x = nI s → decode cX1_readValue pc = .ok (.invokevirtual 130, 3) → decode cX1_readValue (pc + 3) = .ok (.ireturn, 1) → X z 0 0 (EQ h) pc [some (.ref de), some (.ref p), some (.int sta), some (.int co)] [.int x, .ref p, .ref de] := fun s pc x hs8 ht ex d1 d2 => by
    subst ex
    refine k_callR (kc := 0) (ks := 0) (mc' := 0) (ms' := 0) (st := []) C Y hW E.cs (d_signed hX R o1 o2 (s := s) hi hm hs8) D md_X1_readSignedBcd wi_X1_readSignedBcd ws_X1_readSignedBcd wm_X1_130 d1 rfl (by decide) (by decide) B rfl rfl (by decide) (fun r g hg => ?_)
    exact k_rs C E d2 hg (by omega)
  have Tdef : X z 0 0 (EQ h) 136 [some (.ref de), some (.ref p), some (.int sta), some (.int co)] [] := by
    refine x_aload_n C dX1_readValue_136 rfl ?_
    refine x_bipush (v := 9) C dX1_readValue_137 (by decide) ?_
    refine x_iload_n C dX1_readValue_139 rfl ?_
    refine k_wrong (st := []) C Y hW E.cs (by decide) D dX1_readValue_140 (by decide) (fun g Dg => ?_)
    exact x_zret C E dX1_readValue_143 (by decide) (fun q e => by subst e; exact RS.no Dg)
  by_cases g : (0 : Int32) ≤ co ∧ co ≤ 14
  · obtain ⟨j, hj, rfl⟩ := nI_of (Int32.not_lt.mpr g.1)
    have hj2 : j ≤ 14 := Nat.le_of_not_lt (fun q => absurd (nI_lt q hj) (Int32.not_lt.mpr g.2))
    rcases (show j = 0 ∨ j = 1 ∨ j = 2 ∨ j = 3 ∨ j = 4 ∨ j = 5 ∨ j = 6 ∨ j = 7 ∨ j = 8 ∨ j = 9 ∨ j = 10 ∨ j = 11 ∨ j = 12 ∨ j = 13 ∨ j = 14 by omega) with rfl | rfl | rfl | rfl | rfl | rfl | rfl | rfl | rfl | rfl | rfl | rfl | rfl | rfl | rfl
    · refine x_tblIn (tgt := 80) (off := 74) C dX1_readValue_6 (by decide) (by decide) (by decide) (by decide) ?_
      refine x_iconst (v := 1) C dX1_readValue_80 (by decide) ?_
      exact x_zret C E dX1_readValue_81 (by decide) (fun q e => by subst e; exact RS.yes (by rw [show tsv f _ i = 0 from if_neg (by decide)]; exact Nat.le_refl _) hi D)
    · refine x_tblIn (tgt := 82) (off := 76) C dX1_readValue_6 (by decide) (by decide) (by decide) (by decide) ?_
      refine X.room (kc' := 0) (ks' := 0) ?_ (Nat.zero_le _) (Nat.zero_le _)
      refine x_aload_n C dX1_readValue_82 rfl ?_
      refine x_aload_n C dX1_readValue_83 rfl ?_
      refine x_iload_n C dX1_readValue_84 rfl ?_
      exact Tnum 1 85 _ (by decide) (show tsv f _ i = 0 from if_neg (by decide)) rfl dX1_readValue_85 dX1_readValue_88
    · refine x_tblIn (tgt := 82) (off := 76) C dX1_readValue_6 (by decide) (by decide) (by decide) (by decide) ?_
      refine X.room (kc' := 0) (ks' := 0) ?_ (Nat.zero_le _) (Nat.zero_le _)
      refine x_aload_n C dX1_readValue_82 rfl ?_
      refine x_aload_n C dX1_readValue_83 rfl ?_
      refine x_iload_n C dX1_readValue_84 rfl ?_
      exact Tnum 2 85 _ (by decide) (show tsv f _ i = 0 from if_neg (by decide)) rfl dX1_readValue_85 dX1_readValue_88
    · refine x_tblIn (tgt := 82) (off := 76) C dX1_readValue_6 (by decide) (by decide) (by decide) (by decide) ?_
      refine X.room (kc' := 0) (ks' := 0) ?_ (Nat.zero_le _) (Nat.zero_le _)
      refine x_aload_n C dX1_readValue_82 rfl ?_
      refine x_aload_n C dX1_readValue_83 rfl ?_
      refine x_iload_n C dX1_readValue_84 rfl ?_
      exact Tnum 3 85 _ (by decide) (show tsv f _ i = 0 from if_neg (by decide)) rfl dX1_readValue_85 dX1_readValue_88
    · refine x_tblIn (tgt := 82) (off := 76) C dX1_readValue_6 (by decide) (by decide) (by decide) (by decide) ?_
      refine X.room (kc' := 0) (ks' := 0) ?_ (Nat.zero_le _) (Nat.zero_le _)
      refine x_aload_n C dX1_readValue_82 rfl ?_
      refine x_aload_n C dX1_readValue_83 rfl ?_
      refine x_iload_n C dX1_readValue_84 rfl ?_
      exact Tnum 4 85 _ (by decide) (show tsv f _ i = 0 from if_neg (by decide)) rfl dX1_readValue_85 dX1_readValue_88
    · refine x_tblIn (tgt := 89) (off := 83) C dX1_readValue_6 (by decide) (by decide) (by decide) (by decide) ?_
      refine X.room (kc' := 0) (ks' := 0) ?_ (Nat.zero_le _) (Nat.zero_le _)
      refine x_aload_n C dX1_readValue_89 rfl ?_
      refine x_aload_n C dX1_readValue_90 rfl ?_
      refine x_iconst (v := 4) C dX1_readValue_91 (by decide) ?_
      exact Tnum 4 92 _ (by decide) (show tsv f _ i = 0 from if_neg (by decide)) rfl dX1_readValue_92 dX1_readValue_95
    · refine x_tblIn (tgt := 96) (off := 90) C dX1_readValue_6 (by decide) (by decide) (by decide) (by decide) ?_
      refine X.room (kc' := 0) (ks' := 0) ?_ (Nat.zero_le _) (Nat.zero_le _)
      refine x_aload_n C dX1_readValue_96 rfl ?_
      refine x_aload_n C dX1_readValue_97 rfl ?_
      refine x_bipush (v := 6) C dX1_readValue_98 (by decide) ?_
      exact Tnum 6 100 _ (by decide) (show tsv f _ i = 0 from if_neg (by decide)) rfl dX1_readValue_100 dX1_readValue_103
    · refine x_tblIn (tgt := 104) (off := 98) C dX1_readValue_6 (by decide) (by decide) (by decide) (by decide) ?_
      refine X.room (kc' := 0) (ks' := 0) ?_ (Nat.zero_le _) (Nat.zero_le _)
      refine x_aload_n C dX1_readValue_104 rfl ?_
      refine x_aload_n C dX1_readValue_105 rfl ?_
      refine x_bipush (v := 8) C dX1_readValue_106 (by decide) ?_
      exact Tnum 8 108 _ (by decide) (show tsv f _ i = 0 from if_neg (by decide)) rfl dX1_readValue_108 dX1_readValue_111
    · refine x_tblIn (tgt := 136) (off := 130) C dX1_readValue_6 (by decide) (by decide) (by decide) (by decide) ?_
      exact Tdef.room (Nat.zero_le _) (Nat.zero_le _)
    · refine x_tblIn (tgt := 112) (off := 106) C dX1_readValue_6 (by decide) (by decide) (by decide) (by decide) ?_
      refine X.room (kc' := 0) (ks' := 0) ?_ (Nat.zero_le _) (Nat.zero_le _)
      refine x_aload_n C dX1_readValue_112 rfl ?_
      refine x_aload_n C dX1_readValue_113 rfl ?_
      refine x_iload_n C dX1_readValue_114 rfl ?_
      refine x_bipush (v := 8) C dX1_readValue_115 (by decide) ?_
      refine x_isub C dX1_readValue_117 ?_
      exact Tbcd 1 118 _ (by decide) (show tsv f _ i = 0 from if_neg (by decide)) (by decide) dX1_readValue_118 dX1_readValue_121
    · refine x_tblIn (tgt := 112) (off := 106) C dX1_readValue_6 (by decide) (by decide) (by decide) (by decide) ?_
      refine X.room (kc' := 0) (ks' := 0) ?_ (Nat.zero_le _) (Nat.zero_le _)
      refine x_aload_n C dX1_readValue_112 rfl ?_
      refine x_aload_n C dX1_readValue_113 rfl ?_
      refine x_iload_n C dX1_readValue_114 rfl ?_
      refine x_bipush (v := 8) C dX1_readValue_115 (by decide) ?_
      refine x_isub C dX1_readValue_117 ?_
      exact Tbcd 2 118 _ (by decide) (show tsv f _ i = 0 from if_neg (by decide)) (by decide) dX1_readValue_118 dX1_readValue_121
    · refine x_tblIn (tgt := 112) (off := 106) C dX1_readValue_6 (by decide) (by decide) (by decide) (by decide) ?_
      refine X.room (kc' := 0) (ks' := 0) ?_ (Nat.zero_le _) (Nat.zero_le _)
      refine x_aload_n C dX1_readValue_112 rfl ?_
      refine x_aload_n C dX1_readValue_113 rfl ?_
      refine x_iload_n C dX1_readValue_114 rfl ?_
      refine x_bipush (v := 8) C dX1_readValue_115 (by decide) ?_
      refine x_isub C dX1_readValue_117 ?_
      exact Tbcd 3 118 _ (by decide) (show tsv f _ i = 0 from if_neg (by decide)) (by decide) dX1_readValue_118 dX1_readValue_121
    · refine x_tblIn (tgt := 112) (off := 106) C dX1_readValue_6 (by decide) (by decide) (by decide) (by decide) ?_
      refine X.room (kc' := 0) (ks' := 0) ?_ (Nat.zero_le _) (Nat.zero_le _)
      refine x_aload_n C dX1_readValue_112 rfl ?_
      refine x_aload_n C dX1_readValue_113 rfl ?_
      refine x_iload_n C dX1_readValue_114 rfl ?_
      refine x_bipush (v := 8) C dX1_readValue_115 (by decide) ?_
      refine x_isub C dX1_readValue_117 ?_
      exact Tbcd 4 118 _ (by decide) (show tsv f _ i = 0 from if_neg (by decide)) (by decide) dX1_readValue_118 dX1_readValue_121
    · refine x_tblIn (tgt := 130) (off := 124) C dX1_readValue_6 (by decide) (by decide) (by decide) (by decide) ?_
      have e13 : tsv f (nI 13) i = ts1 f i := if_pos rfl
      rw [e13]
      rw [e13] at E
      refine x_aload_n C dX1_readValue_130 rfl ?_
      refine x_aload_n C dX1_readValue_131 rfl ?_
      refine X.room (kc' := 0 + 1) (ks' := 0 + min (ts1 f i) (m - (i + 1))) ?_ (by omega) (by omega)
      refine k_callR (kc := 0) (ks := 0) (st := []) C Y hW E.cs (d_sized hX R o1 o2 hb hi hm hmn) D md_X1_readSized wi_X1_readSized ws_X1_readSized wm_X1_133 dX1_readValue_132 rfl (by decide) (by decide) B rfl rfl (by decide) (fun r g hg => ?_)
      exact k_rs C E dX1_readValue_135 hg (by omega)
    · refine x_tblIn (tgt := 122) (off := 116) C dX1_readValue_6 (by decide) (by decide) (by decide) (by decide) ?_
      refine X.room (kc' := 0) (ks' := 0) ?_ (Nat.zero_le _) (Nat.zero_le _)
      refine x_aload_n C dX1_readValue_122 rfl ?_
      refine x_aload_n C dX1_readValue_123 rfl ?_
      refine x_bipush (v := 6) C dX1_readValue_124 (by decide) ?_
      exact Tbcd 6 126 _ (by decide) (show tsv f _ i = 0 from if_neg (by decide)) rfl dX1_readValue_126 dX1_readValue_129
  · exact x_tblOut (tgt := 136) C dX1_readValue_6 (out14 g) (by decide) (Tdef.room (Nat.zero_le _) (Nat.zero_le _))
end Dec
