/-! The class: Meter, its small methods. -/
/-- the fields of a Meter: address, primary, selected, where its pages and their sizes lie, page told, bit, access -/
abbrev mF (ad : Int64) (pr se : Int32) (pg sz : Nat) (pt bt ac : Int32) : va_E := .inr (2, [.long ad, .int pr, .int se, .ref pg, .ref sz, .int pt, .int bt, .int ac])
theorem lcmp_ne {x y : Int64} : ¬ lg_cmp x y = 0 ↔ ¬ x = y := by
  unfold lg_cmp
  by_cases e : x = y
  · subst e; simp
  · simp only [e, not_false_eq_true, iff_true]
    split
    · decide
    · split
      · rename_i h; simp_all
      · decide
section Met
variable {w : Wd} {c : Nat → ClassId} {h : PH} {m pg sz : Nat} {ad : Int64} {pr se pt bt ac : Int32}
theorem t_forget (hW : Wc w c) (R : h m = some (mF ad pr se pg sz pt bt ac)) : TC w yX2_forget cX2_forget 1 none 0 [.ref m] h none (hs h m (mF ad pr se pg sz (-1) (-1) ac)) := by
  refine TC.intro hW rfl (by decide +kernel) (Nat.le_of_ble_eq_true rfl) (fun z C Y E hn => ?_)
  have R1 : hs h m (mF ad pr se pg sz (-1) bt ac) m = some (mF ad pr se pg sz (-1) bt ac) := hs_self ..
  refine x_aload_n C dX2_forget_0 rfl ?_
  refine x_iconst (v := (-1)) C dX2_forget_1 (by decide) ?_
  refine e_put C Y kd_X2 5 (by decide) rfl wf_X2_24 dX2_forget_2 R (Nat.le_of_ble_eq_true rfl) rfl rfl rfl ?_
  refine x_aload_n C dX2_forget_5 rfl ?_
  refine x_iconst (v := (-1)) C dX2_forget_6 (by decide) ?_
  refine e_put C Y kd_X2 6 (by decide) rfl wf_X2_28 dX2_forget_7 R1 (Nat.le_of_ble_eq_true rfl) rfl rfl rfl ?_
  refine e_vret C E dX2_forget_10 ?_ ?_
  all_goals first | exact hs_hs _ _ _ _ | exact rfl
abbrev mMeant (pr se a : Int32) : Prop := if a ≤ 250 then a = pr else if a = 253 then se = 1 else 253 < a
theorem t_isMeant (hW : Wc w c) (R : h m = some (mF ad pr se pg sz pt bt ac)) (hse : se = 0 ∨ se = 1) (a : Int32) : TC w yX2_isMeant cX2_isMeant 2 (some .boolean) 0 [.ref m, .int a] h (some (.int (bI (mMeant pr se a)))) h := by
  refine TC.intro hW rfl (by decide +kernel) (Nat.le_of_ble_eq_true rfl) (fun z C Y E hn => ?_)
  have hz : narrow .boolean (.int se) = .int se := by rcases hse with e | e <;> (rw [e]; rfl)
  by_cases g : a ≤ 250
  · have e1 : mMeant pr se a ↔ a = pr := by unfold mMeant; rw [if_pos g]
    refine x_iload_n C dX2_isMeant_0 rfl ?_
    refine x_sipush (v := 250) C dX2_isMeant_1 (by decide) ?_
    refine x_icmp_gt (tgt := 21) C dX2_isMeant_4 (by decide) (fun c4 => absurd c4 (Int32.not_lt.mpr g)) (fun c4 => ?_)
    refine x_iload_n C dX2_isMeant_7 rfl ?_
    refine x_aload_n C dX2_isMeant_8 rfl ?_
    refine e_get C Y kd_X2 1 (by decide) wf_X2_34 dX2_isMeant_9 R rfl ?_
    refine x_icmp_ne (tgt := 19) C dX2_isMeant_12 (by decide) (fun c12 => ?_) (fun c12 => ?_)
    · skip
      refine x_iconst (v := 0) C dX2_isMeant_19 (by decide) ?_
      refine e_zret C E dX2_isMeant_20 (by decide) ?_ ?_
      all_goals first | exact bI_vt (e1.mpr c12) | exact bI_vf (fun q => c12 (e1.mp q)) | exact rfl
    · skip
      refine x_iconst (v := 1) C dX2_isMeant_15 (by decide) ?_
      refine x_goto (tgt := 20) C dX2_isMeant_16 (by decide) ?_
      refine e_zret C E dX2_isMeant_20 (by decide) ?_ ?_
      all_goals first | exact bI_vt (e1.mpr c12) | exact bI_vf (fun q => c12 (e1.mp q)) | exact rfl
  · by_cases g2 : a = 253
    · have e1 : mMeant pr se a ↔ se = 1 := by unfold mMeant; rw [if_neg g, if_pos g2]
      have e2 : some (Value.int se) = some (Value.int (bI (mMeant pr se a))) := by
        rcases hse with e | e
        · rw [e]; exact bI_vf (fun q => by have := e1.mp (by rw [e]; exact q); rw [e] at this; exact absurd this (by decide))
        · rw [bI_t (e1.mpr e), e]
      refine x_iload_n C dX2_isMeant_0 rfl ?_
      refine x_sipush (v := 250) C dX2_isMeant_1 (by decide) ?_
      refine x_icmp_gt (tgt := 21) C dX2_isMeant_4 (by decide) (fun c4 => ?_) (fun c4 => absurd c4 (not_not_intro (Int32.not_le.mp g)))
      refine x_iload_n C dX2_isMeant_21 rfl ?_
      refine x_sipush (v := 253) C dX2_isMeant_22 (by decide) ?_
      refine x_icmp_ne (tgt := 35) C dX2_isMeant_25 (by decide) (fun c25 => absurd c25 (not_not_intro g2)) (fun c25 => ?_)
      refine x_aload_n C dX2_isMeant_28 rfl ?_
      refine e_get C Y kd_X2 2 (by decide) wf_X2_9 dX2_isMeant_29 R rfl ?_
      refine x_goto (tgt := 47) C dX2_isMeant_32 (by decide) ?_
      refine e_zret C E dX2_isMeant_47 hz ?_ ?_
      all_goals first | exact e2 | exact rfl
    · have e1 : mMeant pr se a ↔ 253 < a := by unfold mMeant; rw [if_neg g, if_neg g2]
      refine x_iload_n C dX2_isMeant_0 rfl ?_
      refine x_sipush (v := 250) C dX2_isMeant_1 (by decide) ?_
      refine x_icmp_gt (tgt := 21) C dX2_isMeant_4 (by decide) (fun c4 => ?_) (fun c4 => absurd c4 (not_not_intro (Int32.not_le.mp g)))
      refine x_iload_n C dX2_isMeant_21 rfl ?_
      refine x_sipush (v := 253) C dX2_isMeant_22 (by decide) ?_
      refine x_icmp_ne (tgt := 35) C dX2_isMeant_25 (by decide) (fun c25 => ?_) (fun c25 => absurd c25 g2)
      refine x_iload_n C dX2_isMeant_35 rfl ?_
      refine x_sipush (v := 253) C dX2_isMeant_36 (by decide) ?_
      refine x_icmp_le (tgt := 46) C dX2_isMeant_39 (by decide) (fun c39 => ?_) (fun c39 => ?_)
      · skip
        refine x_iconst (v := 0) C dX2_isMeant_46 (by decide) ?_
        refine e_zret C E dX2_isMeant_47 (by decide) ?_ ?_
        all_goals first | exact bI_vt (e1.mpr (Int32.not_le.mp c39)) | exact bI_vf (fun q => absurd (e1.mp q) (Int32.not_lt.mpr c39)) | exact rfl
      · skip
        refine x_iconst (v := 1) C dX2_isMeant_42 (by decide) ?_
        refine x_goto (tgt := 47) C dX2_isMeant_43 (by decide) ?_
        refine e_zret C E dX2_isMeant_47 (by decide) ?_ ?_
        all_goals first | exact bI_vt (e1.mpr (Int32.not_le.mp c39)) | exact bI_vf (fun q => absurd (e1.mp q) (Int32.not_lt.mpr c39)) | exact rfl
theorem t_hasAddress (hW : Wc w c) (R : h m = some (mF ad pr se pg sz pt bt ac)) (a : Int64) : TC w yX2_hasAddress cX2_hasAddress 3 (some .boolean) 0 [.ref m, .long a] h (some (.int (bI (ad = a)))) h := by
  refine TC.intro hW rfl (by decide +kernel) (Nat.le_of_ble_eq_true rfl) (fun z C Y E hn => ?_)
  refine x_aload_n C dX2_hasAddress_0 rfl ?_
  refine e_get C Y kd_X2 0 (by decide) wf_X2_37 dX2_hasAddress_1 R rfl ?_
  refine x_lload_n C dX2_hasAddress_4 rfl ?_
  refine x_lcmp C dX2_hasAddress_5 ?_
  refine x_if_ne (tgt := 13) C dX2_hasAddress_6 (by decide) (fun c6 => ?_) (fun c6 => ?_)
  · skip
    refine x_iconst (v := 0) C dX2_hasAddress_13 (by decide) ?_
    refine e_zret C E dX2_hasAddress_14 (by decide) ?_ ?_
    all_goals first | exact bI_vf (lcmp_ne.mp c6) | exact bI_vt (Decidable.of_not_not (fun q => absurd c6 (lcmp_ne.mpr q))) | exact rfl
  · skip
    refine x_iconst (v := 1) C dX2_hasAddress_9 (by decide) ?_
    refine x_goto (tgt := 14) C dX2_hasAddress_10 (by decide) ?_
    refine e_zret C E dX2_hasAddress_14 (by decide) ?_ ?_
    all_goals first | exact bI_vf (lcmp_ne.mp c6) | exact bI_vt (Decidable.of_not_not (fun q => absurd c6 (lcmp_ne.mpr q))) | exact rfl
/-- how many pages there are, by their sizes -/
def mPages (s : Nat → Int32) : Int32 := if 0 < s 2 then 3 else if 0 < s 1 then 2 else 1
theorem t_pageNumber (hW : Wc w c) (R : h m = some (mF ad pr se pg sz pt bt ac)) {s : Nat → Int32} (Rs : h sz = some (.inl (c 0, 3, .inl s))) : TC w yX2_pageNumber cX2_pageNumber 2 (some .int) 0 [.ref m] h (some (.int (mPages s))) h := by
  refine TC.intro hW rfl (by decide +kernel) (Nat.le_of_ble_eq_true rfl) (fun z C Y E hn => ?_)
  have T0 : mPages s = 1 → X z 0 0 (EQ h) 2 [some (.ref m), some (.int 0)] [] := fun g => by
    refine x_iload_n C dX2_pageNumber_2 rfl ?_
    refine x_if_le (tgt := 25) C dX2_pageNumber_3 (by decide) (fun c3 => ?_) (fun c3 => absurd c3 (by decide))
    refine x_iconst (v := 1) C dX2_pageNumber_25 (by decide) ?_
    refine e_iret C E dX2_pageNumber_26 ?_ ?_
    all_goals first | rw [g] | exact rfl
  have T1 : ¬ 0 < s 2 → X z 0 0 (EQ h) 2 [some (.ref m), some (.int 1)] [] := fun g => by
    refine x_iload_n C dX2_pageNumber_2 rfl ?_
    refine x_if_le (tgt := 25) C dX2_pageNumber_3 (by decide) (fun c3 => absurd c3 (by decide)) (fun c3 => ?_)
    refine x_aload_n C dX2_pageNumber_6 rfl ?_
    refine e_get C Y kd_X2 4 (by decide) wf_X2_20 dX2_pageNumber_7 R rfl ?_
    refine x_iload_n C dX2_pageNumber_10 rfl ?_
    refine e_ild C Y dX2_pageNumber_11 Rs (vp_in_nI (show 1 < 3 by decide) (by decide)) ?_
    refine x_if_le (tgt := 19) C dX2_pageNumber_12 (by decide) (fun c12 => ?_) (fun c12 => ?_)
    · skip
      refine o_iincE (v := 0) (L' := [some _, some _]) C dX2_pageNumber_19 rfl (by decide) (by rw [hn]; decide) rfl ?_
      refine x_goto (tgt := 2) C dX2_pageNumber_22 (by decide) ?_
      exact T0 (by unfold mPages; rw [if_neg g, if_neg (show ¬ 0 < s 1 from Int32.not_lt.mpr c12)])
    · skip
      refine x_iload_n C dX2_pageNumber_15 rfl ?_
      refine x_iconst (v := 1) C dX2_pageNumber_16 (by decide) ?_
      refine x_iadd C dX2_pageNumber_17 ?_
      refine e_iret C E dX2_pageNumber_18 ?_ ?_
      all_goals first | (unfold mPages; rw [if_neg g, if_pos (show 0 < s 1 from Int32.not_le.mp c12)]; rfl) | exact rfl
  refine x_iconst (v := 2) C dX2_pageNumber_0 (by decide) ?_
  refine o_istore_nE (L' := [some _, some _]) C dX2_pageNumber_1 (by rw [hn]; decide) rfl ?_
  skip
  refine x_iload_n C dX2_pageNumber_2 rfl ?_
  refine x_if_le (tgt := 25) C dX2_pageNumber_3 (by decide) (fun c3 => absurd c3 (by decide)) (fun c3 => ?_)
  refine x_aload_n C dX2_pageNumber_6 rfl ?_
  refine e_get C Y kd_X2 4 (by decide) wf_X2_20 dX2_pageNumber_7 R rfl ?_
  refine x_iload_n C dX2_pageNumber_10 rfl ?_
  refine e_ild C Y dX2_pageNumber_11 Rs (vp_in_nI (show 2 < 3 by decide) (by decide)) ?_
  refine x_if_le (tgt := 19) C dX2_pageNumber_12 (by decide) (fun c12 => ?_) (fun c12 => ?_)
  · skip
    refine o_iincE (v := 1) (L' := [some _, some _]) C dX2_pageNumber_19 rfl (by decide) (by rw [hn]; decide) rfl ?_
    refine x_goto (tgt := 2) C dX2_pageNumber_22 (by decide) ?_
    exact T1 (Int32.not_lt.mpr c12)
  · skip
    refine x_iload_n C dX2_pageNumber_15 rfl ?_
    refine x_iconst (v := 1) C dX2_pageNumber_16 (by decide) ?_
    refine x_iadd C dX2_pageNumber_17 ?_
    refine e_iret C E dX2_pageNumber_18 ?_ ?_
    all_goals first | (unfold mPages; rw [if_pos (show 0 < s 2 from Int32.not_le.mp c12)]; rfl) | exact rfl
end Met
