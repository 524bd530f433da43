/-! The class: Meter, the mask and the page to tell. -/
section Met
variable {w : Wd} {c : Nat → ClassId} {h : PH} {m pg sz : Nat} {ad : Int64} {pr se pt bt ac : Int32}
def mPg0 (pt bt nb : Int32) : Int32 := if bt = -1 then 0 else if bt = nb then pt else pt + 1
theorem t_pageToTell (hW : Wc w c) (R : h m = some (mF ad pr se pg sz pt bt ac)) {s : Nat → Int32} (Rs : h sz = some (.inl (c 0, 3, .inl s))) (nb : Int32) : TC w yX2_pageToTell cX2_pageToTell 3 (some .int) 1 [.ref m, .int nb] h (some (.int (if mPg0 pt bt nb < mPages s then mPg0 pt bt nb else 0))) h := by
  refine TC.intro hW rfl (by decide +kernel) (Nat.le_of_ble_eq_true rfl) (fun z C Y E hn => ?_)
  have hp := t_pageNumber hW R Rs
  have T33 : ∀ i, i = mPg0 pt bt nb → X z 0 0 (EQ h) 33 [some (.ref m), some (.int nb), none] [.int i] := by
    intro i e
    rw [← e] at E
    refine o_istore_nE (L' := [some _, some _, some _]) C dX2_pageToTell_33 (by rw [hn]; decide) rfl ?_
    refine x_iload_n C dX2_pageToTell_34 rfl ?_
    refine x_aload_n C dX2_pageToTell_35 rfl ?_
    refine e_callV C Y hW E (hp) md_X2_pageNumber wi_X2_pageNumber ws_X2_pageNumber wm_X2_57 dX2_pageToTell_36 rfl (by decide) (by decide) R rfl rfl (by simp [Value.category]) ?_
    refine x_icmp_ge (tgt := 46) C dX2_pageToTell_39 (by decide) (fun c39 => ?_) (fun c39 => ?_)
    · skip
      refine x_iconst (v := 0) C dX2_pageToTell_46 (by decide) ?_
      refine e_iret C E dX2_pageToTell_47 ?_ ?_
      all_goals first | (rw [if_neg (Int32.not_lt.mpr c39)]) | (rw [if_pos (Int32.not_le.mp c39)]) | exact rfl
    · skip
      refine x_iload_n C dX2_pageToTell_42 rfl ?_
      refine x_goto (tgt := 47) C dX2_pageToTell_43 (by decide) ?_
      refine e_iret C E dX2_pageToTell_47 ?_ ?_
      all_goals first | (rw [if_neg (Int32.not_lt.mpr c39)]) | (rw [if_pos (Int32.not_le.mp c39)]) | exact rfl
  refine x_aload_n C dX2_pageToTell_0 rfl ?_
  refine e_get C Y kd_X2 6 (by decide) wf_X2_28 dX2_pageToTell_1 R rfl ?_
  refine x_iconst (v := (-1)) C dX2_pageToTell_4 (by decide) ?_
  refine x_icmp_ne (tgt := 12) C dX2_pageToTell_5 (by decide) (fun c5 => ?_) (fun c5 => ?_)
  · skip
    refine x_aload_n C dX2_pageToTell_12 rfl ?_
    refine e_get C Y kd_X2 6 (by decide) wf_X2_28 dX2_pageToTell_13 R rfl ?_
    refine x_iload_n C dX2_pageToTell_16 rfl ?_
    refine x_icmp_ne (tgt := 27) C dX2_pageToTell_17 (by decide) (fun c17 => ?_) (fun c17 => ?_)
    · skip
      refine x_aload_n C dX2_pageToTell_27 rfl ?_
      refine e_get C Y kd_X2 5 (by decide) wf_X2_24 dX2_pageToTell_28 R rfl ?_
      refine x_iconst (v := 1) C dX2_pageToTell_31 (by decide) ?_
      refine x_iadd C dX2_pageToTell_32 ?_
      exact T33 _ (by unfold mPg0; first | (rw [if_neg c5, if_neg c17]) | (rw [if_neg c5, if_pos c17]) | (rw [if_pos c5]))
    · skip
      refine x_aload_n C dX2_pageToTell_20 rfl ?_
      refine e_get C Y kd_X2 5 (by decide) wf_X2_24 dX2_pageToTell_21 R rfl ?_
      refine x_goto (tgt := 33) C dX2_pageToTell_24 (by decide) ?_
      exact T33 _ (by unfold mPg0; first | (rw [if_neg c5, if_neg c17]) | (rw [if_neg c5, if_pos c17]) | (rw [if_pos c5]))
  · skip
    refine x_iconst (v := 0) C dX2_pageToTell_8 (by decide) ?_
    refine x_goto (tgt := 33) C dX2_pageToTell_9 (by decide) ?_
    exact T33 _ (by unfold mPg0; first | (rw [if_neg c5, if_neg c17]) | (rw [if_neg c5, if_pos c17]) | (rw [if_pos c5]))
theorem t_looks_t (hW : Wc w c) (R : h m = some (mF ad pr se pg sz pt bt ac)) {p q n : Nat} {f : Nat → Int32} (Q : RW c h p q f n) (a1 : p ≠ m) (a2 : q ≠ m) (mk cd : Int64) (g : (mk ^^^ ad) &&& cd = 0) : TC w yX2_looksAtMask cX2_looksAtMask 6 (some .boolean) 2 [.ref m, .long mk, .long cd, .ref p] h (some (.int 1)) (rowh c (hs h m (mF ad pr 1 pg sz pt bt ac)) p q (upd f 0 229) 1) := by
  refine TC.intro hW rfl (by decide +kernel) (Nat.le_of_ble_eq_true rfl) (fun z C Y E hn => ?_)
  have R1 : hs h m (mF ad pr 1 pg sz pt bt ac) m = some (mF ad pr 1 pg sz pt bt ac) := hs_self ..
  have Q1 : RW c (hs h m (mF ad pr 1 pg sz pt bt ac)) p q f n := ⟨Q.1, (hs_ne a1).trans Q.2.1, (hs_ne a2).trans Q.2.2.1, Q.2.2.2⟩
  have hb := r_becomeSingle hW Q1
  have R2 : rowh c (hs h m (mF ad pr 1 pg sz pt bt ac)) p q (upd f 0 229) 1 m = some (mF ad pr 1 pg sz pt bt ac) := (rw_ne (Ne.symm a1) (Ne.symm a2)).trans R1
  refine x_aload_n C dX2_looksAtMask_0 rfl ?_
  refine x_lload_n C dX2_looksAtMask_1 rfl ?_
  refine x_aload_n C dX2_looksAtMask_2 rfl ?_
  refine e_get C Y kd_X2 0 (by decide) wf_X2_37 dX2_looksAtMask_3 R rfl ?_
  refine x_lxor C dX2_looksAtMask_6 ?_
  refine x_lload_n C dX2_looksAtMask_7 rfl ?_
  refine x_land C dX2_looksAtMask_8 ?_
  refine x_lconst (v := 0) C dX2_looksAtMask_9 (by decide) ?_
  refine x_lcmp C dX2_looksAtMask_10 ?_
  refine x_if_ne (tgt := 18) C dX2_looksAtMask_11 (by decide) (fun c11 => absurd c11 (fun q => absurd (lcmp_ne.mp q) (not_not_intro g))) (fun c11 => ?_)
  refine x_iconst (v := 1) C dX2_looksAtMask_14 (by decide) ?_
  refine x_goto (tgt := 19) C dX2_looksAtMask_15 (by decide) ?_
  refine e_put C Y kd_X2 2 (by decide) rfl wf_X2_9 dX2_looksAtMask_19 R (Nat.le_of_ble_eq_true rfl) rfl rfl rfl ?_
  refine x_aload_n C dX2_looksAtMask_22 rfl ?_
  refine e_get C Y kd_X2 2 (by decide) wf_X2_9 dX2_looksAtMask_23 R1 rfl ?_
  refine x_if_eq (tgt := 34) C dX2_looksAtMask_26 (by decide) (fun c26 => absurd c26 (by decide)) (fun c26 => ?_)
  refine x_aload C dX2_looksAtMask_29 rfl ?_
  refine e_callV C Y hW E (hb) md_X5_becomeSingle wi_X5_becomeSingle ws_X5_becomeSingle wm_X2_60 dX2_looksAtMask_31 rfl (by decide) (by decide) Q1.2.1 rfl rfl (by simp [Value.category]) ?_
  refine x_aload_n C dX2_looksAtMask_34 rfl ?_
  refine e_get C Y kd_X2 2 (by decide) wf_X2_9 dX2_looksAtMask_35 R2 rfl ?_
  refine e_zret C E dX2_looksAtMask_38 (by decide) ?_ ?_
  all_goals rfl
theorem t_looks_f (hW : Wc w c) (R : h m = some (mF ad pr se pg sz pt bt ac)) (p : Nat) (mk cd : Int64) (g : ¬ (mk ^^^ ad) &&& cd = 0) : TC w yX2_looksAtMask cX2_looksAtMask 6 (some .boolean) 2 [.ref m, .long mk, .long cd, .ref p] h (some (.int 0)) (hs h m (mF ad pr 0 pg sz pt bt ac)) := by
  refine TC.intro hW rfl (by decide +kernel) (Nat.le_of_ble_eq_true rfl) (fun z C Y E hn => ?_)
  have R1 : hs h m (mF ad pr 0 pg sz pt bt ac) m = some (mF ad pr 0 pg sz pt bt ac) := hs_self ..
  refine x_aload_n C dX2_looksAtMask_0 rfl ?_
  refine x_lload_n C dX2_looksAtMask_1 rfl ?_
  refine x_aload_n C dX2_looksAtMask_2 rfl ?_
  refine e_get C Y kd_X2 0 (by decide) wf_X2_37 dX2_looksAtMask_3 R rfl ?_
  refine x_lxor C dX2_looksAtMask_6 ?_
  refine x_lload_n C dX2_looksAtMask_7 rfl ?_
  refine x_land C dX2_looksAtMask_8 ?_
  refine x_lconst (v := 0) C dX2_looksAtMask_9 (by decide) ?_
  refine x_lcmp C dX2_looksAtMask_10 ?_
  refine x_if_ne (tgt := 18) C dX2_looksAtMask_11 (by decide) (fun c11 => ?_) (fun c11 => absurd c11 (lcmp_ne.mpr g))
  refine x_iconst (v := 0) C dX2_looksAtMask_18 (by decide) ?_
  refine e_put C Y kd_X2 2 (by decide) rfl wf_X2_9 dX2_looksAtMask_19 R (Nat.le_of_ble_eq_true rfl) rfl rfl rfl ?_
  refine x_aload_n C dX2_looksAtMask_22 rfl ?_
  refine e_get C Y kd_X2 2 (by decide) wf_X2_9 dX2_looksAtMask_23 R1 rfl ?_
  refine x_if_eq (tgt := 34) C dX2_looksAtMask_26 (by decide) (fun c26 => ?_) (fun c26 => absurd c26 (not_not_intro rfl))
  refine x_aload_n C dX2_looksAtMask_34 rfl ?_
  refine e_get C Y kd_X2 2 (by decide) wf_X2_9 dX2_looksAtMask_35 R1 rfl ?_
  refine e_zret C E dX2_looksAtMask_38 (by decide) ?_ ?_
  all_goals rfl
end Met
