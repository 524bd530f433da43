/-! MeterBusModel: state, count, meter. -/
def f_state (S : MS) (k x : Nat) : Int32 := match x with
  | 0 => 1
  | 1 => S.a 11 k
  | 2 => bI (¬ S.a 13 k = 0)
  | 3 => nI (f_pages S k)
  | 4 => if S.a 15 k < 0 then -1 else S.a 14 k
  | 5 => S.a 15 k
  | _ => S.a 16 k
section StateS
variable {w : Wd} {M : MW} {S : MS}
theorem s_state_f (hW : Wm w M) (k x : Int32) (hp : ¬ (((0 : Int32) ≤ k ∧ k ≤ 11) ∧ ((0 : Int32) ≤ x ∧ x ≤ 6))) : TF w M yX7_state cX7_state 3 (some .int) 1 [.int k, .int x] S (some (.int 0)) (S.si 0 1) := by
  refine TM.intro hW rfl (Nat.le_of_ble_eq_true rfl) (fun z C Y E hn => ?_)
  have hf := s_fails1 (S := S) hW (((0 : Int32) ≤ k ∧ k ≤ 11) ∧ ((0 : Int32) ≤ x ∧ x ≤ 6))
  rw [bI_f hp, bI_t hp] at hf
  refine x_aload_n C dX7_state_0 rfl ?_
  refine x_iload_n C dX7_state_1 rfl ?_
  refine x_iconst (v := 0) C dX7_state_2 (by decide) ?_
  refine x_bipush (v := 11) C dX7_state_3 (by decide) ?_
  refine m_callSF C hW E (s_in _ _ _) md_X7_in wt_X7_in wm_X7_100 dX7_state_5 rfl (by decide) (by decide) rfl (by simp [Value.category]) ?_
  refine x_if_eq (tgt := 25) C dX7_state_8 (by decide) (fun c8 => ?_) (fun c8 => ?_)
  · skip
    refine x_iconst (v := 0) C dX7_state_25 (by decide) ?_
    refine x_iconst (v := 1) C dX7_state_26 (by decide) ?_
    refine m_callF C Y hW E (hf) rfl md_X7_fails wi_X7_fails ws_X7_fails wm_X7_107 dX7_state_27 rfl (by decide) (by decide) rfl (by simp [Value.category]) ?_
    refine x_if_eq (tgt := 35) C dX7_state_30 (by decide) (fun c30 => absurd c30 (by decide)) (fun c30 => ?_)
    refine x_iconst (v := 0) C dX7_state_33 (by decide) ?_
    refine m_iret C E dX7_state_34 ?_
    exact ⟨rfl, rfl⟩
  · skip
    refine x_iload_n C dX7_state_11 rfl ?_
    refine x_iconst (v := 0) C dX7_state_12 (by decide) ?_
    refine x_bipush (v := 6) C dX7_state_13 (by decide) ?_
    refine m_callSF C hW E (s_in _ _ _) md_X7_in wt_X7_in wm_X7_100 dX7_state_15 rfl (by decide) (by decide) rfl (by simp [Value.category]) ?_
    refine x_if_eq (tgt := 25) C dX7_state_18 (by decide) (fun c18 => ?_) (fun c18 => ?_)
    · skip
      refine x_iconst (v := 0) C dX7_state_25 (by decide) ?_
      refine x_iconst (v := 1) C dX7_state_26 (by decide) ?_
      refine m_callF C Y hW E (hf) rfl md_X7_fails wi_X7_fails ws_X7_fails wm_X7_107 dX7_state_27 rfl (by decide) (by decide) rfl (by simp [Value.category]) ?_
      refine x_if_eq (tgt := 35) C dX7_state_30 (by decide) (fun c30 => absurd c30 (by decide)) (fun c30 => ?_)
      refine x_iconst (v := 0) C dX7_state_33 (by decide) ?_
      refine m_iret C E dX7_state_34 ?_
      exact ⟨rfl, rfl⟩
    · skip
      exact absurd ⟨bI_0n.mp c8, bI_0n.mp c18⟩ hp
theorem s_state_n (hW : Wm w M) (k : Nat) (hk : k < 12) (x : Int32) (hx1 : (0 : Int32) ≤ x ∧ x ≤ 6) (hth : S.a 10 k = 0) : TF w M yX7_state cX7_state 3 (some .int) 1 [.int (nI k), .int x] S (some (.int 0)) (S.si 0 0) := by
  refine TM.intro hW rfl (Nat.le_of_ble_eq_true rfl) (fun z C Y E hn => ?_)
  have hk1 : (0 : Int32) ≤ nI k ∧ nI k ≤ 11 := ⟨nI_pos' (by omega), nI_le (show k ≤ 11 by omega) (by decide)⟩
  have hf := s_fails1 (S := S) hW (((0 : Int32) ≤ nI k ∧ nI k ≤ 11) ∧ ((0 : Int32) ≤ x ∧ x ≤ 6))
  rw [bI_t (p := ((0 : Int32) ≤ nI k ∧ nI k ≤ 11) ∧ ((0 : Int32) ≤ x ∧ x ≤ 6)) ⟨hk1, hx1⟩, bI_f (p := ¬ (((0 : Int32) ≤ nI k ∧ nI k ≤ 11) ∧ ((0 : Int32) ≤ x ∧ x ≤ 6))) (not_not_intro ⟨hk1, hx1⟩)] at hf
  refine x_aload_n C dX7_state_0 rfl ?_
  refine x_iload_n C dX7_state_1 rfl ?_
  refine x_iconst (v := 0) C dX7_state_2 (by decide) ?_
  refine x_bipush (v := 11) C dX7_state_3 (by decide) ?_
  refine m_callSF C hW E (s_in _ _ _) md_X7_in wt_X7_in wm_X7_100 dX7_state_5 rfl (by decide) (by decide) rfl (by simp [Value.category]) ?_
  refine x_if_eq (tgt := 25) C dX7_state_8 (by decide) (fun c8 => absurd c8 (fun q => bI_0.mp q hk1)) (fun c8 => ?_)
  refine x_iload_n C dX7_state_11 rfl ?_
  refine x_iconst (v := 0) C dX7_state_12 (by decide) ?_
  refine x_bipush (v := 6) C dX7_state_13 (by decide) ?_
  refine m_callSF C hW E (s_in _ _ _) md_X7_in wt_X7_in wm_X7_100 dX7_state_15 rfl (by decide) (by decide) rfl (by simp [Value.category]) ?_
  refine x_if_eq (tgt := 25) C dX7_state_18 (by decide) (fun c18 => absurd c18 (fun q => bI_0.mp q hx1)) (fun c18 => ?_)
  refine x_iconst (v := 1) C dX7_state_21 (by decide) ?_
  refine x_goto (tgt := 26) C dX7_state_22 (by decide) ?_
  refine x_iconst (v := 1) C dX7_state_26 (by decide) ?_
  refine m_callF C Y hW E (hf) rfl md_X7_fails wi_X7_fails ws_X7_fails wm_X7_107 dX7_state_27 rfl (by decide) (by decide) rfl (by simp [Value.category]) ?_
  refine x_if_eq (tgt := 35) C dX7_state_30 (by decide) (fun c30 => ?_) (fun c30 => absurd c30 (not_not_intro rfl))
  refine x_aload_n C dX7_state_35 rfl ?_
  refine m_getA C Y 10 (by decide) (by decide) wf_X7_19 dX7_state_36 ?_
  refine x_iload_n C dX7_state_39 rfl ?_
  refine m_zldN C Y 10 (k) (by decide) dX7_state_40 (by simp only [nI_lit, nI_add, pk_mul]) (by simp only [m_len]; omega) ?_
  refine x_if_ne (tgt := 46) C dX7_state_41 (by decide) (fun c41 => absurd c41 (not_not_intro hth)) (fun c41 => ?_)
  refine x_iconst (v := 0) C dX7_state_44 (by decide) ?_
  refine m_iret C E dX7_state_45 ?_
  exact ⟨rfl, rfl⟩
theorem s_state_0 (hW : Wm w M) (k : Nat) (hk : k < 12) (hth : ¬ S.a 10 k = 0) : TF w M yX7_state cX7_state 3 (some .int) 1 [.int (nI k), .int (nI 0)] S (some (.int (f_state S k 0))) (S.si 0 0) := by
  refine TM.intro hW rfl (Nat.le_of_ble_eq_true rfl) (fun z C Y E hn => ?_)
  have hk1 : (0 : Int32) ≤ nI k ∧ nI k ≤ 11 := ⟨nI_pos' (by omega), nI_le (show k ≤ 11 by omega) (by decide)⟩
  have hx1 : (0 : Int32) ≤ nI 0 ∧ nI 0 ≤ 6 := by decide
  have hf := s_fails1 (S := S) hW (((0 : Int32) ≤ nI k ∧ nI k ≤ 11) ∧ ((0 : Int32) ≤ nI 0 ∧ nI 0 ≤ 6))
  rw [bI_t (p := ((0 : Int32) ≤ nI k ∧ nI k ≤ 11) ∧ ((0 : Int32) ≤ nI 0 ∧ nI 0 ≤ 6)) ⟨hk1, hx1⟩, bI_f (p := ¬ (((0 : Int32) ≤ nI k ∧ nI k ≤ 11) ∧ ((0 : Int32) ≤ nI 0 ∧ nI 0 ≤ 6))) (not_not_intro ⟨hk1, hx1⟩)] at hf
  refine x_aload_n C dX7_state_0 rfl ?_
  refine x_iload_n C dX7_state_1 rfl ?_
  refine x_iconst (v := 0) C dX7_state_2 (by decide) ?_
  refine x_bipush (v := 11) C dX7_state_3 (by decide) ?_
  refine m_callSF C hW E (s_in _ _ _) md_X7_in wt_X7_in wm_X7_100 dX7_state_5 rfl (by decide) (by decide) rfl (by simp [Value.category]) ?_
  refine x_if_eq (tgt := 25) C dX7_state_8 (by decide) (fun c8 => absurd c8 (fun q => bI_0.mp q hk1)) (fun c8 => ?_)
  refine x_iload_n C dX7_state_11 rfl ?_
  refine x_iconst (v := 0) C dX7_state_12 (by decide) ?_
  refine x_bipush (v := 6) C dX7_state_13 (by decide) ?_
  refine m_callSF C hW E (s_in _ _ _) md_X7_in wt_X7_in wm_X7_100 dX7_state_15 rfl (by decide) (by decide) rfl (by simp [Value.category]) ?_
  refine x_if_eq (tgt := 25) C dX7_state_18 (by decide) (fun c18 => absurd c18 (fun q => bI_0.mp q hx1)) (fun c18 => ?_)
  refine x_iconst (v := 1) C dX7_state_21 (by decide) ?_
  refine x_goto (tgt := 26) C dX7_state_22 (by decide) ?_
  refine x_iconst (v := 1) C dX7_state_26 (by decide) ?_
  refine m_callF C Y hW E (hf) rfl md_X7_fails wi_X7_fails ws_X7_fails wm_X7_107 dX7_state_27 rfl (by decide) (by decide) rfl (by simp [Value.category]) ?_
  refine x_if_eq (tgt := 35) C dX7_state_30 (by decide) (fun c30 => ?_) (fun c30 => absurd c30 (not_not_intro rfl))
  refine x_aload_n C dX7_state_35 rfl ?_
  refine m_getA C Y 10 (by decide) (by decide) wf_X7_19 dX7_state_36 ?_
  refine x_iload_n C dX7_state_39 rfl ?_
  refine m_zldN C Y 10 (k) (by decide) dX7_state_40 (by simp only [nI_lit, nI_add, pk_mul]) (by simp only [m_len]; omega) ?_
  refine x_if_ne (tgt := 46) C dX7_state_41 (by decide) (fun c41 => ?_) (fun c41 => absurd c41 (fun q => hth q))
  refine x_iload_n C dX7_state_46 rfl ?_
  refine x_tblIn (tgt := 84) (off := 37) C dX7_state_47 (by decide) (by decide) (by decide) (by decide) ?_
  refine x_iconst (v := 1) C dX7_state_84 (by decide) ?_
  refine m_iret C E dX7_state_85 ?_
  exact ⟨rfl, rfl⟩
theorem s_state_1 (hW : Wm w M) (k : Nat) (hk : k < 12) (hth : ¬ S.a 10 k = 0) : TF w M yX7_state cX7_state 3 (some .int) 1 [.int (nI k), .int (nI 1)] S (some (.int (f_state S k 1))) (S.si 0 0) := by
  refine TM.intro hW rfl (Nat.le_of_ble_eq_true rfl) (fun z C Y E hn => ?_)
  have hk1 : (0 : Int32) ≤ nI k ∧ nI k ≤ 11 := ⟨nI_pos' (by omega), nI_le (show k ≤ 11 by omega) (by decide)⟩
  have hx1 : (0 : Int32) ≤ nI 1 ∧ nI 1 ≤ 6 := by decide
  have hf := s_fails1 (S := S) hW (((0 : Int32) ≤ nI k ∧ nI k ≤ 11) ∧ ((0 : Int32) ≤ nI 1 ∧ nI 1 ≤ 6))
  rw [bI_t (p := ((0 : Int32) ≤ nI k ∧ nI k ≤ 11) ∧ ((0 : Int32) ≤ nI 1 ∧ nI 1 ≤ 6)) ⟨hk1, hx1⟩, bI_f (p := ¬ (((0 : Int32) ≤ nI k ∧ nI k ≤ 11) ∧ ((0 : Int32) ≤ nI 1 ∧ nI 1 ≤ 6))) (not_not_intro ⟨hk1, hx1⟩)] at hf
  refine x_aload_n C dX7_state_0 rfl ?_
  refine x_iload_n C dX7_state_1 rfl ?_
  refine x_iconst (v := 0) C dX7_state_2 (by decide) ?_
  refine x_bipush (v := 11) C dX7_state_3 (by decide) ?_
  refine m_callSF C hW E (s_in _ _ _) md_X7_in wt_X7_in wm_X7_100 dX7_state_5 rfl (by decide) (by decide) rfl (by simp [Value.category]) ?_
  refine x_if_eq (tgt := 25) C dX7_state_8 (by decide) (fun c8 => absurd c8 (fun q => bI_0.mp q hk1)) (fun c8 => ?_)
  refine x_iload_n C dX7_state_11 rfl ?_
  refine x_iconst (v := 0) C dX7_state_12 (by decide) ?_
  refine x_bipush (v := 6) C dX7_state_13 (by decide) ?_
  refine m_callSF C hW E (s_in _ _ _) md_X7_in wt_X7_in wm_X7_100 dX7_state_15 rfl (by decide) (by decide) rfl (by simp [Value.category]) ?_
  refine x_if_eq (tgt := 25) C dX7_state_18 (by decide) (fun c18 => absurd c18 (fun q => bI_0.mp q hx1)) (fun c18 => ?_)
  refine x_iconst (v := 1) C dX7_state_21 (by decide) ?_
  refine x_goto (tgt := 26) C dX7_state_22 (by decide) ?_
  refine x_iconst (v := 1) C dX7_state_26 (by decide) ?_
  refine m_callF C Y hW E (hf) rfl md_X7_fails wi_X7_fails ws_X7_fails wm_X7_107 dX7_state_27 rfl (by decide) (by decide) rfl (by simp [Value.category]) ?_
  refine x_if_eq (tgt := 35) C dX7_state_30 (by decide) (fun c30 => ?_) (fun c30 => absurd c30 (not_not_intro rfl))
  refine x_aload_n C dX7_state_35 rfl ?_
  refine m_getA C Y 10 (by decide) (by decide) wf_X7_19 dX7_state_36 ?_
  refine x_iload_n C dX7_state_39 rfl ?_
  refine m_zldN C Y 10 (k) (by decide) dX7_state_40 (by simp only [nI_lit, nI_add, pk_mul]) (by simp only [m_len]; omega) ?_
  refine x_if_ne (tgt := 46) C dX7_state_41 (by decide) (fun c41 => ?_) (fun c41 => absurd c41 (fun q => hth q))
  refine x_iload_n C dX7_state_46 rfl ?_
  refine x_tblIn (tgt := 86) (off := 39) C dX7_state_47 (by decide) (by decide) (by decide) (by decide) ?_
  refine x_aload_n C dX7_state_86 rfl ?_
  refine m_getA C Y 11 (by decide) (by decide) wf_X7_23 dX7_state_87 ?_
  refine x_iload_n C dX7_state_90 rfl ?_
  refine m_ildN C Y 11 (k) (by decide) dX7_state_91 (by simp only [nI_lit, nI_add, pk_mul]) (by simp only [m_len]; omega) ?_
  refine m_iret C E dX7_state_92 ?_
  exact ⟨rfl, rfl⟩
theorem s_state_2 (hW : Wm w M) (k : Nat) (hk : k < 12) (hth : ¬ S.a 10 k = 0) : TF w M yX7_state cX7_state 3 (some .int) 1 [.int (nI k), .int (nI 2)] S (some (.int (f_state S k 2))) (S.si 0 0) := by
  refine TM.intro hW rfl (Nat.le_of_ble_eq_true rfl) (fun z C Y E hn => ?_)
  have hk1 : (0 : Int32) ≤ nI k ∧ nI k ≤ 11 := ⟨nI_pos' (by omega), nI_le (show k ≤ 11 by omega) (by decide)⟩
  have hx1 : (0 : Int32) ≤ nI 2 ∧ nI 2 ≤ 6 := by decide
  have hf := s_fails1 (S := S) hW (((0 : Int32) ≤ nI k ∧ nI k ≤ 11) ∧ ((0 : Int32) ≤ nI 2 ∧ nI 2 ≤ 6))
  rw [bI_t (p := ((0 : Int32) ≤ nI k ∧ nI k ≤ 11) ∧ ((0 : Int32) ≤ nI 2 ∧ nI 2 ≤ 6)) ⟨hk1, hx1⟩, bI_f (p := ¬ (((0 : Int32) ≤ nI k ∧ nI k ≤ 11) ∧ ((0 : Int32) ≤ nI 2 ∧ nI 2 ≤ 6))) (not_not_intro ⟨hk1, hx1⟩)] at hf
  refine x_aload_n C dX7_state_0 rfl ?_
  refine x_iload_n C dX7_state_1 rfl ?_
  refine x_iconst (v := 0) C dX7_state_2 (by decide) ?_
  refine x_bipush (v := 11) C dX7_state_3 (by decide) ?_
  refine m_callSF C hW E (s_in _ _ _) md_X7_in wt_X7_in wm_X7_100 dX7_state_5 rfl (by decide) (by decide) rfl (by simp [Value.category]) ?_
  refine x_if_eq (tgt := 25) C dX7_state_8 (by decide) (fun c8 => absurd c8 (fun q => bI_0.mp q hk1)) (fun c8 => ?_)
  refine x_iload_n C dX7_state_11 rfl ?_
  refine x_iconst (v := 0) C dX7_state_12 (by decide) ?_
  refine x_bipush (v := 6) C dX7_state_13 (by decide) ?_
  refine m_callSF C hW E (s_in _ _ _) md_X7_in wt_X7_in wm_X7_100 dX7_state_15 rfl (by decide) (by decide) rfl (by simp [Value.category]) ?_
  refine x_if_eq (tgt := 25) C dX7_state_18 (by decide) (fun c18 => absurd c18 (fun q => bI_0.mp q hx1)) (fun c18 => ?_)
  refine x_iconst (v := 1) C dX7_state_21 (by decide) ?_
  refine x_goto (tgt := 26) C dX7_state_22 (by decide) ?_
  refine x_iconst (v := 1) C dX7_state_26 (by decide) ?_
  refine m_callF C Y hW E (hf) rfl md_X7_fails wi_X7_fails ws_X7_fails wm_X7_107 dX7_state_27 rfl (by decide) (by decide) rfl (by simp [Value.category]) ?_
  refine x_if_eq (tgt := 35) C dX7_state_30 (by decide) (fun c30 => ?_) (fun c30 => absurd c30 (not_not_intro rfl))
  refine x_aload_n C dX7_state_35 rfl ?_
  refine m_getA C Y 10 (by decide) (by decide) wf_X7_19 dX7_state_36 ?_
  refine x_iload_n C dX7_state_39 rfl ?_
  refine m_zldN C Y 10 (k) (by decide) dX7_state_40 (by simp only [nI_lit, nI_add, pk_mul]) (by simp only [m_len]; omega) ?_
  refine x_if_ne (tgt := 46) C dX7_state_41 (by decide) (fun c41 => ?_) (fun c41 => absurd c41 (fun q => hth q))
  refine x_iload_n C dX7_state_46 rfl ?_
  refine x_tblIn (tgt := 93) (off := 46) C dX7_state_47 (by decide) (by decide) (by decide) (by decide) ?_
  refine x_aload_n C dX7_state_93 rfl ?_
  refine m_getA C Y 13 (by decide) (by decide) wf_X7_29 dX7_state_94 ?_
  refine x_iload_n C dX7_state_97 rfl ?_
  refine m_zldN C Y 13 (k) (by decide) dX7_state_98 (by simp only [nI_lit, nI_add, pk_mul]) (by simp only [m_len]; omega) ?_
  refine x_if_eq (tgt := 106) C dX7_state_99 (by decide) (fun c99 => ?_) (fun c99 => ?_)
  · skip
    refine x_iconst (v := 0) C dX7_state_106 (by decide) ?_
    refine m_iret C E dX7_state_107 ?_
    first | exact ⟨bI_vf (not_not_intro c99), rfl⟩ | exact ⟨bI_vt c99, rfl⟩
  · skip
    refine x_iconst (v := 1) C dX7_state_102 (by decide) ?_
    refine x_goto (tgt := 107) C dX7_state_103 (by decide) ?_
    refine m_iret C E dX7_state_107 ?_
    first | exact ⟨bI_vf (not_not_intro c99), rfl⟩ | exact ⟨bI_vt c99, rfl⟩
theorem s_state_3 (hW : Wm w M) (k : Nat) (hk : k < 12) (hth : ¬ S.a 10 k = 0) : TF w M yX7_state cX7_state 3 (some .int) 1 [.int (nI k), .int (nI 3)] S (some (.int (f_state S k 3))) (S.si 0 0) := by
  refine TM.intro hW rfl (Nat.le_of_ble_eq_true rfl) (fun z C Y E hn => ?_)
  have hk1 : (0 : Int32) ≤ nI k ∧ nI k ≤ 11 := ⟨nI_pos' (by omega), nI_le (show k ≤ 11 by omega) (by decide)⟩
  have hx1 : (0 : Int32) ≤ nI 3 ∧ nI 3 ≤ 6 := by decide
  have hf := s_fails1 (S := S) hW (((0 : Int32) ≤ nI k ∧ nI k ≤ 11) ∧ ((0 : Int32) ≤ nI 3 ∧ nI 3 ≤ 6))
  rw [bI_t (p := ((0 : Int32) ≤ nI k ∧ nI k ≤ 11) ∧ ((0 : Int32) ≤ nI 3 ∧ nI 3 ≤ 6)) ⟨hk1, hx1⟩, bI_f (p := ¬ (((0 : Int32) ≤ nI k ∧ nI k ≤ 11) ∧ ((0 : Int32) ≤ nI 3 ∧ nI 3 ≤ 6))) (not_not_intro ⟨hk1, hx1⟩)] at hf
  refine x_aload_n C dX7_state_0 rfl ?_
  refine x_iload_n C dX7_state_1 rfl ?_
  refine x_iconst (v := 0) C dX7_state_2 (by decide) ?_
  refine x_bipush (v := 11) C dX7_state_3 (by decide) ?_
  refine m_callSF C hW E (s_in _ _ _) md_X7_in wt_X7_in wm_X7_100 dX7_state_5 rfl (by decide) (by decide) rfl (by simp [Value.category]) ?_
  refine x_if_eq (tgt := 25) C dX7_state_8 (by decide) (fun c8 => absurd c8 (fun q => bI_0.mp q hk1)) (fun c8 => ?_)
  refine x_iload_n C dX7_state_11 rfl ?_
  refine x_iconst (v := 0) C dX7_state_12 (by decide) ?_
  refine x_bipush (v := 6) C dX7_state_13 (by decide) ?_
  refine m_callSF C hW E (s_in _ _ _) md_X7_in wt_X7_in wm_X7_100 dX7_state_15 rfl (by decide) (by decide) rfl (by simp [Value.category]) ?_
  refine x_if_eq (tgt := 25) C dX7_state_18 (by decide) (fun c18 => absurd c18 (fun q => bI_0.mp q hx1)) (fun c18 => ?_)
  refine x_iconst (v := 1) C dX7_state_21 (by decide) ?_
  refine x_goto (tgt := 26) C dX7_state_22 (by decide) ?_
  refine x_iconst (v := 1) C dX7_state_26 (by decide) ?_
  refine m_callF C Y hW E (hf) rfl md_X7_fails wi_X7_fails ws_X7_fails wm_X7_107 dX7_state_27 rfl (by decide) (by decide) rfl (by simp [Value.category]) ?_
  refine x_if_eq (tgt := 35) C dX7_state_30 (by decide) (fun c30 => ?_) (fun c30 => absurd c30 (not_not_intro rfl))
  refine x_aload_n C dX7_state_35 rfl ?_
  refine m_getA C Y 10 (by decide) (by decide) wf_X7_19 dX7_state_36 ?_
  refine x_iload_n C dX7_state_39 rfl ?_
  refine m_zldN C Y 10 (k) (by decide) dX7_state_40 (by simp only [nI_lit, nI_add, pk_mul]) (by simp only [m_len]; omega) ?_
  refine x_if_ne (tgt := 46) C dX7_state_41 (by decide) (fun c41 => ?_) (fun c41 => absurd c41 (fun q => hth q))
  refine x_iload_n C dX7_state_46 rfl ?_
  refine x_tblIn (tgt := 108) (off := 61) C dX7_state_47 (by decide) (by decide) (by decide) (by decide) ?_
  refine x_aload_n C dX7_state_108 rfl ?_
  refine x_iload_n C dX7_state_109 rfl ?_
  refine m_callF C Y hW E (s_pages hW k hk) rfl md_X7_pagesOf wi_X7_pagesOf ws_X7_pagesOf wm_X7_122 dX7_state_110 rfl (by decide) (by decide) rfl (by simp [Value.category]) ?_
  refine m_iret C E dX7_state_113 ?_
  exact ⟨rfl, rfl⟩
theorem s_state_4 (hW : Wm w M) (k : Nat) (hk : k < 12) (hth : ¬ S.a 10 k = 0) : TF w M yX7_state cX7_state 3 (some .int) 1 [.int (nI k), .int (nI 4)] S (some (.int (f_state S k 4))) (S.si 0 0) := by
  refine TM.intro hW rfl (Nat.le_of_ble_eq_true rfl) (fun z C Y E hn => ?_)
  have hk1 : (0 : Int32) ≤ nI k ∧ nI k ≤ 11 := ⟨nI_pos' (by omega), nI_le (show k ≤ 11 by omega) (by decide)⟩
  have hx1 : (0 : Int32) ≤ nI 4 ∧ nI 4 ≤ 6 := by decide
  have hf := s_fails1 (S := S) hW (((0 : Int32) ≤ nI k ∧ nI k ≤ 11) ∧ ((0 : Int32) ≤ nI 4 ∧ nI 4 ≤ 6))
  rw [bI_t (p := ((0 : Int32) ≤ nI k ∧ nI k ≤ 11) ∧ ((0 : Int32) ≤ nI 4 ∧ nI 4 ≤ 6)) ⟨hk1, hx1⟩, bI_f (p := ¬ (((0 : Int32) ≤ nI k ∧ nI k ≤ 11) ∧ ((0 : Int32) ≤ nI 4 ∧ nI 4 ≤ 6))) (not_not_intro ⟨hk1, hx1⟩)] at hf
  refine x_aload_n C dX7_state_0 rfl ?_
  refine x_iload_n C dX7_state_1 rfl ?_
  refine x_iconst (v := 0) C dX7_state_2 (by decide) ?_
  refine x_bipush (v := 11) C dX7_state_3 (by decide) ?_
  refine m_callSF C hW E (s_in _ _ _) md_X7_in wt_X7_in wm_X7_100 dX7_state_5 rfl (by decide) (by decide) rfl (by simp [Value.category]) ?_
  refine x_if_eq (tgt := 25) C dX7_state_8 (by decide) (fun c8 => absurd c8 (fun q => bI_0.mp q hk1)) (fun c8 => ?_)
  refine x_iload_n C dX7_state_11 rfl ?_
  refine x_iconst (v := 0) C dX7_state_12 (by decide) ?_
  refine x_bipush (v := 6) C dX7_state_13 (by decide) ?_
  refine m_callSF C hW E (s_in _ _ _) md_X7_in wt_X7_in wm_X7_100 dX7_state_15 rfl (by decide) (by decide) rfl (by simp [Value.category]) ?_
  refine x_if_eq (tgt := 25) C dX7_state_18 (by decide) (fun c18 => absurd c18 (fun q => bI_0.mp q hx1)) (fun c18 => ?_)
  refine x_iconst (v := 1) C dX7_state_21 (by decide) ?_
  refine x_goto (tgt := 26) C dX7_state_22 (by decide) ?_
  refine x_iconst (v := 1) C dX7_state_26 (by decide) ?_
  refine m_callF C Y hW E (hf) rfl md_X7_fails wi_X7_fails ws_X7_fails wm_X7_107 dX7_state_27 rfl (by decide) (by decide) rfl (by simp [Value.category]) ?_
  refine x_if_eq (tgt := 35) C dX7_state_30 (by decide) (fun c30 => ?_) (fun c30 => absurd c30 (not_not_intro rfl))
  refine x_aload_n C dX7_state_35 rfl ?_
  refine m_getA C Y 10 (by decide) (by decide) wf_X7_19 dX7_state_36 ?_
  refine x_iload_n C dX7_state_39 rfl ?_
  refine m_zldN C Y 10 (k) (by decide) dX7_state_40 (by simp only [nI_lit, nI_add, pk_mul]) (by simp only [m_len]; omega) ?_
  refine x_if_ne (tgt := 46) C dX7_state_41 (by decide) (fun c41 => ?_) (fun c41 => absurd c41 (fun q => hth q))
  refine x_iload_n C dX7_state_46 rfl ?_
  refine x_tblIn (tgt := 114) (off := 67) C dX7_state_47 (by decide) (by decide) (by decide) (by decide) ?_
  refine x_aload_n C dX7_state_114 rfl ?_
  refine m_getA C Y 15 (by decide) (by decide) wf_X7_35 dX7_state_115 ?_
  refine x_iload_n C dX7_state_118 rfl ?_
  refine m_ildN C Y 15 (k) (by decide) dX7_state_119 (by simp only [nI_lit, nI_add, pk_mul]) (by simp only [m_len]; omega) ?_
  refine x_if_ge (tgt := 127) C dX7_state_120 (by decide) (fun c120 => ?_) (fun c120 => ?_)
  · skip
    refine x_aload_n C dX7_state_127 rfl ?_
    refine m_getA C Y 14 (by decide) (by decide) wf_X7_32 dX7_state_128 ?_
    refine x_iload_n C dX7_state_131 rfl ?_
    refine m_ildN C Y 14 (k) (by decide) dX7_state_132 (by simp only [nI_lit, nI_add, pk_mul]) (by simp only [m_len]; omega) ?_
    refine m_iret C E dX7_state_133 ?_
    first | exact ⟨congrArg (fun t => some (Value.int t)) (if_neg (Int32.not_lt.mpr c120)).symm, rfl⟩ | exact ⟨congrArg (fun t => some (Value.int t)) (if_pos (Int32.not_le.mp c120)).symm, rfl⟩
  · skip
    refine x_iconst (v := (-1)) C dX7_state_123 (by decide) ?_
    refine x_goto (tgt := 133) C dX7_state_124 (by decide) ?_
    refine m_iret C E dX7_state_133 ?_
    first | exact ⟨congrArg (fun t => some (Value.int t)) (if_neg (Int32.not_lt.mpr c120)).symm, rfl⟩ | exact ⟨congrArg (fun t => some (Value.int t)) (if_pos (Int32.not_le.mp c120)).symm, rfl⟩
theorem s_state_5 (hW : Wm w M) (k : Nat) (hk : k < 12) (hth : ¬ S.a 10 k = 0) : TF w M yX7_state cX7_state 3 (some .int) 1 [.int (nI k), .int (nI 5)] S (some (.int (f_state S k 5))) (S.si 0 0) := by
  refine TM.intro hW rfl (Nat.le_of_ble_eq_true rfl) (fun z C Y E hn => ?_)
  have hk1 : (0 : Int32) ≤ nI k ∧ nI k ≤ 11 := ⟨nI_pos' (by omega), nI_le (show k ≤ 11 by omega) (by decide)⟩
  have hx1 : (0 : Int32) ≤ nI 5 ∧ nI 5 ≤ 6 := by decide
  have hf := s_fails1 (S := S) hW (((0 : Int32) ≤ nI k ∧ nI k ≤ 11) ∧ ((0 : Int32) ≤ nI 5 ∧ nI 5 ≤ 6))
  rw [bI_t (p := ((0 : Int32) ≤ nI k ∧ nI k ≤ 11) ∧ ((0 : Int32) ≤ nI 5 ∧ nI 5 ≤ 6)) ⟨hk1, hx1⟩, bI_f (p := ¬ (((0 : Int32) ≤ nI k ∧ nI k ≤ 11) ∧ ((0 : Int32) ≤ nI 5 ∧ nI 5 ≤ 6))) (not_not_intro ⟨hk1, hx1⟩)] at hf
  refine x_aload_n C dX7_state_0 rfl ?_
  refine x_iload_n C dX7_state_1 rfl ?_
  refine x_iconst (v := 0) C dX7_state_2 (by decide) ?_
  refine x_bipush (v := 11) C dX7_state_3 (by decide) ?_
  refine m_callSF C hW E (s_in _ _ _) md_X7_in wt_X7_in wm_X7_100 dX7_state_5 rfl (by decide) (by decide) rfl (by simp [Value.category]) ?_
  refine x_if_eq (tgt := 25) C dX7_state_8 (by decide) (fun c8 => absurd c8 (fun q => bI_0.mp q hk1)) (fun c8 => ?_)
  refine x_iload_n C dX7_state_11 rfl ?_
  refine x_iconst (v := 0) C dX7_state_12 (by decide) ?_
  refine x_bipush (v := 6) C dX7_state_13 (by decide) ?_
  refine m_callSF C hW E (s_in _ _ _) md_X7_in wt_X7_in wm_X7_100 dX7_state_15 rfl (by decide) (by decide) rfl (by simp [Value.category]) ?_
  refine x_if_eq (tgt := 25) C dX7_state_18 (by decide) (fun c18 => absurd c18 (fun q => bI_0.mp q hx1)) (fun c18 => ?_)
  refine x_iconst (v := 1) C dX7_state_21 (by decide) ?_
  refine x_goto (tgt := 26) C dX7_state_22 (by decide) ?_
  refine x_iconst (v := 1) C dX7_state_26 (by decide) ?_
  refine m_callF C Y hW E (hf) rfl md_X7_fails wi_X7_fails ws_X7_fails wm_X7_107 dX7_state_27 rfl (by decide) (by decide) rfl (by simp [Value.category]) ?_
  refine x_if_eq (tgt := 35) C dX7_state_30 (by decide) (fun c30 => ?_) (fun c30 => absurd c30 (not_not_intro rfl))
  refine x_aload_n C dX7_state_35 rfl ?_
  refine m_getA C Y 10 (by decide) (by decide) wf_X7_19 dX7_state_36 ?_
  refine x_iload_n C dX7_state_39 rfl ?_
  refine m_zldN C Y 10 (k) (by decide) dX7_state_40 (by simp only [nI_lit, nI_add, pk_mul]) (by simp only [m_len]; omega) ?_
  refine x_if_ne (tgt := 46) C dX7_state_41 (by decide) (fun c41 => ?_) (fun c41 => absurd c41 (fun q => hth q))
  refine x_iload_n C dX7_state_46 rfl ?_
  refine x_tblIn (tgt := 134) (off := 87) C dX7_state_47 (by decide) (by decide) (by decide) (by decide) ?_
  refine x_aload_n C dX7_state_134 rfl ?_
  refine m_getA C Y 15 (by decide) (by decide) wf_X7_35 dX7_state_135 ?_
  refine x_iload_n C dX7_state_138 rfl ?_
  refine m_ildN C Y 15 (k) (by decide) dX7_state_139 (by simp only [nI_lit, nI_add, pk_mul]) (by simp only [m_len]; omega) ?_
  refine m_iret C E dX7_state_140 ?_
  exact ⟨rfl, rfl⟩
theorem s_state_6 (hW : Wm w M) (k : Nat) (hk : k < 12) (hth : ¬ S.a 10 k = 0) : TF w M yX7_state cX7_state 3 (some .int) 1 [.int (nI k), .int (nI 6)] S (some (.int (f_state S k 6))) (S.si 0 0) := by
  refine TM.intro hW rfl (Nat.le_of_ble_eq_true rfl) (fun z C Y E hn => ?_)
  have hk1 : (0 : Int32) ≤ nI k ∧ nI k ≤ 11 := ⟨nI_pos' (by omega), nI_le (show k ≤ 11 by omega) (by decide)⟩
  have hx1 : (0 : Int32) ≤ nI 6 ∧ nI 6 ≤ 6 := by decide
  have hf := s_fails1 (S := S) hW (((0 : Int32) ≤ nI k ∧ nI k ≤ 11) ∧ ((0 : Int32) ≤ nI 6 ∧ nI 6 ≤ 6))
  rw [bI_t (p := ((0 : Int32) ≤ nI k ∧ nI k ≤ 11) ∧ ((0 : Int32) ≤ nI 6 ∧ nI 6 ≤ 6)) ⟨hk1, hx1⟩, bI_f (p := ¬ (((0 : Int32) ≤ nI k ∧ nI k ≤ 11) ∧ ((0 : Int32) ≤ nI 6 ∧ nI 6 ≤ 6))) (not_not_intro ⟨hk1, hx1⟩)] at hf
  refine x_aload_n C dX7_state_0 rfl ?_
  refine x_iload_n C dX7_state_1 rfl ?_
  refine x_iconst (v := 0) C dX7_state_2 (by decide) ?_
  refine x_bipush (v := 11) C dX7_state_3 (by decide) ?_
  refine m_callSF C hW E (s_in _ _ _) md_X7_in wt_X7_in wm_X7_100 dX7_state_5 rfl (by decide) (by decide) rfl (by simp [Value.category]) ?_
  refine x_if_eq (tgt := 25) C dX7_state_8 (by decide) (fun c8 => absurd c8 (fun q => bI_0.mp q hk1)) (fun c8 => ?_)
  refine x_iload_n C dX7_state_11 rfl ?_
  refine x_iconst (v := 0) C dX7_state_12 (by decide) ?_
  refine x_bipush (v := 6) C dX7_state_13 (by decide) ?_
  refine m_callSF C hW E (s_in _ _ _) md_X7_in wt_X7_in wm_X7_100 dX7_state_15 rfl (by decide) (by decide) rfl (by simp [Value.category]) ?_
  refine x_if_eq (tgt := 25) C dX7_state_18 (by decide) (fun c18 => absurd c18 (fun q => bI_0.mp q hx1)) (fun c18 => ?_)
  refine x_iconst (v := 1) C dX7_state_21 (by decide) ?_
  refine x_goto (tgt := 26) C dX7_state_22 (by decide) ?_
  refine x_iconst (v := 1) C dX7_state_26 (by decide) ?_
  refine m_callF C Y hW E (hf) rfl md_X7_fails wi_X7_fails ws_X7_fails wm_X7_107 dX7_state_27 rfl (by decide) (by decide) rfl (by simp [Value.category]) ?_
  refine x_if_eq (tgt := 35) C dX7_state_30 (by decide) (fun c30 => ?_) (fun c30 => absurd c30 (not_not_intro rfl))
  refine x_aload_n C dX7_state_35 rfl ?_
  refine m_getA C Y 10 (by decide) (by decide) wf_X7_19 dX7_state_36 ?_
  refine x_iload_n C dX7_state_39 rfl ?_
  refine m_zldN C Y 10 (k) (by decide) dX7_state_40 (by simp only [nI_lit, nI_add, pk_mul]) (by simp only [m_len]; omega) ?_
  refine x_if_ne (tgt := 46) C dX7_state_41 (by decide) (fun c41 => ?_) (fun c41 => absurd c41 (fun q => hth q))
  refine x_iload_n C dX7_state_46 rfl ?_
  refine x_tblOut (tgt := 141) C dX7_state_47 (by decide) (by decide) ?_
  refine x_aload_n C dX7_state_141 rfl ?_
  refine m_getA C Y 16 (by decide) (by decide) wf_X7_38 dX7_state_142 ?_
  refine x_iload_n C dX7_state_145 rfl ?_
  refine m_ildN C Y 16 (k) (by decide) dX7_state_146 (by simp only [nI_lit, nI_add, pk_mul]) (by simp only [m_len]; omega) ?_
  refine m_iret C E dX7_state_147 ?_
  exact ⟨rfl, rfl⟩

def f_count (S : MS) (x : Int32) : Int32 := if x = 0 then f_cnt S 12 else if x = 1 then S.i 2 else if x = 2 then S.i 20 else if x = 3 then S.i 23 else if x = 4 then S.i 8 else S.i 9
theorem s_count_f (hW : Wm w M) (x : Int32) (hp : ¬ ((0 : Int32) ≤ x ∧ x ≤ 5)) : TF w M yX7_count cX7_count 4 (some .int) 1 [.int x] S (some (.int 0)) (S.si 0 1) := by
  refine TM.intro hW rfl (Nat.le_of_ble_eq_true rfl) (fun z C Y E hn => ?_)
  have hf := s_fails1 (S := S) hW ((0 : Int32) ≤ x ∧ x ≤ 5)
  rw [bI_t hp] at hf
  refine x_aload_n C dX7_count_0 rfl ?_
  refine x_iload_n C dX7_count_1 rfl ?_
  refine x_iconst (v := 0) C dX7_count_2 (by decide) ?_
  refine x_iconst (v := 5) C dX7_count_3 (by decide) ?_
  refine m_callSF C hW E (s_in _ _ _) md_X7_in wt_X7_in wm_X7_100 dX7_count_4 rfl (by decide) (by decide) rfl (by simp [Value.category]) ?_
  refine x_iconst (v := 1) C dX7_count_7 (by decide) ?_
  refine m_callF C Y hW E (hf) rfl md_X7_fails wi_X7_fails ws_X7_fails wm_X7_107 dX7_count_8 rfl (by decide) (by decide) rfl (by simp [Value.category]) ?_
  refine x_if_eq (tgt := 16) C dX7_count_11 (by decide) (fun c11 => absurd c11 (by decide)) (fun c11 => ?_)
  refine x_iconst (v := 0) C dX7_count_14 (by decide) ?_
  refine m_iret C E dX7_count_15 ?_
  exact ⟨rfl, rfl⟩
theorem s_count_t (hW : Wm w M) (x : Int32) (hp : (0 : Int32) ≤ x ∧ x ≤ 5) : TF w M yX7_count cX7_count 4 (some .int) 1 [.int x] S (some (.int (f_count S x))) (S.si 0 0) := by
  refine TM.intro hW rfl (Nat.le_of_ble_eq_true rfl) (fun z C Y E hn => ?_)
  have hf := s_fails1 (S := S) hW ((0 : Int32) ≤ x ∧ x ≤ 5)
  rw [bI_f (not_not_intro hp)] at hf
  have LP : ∀ (t b : Nat), b + t = 12 → X z 0 0 (MA M (S.si 0 0)) 20 [some (.ref M.o), some (.int x), some (.int (f_cnt S b)), some (.int (nI b))] [] := by
    intro t
    induction t with
    | zero =>
      intro b hb
      obtain rfl : b = 12 := by omega
      refine x_iload_n C dX7_count_20 rfl ?_
      refine x_bipush (v := 12) C dX7_count_21 (by decide) ?_
      refine x_icmp_ge (tgt := 49) C dX7_count_23 (by decide) (fun c23 => ?_) (fun c23 => absurd c23 (by decide))
      refine x_iload_n C dX7_count_49 rfl ?_
      refine x_if_ne (tgt := 57) C dX7_count_50 (by decide) (fun c50 => ?_) (fun c50 => ?_)
      · skip
        refine x_iload_n C dX7_count_57 rfl ?_
        refine x_iconst (v := 1) C dX7_count_58 (by decide) ?_
        refine x_icmp_ne (tgt := 69) C dX7_count_59 (by decide) (fun c59 => ?_) (fun c59 => ?_)
        · skip
          refine x_iload_n C dX7_count_69 rfl ?_
          refine x_iconst (v := 2) C dX7_count_70 (by decide) ?_
          refine x_icmp_ne (tgt := 81) C dX7_count_71 (by decide) (fun c71 => ?_) (fun c71 => ?_)
          · skip
            refine x_iload_n C dX7_count_81 rfl ?_
            refine x_iconst (v := 3) C dX7_count_82 (by decide) ?_
            refine x_icmp_ne (tgt := 93) C dX7_count_83 (by decide) (fun c83 => ?_) (fun c83 => ?_)
            · skip
              refine x_iload_n C dX7_count_93 rfl ?_
              refine x_iconst (v := 4) C dX7_count_94 (by decide) ?_
              refine x_icmp_ne (tgt := 105) C dX7_count_95 (by decide) (fun c95 => ?_) (fun c95 => ?_)
              · skip
                refine x_aload_n C dX7_count_105 rfl ?_
                refine m_get C Y 9 (by decide) (by decide) wf_X7_156 dX7_count_106 ?_
                refine m_iret C E dX7_count_109 ?_
                refine ⟨congrArg (fun t => some (Value.int t)) ?_, rfl⟩; clear E C Y hf; unfold f_count; simp_all [MS.si_i]
              · skip
                refine x_aload_n C dX7_count_98 rfl ?_
                refine m_get C Y 8 (by decide) (by decide) wf_X7_129 dX7_count_99 ?_
                refine x_goto (tgt := 109) C dX7_count_102 (by decide) ?_
                refine m_iret C E dX7_count_109 ?_
                refine ⟨congrArg (fun t => some (Value.int t)) ?_, rfl⟩; clear E C Y hf; unfold f_count; simp_all [MS.si_i]
            · skip
              refine x_aload_n C dX7_count_86 rfl ?_
              refine m_get C Y 23 (by decide) (by decide) wf_X7_190 dX7_count_87 ?_
              refine x_goto (tgt := 109) C dX7_count_90 (by decide) ?_
              refine m_iret C E dX7_count_109 ?_
              refine ⟨congrArg (fun t => some (Value.int t)) ?_, rfl⟩; clear E C Y hf; unfold f_count; simp_all [MS.si_i]
          · skip
            refine x_aload_n C dX7_count_74 rfl ?_
            refine m_get C Y 20 (by decide) (by decide) wf_X7_175 dX7_count_75 ?_
            refine x_goto (tgt := 109) C dX7_count_78 (by decide) ?_
            refine m_iret C E dX7_count_109 ?_
            refine ⟨congrArg (fun t => some (Value.int t)) ?_, rfl⟩; clear E C Y hf; unfold f_count; simp_all [MS.si_i]
        · skip
          refine x_aload_n C dX7_count_62 rfl ?_
          refine m_get C Y 2 (by decide) (by decide) wf_X7_104 dX7_count_63 ?_
          refine x_goto (tgt := 109) C dX7_count_66 (by decide) ?_
          refine m_iret C E dX7_count_109 ?_
          refine ⟨congrArg (fun t => some (Value.int t)) ?_, rfl⟩; clear E C Y hf; unfold f_count; simp_all [MS.si_i]
      · skip
        refine x_iload_n C dX7_count_53 rfl ?_
        refine x_goto (tgt := 109) C dX7_count_54 (by decide) ?_
        refine m_iret C E dX7_count_109 ?_
        refine ⟨congrArg (fun t => some (Value.int t)) ?_, rfl⟩; clear E C Y hf; unfold f_count; simp_all [MS.si_i]
    | succ t ih =>
      intro b hb
      have ih2 := ih (b + 1) (by omega)
      have T41 : ∀ v : Int32, v = bI (¬ S.a 10 b = 0) → X z 0 0 (MA M (S.si 0 0)) 41 [some (.ref M.o), some (.int x), some (.int (f_cnt S b)), some (.int (nI b))] [.int v, .int (f_cnt S b)] := by
        intro v ev
        subst ev
        refine x_iadd C dX7_count_41 ?_
        refine x_istore_nE (L' := [some _, some _, some _, some _]) C dX7_count_42 (by rw [hn]; decide) rfl ?_
        refine x_iincE (v := nI (b + 1)) (L' := [some _, some _, some _, some _]) C dX7_count_43 rfl (nI_1 b) (by rw [hn]; decide) rfl ?_
        refine x_goto (tgt := 20) C dX7_count_46 (by decide) ?_
        exact ih2
      refine x_iload_n C dX7_count_20 rfl ?_
      refine x_bipush (v := 12) C dX7_count_21 (by decide) ?_
      refine x_icmp_ge (tgt := 49) C dX7_count_23 (by decide) (fun c23 => absurd c23 (by rw [nI_lit]; exact nI_ge (show b < 12 by omega) (by decide))) (fun c23 => ?_)
      refine x_iload_n C dX7_count_26 rfl ?_
      refine x_aload_n C dX7_count_27 rfl ?_
      refine m_getA C Y 10 (by decide) (by decide) wf_X7_19 dX7_count_28 ?_
      refine x_iload_n C dX7_count_31 rfl ?_
      refine m_zldN C Y 10 (b) (by decide) dX7_count_32 (by simp only [nI_lit, nI_add, pk_mul]) (by simp only [m_len]; omega) ?_
      refine x_if_eq (tgt := 40) C dX7_count_33 (by decide) (fun c33 => ?_) (fun c33 => ?_)
      · skip
        refine x_iconst (v := 0) C dX7_count_40 (by decide) ?_
        first | exact T41 _ (bI_00 (not_not_intro c33)) | exact T41 _ (bI_1 c33)
      · skip
        refine x_iconst (v := 1) C dX7_count_36 (by decide) ?_
        refine x_goto (tgt := 41) C dX7_count_37 (by decide) ?_
        first | exact T41 _ (bI_00 (not_not_intro c33)) | exact T41 _ (bI_1 c33)
  refine x_aload_n C dX7_count_0 rfl ?_
  refine x_iload_n C dX7_count_1 rfl ?_
  refine x_iconst (v := 0) C dX7_count_2 (by decide) ?_
  refine x_iconst (v := 5) C dX7_count_3 (by decide) ?_
  refine m_callSF C hW E (s_in _ _ _) md_X7_in wt_X7_in wm_X7_100 dX7_count_4 rfl (by decide) (by decide) rfl (by simp [Value.category]) ?_
  refine x_iconst (v := 1) C dX7_count_7 (by decide) ?_
  refine m_callF C Y hW E (hf) rfl md_X7_fails wi_X7_fails ws_X7_fails wm_X7_107 dX7_count_8 rfl (by decide) (by decide) rfl (by simp [Value.category]) ?_
  refine x_if_eq (tgt := 16) C dX7_count_11 (by decide) (fun c11 => ?_) (fun c11 => absurd c11 (not_not_intro rfl))
  refine x_iconst (v := 0) C dX7_count_16 (by decide) ?_
  refine x_istore_nE (L' := [some _, some _, some _, none]) C dX7_count_17 (by rw [hn]; decide) rfl ?_
  refine x_iconst (v := 0) C dX7_count_18 (by decide) ?_
  refine x_istore_nE (L' := [some _, some _, some _, some _]) C dX7_count_19 (by rw [hn]; decide) rfl ?_
  exact LP 12 0 rfl
def f_byte (b : Nat) (ident maker version medium : Int32) : Int32 := if b < 4 then (ident >>> (((8 : Int32) * nI b) &&& 31)) &&& 255 else if b = 4 then maker &&& 255 else if b = 5 then maker >>> ((8 : Int32) &&& 31) else if b = 6 then version else medium
theorem s_byteOf (b : Nat) (hb : b < 8) (i m v d : Int32) : TSt w yX7_byteOf cX7_byteOf 5 (some .int) 0 [.int (nI b), .int i, .int m, .int v, .int d] (some (.int (f_byte b i m v d))) := by
  refine TSt.intro rfl (Nat.le_of_ble_eq_true rfl) (fun z A C E hn => ?_)
  have i4 : 4 ≤ nI b ↔ ¬ b < 4 := by rw [show (4 : Int32) = nI 4 from rfl, nI_leI (by omega) (by omega)]; omega
  have e4 : nI b = 4 ↔ b = 4 := by rw [show (4 : Int32) = nI 4 from rfl, nI_eq (by omega) (by omega)]
  have e5 : nI b = 5 ↔ b = 5 := by rw [show (5 : Int32) = nI 5 from rfl, nI_eq (by omega) (by omega)]
  have e6 : nI b = 6 ↔ b = 6 := by rw [show (6 : Int32) = nI 6 from rfl, nI_eq (by omega) (by omega)]
  refine x_iload_n C dX7_byteOf_0 rfl ?_
  refine x_iconst (v := 4) C dX7_byteOf_1 (by decide) ?_
  refine x_icmp_ge (tgt := 18) C dX7_byteOf_2 (by decide) (fun c2 => ?_) (fun c2 => ?_)
  · skip
    refine x_iload_n C dX7_byteOf_18 rfl ?_
    refine x_iconst (v := 4) C dX7_byteOf_19 (by decide) ?_
    refine x_icmp_ne (tgt := 31) C dX7_byteOf_20 (by decide) (fun c20 => ?_) (fun c20 => ?_)
    · skip
      refine x_iload_n C dX7_byteOf_31 rfl ?_
      refine x_iconst (v := 5) C dX7_byteOf_32 (by decide) ?_
      refine x_icmp_ne (tgt := 43) C dX7_byteOf_33 (by decide) (fun c33 => ?_) (fun c33 => ?_)
      · skip
        refine x_iload_n C dX7_byteOf_43 rfl ?_
        refine x_bipush (v := 6) C dX7_byteOf_44 (by decide) ?_
        refine x_icmp_ne (tgt := 53) C dX7_byteOf_46 (by decide) (fun c46 => ?_) (fun c46 => ?_)
        · skip
          refine x_iload C dX7_byteOf_53 rfl ?_
          refine x_iret C E dX7_byteOf_55 (fun h g => ⟨?_, g⟩)
          refine congrArg (fun t => some (Value.int t)) ?_; clear C E; simp only [i4, e4, e5, e6] at *; unfold f_byte; simp_all <;> (intro q; omega)
        · skip
          refine x_iload_n C dX7_byteOf_49 rfl ?_
          refine x_goto (tgt := 55) C dX7_byteOf_50 (by decide) ?_
          refine x_iret C E dX7_byteOf_55 (fun h g => ⟨?_, g⟩)
          refine congrArg (fun t => some (Value.int t)) ?_; clear C E; simp only [i4, e4, e5, e6] at *; unfold f_byte; simp_all <;> (intro q; omega)
      · skip
        refine x_iload_n C dX7_byteOf_36 rfl ?_
        refine x_bipush (v := 8) C dX7_byteOf_37 (by decide) ?_
        refine x_ishr C dX7_byteOf_39 ?_
        refine x_goto (tgt := 55) C dX7_byteOf_40 (by decide) ?_
        refine x_iret C E dX7_byteOf_55 (fun h g => ⟨?_, g⟩)
        refine congrArg (fun t => some (Value.int t)) ?_; clear C E; simp only [i4, e4, e5, e6] at *; unfold f_byte; simp_all <;> (intro q; omega)
    · skip
      refine x_iload_n C dX7_byteOf_23 rfl ?_
      refine x_sipush (v := 255) C dX7_byteOf_24 (by decide) ?_
      refine x_iand C dX7_byteOf_27 ?_
      refine x_goto (tgt := 55) C dX7_byteOf_28 (by decide) ?_
      refine x_iret C E dX7_byteOf_55 (fun h g => ⟨?_, g⟩)
      refine congrArg (fun t => some (Value.int t)) ?_; clear C E; simp only [i4, e4, e5, e6] at *; unfold f_byte; simp_all <;> (intro q; omega)
  · skip
    refine x_iload_n C dX7_byteOf_5 rfl ?_
    refine x_bipush (v := 8) C dX7_byteOf_6 (by decide) ?_
    refine x_iload_n C dX7_byteOf_8 rfl ?_
    refine x_imul C dX7_byteOf_9 ?_
    refine x_ishr C dX7_byteOf_10 ?_
    refine x_sipush (v := 255) C dX7_byteOf_11 (by decide) ?_
    refine x_iand C dX7_byteOf_14 ?_
    refine x_goto (tgt := 55) C dX7_byteOf_15 (by decide) ?_
    refine x_iret C E dX7_byteOf_55 (fun h g => ⟨?_, g⟩)
    refine congrArg (fun t => some (Value.int t)) ?_; clear C E; simp only [i4, e4, e5, e6] at *; unfold f_byte; simp_all <;> (intro q; omega)
end StateS
