/-! MeterBusModel: a record's value. -/
def f_valN (S : MS) (a e r cc n : Nat) : MS := if a + n ≤ e then (if cc < 8 then (S.si 40 (nI (a + n))).sw 24 r (f_whole S a n) else (f_digS S a n true).sw 24 r (f_dig S a n true)) else f_bl S 4 (nI e)
section Val
variable {w : Wd} {M : MW} {S : MS}
/-- the values of a size that the code tells, from pc 74 -/
theorem val74 (hW : Wm w M) (a e r cc n : Nat) (ha : S.i 40 = nI a) (he : S.i 39 = nI e) (he3 : e ≤ 300) (hae : a ≤ e) (hr : S.i 23 = nI r) (hr1 : r < 100) (hc : cc < 15) (hn8 : n ≤ 8) {z : Fx} (C : Cx z RX7 cX7_value gw) (Y : Mty z M) (E : Ct z w gw yX7_value none 2 (40 * 2) (PM M (fun q Q => q = none ∧ Q = f_valN S a e r cc n))) (hn : z.nL = 8) :
    X z 0 0 (MA M S) 74 [some (.ref M.o), some (.int (nI cc)), some (.int (nI n)), none, none, none, none, none] [] := by
  unfold f_valN at E
  have n0 : ¬ nI n < 0 := nI_pos (by omega)
  have c8 : 8 ≤ nI cc ↔ ¬ cc < 8 := by rw [show (8 : Int32) = nI 8 from rfl, nI_leI (by omega) (by omega)]; omega
  by_cases h1 : a + n ≤ e
  · rw [if_pos h1] at E
    have hh := s_has_t (S := S) hW a e n ha he he3 h1
    by_cases h2 : cc < 8
    · rw [if_pos h2] at E
      have hw := s_whole (S := S) hW a n ha hn8 (by omega)
      refine x_iload_n C dX7_value_74 rfl ?_
      refine x_if_lt (tgt := 116) C dX7_value_75 (by decide) (fun c75 => absurd c75 n0) (fun c75 => ?_)
      refine x_aload_n C dX7_value_78 rfl ?_
      refine x_iload_n C dX7_value_79 rfl ?_
      refine m_callF C Y hW E (hh) rfl md_X7_has wi_X7_has ws_X7_has wm_X7_243 dX7_value_80 rfl (by decide) (by decide) rfl (by simp [Value.category]) ?_
      refine x_if_eq (tgt := 115) C dX7_value_83 (by decide) (fun c83 => absurd c83 (by decide)) (fun c83 => ?_)
      refine x_aload_n C dX7_value_86 rfl ?_
      refine m_getA C Y 24 (by decide) (by decide) wf_X7_56 dX7_value_87 ?_
      refine x_aload_n C dX7_value_90 rfl ?_
      refine m_get C Y 23 (by decide) (by decide) wf_X7_190 dX7_value_91 ?_
      refine x_iload_n C dX7_value_94 rfl ?_
      refine x_bipush (v := 8) C dX7_value_95 (by decide) ?_
      refine x_icmp_ge (tgt := 108) C dX7_value_97 (by decide) (fun c97 => absurd c97 (fun q => c8.mp q h2)) (fun c97 => ?_)
      refine x_aload_n C dX7_value_100 rfl ?_
      refine x_iload_n C dX7_value_101 rfl ?_
      refine m_callF C Y hW E (hw) rfl md_X7_whole wi_X7_whole ws_X7_whole wm_X7_246 dX7_value_102 rfl (by decide) (by decide) rfl (by simp [Value.category]) ?_
      refine x_goto (tgt := 114) C dX7_value_105 (by decide) ?_
      refine m_lstN C Y hW.2.1 24 (r) (by decide) dX7_value_114 hr (by simp only [m_len]; omega) ?_
      refine m_vret C E dX7_value_115 ?_
      exact ⟨rfl, rfl⟩
    · rw [if_neg h2] at E
      have hd := s_digits (S := S) hW a n true ha (by omega) (by omega)
      rw [bI_t (p := true = true) rfl] at hd
      refine x_iload_n C dX7_value_74 rfl ?_
      refine x_if_lt (tgt := 116) C dX7_value_75 (by decide) (fun c75 => absurd c75 n0) (fun c75 => ?_)
      refine x_aload_n C dX7_value_78 rfl ?_
      refine x_iload_n C dX7_value_79 rfl ?_
      refine m_callF C Y hW E (hh) rfl md_X7_has wi_X7_has ws_X7_has wm_X7_243 dX7_value_80 rfl (by decide) (by decide) rfl (by simp [Value.category]) ?_
      refine x_if_eq (tgt := 115) C dX7_value_83 (by decide) (fun c83 => absurd c83 (by decide)) (fun c83 => ?_)
      refine x_aload_n C dX7_value_86 rfl ?_
      refine m_getA C Y 24 (by decide) (by decide) wf_X7_56 dX7_value_87 ?_
      refine x_aload_n C dX7_value_90 rfl ?_
      refine m_get C Y 23 (by decide) (by decide) wf_X7_190 dX7_value_91 ?_
      refine x_iload_n C dX7_value_94 rfl ?_
      refine x_bipush (v := 8) C dX7_value_95 (by decide) ?_
      refine x_icmp_ge (tgt := 108) C dX7_value_97 (by decide) (fun c97 => ?_) (fun c97 => absurd c97 (not_not_intro (c8.mpr h2)))
      refine x_aload_n C dX7_value_108 rfl ?_
      refine x_iload_n C dX7_value_109 rfl ?_
      refine x_iconst (v := 1) C dX7_value_110 (by decide) ?_
      refine m_callF C Y hW E (hd) rfl md_X7_digits wi_X7_digits ws_X7_digits wm_X7_250 dX7_value_111 rfl (by decide) (by decide) rfl (by simp [Value.category]) ?_
      refine m_lstN C Y hW.2.1 24 (r) (by decide) dX7_value_114 hr (by simp only [m_len]; omega) ?_
      refine m_vret C E dX7_value_115 ?_
      exact ⟨rfl, rfl⟩
  · rw [if_neg h1] at E
    have hh := s_has_f (S := S) hW a e n ha he he3 hae (by omega) h1
    refine x_iload_n C dX7_value_74 rfl ?_
    refine x_if_lt (tgt := 116) C dX7_value_75 (by decide) (fun c75 => absurd c75 n0) (fun c75 => ?_)
    refine x_aload_n C dX7_value_78 rfl ?_
    refine x_iload_n C dX7_value_79 rfl ?_
    refine m_callF C Y hW E (hh) rfl md_X7_has wi_X7_has ws_X7_has wm_X7_243 dX7_value_80 rfl (by decide) (by decide) rfl (by simp [Value.category]) ?_
    refine x_if_eq (tgt := 115) C dX7_value_83 (by decide) (fun c83 => ?_) (fun c83 => absurd c83 (not_not_intro rfl))
    refine m_vret C E dX7_value_115 ?_
    exact ⟨rfl, rfl⟩
theorem s_val_0 (hW : Wm w M) (a e r : Nat) (ha : S.i 40 = nI a) (he : S.i 39 = nI e) (he3 : e ≤ 300) (hae : a ≤ e) (hr : S.i 23 = nI r) (hr1 : r < 100) : TF w M yX7_value cX7_value 8 none 2 [.int (nI 0)] S none (f_valN S a e r 0 0) := by
  refine TM.intro hW rfl (Nat.le_of_ble_eq_true rfl) (fun z C Y E hn => ?_)
  refine x_iload_n C dX7_value_0 rfl ?_
  refine x_if_ne (tgt := 8) C dX7_value_1 (by decide) (fun c1 => absurd c1 (not_not_intro (by decide))) (fun c1 => ?_)
  refine x_iconst (v := 0) C dX7_value_4 (by decide) ?_
  refine x_goto (tgt := 73) C dX7_value_5 (by decide) ?_
  refine x_istore_nE (L' := [some _, some _, some _, none, none, none, none, none]) C dX7_value_73 (by rw [hn]; decide) rfl ?_
  exact val74 hW a e r 0 0 ha he he3 hae hr hr1 (by decide) (by decide) C Y E hn
theorem s_val_1 (hW : Wm w M) (a e r : Nat) (ha : S.i 40 = nI a) (he : S.i 39 = nI e) (he3 : e ≤ 300) (hae : a ≤ e) (hr : S.i 23 = nI r) (hr1 : r < 100) : TF w M yX7_value cX7_value 8 none 2 [.int (nI 1)] S none (f_valN S a e r 1 1) := by
  refine TM.intro hW rfl (Nat.le_of_ble_eq_true rfl) (fun z C Y E hn => ?_)
  refine x_iload_n C dX7_value_0 rfl ?_
  refine x_if_ne (tgt := 8) C dX7_value_1 (by decide) (fun c1 => ?_) (fun c1 => absurd c1 (by decide))
  refine x_iload_n C dX7_value_8 rfl ?_
  refine x_iconst (v := 5) C dX7_value_9 (by decide) ?_
  refine x_icmp_ge (tgt := 17) C dX7_value_10 (by decide) (fun c10 => absurd c10 (by decide)) (fun c10 => ?_)
  refine x_iload_n C dX7_value_13 rfl ?_
  refine x_goto (tgt := 73) C dX7_value_14 (by decide) ?_
  refine x_istore_nE (L' := [some _, some _, some _, none, none, none, none, none]) C dX7_value_73 (by rw [hn]; decide) rfl ?_
  exact val74 hW a e r 1 1 ha he he3 hae hr hr1 (by decide) (by decide) C Y E hn
theorem s_val_2 (hW : Wm w M) (a e r : Nat) (ha : S.i 40 = nI a) (he : S.i 39 = nI e) (he3 : e ≤ 300) (hae : a ≤ e) (hr : S.i 23 = nI r) (hr1 : r < 100) : TF w M yX7_value cX7_value 8 none 2 [.int (nI 2)] S none (f_valN S a e r 2 2) := by
  refine TM.intro hW rfl (Nat.le_of_ble_eq_true rfl) (fun z C Y E hn => ?_)
  refine x_iload_n C dX7_value_0 rfl ?_
  refine x_if_ne (tgt := 8) C dX7_value_1 (by decide) (fun c1 => ?_) (fun c1 => absurd c1 (by decide))
  refine x_iload_n C dX7_value_8 rfl ?_
  refine x_iconst (v := 5) C dX7_value_9 (by decide) ?_
  refine x_icmp_ge (tgt := 17) C dX7_value_10 (by decide) (fun c10 => absurd c10 (by decide)) (fun c10 => ?_)
  refine x_iload_n C dX7_value_13 rfl ?_
  refine x_goto (tgt := 73) C dX7_value_14 (by decide) ?_
  refine x_istore_nE (L' := [some _, some _, some _, none, none, none, none, none]) C dX7_value_73 (by rw [hn]; decide) rfl ?_
  exact val74 hW a e r 2 2 ha he he3 hae hr hr1 (by decide) (by decide) C Y E hn
theorem s_val_3 (hW : Wm w M) (a e r : Nat) (ha : S.i 40 = nI a) (he : S.i 39 = nI e) (he3 : e ≤ 300) (hae : a ≤ e) (hr : S.i 23 = nI r) (hr1 : r < 100) : TF w M yX7_value cX7_value 8 none 2 [.int (nI 3)] S none (f_valN S a e r 3 3) := by
  refine TM.intro hW rfl (Nat.le_of_ble_eq_true rfl) (fun z C Y E hn => ?_)
  refine x_iload_n C dX7_value_0 rfl ?_
  refine x_if_ne (tgt := 8) C dX7_value_1 (by decide) (fun c1 => ?_) (fun c1 => absurd c1 (by decide))
  refine x_iload_n C dX7_value_8 rfl ?_
  refine x_iconst (v := 5) C dX7_value_9 (by decide) ?_
  refine x_icmp_ge (tgt := 17) C dX7_value_10 (by decide) (fun c10 => absurd c10 (by decide)) (fun c10 => ?_)
  refine x_iload_n C dX7_value_13 rfl ?_
  refine x_goto (tgt := 73) C dX7_value_14 (by decide) ?_
  refine x_istore_nE (L' := [some _, some _, some _, none, none, none, none, none]) C dX7_value_73 (by rw [hn]; decide) rfl ?_
  exact val74 hW a e r 3 3 ha he he3 hae hr hr1 (by decide) (by decide) C Y E hn
theorem s_val_4 (hW : Wm w M) (a e r : Nat) (ha : S.i 40 = nI a) (he : S.i 39 = nI e) (he3 : e ≤ 300) (hae : a ≤ e) (hr : S.i 23 = nI r) (hr1 : r < 100) : TF w M yX7_value cX7_value 8 none 2 [.int (nI 4)] S none (f_valN S a e r 4 4) := by
  refine TM.intro hW rfl (Nat.le_of_ble_eq_true rfl) (fun z C Y E hn => ?_)
  refine x_iload_n C dX7_value_0 rfl ?_
  refine x_if_ne (tgt := 8) C dX7_value_1 (by decide) (fun c1 => ?_) (fun c1 => absurd c1 (by decide))
  refine x_iload_n C dX7_value_8 rfl ?_
  refine x_iconst (v := 5) C dX7_value_9 (by decide) ?_
  refine x_icmp_ge (tgt := 17) C dX7_value_10 (by decide) (fun c10 => absurd c10 (by decide)) (fun c10 => ?_)
  refine x_iload_n C dX7_value_13 rfl ?_
  refine x_goto (tgt := 73) C dX7_value_14 (by decide) ?_
  refine x_istore_nE (L' := [some _, some _, some _, none, none, none, none, none]) C dX7_value_73 (by rw [hn]; decide) rfl ?_
  exact val74 hW a e r 4 4 ha he he3 hae hr hr1 (by decide) (by decide) C Y E hn
theorem s_val_5 (hW : Wm w M) (a e r : Nat) (ha : S.i 40 = nI a) (he : S.i 39 = nI e) (he3 : e ≤ 300) (hae : a ≤ e) (hr : S.i 23 = nI r) (hr1 : r < 100) : TF w M yX7_value cX7_value 8 none 2 [.int (nI 5)] S none (f_valN S a e r 5 4) := by
  refine TM.intro hW rfl (Nat.le_of_ble_eq_true rfl) (fun z C Y E hn => ?_)
  refine x_iload_n C dX7_value_0 rfl ?_
  refine x_if_ne (tgt := 8) C dX7_value_1 (by decide) (fun c1 => ?_) (fun c1 => absurd c1 (by decide))
  refine x_iload_n C dX7_value_8 rfl ?_
  refine x_iconst (v := 5) C dX7_value_9 (by decide) ?_
  refine x_icmp_ge (tgt := 17) C dX7_value_10 (by decide) (fun c10 => ?_) (fun c10 => absurd c10 (not_not_intro (by decide)))
  refine x_iload_n C dX7_value_17 rfl ?_
  refine x_iconst (v := 5) C dX7_value_18 (by decide) ?_
  refine x_icmp_ne (tgt := 26) C dX7_value_19 (by decide) (fun c19 => absurd c19 (not_not_intro (by decide))) (fun c19 => ?_)
  refine x_iconst (v := 4) C dX7_value_22 (by decide) ?_
  refine x_goto (tgt := 73) C dX7_value_23 (by decide) ?_
  refine x_istore_nE (L' := [some _, some _, some _, none, none, none, none, none]) C dX7_value_73 (by rw [hn]; decide) rfl ?_
  exact val74 hW a e r 5 4 ha he he3 hae hr hr1 (by decide) (by decide) C Y E hn
theorem s_val_6 (hW : Wm w M) (a e r : Nat) (ha : S.i 40 = nI a) (he : S.i 39 = nI e) (he3 : e ≤ 300) (hae : a ≤ e) (hr : S.i 23 = nI r) (hr1 : r < 100) : TF w M yX7_value cX7_value 8 none 2 [.int (nI 6)] S none (f_valN S a e r 6 6) := by
  refine TM.intro hW rfl (Nat.le_of_ble_eq_true rfl) (fun z C Y E hn => ?_)
  refine x_iload_n C dX7_value_0 rfl ?_
  refine x_if_ne (tgt := 8) C dX7_value_1 (by decide) (fun c1 => ?_) (fun c1 => absurd c1 (by decide))
  refine x_iload_n C dX7_value_8 rfl ?_
  refine x_iconst (v := 5) C dX7_value_9 (by decide) ?_
  refine x_icmp_ge (tgt := 17) C dX7_value_10 (by decide) (fun c10 => ?_) (fun c10 => absurd c10 (not_not_intro (by decide)))
  refine x_iload_n C dX7_value_17 rfl ?_
  refine x_iconst (v := 5) C dX7_value_18 (by decide) ?_
  refine x_icmp_ne (tgt := 26) C dX7_value_19 (by decide) (fun c19 => ?_) (fun c19 => absurd c19 (by decide))
  refine x_iload_n C dX7_value_26 rfl ?_
  refine x_bipush (v := 6) C dX7_value_27 (by decide) ?_
  refine x_icmp_ne (tgt := 37) C dX7_value_29 (by decide) (fun c29 => absurd c29 (not_not_intro (by decide))) (fun c29 => ?_)
  refine x_bipush (v := 6) C dX7_value_32 (by decide) ?_
  refine x_goto (tgt := 73) C dX7_value_34 (by decide) ?_
  refine x_istore_nE (L' := [some _, some _, some _, none, none, none, none, none]) C dX7_value_73 (by rw [hn]; decide) rfl ?_
  exact val74 hW a e r 6 6 ha he he3 hae hr hr1 (by decide) (by decide) C Y E hn
theorem s_val_7 (hW : Wm w M) (a e r : Nat) (ha : S.i 40 = nI a) (he : S.i 39 = nI e) (he3 : e ≤ 300) (hae : a ≤ e) (hr : S.i 23 = nI r) (hr1 : r < 100) : TF w M yX7_value cX7_value 8 none 2 [.int (nI 7)] S none (f_valN S a e r 7 8) := by
  refine TM.intro hW rfl (Nat.le_of_ble_eq_true rfl) (fun z C Y E hn => ?_)
  refine x_iload_n C dX7_value_0 rfl ?_
  refine x_if_ne (tgt := 8) C dX7_value_1 (by decide) (fun c1 => ?_) (fun c1 => absurd c1 (by decide))
  refine x_iload_n C dX7_value_8 rfl ?_
  refine x_iconst (v := 5) C dX7_value_9 (by decide) ?_
  refine x_icmp_ge (tgt := 17) C dX7_value_10 (by decide) (fun c10 => ?_) (fun c10 => absurd c10 (not_not_intro (by decide)))
  refine x_iload_n C dX7_value_17 rfl ?_
  refine x_iconst (v := 5) C dX7_value_18 (by decide) ?_
  refine x_icmp_ne (tgt := 26) C dX7_value_19 (by decide) (fun c19 => ?_) (fun c19 => absurd c19 (by decide))
  refine x_iload_n C dX7_value_26 rfl ?_
  refine x_bipush (v := 6) C dX7_value_27 (by decide) ?_
  refine x_icmp_ne (tgt := 37) C dX7_value_29 (by decide) (fun c29 => ?_) (fun c29 => absurd c29 (by decide))
  refine x_iload_n C dX7_value_37 rfl ?_
  refine x_bipush (v := 7) C dX7_value_38 (by decide) ?_
  refine x_icmp_ne (tgt := 48) C dX7_value_40 (by decide) (fun c40 => absurd c40 (not_not_intro (by decide))) (fun c40 => ?_)
  refine x_bipush (v := 8) C dX7_value_43 (by decide) ?_
  refine x_goto (tgt := 73) C dX7_value_45 (by decide) ?_
  refine x_istore_nE (L' := [some _, some _, some _, none, none, none, none, none]) C dX7_value_73 (by rw [hn]; decide) rfl ?_
  exact val74 hW a e r 7 8 ha he he3 hae hr hr1 (by decide) (by decide) C Y E hn
theorem s_val_9 (hW : Wm w M) (a e r : Nat) (ha : S.i 40 = nI a) (he : S.i 39 = nI e) (he3 : e ≤ 300) (hae : a ≤ e) (hr : S.i 23 = nI r) (hr1 : r < 100) : TF w M yX7_value cX7_value 8 none 2 [.int (nI 9)] S none (f_valN S a e r 9 1) := by
  refine TM.intro hW rfl (Nat.le_of_ble_eq_true rfl) (fun z C Y E hn => ?_)
  refine x_iload_n C dX7_value_0 rfl ?_
  refine x_if_ne (tgt := 8) C dX7_value_1 (by decide) (fun c1 => ?_) (fun c1 => absurd c1 (by decide))
  refine x_iload_n C dX7_value_8 rfl ?_
  refine x_iconst (v := 5) C dX7_value_9 (by decide) ?_
  refine x_icmp_ge (tgt := 17) C dX7_value_10 (by decide) (fun c10 => ?_) (fun c10 => absurd c10 (not_not_intro (by decide)))
  refine x_iload_n C dX7_value_17 rfl ?_
  refine x_iconst (v := 5) C dX7_value_18 (by decide) ?_
  refine x_icmp_ne (tgt := 26) C dX7_value_19 (by decide) (fun c19 => ?_) (fun c19 => absurd c19 (by decide))
  refine x_iload_n C dX7_value_26 rfl ?_
  refine x_bipush (v := 6) C dX7_value_27 (by decide) ?_
  refine x_icmp_ne (tgt := 37) C dX7_value_29 (by decide) (fun c29 => ?_) (fun c29 => absurd c29 (by decide))
  refine x_iload_n C dX7_value_37 rfl ?_
  refine x_bipush (v := 7) C dX7_value_38 (by decide) ?_
  refine x_icmp_ne (tgt := 48) C dX7_value_40 (by decide) (fun c40 => ?_) (fun c40 => absurd c40 (by decide))
  refine x_iload_n C dX7_value_48 rfl ?_
  refine x_bipush (v := 13) C dX7_value_49 (by decide) ?_
  refine x_icmp_ge (tgt := 61) C dX7_value_51 (by decide) (fun c51 => absurd c51 (by decide)) (fun c51 => ?_)
  refine x_iload_n C dX7_value_54 rfl ?_
  refine x_bipush (v := 8) C dX7_value_55 (by decide) ?_
  refine x_isub C dX7_value_57 ?_
  refine x_goto (tgt := 73) C dX7_value_58 (by decide) ?_
  rw [show nI 9 - 8 = nI 1 from rfl]
  refine x_istore_nE (L' := [some _, some _, some _, none, none, none, none, none]) C dX7_value_73 (by rw [hn]; decide) rfl ?_
  exact val74 hW a e r 9 1 ha he he3 hae hr hr1 (by decide) (by decide) C Y E hn
theorem s_val_10 (hW : Wm w M) (a e r : Nat) (ha : S.i 40 = nI a) (he : S.i 39 = nI e) (he3 : e ≤ 300) (hae : a ≤ e) (hr : S.i 23 = nI r) (hr1 : r < 100) : TF w M yX7_value cX7_value 8 none 2 [.int (nI 10)] S none (f_valN S a e r 10 2) := by
  refine TM.intro hW rfl (Nat.le_of_ble_eq_true rfl) (fun z C Y E hn => ?_)
  refine x_iload_n C dX7_value_0 rfl ?_
  refine x_if_ne (tgt := 8) C dX7_value_1 (by decide) (fun c1 => ?_) (fun c1 => absurd c1 (by decide))
  refine x_iload_n C dX7_value_8 rfl ?_
  refine x_iconst (v := 5) C dX7_value_9 (by decide) ?_
  refine x_icmp_ge (tgt := 17) C dX7_value_10 (by decide) (fun c10 => ?_) (fun c10 => absurd c10 (not_not_intro (by decide)))
  refine x_iload_n C dX7_value_17 rfl ?_
  refine x_iconst (v := 5) C dX7_value_18 (by decide) ?_
  refine x_icmp_ne (tgt := 26) C dX7_value_19 (by decide) (fun c19 => ?_) (fun c19 => absurd c19 (by decide))
  refine x_iload_n C dX7_value_26 rfl ?_
  refine x_bipush (v := 6) C dX7_value_27 (by decide) ?_
  refine x_icmp_ne (tgt := 37) C dX7_value_29 (by decide) (fun c29 => ?_) (fun c29 => absurd c29 (by decide))
  refine x_iload_n C dX7_value_37 rfl ?_
  refine x_bipush (v := 7) C dX7_value_38 (by decide) ?_
  refine x_icmp_ne (tgt := 48) C dX7_value_40 (by decide) (fun c40 => ?_) (fun c40 => absurd c40 (by decide))
  refine x_iload_n C dX7_value_48 rfl ?_
  refine x_bipush (v := 13) C dX7_value_49 (by decide) ?_
  refine x_icmp_ge (tgt := 61) C dX7_value_51 (by decide) (fun c51 => absurd c51 (by decide)) (fun c51 => ?_)
  refine x_iload_n C dX7_value_54 rfl ?_
  refine x_bipush (v := 8) C dX7_value_55 (by decide) ?_
  refine x_isub C dX7_value_57 ?_
  refine x_goto (tgt := 73) C dX7_value_58 (by decide) ?_
  rw [show nI 10 - 8 = nI 2 from rfl]
  refine x_istore_nE (L' := [some _, some _, some _, none, none, none, none, none]) C dX7_value_73 (by rw [hn]; decide) rfl ?_
  exact val74 hW a e r 10 2 ha he he3 hae hr hr1 (by decide) (by decide) C Y E hn
theorem s_val_11 (hW : Wm w M) (a e r : Nat) (ha : S.i 40 = nI a) (he : S.i 39 = nI e) (he3 : e ≤ 300) (hae : a ≤ e) (hr : S.i 23 = nI r) (hr1 : r < 100) : TF w M yX7_value cX7_value 8 none 2 [.int (nI 11)] S none (f_valN S a e r 11 3) := by
  refine TM.intro hW rfl (Nat.le_of_ble_eq_true rfl) (fun z C Y E hn => ?_)
  refine x_iload_n C dX7_value_0 rfl ?_
  refine x_if_ne (tgt := 8) C dX7_value_1 (by decide) (fun c1 => ?_) (fun c1 => absurd c1 (by decide))
  refine x_iload_n C dX7_value_8 rfl ?_
  refine x_iconst (v := 5) C dX7_value_9 (by decide) ?_
  refine x_icmp_ge (tgt := 17) C dX7_value_10 (by decide) (fun c10 => ?_) (fun c10 => absurd c10 (not_not_intro (by decide)))
  refine x_iload_n C dX7_value_17 rfl ?_
  refine x_iconst (v := 5) C dX7_value_18 (by decide) ?_
  refine x_icmp_ne (tgt := 26) C dX7_value_19 (by decide) (fun c19 => ?_) (fun c19 => absurd c19 (by decide))
  refine x_iload_n C dX7_value_26 rfl ?_
  refine x_bipush (v := 6) C dX7_value_27 (by decide) ?_
  refine x_icmp_ne (tgt := 37) C dX7_value_29 (by decide) (fun c29 => ?_) (fun c29 => absurd c29 (by decide))
  refine x_iload_n C dX7_value_37 rfl ?_
  refine x_bipush (v := 7) C dX7_value_38 (by decide) ?_
  refine x_icmp_ne (tgt := 48) C dX7_value_40 (by decide) (fun c40 => ?_) (fun c40 => absurd c40 (by decide))
  refine x_iload_n C dX7_value_48 rfl ?_
  refine x_bipush (v := 13) C dX7_value_49 (by decide) ?_
  refine x_icmp_ge (tgt := 61) C dX7_value_51 (by decide) (fun c51 => absurd c51 (by decide)) (fun c51 => ?_)
  refine x_iload_n C dX7_value_54 rfl ?_
  refine x_bipush (v := 8) C dX7_value_55 (by decide) ?_
  refine x_isub C dX7_value_57 ?_
  refine x_goto (tgt := 73) C dX7_value_58 (by decide) ?_
  rw [show nI 11 - 8 = nI 3 from rfl]
  refine x_istore_nE (L' := [some _, some _, some _, none, none, none, none, none]) C dX7_value_73 (by rw [hn]; decide) rfl ?_
  exact val74 hW a e r 11 3 ha he he3 hae hr hr1 (by decide) (by decide) C Y E hn
theorem s_val_12 (hW : Wm w M) (a e r : Nat) (ha : S.i 40 = nI a) (he : S.i 39 = nI e) (he3 : e ≤ 300) (hae : a ≤ e) (hr : S.i 23 = nI r) (hr1 : r < 100) : TF w M yX7_value cX7_value 8 none 2 [.int (nI 12)] S none (f_valN S a e r 12 4) := by
  refine TM.intro hW rfl (Nat.le_of_ble_eq_true rfl) (fun z C Y E hn => ?_)
  refine x_iload_n C dX7_value_0 rfl ?_
  refine x_if_ne (tgt := 8) C dX7_value_1 (by decide) (fun c1 => ?_) (fun c1 => absurd c1 (by decide))
  refine x_iload_n C dX7_value_8 rfl ?_
  refine x_iconst (v := 5) C dX7_value_9 (by decide) ?_
  refine x_icmp_ge (tgt := 17) C dX7_value_10 (by decide) (fun c10 => ?_) (fun c10 => absurd c10 (not_not_intro (by decide)))
  refine x_iload_n C dX7_value_17 rfl ?_
  refine x_iconst (v := 5) C dX7_value_18 (by decide) ?_
  refine x_icmp_ne (tgt := 26) C dX7_value_19 (by decide) (fun c19 => ?_) (fun c19 => absurd c19 (by decide))
  refine x_iload_n C dX7_value_26 rfl ?_
  refine x_bipush (v := 6) C dX7_value_27 (by decide) ?_
  refine x_icmp_ne (tgt := 37) C dX7_value_29 (by decide) (fun c29 => ?_) (fun c29 => absurd c29 (by decide))
  refine x_iload_n C dX7_value_37 rfl ?_
  refine x_bipush (v := 7) C dX7_value_38 (by decide) ?_
  refine x_icmp_ne (tgt := 48) C dX7_value_40 (by decide) (fun c40 => ?_) (fun c40 => absurd c40 (by decide))
  refine x_iload_n C dX7_value_48 rfl ?_
  refine x_bipush (v := 13) C dX7_value_49 (by decide) ?_
  refine x_icmp_ge (tgt := 61) C dX7_value_51 (by decide) (fun c51 => absurd c51 (by decide)) (fun c51 => ?_)
  refine x_iload_n C dX7_value_54 rfl ?_
  refine x_bipush (v := 8) C dX7_value_55 (by decide) ?_
  refine x_isub C dX7_value_57 ?_
  refine x_goto (tgt := 73) C dX7_value_58 (by decide) ?_
  rw [show nI 12 - 8 = nI 4 from rfl]
  refine x_istore_nE (L' := [some _, some _, some _, none, none, none, none, none]) C dX7_value_73 (by rw [hn]; decide) rfl ?_
  exact val74 hW a e r 12 4 ha he he3 hae hr hr1 (by decide) (by decide) C Y E hn
theorem s_val_14 (hW : Wm w M) (a e r : Nat) (ha : S.i 40 = nI a) (he : S.i 39 = nI e) (he3 : e ≤ 300) (hae : a ≤ e) (hr : S.i 23 = nI r) (hr1 : r < 100) : TF w M yX7_value cX7_value 8 none 2 [.int (nI 14)] S none (f_valN S a e r 14 6) := by
  refine TM.intro hW rfl (Nat.le_of_ble_eq_true rfl) (fun z C Y E hn => ?_)
  refine x_iload_n C dX7_value_0 rfl ?_
  refine x_if_ne (tgt := 8) C dX7_value_1 (by decide) (fun c1 => ?_) (fun c1 => absurd c1 (by decide))
  refine x_iload_n C dX7_value_8 rfl ?_
  refine x_iconst (v := 5) C dX7_value_9 (by decide) ?_
  refine x_icmp_ge (tgt := 17) C dX7_value_10 (by decide) (fun c10 => ?_) (fun c10 => absurd c10 (not_not_intro (by decide)))
  refine x_iload_n C dX7_value_17 rfl ?_
  refine x_iconst (v := 5) C dX7_value_18 (by decide) ?_
  refine x_icmp_ne (tgt := 26) C dX7_value_19 (by decide) (fun c19 => ?_) (fun c19 => absurd c19 (by decide))
  refine x_iload_n C dX7_value_26 rfl ?_
  refine x_bipush (v := 6) C dX7_value_27 (by decide) ?_
  refine x_icmp_ne (tgt := 37) C dX7_value_29 (by decide) (fun c29 => ?_) (fun c29 => absurd c29 (by decide))
  refine x_iload_n C dX7_value_37 rfl ?_
  refine x_bipush (v := 7) C dX7_value_38 (by decide) ?_
  refine x_icmp_ne (tgt := 48) C dX7_value_40 (by decide) (fun c40 => ?_) (fun c40 => absurd c40 (by decide))
  refine x_iload_n C dX7_value_48 rfl ?_
  refine x_bipush (v := 13) C dX7_value_49 (by decide) ?_
  refine x_icmp_ge (tgt := 61) C dX7_value_51 (by decide) (fun c51 => ?_) (fun c51 => absurd c51 (not_not_intro (by decide)))
  refine x_iload_n C dX7_value_61 rfl ?_
  refine x_bipush (v := 14) C dX7_value_62 (by decide) ?_
  refine x_icmp_ne (tgt := 72) C dX7_value_64 (by decide) (fun c64 => absurd c64 (not_not_intro (by decide))) (fun c64 => ?_)
  refine x_bipush (v := 6) C dX7_value_67 (by decide) ?_
  refine x_goto (tgt := 73) C dX7_value_69 (by decide) ?_
  refine x_istore_nE (L' := [some _, some _, some _, none, none, none, none, none]) C dX7_value_73 (by rw [hn]; decide) rfl ?_
  exact val74 hW a e r 14 6 ha he he3 hae hr hr1 (by decide) (by decide) C Y E hn
end Val
