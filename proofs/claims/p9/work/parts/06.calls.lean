section
/-! MeterBusModel: the calls that look at little. -/
theorem bT1 : bI True = 1 := bI_t True.intro
theorem in_vp {x m : Int32} {n N : Nat} (hm : m = nI n) (hn : n ≤ N) (hN : N < 2 ^ 31) (h : 0 ≤ x ∧ x ≤ m - 1) : vp_in x N := by
  subst hm
  have h1 := h.1
  have h2 := h.2
  rw [Int32.le_iff_toInt_le] at h1 h2
  refine vp_in_iff.mpr ⟨h1, ?_⟩
  rcases Nat.eq_zero_or_pos n with e | e
  · subst e
    have : (nI 0 - 1).toInt = -1 := by decide
    rw [this] at h2
    have : (0 : Int32).toInt = 0 := rfl
    omega
  · rw [show (1 : Int32) = nI 1 from rfl, pk_sub e, nI_toInt (by omega)] at h2
    omega
theorem in_nI {x : Int32} {lo hi : Nat} (hi31 : hi < 2 ^ 31) (h : nI lo ≤ x ∧ x ≤ nI hi) (hlo : lo ≤ hi) : ∃ j, lo ≤ j ∧ j ≤ hi ∧ x = nI j := by
  have h1 := h.1
  have h2 := h.2
  rw [Int32.le_iff_toInt_le, nI_toInt (by omega)] at h1
  have h0 : ¬ x < 0 := by rw [Int32.lt_iff_toInt_lt]; have : (0 : Int32).toInt = 0 := rfl; omega
  obtain ⟨j, hj, e⟩ := nI_of h0
  subst e
  rw [Int32.le_iff_toInt_le, nI_toInt hj, nI_toInt hi31] at h2
  rw [nI_toInt hj] at h1
  exact ⟨j, by omega, by omega, rfl⟩
section Calls
variable {w : Wd} {M : MW} {S : MS}
theorem s_fails1 (hW : Wm w M) (p : Prop) [Decidable p] : TF w M yX7_fails cX7_fails 3 (some .boolean) 0 [.int (bI p), .int 1] S (some (.int (bI (¬ p)))) (S.si 0 (bI (¬ p))) := by
  have h := s_fails (S := S) hW p True
  rw [bT1] at h
  by_cases hp : p
  · simpa [hp, bI] using h
  · simpa [hp, bI] using h
theorem s_place (hW : Wm w M) : TF w M yX7_place cX7_place 1 (some .int) 0 [] S (some (.int (S.i 36))) (S.si 0 0) := by
  refine TM.intro hW rfl (Nat.le_of_ble_eq_true rfl) (fun z C Y E hn => ?_)
  refine x_aload_n C dX7_place_0 rfl ?_
  refine x_iconst (v := 0) C dX7_place_1 (by decide) ?_
  refine m_put C Y hW.2.1 0 (by decide) (by decide) rfl rfl rfl wf_X7_97 dX7_place_2 ?_
  refine x_aload_n C dX7_place_5 rfl ?_
  refine m_get C Y 36 (by decide) (by decide) wf_X7_90 dX7_place_6 ?_
  refine m_iret C E dX7_place_9 ?_
  exact ⟨rfl, rfl⟩
theorem s_clear (hW : Wm w M) : TF w M yX7_clear cX7_clear 2 (some .int) 0 [] S (some (.int (S.i 23))) (((S.si 0 0).si 23 0).si 34 0) := by
  refine TM.intro hW rfl (Nat.le_of_ble_eq_true rfl) (fun z C Y E hn => ?_)
  refine x_aload_n C dX7_clear_0 rfl ?_
  refine x_iconst (v := 0) C dX7_clear_1 (by decide) ?_
  refine m_put C Y hW.2.1 0 (by decide) (by decide) rfl rfl rfl wf_X7_97 dX7_clear_2 ?_
  refine x_aload_n C dX7_clear_5 rfl ?_
  refine m_get C Y 23 (by decide) (by decide) wf_X7_190 dX7_clear_6 ?_
  refine x_istore_nE (L' := [some _, some _]) C dX7_clear_9 (by rw [hn]; decide) rfl ?_
  refine x_aload_n C dX7_clear_10 rfl ?_
  refine x_iconst (v := 0) C dX7_clear_11 (by decide) ?_
  refine m_put C Y hW.2.1 23 (by decide) (by decide) rfl rfl rfl wf_X7_190 dX7_clear_12 ?_
  refine x_aload_n C dX7_clear_15 rfl ?_
  refine x_iconst (v := 0) C dX7_clear_16 (by decide) ?_
  refine m_put C Y hW.2.1 34 (by decide) (by decide) rfl rfl rfl wf_X7_193 dX7_clear_17 ?_
  refine x_iload_n C dX7_clear_20 rfl ?_
  refine m_iret C E dX7_clear_21 ?_
  exact ⟨rfl, rfl⟩
abbrev q_keep (S : MS) (n : Int32) : Prop := 0 ≤ n ∧ n ≤ S.i 2
theorem s_keep (hW : Wm w M) (n : Int32) : TF w M yX7_keep cX7_keep 2 none 1 [.int n] S none (if q_keep S n then (S.si 0 0).si 2 n else S.si 0 1) := by
  refine TM.intro hW rfl (Nat.le_of_ble_eq_true rfl) (fun z C Y E hn => ?_)
  have hf := s_fails1 (S := S) hW (q_keep S n)
  by_cases hp : q_keep S n
  · rw [if_pos hp] at E
    rw [bI_f (not_not_intro hp)] at hf
    refine x_aload_n C dX7_keep_0 rfl ?_
    refine x_iload_n C dX7_keep_1 rfl ?_
    refine x_iconst (v := 0) C dX7_keep_2 (by decide) ?_
    refine x_aload_n C dX7_keep_3 rfl ?_
    refine m_get C Y 2 (by decide) (by decide) wf_X7_104 dX7_keep_4 ?_
    refine m_callSF C hW E (s_in _ _ _) md_X7_in wt_X7_in wm_X7_100 dX7_keep_7 rfl (by decide) (by decide) rfl (by simp [Value.category]) ?_
    refine x_iconst (v := 1) C dX7_keep_10 (by decide) ?_
    refine m_callF C Y hW E (hf) rfl md_X7_fails wi_X7_fails ws_X7_fails wm_X7_107 dX7_keep_11 rfl (by decide) (by decide) rfl (by simp [Value.category]) ?_
    refine x_if_ne (tgt := 22) C dX7_keep_14 (by decide) (fun c14 => absurd c14 (fun q => q rfl)) (fun c14 => ?_)
    refine x_aload_n C dX7_keep_17 rfl ?_
    refine x_iload_n C dX7_keep_18 rfl ?_
    refine m_put C Y hW.2.1 2 (by decide) (by decide) rfl rfl rfl wf_X7_104 dX7_keep_19 ?_
    refine m_vret C E dX7_keep_22 ?_
    exact ⟨rfl, rfl⟩
  · rw [if_neg hp] at E
    rw [bI_t hp] at hf
    refine x_aload_n C dX7_keep_0 rfl ?_
    refine x_iload_n C dX7_keep_1 rfl ?_
    refine x_iconst (v := 0) C dX7_keep_2 (by decide) ?_
    refine x_aload_n C dX7_keep_3 rfl ?_
    refine m_get C Y 2 (by decide) (by decide) wf_X7_104 dX7_keep_4 ?_
    refine m_callSF C hW E (s_in _ _ _) md_X7_in wt_X7_in wm_X7_100 dX7_keep_7 rfl (by decide) (by decide) rfl (by simp [Value.category]) ?_
    refine x_iconst (v := 1) C dX7_keep_10 (by decide) ?_
    refine m_callF C Y hW E (hf) rfl md_X7_fails wi_X7_fails ws_X7_fails wm_X7_107 dX7_keep_11 rfl (by decide) (by decide) rfl (by simp [Value.category]) ?_
    refine x_if_ne (tgt := 22) C dX7_keep_14 (by decide) (fun c14 => ?_) (fun c14 => absurd c14 (by decide))
    refine m_vret C E dX7_keep_22 ?_
    exact ⟨rfl, rfl⟩
abbrev q_typed (S : MS) (i : Int32) : Prop := 0 ≤ i ∧ i ≤ S.i 2 - 1
theorem s_typed (hW : Wm w M) (m : Nat) (hm : S.i 2 = nI m) (hm3 : m ≤ 300) (i : Int32) : TF w M yX7_typed cX7_typed 2 (some .int) 1 [.int i] S (some (.int (if q_typed S i then S.a 1 i.toNatClampNeg else 0))) (S.si 0 (bI (¬ q_typed S i))) := by
  refine TM.intro hW rfl (Nat.le_of_ble_eq_true rfl) (fun z C Y E hn => ?_)
  have hf := s_fails1 (S := S) hW (q_typed S i)
  by_cases hp : q_typed S i
  · rw [if_pos hp] at E
    rw [bI_f (not_not_intro hp)] at hf E
    refine x_aload_n C dX7_typed_0 rfl ?_
    refine x_iload_n C dX7_typed_1 rfl ?_
    refine x_iconst (v := 0) C dX7_typed_2 (by decide) ?_
    refine x_aload_n C dX7_typed_3 rfl ?_
    refine m_get C Y 2 (by decide) (by decide) wf_X7_104 dX7_typed_4 ?_
    refine x_iconst (v := 1) C dX7_typed_7 (by decide) ?_
    refine x_isub C dX7_typed_8 ?_
    refine m_callSF C hW E (s_in _ _ _) md_X7_in wt_X7_in wm_X7_100 dX7_typed_9 rfl (by decide) (by decide) rfl (by simp [Value.category]) ?_
    refine x_iconst (v := 1) C dX7_typed_12 (by decide) ?_
    refine m_callF C Y hW E (hf) rfl md_X7_fails wi_X7_fails ws_X7_fails wm_X7_107 dX7_typed_13 rfl (by decide) (by decide) rfl (by simp [Value.category]) ?_
    refine x_if_eq (tgt := 23) C dX7_typed_16 (by decide) (fun c16 => ?_) (fun c16 => absurd c16 (not_not_intro rfl))
    refine x_aload_n C dX7_typed_23 rfl ?_
    refine m_getA C Y 1 (by decide) (by decide) wf_X7_7 dX7_typed_24 ?_
    refine x_iload_n C dX7_typed_27 rfl ?_
    refine m_ild C Y 1 (by decide) dX7_typed_28 (in_vp hm hm3 (by decide) hp) ?_
    refine m_iret C E dX7_typed_29 ?_
    exact ⟨rfl, rfl⟩
  · rw [if_neg hp] at E
    rw [bI_t hp] at hf E
    refine x_aload_n C dX7_typed_0 rfl ?_
    refine x_iload_n C dX7_typed_1 rfl ?_
    refine x_iconst (v := 0) C dX7_typed_2 (by decide) ?_
    refine x_aload_n C dX7_typed_3 rfl ?_
    refine m_get C Y 2 (by decide) (by decide) wf_X7_104 dX7_typed_4 ?_
    refine x_iconst (v := 1) C dX7_typed_7 (by decide) ?_
    refine x_isub C dX7_typed_8 ?_
    refine m_callSF C hW E (s_in _ _ _) md_X7_in wt_X7_in wm_X7_100 dX7_typed_9 rfl (by decide) (by decide) rfl (by simp [Value.category]) ?_
    refine x_iconst (v := 1) C dX7_typed_12 (by decide) ?_
    refine m_callF C Y hW E (hf) rfl md_X7_fails wi_X7_fails ws_X7_fails wm_X7_107 dX7_typed_13 rfl (by decide) (by decide) rfl (by simp [Value.category]) ?_
    refine x_if_eq (tgt := 23) C dX7_typed_16 (by decide) (fun c16 => absurd c16 (by decide)) (fun c16 => ?_)
    refine x_iconst (v := 0) C dX7_typed_19 (by decide) ?_
    refine x_goto (tgt := 29) C dX7_typed_20 (by decide) ?_
    refine m_iret C E dX7_typed_29 ?_
    exact ⟨rfl, rfl⟩
theorem s_remove_t (hW : Wm w M) (k : Nat) (hk : k < 12) (hb : narrow .boolean (.int (S.a 10 k)) = .int (S.a 10 k)) : TF w M yX7_remove cX7_remove 3 (some .boolean) 1 [.int (nI k)] S (some (.int (S.a 10 k))) ((S.si 0 0).sa 10 k 0) := by
  refine TM.intro hW rfl (Nat.le_of_ble_eq_true rfl) (fun z C Y E hn => ?_)
  have hp : (0 : Int32) ≤ nI k ∧ nI k ≤ 11 := ⟨nI_pos' (by omega), nI_le (show k ≤ 11 by omega) (by decide)⟩
  have hf := s_fails1 (S := S) hW ((0 : Int32) ≤ nI k ∧ nI k ≤ 11)
  rw [bI_f (not_not_intro hp)] at hf
  refine x_aload_n C dX7_remove_0 rfl ?_
  refine x_iload_n C dX7_remove_1 rfl ?_
  refine x_iconst (v := 0) C dX7_remove_2 (by decide) ?_
  refine x_bipush (v := 11) C dX7_remove_3 (by decide) ?_
  refine m_callSF C hW E (s_in _ _ _) md_X7_in wt_X7_in wm_X7_100 dX7_remove_5 rfl (by decide) (by decide) rfl (by simp [Value.category]) ?_
  refine x_iconst (v := 1) C dX7_remove_8 (by decide) ?_
  refine m_callF C Y hW E (hf) rfl md_X7_fails wi_X7_fails ws_X7_fails wm_X7_107 dX7_remove_9 rfl (by decide) (by decide) rfl (by simp [Value.category]) ?_
  refine x_if_eq (tgt := 17) C dX7_remove_12 (by decide) (fun c12 => ?_) (fun c12 => absurd c12 (not_not_intro rfl))
  refine x_aload_n C dX7_remove_17 rfl ?_
  refine m_getA C Y 10 (by decide) (by decide) wf_X7_19 dX7_remove_18 ?_
  refine x_iload_n C dX7_remove_21 rfl ?_
  refine m_zldN C Y 10 (k) (by decide) dX7_remove_22 (by simp only [nI_lit, nI_add, pk_mul]) (by simp only [m_len]; omega) ?_
  refine x_istore_nE (L' := [some _, some _, some _]) C dX7_remove_23 (by rw [hn]; decide) rfl ?_
  refine x_aload_n C dX7_remove_24 rfl ?_
  refine m_getA C Y 10 (by decide) (by decide) wf_X7_19 dX7_remove_25 ?_
  refine x_iload_n C dX7_remove_28 rfl ?_
  refine x_iconst (v := 0) C dX7_remove_29 (by decide) ?_
  refine m_zstN C Y hW.2.1 10 (k) (by decide) rfl dX7_remove_30 (by simp only [nI_lit, nI_add, pk_mul]) (by simp only [m_len]; omega) ?_
  refine x_iload_n C dX7_remove_31 rfl ?_
  refine m_zret C E dX7_remove_32 hb ?_
  exact ⟨rfl, rfl⟩
theorem s_remove_f (hW : Wm w M) (k : Int32) (hp : ¬ ((0 : Int32) ≤ k ∧ k ≤ 11)) : TF w M yX7_remove cX7_remove 3 (some .boolean) 1 [.int k] S (some (.int 0)) (S.si 0 1) := by
  refine TM.intro hW rfl (Nat.le_of_ble_eq_true rfl) (fun z C Y E hn => ?_)
  have hf := s_fails1 (S := S) hW ((0 : Int32) ≤ k ∧ k ≤ 11)
  rw [bI_t hp] at hf
  refine x_aload_n C dX7_remove_0 rfl ?_
  refine x_iload_n C dX7_remove_1 rfl ?_
  refine x_iconst (v := 0) C dX7_remove_2 (by decide) ?_
  refine x_bipush (v := 11) C dX7_remove_3 (by decide) ?_
  refine m_callSF C hW E (s_in _ _ _) md_X7_in wt_X7_in wm_X7_100 dX7_remove_5 rfl (by decide) (by decide) rfl (by simp [Value.category]) ?_
  refine x_iconst (v := 1) C dX7_remove_8 (by decide) ?_
  refine m_callF C Y hW E (hf) rfl md_X7_fails wi_X7_fails ws_X7_fails wm_X7_107 dX7_remove_9 rfl (by decide) (by decide) rfl (by simp [Value.category]) ?_
  refine x_if_eq (tgt := 17) C dX7_remove_12 (by decide) (fun c12 => absurd c12 (by decide)) (fun c12 => ?_)
  refine x_iconst (v := 0) C dX7_remove_15 (by decide) ?_
  refine m_zret C E dX7_remove_16 (by decide) ?_
  exact ⟨rfl, rfl⟩
abbrev q_found (S : MS) (k x : Int32) : Prop := (0 ≤ k ∧ k ≤ S.i 20 - 1) ∧ (0 ≤ x ∧ x ≤ 7)
theorem s_found (hW : Wm w M) (f : Nat) (hf0 : S.i 20 = nI f) (hf1 : f ≤ 100) (k x : Int32) : TF w M yX7_found cX7_found 3 (some .int) 1 [.int k, .int x] S (some (.int (if q_found S k x then S.a 21 (8 * k.toNatClampNeg + x.toNatClampNeg) else 0))) (S.si 0 (bI (¬ q_found S k x))) := by
  refine TM.intro hW rfl (Nat.le_of_ble_eq_true rfl) (fun z C Y E hn => ?_)
  have hf := s_fails1 (S := S) hW (q_found S k x)
  have a0 : bI (0 ≤ k ∧ k ≤ S.i 20 - 1) = 0 ↔ ¬ (0 ≤ k ∧ k ≤ S.i 20 - 1) := bI_0
  have b0 : bI (0 ≤ x ∧ x ≤ 7) = 0 ↔ ¬ (0 ≤ x ∧ x ≤ 7) := bI_0
  by_cases hp : q_found S k x
  · rw [if_pos hp] at E
    rw [bI_t hp, bI_f (not_not_intro hp)] at hf
    rw [bI_f (not_not_intro hp)] at E
    obtain ⟨j, hj, ek⟩ := vp_in_of (in_vp hf0 hf1 (by decide) hp.1) (by decide)
    obtain ⟨b, -, hb, ex⟩ := in_nI (x := x) (lo := 0) (hi := 7) (by decide) hp.2 (by decide)
    have ec : 8 * k.toNatClampNeg + x.toNatClampNeg = 8 * j + b := by rw [ek, ex, nI_clamp (by omega), nI_clamp (by omega)]
    rw [ec] at E
    refine x_aload_n C dX7_found_0 rfl ?_
    refine x_iload_n C dX7_found_1 rfl ?_
    refine x_iconst (v := 0) C dX7_found_2 (by decide) ?_
    refine x_aload_n C dX7_found_3 rfl ?_
    refine m_get C Y 20 (by decide) (by decide) wf_X7_175 dX7_found_4 ?_
    refine x_iconst (v := 1) C dX7_found_7 (by decide) ?_
    refine x_isub C dX7_found_8 ?_
    refine m_callSF C hW E (s_in _ _ _) md_X7_in wt_X7_in wm_X7_100 dX7_found_9 rfl (by decide) (by decide) rfl (by simp [Value.category]) ?_
    refine x_if_eq (tgt := 29) C dX7_found_12 (by decide) (fun c12 => absurd c12 (fun q => a0.mp q hp.1)) (fun c12 => ?_)
    refine x_iload_n C dX7_found_15 rfl ?_
    refine x_iconst (v := 0) C dX7_found_16 (by decide) ?_
    refine x_bipush (v := 7) C dX7_found_17 (by decide) ?_
    refine m_callSF C hW E (s_in _ _ _) md_X7_in wt_X7_in wm_X7_100 dX7_found_19 rfl (by decide) (by decide) rfl (by simp [Value.category]) ?_
    refine x_if_eq (tgt := 29) C dX7_found_22 (by decide) (fun c22 => absurd c22 (fun q => b0.mp q hp.2)) (fun c22 => ?_)
    refine x_iconst (v := 1) C dX7_found_25 (by decide) ?_
    refine x_goto (tgt := 30) C dX7_found_26 (by decide) ?_
    refine x_iconst (v := 1) C dX7_found_30 (by decide) ?_
    refine m_callF C Y hW E (hf) rfl md_X7_fails wi_X7_fails ws_X7_fails wm_X7_107 dX7_found_31 rfl (by decide) (by decide) rfl (by simp [Value.category]) ?_
    refine x_if_eq (tgt := 41) C dX7_found_34 (by decide) (fun c34 => ?_) (fun c34 => absurd c34 (not_not_intro rfl))
    refine x_aload_n C dX7_found_41 rfl ?_
    refine m_getA C Y 21 (by decide) (by decide) wf_X7_50 dX7_found_42 ?_
    refine x_bipush (v := 8) C dX7_found_45 (by decide) ?_
    refine x_iload_n C dX7_found_47 rfl ?_
    refine x_imul C dX7_found_48 ?_
    refine x_iload_n C dX7_found_49 rfl ?_
    refine x_iadd C dX7_found_50 ?_
    refine m_ildN C Y 21 (8 * j + b) (by decide) dX7_found_51 (by rw [ek, ex]; simp only [nI_lit, nI_add, pk_mul]) (by simp only [m_len]; omega) ?_
    refine m_iret C E dX7_found_52 ?_
    exact ⟨rfl, rfl⟩
  · rw [if_neg hp] at E
    rw [bI_f hp, bI_t hp] at hf
    rw [bI_t hp] at E
    refine x_aload_n C dX7_found_0 rfl ?_
    refine x_iload_n C dX7_found_1 rfl ?_
    refine x_iconst (v := 0) C dX7_found_2 (by decide) ?_
    refine x_aload_n C dX7_found_3 rfl ?_
    refine m_get C Y 20 (by decide) (by decide) wf_X7_175 dX7_found_4 ?_
    refine x_iconst (v := 1) C dX7_found_7 (by decide) ?_
    refine x_isub C dX7_found_8 ?_
    refine m_callSF C hW E (s_in _ _ _) md_X7_in wt_X7_in wm_X7_100 dX7_found_9 rfl (by decide) (by decide) rfl (by simp [Value.category]) ?_
    refine x_if_eq (tgt := 29) C dX7_found_12 (by decide) (fun c12 => ?_) (fun c12 => ?_)
    · skip
      refine x_iconst (v := 0) C dX7_found_29 (by decide) ?_
      refine x_iconst (v := 1) C dX7_found_30 (by decide) ?_
      refine m_callF C Y hW E (hf) rfl md_X7_fails wi_X7_fails ws_X7_fails wm_X7_107 dX7_found_31 rfl (by decide) (by decide) rfl (by simp [Value.category]) ?_
      refine x_if_eq (tgt := 41) C dX7_found_34 (by decide) (fun c34 => absurd c34 (by decide)) (fun c34 => ?_)
      refine x_iconst (v := 0) C dX7_found_37 (by decide) ?_
      refine x_goto (tgt := 52) C dX7_found_38 (by decide) ?_
      refine m_iret C E dX7_found_52 ?_
      exact ⟨rfl, rfl⟩
    · skip
      refine x_iload_n C dX7_found_15 rfl ?_
      refine x_iconst (v := 0) C dX7_found_16 (by decide) ?_
      refine x_bipush (v := 7) C dX7_found_17 (by decide) ?_
      refine m_callSF C hW E (s_in _ _ _) md_X7_in wt_X7_in wm_X7_100 dX7_found_19 rfl (by decide) (by decide) rfl (by simp [Value.category]) ?_
      refine x_if_eq (tgt := 29) C dX7_found_22 (by decide) (fun c22 => ?_) (fun c22 => ?_)
      · skip
        refine x_iconst (v := 0) C dX7_found_29 (by decide) ?_
        refine x_iconst (v := 1) C dX7_found_30 (by decide) ?_
        refine m_callF C Y hW E (hf) rfl md_X7_fails wi_X7_fails ws_X7_fails wm_X7_107 dX7_found_31 rfl (by decide) (by decide) rfl (by simp [Value.category]) ?_
        refine x_if_eq (tgt := 41) C dX7_found_34 (by decide) (fun c34 => absurd c34 (by decide)) (fun c34 => ?_)
        refine x_iconst (v := 0) C dX7_found_37 (by decide) ?_
        refine x_goto (tgt := 52) C dX7_found_38 (by decide) ?_
        refine m_iret C E dX7_found_52 ?_
        exact ⟨rfl, rfl⟩
      · skip
        exact absurd ⟨bI_0n.mp c12, bI_0n.mp c22⟩ hp
end Calls
end
section
/-! MeterBusModel: type, page, state, count. -/
def f_by (b : Int64) (k : Nat) : Int32 := ((b >>> (((8 : Int32) * nI k).toInt64 &&& 63)) &&& 255).toInt32
def f_ty (b : Int64) : Nat → Nat → MS → MS
  | 0, _, S => S
  | k + 1, s, S => f_ty b k (s + 1) ((S.sa 1 s (f_by b k)).si 2 (nI (s + 1)))
def f_cnt (S : MS) : Nat → Int32
  | 0 => 0
  | n + 1 => f_cnt S n + bI (¬ S.a 10 n = 0)
/-- the buffer's first cells into a page -/
def f_pcp (S : MS) (o : Nat) : Nat → MS
  | 0 => S
  | n + 1 => (f_pcp S o n).sa 18 (o + n) (S.a 1 n)
theorem f_pcp_a (S : MS) (o n : Nat) {q j : Nat} (h : q ≠ 18) : (f_pcp S o n).a q j = S.a q j := by
  induction n with
  | zero => rfl
  | succ n ih => rw [f_pcp, sa_ne h, ih]
theorem f_pcp_i (S : MS) (o n k : Nat) : (f_pcp S o n).i k = S.i k := by
  induction n with
  | zero => rfl
  | succ n ih => rw [f_pcp, MS.sa_i, ih]
def f_page (S : MS) (k i n : Nat) : MS := ((f_pcp (S.si 0 0) (60 * (3 * k + i)) n).sa 17 (3 * k + i) (nI n)).si 2 0
section TypeS
variable {w : Wd} {M : MW} {S : MS}
theorem s_type_f (hW : Wm w M) (b : Int64) (n : Int32) (hp : ¬ ((1 : Int32) ≤ n ∧ n ≤ 8)) : TF w M yX7_type cX7_type 5 (some .int) 1 [.long b, .int n] S (some (.int 0)) (S.si 0 1) := by
  refine TM.intro hW rfl (Nat.le_of_ble_eq_true rfl) (fun z C Y E hn => ?_)
  have hf := s_fails1 (S := S) hW ((1 : Int32) ≤ n ∧ n ≤ 8)
  rw [bI_t hp] at hf
  have b0 : bI ((1 : Int32) ≤ n ∧ n ≤ 8) = 0 := bI_f hp
  refine x_aload_n C dX7_type_0 rfl ?_
  refine x_iload_n C dX7_type_1 rfl ?_
  refine x_iconst (v := 1) C dX7_type_2 (by decide) ?_
  refine x_bipush (v := 8) C dX7_type_3 (by decide) ?_
  refine m_callSF C hW E (s_in _ _ _) md_X7_in wt_X7_in wm_X7_100 dX7_type_5 rfl (by decide) (by decide) rfl (by simp [Value.category]) ?_
  refine x_iload_n C dX7_type_8 rfl ?_
  refine x_iconst (v := 1) C dX7_type_9 (by decide) ?_
  refine x_bipush (v := 8) C dX7_type_10 (by decide) ?_
  refine m_callSF C hW E (s_in _ _ _) md_X7_in wt_X7_in wm_X7_100 dX7_type_12 rfl (by decide) (by decide) rfl (by simp [Value.category]) ?_
  refine x_if_eq (tgt := 30) C dX7_type_15 (by decide) (fun c15 => ?_) (fun c15 => absurd c15 (not_not_intro b0))
  refine x_iconst (v := 1) C dX7_type_30 (by decide) ?_
  refine x_goto (tgt := 35) C dX7_type_31 (by decide) ?_
  refine m_callF C Y hW E (hf) rfl md_X7_fails wi_X7_fails ws_X7_fails wm_X7_107 dX7_type_35 rfl (by decide) (by decide) rfl (by simp [Value.category]) ?_
  refine x_if_eq (tgt := 43) C dX7_type_38 (by decide) (fun c38 => absurd c38 (by decide)) (fun c38 => ?_)
  refine x_iconst (v := 0) C dX7_type_41 (by decide) ?_
  refine m_iret C E dX7_type_42 ?_
  exact ⟨rfl, rfl⟩
theorem s_type_u (hW : Wm w M) (b : Int64) (m s : Nat) (hm : 1 ≤ m ∧ m ≤ 8) (hs : S.i 2 = nI s) (hs3 : s ≤ 300) (hq : ¬ s + m ≤ 300) : TF w M yX7_type cX7_type 5 (some .int) 1 [.long b, .int (nI m)] S (some (.int 0)) (S.si 0 2) := by
  refine TM.intro hW rfl (Nat.le_of_ble_eq_true rfl) (fun z C Y E hn => ?_)
  have hp : (1 : Int32) ≤ nI m ∧ nI m ≤ 8 := ⟨nI_le hm.1 (by omega), nI_le hm.2 (by decide)⟩
  have hf := s_fails (S := S) hW ((1 : Int32) ≤ nI m ∧ nI m ≤ 8) (s + m ≤ 300)
  rw [bI_f hq, bI_t (p := ¬ (((1 : Int32) ≤ nI m ∧ nI m ≤ 8) ∧ s + m ≤ 300)) (fun q => hq q.2), if_neg (not_not_intro hp), if_pos hq] at hf
  have b0 : ¬ bI ((1 : Int32) ≤ nI m ∧ nI m ≤ 8) = 0 := fun q => bI_0.mp q hp
  have i3 : (300 : Int32) < S.i 2 + nI m := by rw [hs, nI_add]; exact nI_lt (show 300 < s + m by omega) (by omega)
  refine x_aload_n C dX7_type_0 rfl ?_
  refine x_iload_n C dX7_type_1 rfl ?_
  refine x_iconst (v := 1) C dX7_type_2 (by decide) ?_
  refine x_bipush (v := 8) C dX7_type_3 (by decide) ?_
  refine m_callSF C hW E (s_in _ _ _) md_X7_in wt_X7_in wm_X7_100 dX7_type_5 rfl (by decide) (by decide) rfl (by simp [Value.category]) ?_
  refine x_iload_n C dX7_type_8 rfl ?_
  refine x_iconst (v := 1) C dX7_type_9 (by decide) ?_
  refine x_bipush (v := 8) C dX7_type_10 (by decide) ?_
  refine m_callSF C hW E (s_in _ _ _) md_X7_in wt_X7_in wm_X7_100 dX7_type_12 rfl (by decide) (by decide) rfl (by simp [Value.category]) ?_
  refine x_if_eq (tgt := 30) C dX7_type_15 (by decide) (fun c15 => absurd c15 b0) (fun c15 => ?_)
  refine x_aload_n C dX7_type_18 rfl ?_
  refine m_get C Y 2 (by decide) (by decide) wf_X7_104 dX7_type_19 ?_
  refine x_iload_n C dX7_type_22 rfl ?_
  refine x_iadd C dX7_type_23 ?_
  refine x_sipush (v := 300) C dX7_type_24 (by decide) ?_
  refine x_icmp_gt (tgt := 34) C dX7_type_27 (by decide) (fun c27 => ?_) (fun c27 => absurd c27 (not_not_intro i3))
  refine x_iconst (v := 0) C dX7_type_34 (by decide) ?_
  refine m_callF C Y hW E (hf) rfl md_X7_fails wi_X7_fails ws_X7_fails wm_X7_107 dX7_type_35 rfl (by decide) (by decide) rfl (by simp [Value.category]) ?_
  refine x_if_eq (tgt := 43) C dX7_type_38 (by decide) (fun c38 => absurd c38 (by decide)) (fun c38 => ?_)
  refine x_iconst (v := 0) C dX7_type_41 (by decide) ?_
  refine m_iret C E dX7_type_42 ?_
  exact ⟨rfl, rfl⟩
theorem s_type_t (hW : Wm w M) (b : Int64) (m s : Nat) (hm : 1 ≤ m ∧ m ≤ 8) (hs : S.i 2 = nI s) (hq : s + m ≤ 300) : TF w M yX7_type cX7_type 5 (some .int) 1 [.long b, .int (nI m)] S (some (.int (nI (s + m)))) (f_ty b m s (S.si 0 0)) := by
  refine TM.intro hW rfl (Nat.le_of_ble_eq_true rfl) (fun z C Y E hn => ?_)
  have hp : (1 : Int32) ≤ nI m ∧ nI m ≤ 8 := ⟨nI_le hm.1 (by omega), nI_le hm.2 (by decide)⟩
  have hf := s_fails (S := S) hW ((1 : Int32) ≤ nI m ∧ nI m ≤ 8) (s + m ≤ 300)
  rw [bI_t hq, bI_f (p := ¬ (((1 : Int32) ≤ nI m ∧ nI m ≤ 8) ∧ s + m ≤ 300)) (not_not_intro ⟨hp, hq⟩), if_neg (not_not_intro hp), if_neg (not_not_intro hq)] at hf
  have b0 : ¬ bI ((1 : Int32) ≤ nI m ∧ nI m ≤ 8) = 0 := fun q => bI_0.mp q hp
  have i3 : ¬ (300 : Int32) < S.i 2 + nI m := by rw [hs, nI_add]; exact nI_nlt (show s + m ≤ 300 by omega) (by decide)
  have LP : ∀ (k s' : Nat) (S1 : MS), k ≤ 8 → s' + k = s + m → S1.i 2 = nI s' → f_ty b k s' S1 = f_ty b m s (S.si 0 0) → X z 0 0 (MA M S1) 48 [some (.ref M.o), some (.long b), none, some (.int (nI m)), some (.int (nI k - 1))] [] := by
    intro k
    induction k with
    | zero =>
      intro s' S1 _ h1 h2 h3
      have e : f_ty b 0 s' S1 = S1 := rfl
      rw [← h3, e, ← h1] at E
      have e1 : (nI 0 - 1 : Int32) < 0 := by decide
      refine x_iload C dX7_type_48 rfl ?_
      refine x_if_lt (tgt := 90) C dX7_type_50 (by decide) (fun c50 => ?_) (fun c50 => absurd c50 (not_not_intro e1))
      refine x_aload_n C dX7_type_90 rfl ?_
      refine m_get C Y 2 (by decide) (by decide) wf_X7_104 dX7_type_91 ?_
      refine m_iret C E dX7_type_94 ?_
      exact ⟨by rw [h2]; rfl, rfl⟩
    | succ k ih =>
      intro s' S1 hk8 h1 h2 h3
      have ih2 := ih (s' + 1) _ (by omega) (by omega) rfl h3
      rw [nI_pred]
      refine x_iload C dX7_type_48 rfl ?_
      refine x_if_lt (tgt := 90) C dX7_type_50 (by decide) (fun c50 => absurd c50 (nI_pos (by omega))) (fun c50 => ?_)
      refine x_aload_n C dX7_type_53 rfl ?_
      refine m_getA C Y 1 (by decide) (by decide) wf_X7_7 dX7_type_54 ?_
      refine x_aload_n C dX7_type_57 rfl ?_
      refine m_get C Y 2 (by decide) (by decide) wf_X7_104 dX7_type_58 ?_
      refine x_lload_n C dX7_type_61 rfl ?_
      refine x_bipush (v := 8) C dX7_type_62 (by decide) ?_
      refine x_iload C dX7_type_64 rfl ?_
      refine x_imul C dX7_type_66 ?_
      refine x_lshr C dX7_type_67 ?_
      refine x_ldc2 C wk_X7_111 dX7_type_68 ?_
      refine x_land C dX7_type_71 ?_
      refine x_l2i C dX7_type_72 ?_
      refine m_istN C Y hW.2.1 1 (s') (by decide) dX7_type_73 h2 (by simp only [m_len]; omega) ?_
      refine x_aload_n C dX7_type_74 rfl ?_
      refine x_dup C dX7_type_75 rfl ?_
      refine m_get C Y 2 (by decide) (by decide) wf_X7_104 dX7_type_76 ?_
      rw [MS.sa_i, h2]
      refine x_iconst (v := 1) C dX7_type_79 (by decide) ?_
      refine x_iadd C dX7_type_80 ?_
      rw [nI_1]
      refine m_put C Y hW.2.1 2 (by decide) (by decide) rfl rfl rfl wf_X7_104 dX7_type_81 ?_
      refine x_iincE (v := nI k - 1) (L' := [some _, some _, none, some _, some _]) C dX7_type_84 rfl ((by rw [Int32.sub_eq_add_neg]; rfl)) (by rw [hn]; decide) rfl ?_
      refine x_goto (tgt := 48) C dX7_type_87 (by decide) ?_
      exact ih2
  refine x_aload_n C dX7_type_0 rfl ?_
  refine x_iload_n C dX7_type_1 rfl ?_
  refine x_iconst (v := 1) C dX7_type_2 (by decide) ?_
  refine x_bipush (v := 8) C dX7_type_3 (by decide) ?_
  refine m_callSF C hW E (s_in _ _ _) md_X7_in wt_X7_in wm_X7_100 dX7_type_5 rfl (by decide) (by decide) rfl (by simp [Value.category]) ?_
  refine x_iload_n C dX7_type_8 rfl ?_
  refine x_iconst (v := 1) C dX7_type_9 (by decide) ?_
  refine x_bipush (v := 8) C dX7_type_10 (by decide) ?_
  refine m_callSF C hW E (s_in _ _ _) md_X7_in wt_X7_in wm_X7_100 dX7_type_12 rfl (by decide) (by decide) rfl (by simp [Value.category]) ?_
  refine x_if_eq (tgt := 30) C dX7_type_15 (by decide) (fun c15 => absurd c15 b0) (fun c15 => ?_)
  refine x_aload_n C dX7_type_18 rfl ?_
  refine m_get C Y 2 (by decide) (by decide) wf_X7_104 dX7_type_19 ?_
  refine x_iload_n C dX7_type_22 rfl ?_
  refine x_iadd C dX7_type_23 ?_
  refine x_sipush (v := 300) C dX7_type_24 (by decide) ?_
  refine x_icmp_gt (tgt := 34) C dX7_type_27 (by decide) (fun c27 => absurd c27 i3) (fun c27 => ?_)
  refine x_iconst (v := 1) C dX7_type_30 (by decide) ?_
  refine x_goto (tgt := 35) C dX7_type_31 (by decide) ?_
  refine m_callF C Y hW E (hf) rfl md_X7_fails wi_X7_fails ws_X7_fails wm_X7_107 dX7_type_35 rfl (by decide) (by decide) rfl (by simp [Value.category]) ?_
  refine x_if_eq (tgt := 43) C dX7_type_38 (by decide) (fun c38 => ?_) (fun c38 => absurd c38 (not_not_intro rfl))
  refine x_iload_n C dX7_type_43 rfl ?_
  refine x_iconst (v := 1) C dX7_type_44 (by decide) ?_
  refine x_isub C dX7_type_45 ?_
  refine x_istoreE (L' := [some _, some _, none, some _, some _]) C dX7_type_46 (by rw [hn]; decide) rfl ?_
  exact LP m s _ hm.2 rfl hs rfl
/-- meter k is there -/
abbrev q_is (S : MS) (k : Int32) : Prop := (0 ≤ k ∧ k ≤ 11) ∧ ¬ S.a 10 k.toNatClampNeg = 0
abbrev q_page (S : MS) (k i : Int32) : Prop := q_is S k ∧ (0 ≤ i ∧ i ≤ 2)
theorem s_page_x (hW : Wm w M) (k i : Int32) (s : Nat) (hs : S.i 2 = nI s) (hs3 : s ≤ 300) (hp : ¬ (q_page S k i ∧ s ≤ 60)) : TF w M yX7_page cX7_page 4 (some .int) 2 [.int k, .int i] S (some (.int 0)) (S.si 0 (if ¬ q_page S k i then 1 else 2)) := by
  refine TM.intro hW rfl (Nat.le_of_ble_eq_true rfl) (fun z C Y E hn => ?_)
  have hf := s_fails (S := S) hW (q_page S k i) (s ≤ 60)
  rw [bI_t (p := ¬ (q_page S k i ∧ s ≤ 60)) hp] at hf
  have e2 : (if ¬ q_page S k i then (1 : Int32) else if ¬ s ≤ 60 then 2 else 0) = (if ¬ q_page S k i then 1 else 2) := by
    by_cases h1 : q_page S k i
    · rw [if_neg (not_not_intro h1), if_neg (not_not_intro h1), if_pos (fun q => hp ⟨h1, q⟩)]
    · rw [if_pos h1, if_pos h1]
  rw [e2] at hf
  have i6 : (60 : Int32) < S.i 2 ↔ ¬ s ≤ 60 := by rw [hs, show (60 : Int32) = nI 60 from rfl, nI_ltI (by decide) (by omega)]; omega
  have T23 : ∀ v : Int32, v = bI (q_page S k i) → X z 0 0 (MA M S) 23 [some (.ref M.o), some (.int k), some (.int i), none] [.int v, .ref M.o] := by
    intro v ev
    subst ev
    have T37 : ∀ u : Int32, u = bI (s ≤ 60) → X z 0 0 (MA M S) 37 [some (.ref M.o), some (.int k), some (.int i), none] [.int u, .int (bI (q_page S k i)), .ref M.o] := by
      intro u eu
      subst eu
      refine m_callF C Y hW E (hf) rfl md_X7_fails wi_X7_fails ws_X7_fails wm_X7_107 dX7_page_37 rfl (by decide) (by decide) rfl (by simp [Value.category]) ?_
      refine x_if_eq (tgt := 45) C dX7_page_40 (by decide) (fun c40 => absurd c40 (by decide)) (fun c40 => ?_)
      refine x_iconst (v := 0) C dX7_page_43 (by decide) ?_
      refine m_iret C E dX7_page_44 ?_
      exact ⟨rfl, rfl⟩
    refine x_aload_n C dX7_page_23 rfl ?_
    refine m_get C Y 2 (by decide) (by decide) wf_X7_104 dX7_page_24 ?_
    refine x_bipush (v := 60) C dX7_page_27 (by decide) ?_
    refine x_icmp_gt (tgt := 36) C dX7_page_29 (by decide) (fun c29 => ?_) (fun c29 => ?_)
    · skip
      refine x_iconst (v := 0) C dX7_page_36 (by decide) ?_
      first | exact T37 _ (bI_00 (i6.mp c29)) | exact T37 _ (bI_1 (Classical.not_not.mp (fun q => c29 (i6.mpr q))))
    · skip
      refine x_iconst (v := 1) C dX7_page_32 (by decide) ?_
      refine x_goto (tgt := 37) C dX7_page_33 (by decide) ?_
      first | exact T37 _ (bI_00 (i6.mp c29)) | exact T37 _ (bI_1 (Classical.not_not.mp (fun q => c29 (i6.mpr q))))
  refine x_aload_n C dX7_page_0 rfl ?_
  refine x_aload_n C dX7_page_1 rfl ?_
  refine x_iload_n C dX7_page_2 rfl ?_
  refine m_callF C Y hW E (s_isMeter hW _) rfl md_X7_isMeter wi_X7_isMeter ws_X7_isMeter wm_X7_118 dX7_page_3 rfl (by decide) (by decide) rfl (by simp [Value.category]) ?_
  refine x_if_eq (tgt := 22) C dX7_page_6 (by decide) (fun c6 => ?_) (fun c6 => ?_)
  · skip
    refine x_iconst (v := 0) C dX7_page_22 (by decide) ?_
    first | exact T23 _ (bI_00 (fun q => bI_0.mp c6 q.1)) | exact T23 _ (bI_00 (fun q => bI_0.mp c15 q.2)) | exact T23 _ (bI_1 ⟨bI_0n.mp c6, bI_0n.mp c15⟩)
  · skip
    refine x_iload_n C dX7_page_9 rfl ?_
    refine x_iconst (v := 0) C dX7_page_10 (by decide) ?_
    refine x_iconst (v := 2) C dX7_page_11 (by decide) ?_
    refine m_callSF C hW E (s_in _ _ _) md_X7_in wt_X7_in wm_X7_100 dX7_page_12 rfl (by decide) (by decide) rfl (by simp [Value.category]) ?_
    refine x_if_eq (tgt := 22) C dX7_page_15 (by decide) (fun c15 => ?_) (fun c15 => ?_)
    · skip
      refine x_iconst (v := 0) C dX7_page_22 (by decide) ?_
      first | exact T23 _ (bI_00 (fun q => bI_0.mp c6 q.1)) | exact T23 _ (bI_00 (fun q => bI_0.mp c15 q.2)) | exact T23 _ (bI_1 ⟨bI_0n.mp c6, bI_0n.mp c15⟩)
    · skip
      refine x_iconst (v := 1) C dX7_page_18 (by decide) ?_
      refine x_goto (tgt := 23) C dX7_page_19 (by decide) ?_
      first | exact T23 _ (bI_00 (fun q => bI_0.mp c6 q.1)) | exact T23 _ (bI_00 (fun q => bI_0.mp c15 q.2)) | exact T23 _ (bI_1 ⟨bI_0n.mp c6, bI_0n.mp c15⟩)
theorem s_page_t (hW : Wm w M) (k i s : Nat) (hk : k < 12) (hi : i < 3) (hth : ¬ S.a 10 k = 0) (hs : S.i 2 = nI s) (hs6 : s ≤ 60) : TF w M yX7_page cX7_page 4 (some .int) 2 [.int (nI k), .int (nI i)] S (some (.int (nI (f_pages (f_page S k i s) k)))) (f_page S k i s) := by
  refine TM.intro hW rfl (Nat.le_of_ble_eq_true rfl) (fun z C Y E hn => ?_)
  have hk1 : (0 : Int32) ≤ nI k ∧ nI k ≤ 11 := ⟨nI_pos' (by omega), nI_le (show k ≤ 11 by omega) (by decide)⟩
  have hi1 : (0 : Int32) ≤ nI i ∧ nI i ≤ 2 := ⟨nI_pos' (by omega), nI_le (show i ≤ 2 by omega) (by decide)⟩
  have hq : q_page S (nI k) (nI i) := ⟨⟨hk1, by rw [nI_clamp (by omega)]; exact hth⟩, hi1⟩
  have hf := s_fails (S := S) hW (q_page S (nI k) (nI i)) (s ≤ 60)
  rw [bI_t hq, bI_t hs6, bI_f (p := ¬ (q_page S (nI k) (nI i) ∧ s ≤ 60)) (not_not_intro ⟨hq, hs6⟩), if_neg (not_not_intro hq), if_neg (not_not_intro hs6)] at hf
  have i6 : ¬ (60 : Int32) < S.i 2 := by rw [hs]; exact nI_nlt (show s ≤ 60 by omega) (by decide)
  have eo : (60 : Int32) * (3 * nI k + nI i) = nI (60 * (3 * k + i)) := by simp only [nI_lit, nI_add, pk_mul]
  have e2 : ∀ b, (f_pcp (S.si 0 0) (60 * (3 * k + i)) b).i 2 = nI s := fun b => by rw [f_pcp_i]; exact hs
  have LP : ∀ (t b : Nat), b + t = s → X z 0 0 (MA M (f_pcp (S.si 0 0) (60 * (3 * k + i)) b)) 47 [some (.ref M.o), some (.int (nI k)), some (.int (nI i)), some (.int (nI b))] [] := by
    intro t
    induction t with
    | zero =>
      intro b hb
      obtain rfl : b = s := by omega
      refine x_iload_n C dX7_page_47 rfl ?_
      refine x_aload_n C dX7_page_48 rfl ?_
      refine m_get C Y 2 (by decide) (by decide) wf_X7_104 dX7_page_49 ?_
      rw [e2]
      refine x_icmp_ge (tgt := 82) C dX7_page_52 (by decide) (fun c52 => ?_) (fun c52 => absurd c52 (not_not_intro (Int32.le_refl _)))
      refine x_aload_n C dX7_page_82 rfl ?_
      refine m_getA C Y 17 (by decide) (by decide) wf_X7_41 dX7_page_83 ?_
      refine x_iconst (v := 3) C dX7_page_86 (by decide) ?_
      refine x_iload_n C dX7_page_87 rfl ?_
      refine x_imul C dX7_page_88 ?_
      refine x_iload_n C dX7_page_89 rfl ?_
      refine x_iadd C dX7_page_90 ?_
      refine x_aload_n C dX7_page_91 rfl ?_
      refine m_get C Y 2 (by decide) (by decide) wf_X7_104 dX7_page_92 ?_
      rw [e2]
      refine m_istN C Y hW.2.1 17 (3 * k + i) (by decide) dX7_page_95 (by simp only [nI_lit, nI_add, pk_mul]) (by simp only [m_len]; omega) ?_
      refine x_aload_n C dX7_page_96 rfl ?_
      refine x_iconst (v := 0) C dX7_page_97 (by decide) ?_
      refine m_put C Y hW.2.1 2 (by decide) (by decide) rfl rfl rfl wf_X7_104 dX7_page_98 ?_
      refine x_aload_n C dX7_page_101 rfl ?_
      refine x_iload_n C dX7_page_102 rfl ?_
      refine m_callF C Y hW E (s_pages hW k hk) rfl md_X7_pagesOf wi_X7_pagesOf ws_X7_pagesOf wm_X7_122 dX7_page_103 rfl (by decide) (by decide) rfl (by simp [Value.category]) ?_
      refine m_iret C E dX7_page_106 ?_
      exact ⟨rfl, rfl⟩
    | succ t ih =>
      intro b hb
      have ih2 := ih (b + 1) (by omega)
      refine x_iload_n C dX7_page_47 rfl ?_
      refine x_aload_n C dX7_page_48 rfl ?_
      refine m_get C Y 2 (by decide) (by decide) wf_X7_104 dX7_page_49 ?_
      rw [e2]
      refine x_icmp_ge (tgt := 82) C dX7_page_52 (by decide) (fun c52 => absurd c52 (nI_ge (show b < s by omega) (by omega))) (fun c52 => ?_)
      refine x_aload_n C dX7_page_55 rfl ?_
      refine m_getA C Y 18 (by decide) (by decide) wf_X7_44 dX7_page_56 ?_
      refine x_bipush (v := 60) C dX7_page_59 (by decide) ?_
      refine x_iconst (v := 3) C dX7_page_61 (by decide) ?_
      refine x_iload_n C dX7_page_62 rfl ?_
      refine x_imul C dX7_page_63 ?_
      refine x_iload_n C dX7_page_64 rfl ?_
      refine x_iadd C dX7_page_65 ?_
      refine x_imul C dX7_page_66 ?_
      rw [eo]
      refine x_iload_n C dX7_page_67 rfl ?_
      refine x_iadd C dX7_page_68 ?_
      refine x_aload_n C dX7_page_69 rfl ?_
      refine m_getA C Y 1 (by decide) (by decide) wf_X7_7 dX7_page_70 ?_
      refine x_iload_n C dX7_page_73 rfl ?_
      refine m_ildN C Y 1 (b) (by decide) dX7_page_74 (by simp only [nI_lit, nI_add, pk_mul]) (by simp only [m_len]; omega) ?_
      rw [f_pcp_a _ _ _ (by decide)]
      refine m_istN C Y hW.2.1 18 (60 * (3 * k + i) + b) (by decide) dX7_page_75 (by simp only [nI_lit, nI_add, pk_mul]) (by simp only [m_len]; omega) ?_
      refine x_iincE (v := nI (b + 1)) (L' := [some _, some _, some _, some _]) C dX7_page_76 rfl (nI_1 b) (by rw [hn]; decide) rfl ?_
      refine x_goto (tgt := 47) C dX7_page_79 (by decide) ?_
      exact ih2
  refine x_aload_n C dX7_page_0 rfl ?_
  refine x_aload_n C dX7_page_1 rfl ?_
  refine x_iload_n C dX7_page_2 rfl ?_
  refine m_callF C Y hW E (s_isMeter hW _) rfl md_X7_isMeter wi_X7_isMeter ws_X7_isMeter wm_X7_118 dX7_page_3 rfl (by decide) (by decide) rfl (by simp [Value.category]) ?_
  refine x_if_eq (tgt := 22) C dX7_page_6 (by decide) (fun c6 => absurd c6 (fun q => bI_0.mp q hq.1)) (fun c6 => ?_)
  refine x_iload_n C dX7_page_9 rfl ?_
  refine x_iconst (v := 0) C dX7_page_10 (by decide) ?_
  refine x_iconst (v := 2) C dX7_page_11 (by decide) ?_
  refine m_callSF C hW E (s_in _ _ _) md_X7_in wt_X7_in wm_X7_100 dX7_page_12 rfl (by decide) (by decide) rfl (by simp [Value.category]) ?_
  refine x_if_eq (tgt := 22) C dX7_page_15 (by decide) (fun c15 => absurd c15 (fun q => bI_0.mp q hq.2)) (fun c15 => ?_)
  refine x_iconst (v := 1) C dX7_page_18 (by decide) ?_
  refine x_goto (tgt := 23) C dX7_page_19 (by decide) ?_
  refine x_aload_n C dX7_page_23 rfl ?_
  refine m_get C Y 2 (by decide) (by decide) wf_X7_104 dX7_page_24 ?_
  refine x_bipush (v := 60) C dX7_page_27 (by decide) ?_
  refine x_icmp_gt (tgt := 36) C dX7_page_29 (by decide) (fun c29 => absurd c29 i6) (fun c29 => ?_)
  refine x_iconst (v := 1) C dX7_page_32 (by decide) ?_
  refine x_goto (tgt := 37) C dX7_page_33 (by decide) ?_
  refine m_callF C Y hW E (hf) rfl md_X7_fails wi_X7_fails ws_X7_fails wm_X7_107 dX7_page_37 rfl (by decide) (by decide) rfl (by simp [Value.category]) ?_
  refine x_if_eq (tgt := 45) C dX7_page_40 (by decide) (fun c40 => ?_) (fun c40 => absurd c40 (not_not_intro rfl))
  refine x_iconst (v := 0) C dX7_page_45 (by decide) ?_
  refine x_istore_nE (L' := [some _, some _, some _, some _]) C dX7_page_46 (by rw [hn]; decide) rfl ?_
  exact LP s 0 (by omega)
end TypeS
end
section
/-! MeterBusModel: state, count, meter. -/
def f_state (S : MS) (k x : Nat) : Int32 := match x with
  | 0 => 1
  | 1 => S.a 11 k
  | 2 => bI (¬ S.a 13 k = 0)
  | 3 => nI (f_pages S k)
  | 4 => if S.a 15 k < 0 then -1 else S.a 14 k
  | 5 => S.a 15 k
  | _ => S.a 16 k
section StateS
variable {w : Wd} {M : MW} {S : MS}
theorem s_state_f (hW : Wm w M) (k x : Int32) (hp : ¬ (((0 : Int32) ≤ k ∧ k ≤ 11) ∧ ((0 : Int32) ≤ x ∧ x ≤ 6))) : TF w M yX7_state cX7_state 3 (some .int) 1 [.int k, .int x] S (some (.int 0)) (S.si 0 1) := by
  refine TM.intro hW rfl (Nat.le_of_ble_eq_true rfl) (fun z C Y E hn => ?_)
  have hf := s_fails1 (S := S) hW (((0 : Int32) ≤ k ∧ k ≤ 11) ∧ ((0 : Int32) ≤ x ∧ x ≤ 6))
  rw [bI_f hp, bI_t hp] at hf
  refine x_aload_n C dX7_state_0 rfl ?_
  refine x_iload_n C dX7_state_1 rfl ?_
  refine x_iconst (v := 0) C dX7_state_2 (by decide) ?_
  refine x_bipush (v := 11) C dX7_state_3 (by decide) ?_
  refine m_callSF C hW E (s_in _ _ _) md_X7_in wt_X7_in wm_X7_100 dX7_state_5 rfl (by decide) (by decide) rfl (by simp [Value.category]) ?_
  refine x_if_eq (tgt := 25) C dX7_state_8 (by decide) (fun c8 => ?_) (fun c8 => ?_)
  · skip
    refine x_iconst (v := 0) C dX7_state_25 (by decide) ?_
    refine x_iconst (v := 1) C dX7_state_26 (by decide) ?_
    refine m_callF C Y hW E (hf) rfl md_X7_fails wi_X7_fails ws_X7_fails wm_X7_107 dX7_state_27 rfl (by decide) (by decide) rfl (by simp [Value.category]) ?_
    refine x_if_eq (tgt := 35) C dX7_state_30 (by decide) (fun c30 => absurd c30 (by decide)) (fun c30 => ?_)
    refine x_iconst (v := 0) C dX7_state_33 (by decide) ?_
    refine m_iret C E dX7_state_34 ?_
    exact ⟨rfl, rfl⟩
  · skip
    refine x_iload_n C dX7_state_11 rfl ?_
    refine x_iconst (v := 0) C dX7_state_12 (by decide) ?_
    refine x_bipush (v := 6) C dX7_state_13 (by decide) ?_
    refine m_callSF C hW E (s_in _ _ _) md_X7_in wt_X7_in wm_X7_100 dX7_state_15 rfl (by decide) (by decide) rfl (by simp [Value.category]) ?_
    refine x_if_eq (tgt := 25) C dX7_state_18 (by decide) (fun c18 => ?_) (fun c18 => ?_)
    · skip
      refine x_iconst (v := 0) C dX7_state_25 (by decide) ?_
      refine x_iconst (v := 1) C dX7_state_26 (by decide) ?_
      refine m_callF C Y hW E (hf) rfl md_X7_fails wi_X7_fails ws_X7_fails wm_X7_107 dX7_state_27 rfl (by decide) (by decide) rfl (by simp [Value.category]) ?_
      refine x_if_eq (tgt := 35) C dX7_state_30 (by decide) (fun c30 => absurd c30 (by decide)) (fun c30 => ?_)
      refine x_iconst (v := 0) C dX7_state_33 (by decide) ?_
      refine m_iret C E dX7_state_34 ?_
      exact ⟨rfl, rfl⟩
    · skip
      exact absurd ⟨bI_0n.mp c8, bI_0n.mp c18⟩ hp
theorem s_state_n (hW : Wm w M) (k : Nat) (hk : k < 12) (x : Int32) (hx1 : (0 : Int32) ≤ x ∧ x ≤ 6) (hth : S.a 10 k = 0) : TF w M yX7_state cX7_state 3 (some .int) 1 [.int (nI k), .int x] S (some (.int 0)) (S.si 0 0) := by
  refine TM.intro hW rfl (Nat.le_of_ble_eq_true rfl) (fun z C Y E hn => ?_)
  have hk1 : (0 : Int32) ≤ nI k ∧ nI k ≤ 11 := ⟨nI_pos' (by omega), nI_le (show k ≤ 11 by omega) (by decide)⟩
  have hf := s_fails1 (S := S) hW (((0 : Int32) ≤ nI k ∧ nI k ≤ 11) ∧ ((0 : Int32) ≤ x ∧ x ≤ 6))
  rw [bI_t (p := ((0 : Int32) ≤ nI k ∧ nI k ≤ 11) ∧ ((0 : Int32) ≤ x ∧ x ≤ 6)) ⟨hk1, hx1⟩, bI_f (p := ¬ (((0 : Int32) ≤ nI k ∧ nI k ≤ 11) ∧ ((0 : Int32) ≤ x ∧ x ≤ 6))) (not_not_intro ⟨hk1, hx1⟩)] at hf
  refine x_aload_n C dX7_state_0 rfl ?_
  refine x_iload_n C dX7_state_1 rfl ?_
  refine x_iconst (v := 0) C dX7_state_2 (by decide) ?_
  refine x_bipush (v := 11) C dX7_state_3 (by decide) ?_
  refine m_callSF C hW E (s_in _ _ _) md_X7_in wt_X7_in wm_X7_100 dX7_state_5 rfl (by decide) (by decide) rfl (by simp [Value.category]) ?_
  refine x_if_eq (tgt := 25) C dX7_state_8 (by decide) (fun c8 => absurd c8 (fun q => bI_0.mp q hk1)) (fun c8 => ?_)
  refine x_iload_n C dX7_state_11 rfl ?_
  refine x_iconst (v := 0) C dX7_state_12 (by decide) ?_
  refine x_bipush (v := 6) C dX7_state_13 (by decide) ?_
  refine m_callSF C hW E (s_in _ _ _) md_X7_in wt_X7_in wm_X7_100 dX7_state_15 rfl (by decide) (by decide) rfl (by simp [Value.category]) ?_
  refine x_if_eq (tgt := 25) C dX7_state_18 (by decide) (fun c18 => absurd c18 (fun q => bI_0.mp q hx1)) (fun c18 => ?_)
  refine x_iconst (v := 1) C dX7_state_21 (by decide) ?_
  refine x_goto (tgt := 26) C dX7_state_22 (by decide) ?_
  refine x_iconst (v := 1) C dX7_state_26 (by decide) ?_
  refine m_callF C Y hW E (hf) rfl md_X7_fails wi_X7_fails ws_X7_fails wm_X7_107 dX7_state_27 rfl (by decide) (by decide) rfl (by simp [Value.category]) ?_
  refine x_if_eq (tgt := 35) C dX7_state_30 (by decide) (fun c30 => ?_) (fun c30 => absurd c30 (not_not_intro rfl))
  refine x_aload_n C dX7_state_35 rfl ?_
  refine m_getA C Y 10 (by decide) (by decide) wf_X7_19 dX7_state_36 ?_
  refine x_iload_n C dX7_state_39 rfl ?_
  refine m_zldN C Y 10 (k) (by decide) dX7_state_40 (by simp only [nI_lit, nI_add, pk_mul]) (by simp only [m_len]; omega) ?_
  refine x_if_ne (tgt := 46) C dX7_state_41 (by decide) (fun c41 => absurd c41 (not_not_intro hth)) (fun c41 => ?_)
  refine x_iconst (v := 0) C dX7_state_44 (by decide) ?_
  refine m_iret C E dX7_state_45 ?_
  exact ⟨rfl, rfl⟩
theorem s_state_0 (hW : Wm w M) (k : Nat) (hk : k < 12) (hth : ¬ S.a 10 k = 0) : TF w M yX7_state cX7_state 3 (some .int) 1 [.int (nI k), .int (nI 0)] S (some (.int (f_state S k 0))) (S.si 0 0) := by
  refine TM.intro hW rfl (Nat.le_of_ble_eq_true rfl) (fun z C Y E hn => ?_)
  have hk1 : (0 : Int32) ≤ nI k ∧ nI k ≤ 11 := ⟨nI_pos' (by omega), nI_le (show k ≤ 11 by omega) (by decide)⟩
  have hx1 : (0 : Int32) ≤ nI 0 ∧ nI 0 ≤ 6 := by decide
  have hf := s_fails1 (S := S) hW (((0 : Int32) ≤ nI k ∧ nI k ≤ 11) ∧ ((0 : Int32) ≤ nI 0 ∧ nI 0 ≤ 6))
  rw [bI_t (p := ((0 : Int32) ≤ nI k ∧ nI k ≤ 11) ∧ ((0 : Int32) ≤ nI 0 ∧ nI 0 ≤ 6)) ⟨hk1, hx1⟩, bI_f (p := ¬ (((0 : Int32) ≤ nI k ∧ nI k ≤ 11) ∧ ((0 : Int32) ≤ nI 0 ∧ nI 0 ≤ 6))) (not_not_intro ⟨hk1, hx1⟩)] at hf
  refine x_aload_n C dX7_state_0 rfl ?_
  refine x_iload_n C dX7_state_1 rfl ?_
  refine x_iconst (v := 0) C dX7_state_2 (by decide) ?_
  refine x_bipush (v := 11) C dX7_state_3 (by decide) ?_
  refine m_callSF C hW E (s_in _ _ _) md_X7_in wt_X7_in wm_X7_100 dX7_state_5 rfl (by decide) (by decide) rfl (by simp [Value.category]) ?_
  refine x_if_eq (tgt := 25) C dX7_state_8 (by decide) (fun c8 => absurd c8 (fun q => bI_0.mp q hk1)) (fun c8 => ?_)
  refine x_iload_n C dX7_state_11 rfl ?_
  refine x_iconst (v := 0) C dX7_state_12 (by decide) ?_
  refine x_bipush (v := 6) C dX7_state_13 (by decide) ?_
  refine m_callSF C hW E (s_in _ _ _) md_X7_in wt_X7_in wm_X7_100 dX7_state_15 rfl (by decide) (by decide) rfl (by simp [Value.category]) ?_
  refine x_if_eq (tgt := 25) C dX7_state_18 (by decide) (fun c18 => absurd c18 (fun q => bI_0.mp q hx1)) (fun c18 => ?_)
  refine x_iconst (v := 1) C dX7_state_21 (by decide) ?_
  refine x_goto (tgt := 26) C dX7_state_22 (by decide) ?_
  refine x_iconst (v := 1) C dX7_state_26 (by decide) ?_
  refine m_callF C Y hW E (hf) rfl md_X7_fails wi_X7_fails ws_X7_fails wm_X7_107 dX7_state_27 rfl (by decide) (by decide) rfl (by simp [Value.category]) ?_
  refine x_if_eq (tgt := 35) C dX7_state_30 (by decide) (fun c30 => ?_) (fun c30 => absurd c30 (not_not_intro rfl))
  refine x_aload_n C dX7_state_35 rfl ?_
  refine m_getA C Y 10 (by decide) (by decide) wf_X7_19 dX7_state_36 ?_
  refine x_iload_n C dX7_state_39 rfl ?_
  refine m_zldN C Y 10 (k) (by decide) dX7_state_40 (by simp only [nI_lit, nI_add, pk_mul]) (by simp only [m_len]; omega) ?_
  refine x_if_ne (tgt := 46) C dX7_state_41 (by decide) (fun c41 => ?_) (fun c41 => absurd c41 (fun q => hth q))
  refine x_iload_n C dX7_state_46 rfl ?_
  refine x_tblIn (tgt := 84) (off := 37) C dX7_state_47 (by decide) (by decide) (by decide) (by decide) ?_
  refine x_iconst (v := 1) C dX7_state_84 (by decide) ?_
  refine m_iret C E dX7_state_85 ?_
  exact ⟨rfl, rfl⟩
theorem s_state_1 (hW : Wm w M) (k : Nat) (hk : k < 12) (hth : ¬ S.a 10 k = 0) : TF w M yX7_state cX7_state 3 (some .int) 1 [.int (nI k), .int (nI 1)] S (some (.int (f_state S k 1))) (S.si 0 0) := by
  refine TM.intro hW rfl (Nat.le_of_ble_eq_true rfl) (fun z C Y E hn => ?_)
  have hk1 : (0 : Int32) ≤ nI k ∧ nI k ≤ 11 := ⟨nI_pos' (by omega), nI_le (show k ≤ 11 by omega) (by decide)⟩
  have hx1 : (0 : Int32) ≤ nI 1 ∧ nI 1 ≤ 6 := by decide
  have hf := s_fails1 (S := S) hW (((0 : Int32) ≤ nI k ∧ nI k ≤ 11) ∧ ((0 : Int32) ≤ nI 1 ∧ nI 1 ≤ 6))
  rw [bI_t (p := ((0 : Int32) ≤ nI k ∧ nI k ≤ 11) ∧ ((0 : Int32) ≤ nI 1 ∧ nI 1 ≤ 6)) ⟨hk1, hx1⟩, bI_f (p := ¬ (((0 : Int32) ≤ nI k ∧ nI k ≤ 11) ∧ ((0 : Int32) ≤ nI 1 ∧ nI 1 ≤ 6))) (not_not_intro ⟨hk1, hx1⟩)] at hf
  refine x_aload_n C dX7_state_0 rfl ?_
  refine x_iload_n C dX7_state_1 rfl ?_
  refine x_iconst (v := 0) C dX7_state_2 (by decide) ?_
  refine x_bipush (v := 11) C dX7_state_3 (by decide) ?_
  refine m_callSF C hW E (s_in _ _ _) md_X7_in wt_X7_in wm_X7_100 dX7_state_5 rfl (by decide) (by decide) rfl (by simp [Value.category]) ?_
  refine x_if_eq (tgt := 25) C dX7_state_8 (by decide) (fun c8 => absurd c8 (fun q => bI_0.mp q hk1)) (fun c8 => ?_)
  refine x_iload_n C dX7_state_11 rfl ?_
  refine x_iconst (v := 0) C dX7_state_12 (by decide) ?_
  refine x_bipush (v := 6) C dX7_state_13 (by decide) ?_
  refine m_callSF C hW E (s_in _ _ _) md_X7_in wt_X7_in wm_X7_100 dX7_state_15 rfl (by decide) (by decide) rfl (by simp [Value.category]) ?_
  refine x_if_eq (tgt := 25) C dX7_state_18 (by decide) (fun c18 => absurd c18 (fun q => bI_0.mp q hx1)) (fun c18 => ?_)
  refine x_iconst (v := 1) C dX7_state_21 (by decide) ?_
  refine x_goto (tgt := 26) C dX7_state_22 (by decide) ?_
  refine x_iconst (v := 1) C dX7_state_26 (by decide) ?_
  refine m_callF C Y hW E (hf) rfl md_X7_fails wi_X7_fails ws_X7_fails wm_X7_107 dX7_state_27 rfl (by decide) (by decide) rfl (by simp [Value.category]) ?_
  refine x_if_eq (tgt := 35) C dX7_state_30 (by decide) (fun c30 => ?_) (fun c30 => absurd c30 (not_not_intro rfl))
  refine x_aload_n C dX7_state_35 rfl ?_
  refine m_getA C Y 10 (by decide) (by decide) wf_X7_19 dX7_state_36 ?_
  refine x_iload_n C dX7_state_39 rfl ?_
  refine m_zldN C Y 10 (k) (by decide) dX7_state_40 (by simp only [nI_lit, nI_add, pk_mul]) (by simp only [m_len]; omega) ?_
  refine x_if_ne (tgt := 46) C dX7_state_41 (by decide) (fun c41 => ?_) (fun c41 => absurd c41 (fun q => hth q))
  refine x_iload_n C dX7_state_46 rfl ?_
  refine x_tblIn (tgt := 86) (off := 39) C dX7_state_47 (by decide) (by decide) (by decide) (by decide) ?_
  refine x_aload_n C dX7_state_86 rfl ?_
  refine m_getA C Y 11 (by decide) (by decide) wf_X7_23 dX7_state_87 ?_
  refine x_iload_n C dX7_state_90 rfl ?_
  refine m_ildN C Y 11 (k) (by decide) dX7_state_91 (by simp only [nI_lit, nI_add, pk_mul]) (by simp only [m_len]; omega) ?_
  refine m_iret C E dX7_state_92 ?_
  exact ⟨rfl, rfl⟩
theorem s_state_2 (hW : Wm w M) (k : Nat) (hk : k < 12) (hth : ¬ S.a 10 k = 0) : TF w M yX7_state cX7_state 3 (some .int) 1 [.int (nI k), .int (nI 2)] S (some (.int (f_state S k 2))) (S.si 0 0) := by
  refine TM.intro hW rfl (Nat.le_of_ble_eq_true rfl) (fun z C Y E hn => ?_)
  have hk1 : (0 : Int32) ≤ nI k ∧ nI k ≤ 11 := ⟨nI_pos' (by omega), nI_le (show k ≤ 11 by omega) (by decide)⟩
  have hx1 : (0 : Int32) ≤ nI 2 ∧ nI 2 ≤ 6 := by decide
  have hf := s_fails1 (S := S) hW (((0 : Int32) ≤ nI k ∧ nI k ≤ 11) ∧ ((0 : Int32) ≤ nI 2 ∧ nI 2 ≤ 6))
  rw [bI_t (p := ((0 : Int32) ≤ nI k ∧ nI k ≤ 11) ∧ ((0 : Int32) ≤ nI 2 ∧ nI 2 ≤ 6)) ⟨hk1, hx1⟩, bI_f (p := ¬ (((0 : Int32) ≤ nI k ∧ nI k ≤ 11) ∧ ((0 : Int32) ≤ nI 2 ∧ nI 2 ≤ 6))) (not_not_intro ⟨hk1, hx1⟩)] at hf
  refine x_aload_n C dX7_state_0 rfl ?_
  refine x_iload_n C dX7_state_1 rfl ?_
  refine x_iconst (v := 0) C dX7_state_2 (by decide) ?_
  refine x_bipush (v := 11) C dX7_state_3 (by decide) ?_
  refine m_callSF C hW E (s_in _ _ _) md_X7_in wt_X7_in wm_X7_100 dX7_state_5 rfl (by decide) (by decide) rfl (by simp [Value.category]) ?_
  refine x_if_eq (tgt := 25) C dX7_state_8 (by decide) (fun c8 => absurd c8 (fun q => bI_0.mp q hk1)) (fun c8 => ?_)
  refine x_iload_n C dX7_state_11 rfl ?_
  refine x_iconst (v := 0) C dX7_state_12 (by decide) ?_
  refine x_bipush (v := 6) C dX7_state_13 (by decide) ?_
  refine m_callSF C hW E (s_in _ _ _) md_X7_in wt_X7_in wm_X7_100 dX7_state_15 rfl (by decide) (by decide) rfl (by simp [Value.category]) ?_
  refine x_if_eq (tgt := 25) C dX7_state_18 (by decide) (fun c18 => absurd c18 (fun q => bI_0.mp q hx1)) (fun c18 => ?_)
  refine x_iconst (v := 1) C dX7_state_21 (by decide) ?_
  refine x_goto (tgt := 26) C dX7_state_22 (by decide) ?_
  refine x_iconst (v := 1) C dX7_state_26 (by decide) ?_
  refine m_callF C Y hW E (hf) rfl md_X7_fails wi_X7_fails ws_X7_fails wm_X7_107 dX7_state_27 rfl (by decide) (by decide) rfl (by simp [Value.category]) ?_
  refine x_if_eq (tgt := 35) C dX7_state_30 (by decide) (fun c30 => ?_) (fun c30 => absurd c30 (not_not_intro rfl))
  refine x_aload_n C dX7_state_35 rfl ?_
  refine m_getA C Y 10 (by decide) (by decide) wf_X7_19 dX7_state_36 ?_
  refine x_iload_n C dX7_state_39 rfl ?_
  refine m_zldN C Y 10 (k) (by decide) dX7_state_40 (by simp only [nI_lit, nI_add, pk_mul]) (by simp only [m_len]; omega) ?_
  refine x_if_ne (tgt := 46) C dX7_state_41 (by decide) (fun c41 => ?_) (fun c41 => absurd c41 (fun q => hth q))
  refine x_iload_n C dX7_state_46 rfl ?_
  refine x_tblIn (tgt := 93) (off := 46) C dX7_state_47 (by decide) (by decide) (by decide) (by decide) ?_
  refine x_aload_n C dX7_state_93 rfl ?_
  refine m_getA C Y 13 (by decide) (by decide) wf_X7_29 dX7_state_94 ?_
  refine x_iload_n C dX7_state_97 rfl ?_
  refine m_zldN C Y 13 (k) (by decide) dX7_state_98 (by simp only [nI_lit, nI_add, pk_mul]) (by simp only [m_len]; omega) ?_
  refine x_if_eq (tgt := 106) C dX7_state_99 (by decide) (fun c99 => ?_) (fun c99 => ?_)
  · skip
    refine x_iconst (v := 0) C dX7_state_106 (by decide) ?_
    refine m_iret C E dX7_state_107 ?_
    first | exact ⟨bI_vf (not_not_intro c99), rfl⟩ | exact ⟨bI_vt c99, rfl⟩
  · skip
    refine x_iconst (v := 1) C dX7_state_102 (by decide) ?_
    refine x_goto (tgt := 107) C dX7_state_103 (by decide) ?_
    refine m_iret C E dX7_state_107 ?_
    first | exact ⟨bI_vf (not_not_intro c99), rfl⟩ | exact ⟨bI_vt c99, rfl⟩
theorem s_state_3 (hW : Wm w M) (k : Nat) (hk : k < 12) (hth : ¬ S.a 10 k = 0) : TF w M yX7_state cX7_state 3 (some .int) 1 [.int (nI k), .int (nI 3)] S (some (.int (f_state S k 3))) (S.si 0 0) := by
  refine TM.intro hW rfl (Nat.le_of_ble_eq_true rfl) (fun z C Y E hn => ?_)
  have hk1 : (0 : Int32) ≤ nI k ∧ nI k ≤ 11 := ⟨nI_pos' (by omega), nI_le (show k ≤ 11 by omega) (by decide)⟩
  have hx1 : (0 : Int32) ≤ nI 3 ∧ nI 3 ≤ 6 := by decide
  have hf := s_fails1 (S := S) hW (((0 : Int32) ≤ nI k ∧ nI k ≤ 11) ∧ ((0 : Int32) ≤ nI 3 ∧ nI 3 ≤ 6))
  rw [bI_t (p := ((0 : Int32) ≤ nI k ∧ nI k ≤ 11) ∧ ((0 : Int32) ≤ nI 3 ∧ nI 3 ≤ 6)) ⟨hk1, hx1⟩, bI_f (p := ¬ (((0 : Int32) ≤ nI k ∧ nI k ≤ 11) ∧ ((0 : Int32) ≤ nI 3 ∧ nI 3 ≤ 6))) (not_not_intro ⟨hk1, hx1⟩)] at hf
  refine x_aload_n C dX7_state_0 rfl ?_
  refine x_iload_n C dX7_state_1 rfl ?_
  refine x_iconst (v := 0) C dX7_state_2 (by decide) ?_
  refine x_bipush (v := 11) C dX7_state_3 (by decide) ?_
  refine m_callSF C hW E (s_in _ _ _) md_X7_in wt_X7_in wm_X7_100 dX7_state_5 rfl (by decide) (by decide) rfl (by simp [Value.category]) ?_
  refine x_if_eq (tgt := 25) C dX7_state_8 (by decide) (fun c8 => absurd c8 (fun q => bI_0.mp q hk1)) (fun c8 => ?_)
  refine x_iload_n C dX7_state_11 rfl ?_
  refine x_iconst (v := 0) C dX7_state_12 (by decide) ?_
  refine x_bipush (v := 6) C dX7_state_13 (by decide) ?_
  refine m_callSF C hW E (s_in _ _ _) md_X7_in wt_X7_in wm_X7_100 dX7_state_15 rfl (by decide) (by decide) rfl (by simp [Value.category]) ?_
  refine x_if_eq (tgt := 25) C dX7_state_18 (by decide) (fun c18 => absurd c18 (fun q => bI_0.mp q hx1)) (fun c18 => ?_)
  refine x_iconst (v := 1) C dX7_state_21 (by decide) ?_
  refine x_goto (tgt := 26) C dX7_state_22 (by decide) ?_
  refine x_iconst (v := 1) C dX7_state_26 (by decide) ?_
  refine m_callF C Y hW E (hf) rfl md_X7_fails wi_X7_fails ws_X7_fails wm_X7_107 dX7_state_27 rfl (by decide) (by decide) rfl (by simp [Value.category]) ?_
  refine x_if_eq (tgt := 35) C dX7_state_30 (by decide) (fun c30 => ?_) (fun c30 => absurd c30 (not_not_intro rfl))
  refine x_aload_n C dX7_state_35 rfl ?_
  refine m_getA C Y 10 (by decide) (by decide) wf_X7_19 dX7_state_36 ?_
  refine x_iload_n C dX7_state_39 rfl ?_
  refine m_zldN C Y 10 (k) (by decide) dX7_state_40 (by simp only [nI_lit, nI_add, pk_mul]) (by simp only [m_len]; omega) ?_
  refine x_if_ne (tgt := 46) C dX7_state_41 (by decide) (fun c41 => ?_) (fun c41 => absurd c41 (fun q => hth q))
  refine x_iload_n C dX7_state_46 rfl ?_
  refine x_tblIn (tgt := 108) (off := 61) C dX7_state_47 (by decide) (by decide) (by decide) (by decide) ?_
  refine x_aload_n C dX7_state_108 rfl ?_
  refine x_iload_n C dX7_state_109 rfl ?_
  refine m_callF C Y hW E (s_pages hW k hk) rfl md_X7_pagesOf wi_X7_pagesOf ws_X7_pagesOf wm_X7_122 dX7_state_110 rfl (by decide) (by decide) rfl (by simp [Value.category]) ?_
  refine m_iret C E dX7_state_113 ?_
  exact ⟨rfl, rfl⟩
theorem s_state_4 (hW : Wm w M) (k : Nat) (hk : k < 12) (hth : ¬ S.a 10 k = 0) : TF w M yX7_state cX7_state 3 (some .int) 1 [.int (nI k), .int (nI 4)] S (some (.int (f_state S k 4))) (S.si 0 0) := by
  refine TM.intro hW rfl (Nat.le_of_ble_eq_true rfl) (fun z C Y E hn => ?_)
  have hk1 : (0 : Int32) ≤ nI k ∧ nI k ≤ 11 := ⟨nI_pos' (by omega), nI_le (show k ≤ 11 by omega) (by decide)⟩
  have hx1 : (0 : Int32) ≤ nI 4 ∧ nI 4 ≤ 6 := by decide
  have hf := s_fails1 (S := S) hW (((0 : Int32) ≤ nI k ∧ nI k ≤ 11) ∧ ((0 : Int32) ≤ nI 4 ∧ nI 4 ≤ 6))
  rw [bI_t (p := ((0 : Int32) ≤ nI k ∧ nI k ≤ 11) ∧ ((0 : Int32) ≤ nI 4 ∧ nI 4 ≤ 6)) ⟨hk1, hx1⟩, bI_f (p := ¬ (((0 : Int32) ≤ nI k ∧ nI k ≤ 11) ∧ ((0 : Int32) ≤ nI 4 ∧ nI 4 ≤ 6))) (not_not_intro ⟨hk1, hx1⟩)] at hf
  refine x_aload_n C dX7_state_0 rfl ?_
  refine x_iload_n C dX7_state_1 rfl ?_
  refine x_iconst (v := 0) C dX7_state_2 (by decide) ?_
  refine x_bipush (v := 11) C dX7_state_3 (by decide) ?_
  refine m_callSF C hW E (s_in _ _ _) md_X7_in wt_X7_in wm_X7_100 dX7_state_5 rfl (by decide) (by decide) rfl (by simp [Value.category]) ?_
  refine x_if_eq (tgt := 25) C dX7_state_8 (by decide) (fun c8 => absurd c8 (fun q => bI_0.mp q hk1)) (fun c8 => ?_)
  refine x_iload_n C dX7_state_11 rfl ?_
  refine x_iconst (v := 0) C dX7_state_12 (by decide) ?_
  refine x_bipush (v := 6) C dX7_state_13 (by decide) ?_
  refine m_callSF C hW E (s_in _ _ _) md_X7_in wt_X7_in wm_X7_100 dX7_state_15 rfl (by decide) (by decide) rfl (by simp [Value.category]) ?_
  refine x_if_eq (tgt := 25) C dX7_state_18 (by decide) (fun c18 => absurd c18 (fun q => bI_0.mp q hx1)) (fun c18 => ?_)
  refine x_iconst (v := 1) C dX7_state_21 (by decide) ?_
  refine x_goto (tgt := 26) C dX7_state_22 (by decide) ?_
  refine x_iconst (v := 1) C dX7_state_26 (by decide) ?_
  refine m_callF C Y hW E (hf) rfl md_X7_fails wi_X7_fails ws_X7_fails wm_X7_107 dX7_state_27 rfl (by decide) (by decide) rfl (by simp [Value.category]) ?_
  refine x_if_eq (tgt := 35) C dX7_state_30 (by decide) (fun c30 => ?_) (fun c30 => absurd c30 (not_not_intro rfl))
  refine x_aload_n C dX7_state_35 rfl ?_
  refine m_getA C Y 10 (by decide) (by decide) wf_X7_19 dX7_state_36 ?_
  refine x_iload_n C dX7_state_39 rfl ?_
  refine m_zldN C Y 10 (k) (by decide) dX7_state_40 (by simp only [nI_lit, nI_add, pk_mul]) (by simp only [m_len]; omega) ?_
  refine x_if_ne (tgt := 46) C dX7_state_41 (by decide) (fun c41 => ?_) (fun c41 => absurd c41 (fun q => hth q))
  refine x_iload_n C dX7_state_46 rfl ?_
  refine x_tblIn (tgt := 114) (off := 67) C dX7_state_47 (by decide) (by decide) (by decide) (by decide) ?_
  refine x_aload_n C dX7_state_114 rfl ?_
  refine m_getA C Y 15 (by decide) (by decide) wf_X7_35 dX7_state_115 ?_
  refine x_iload_n C dX7_state_118 rfl ?_
  refine m_ildN C Y 15 (k) (by decide) dX7_state_119 (by simp only [nI_lit, nI_add, pk_mul]) (by simp only [m_len]; omega) ?_
  refine x_if_ge (tgt := 127) C dX7_state_120 (by decide) (fun c120 => ?_) (fun c120 => ?_)
  · skip
    refine x_aload_n C dX7_state_127 rfl ?_
    refine m_getA C Y 14 (by decide) (by decide) wf_X7_32 dX7_state_128 ?_
    refine x_iload_n C dX7_state_131 rfl ?_
    refine m_ildN C Y 14 (k) (by decide) dX7_state_132 (by simp only [nI_lit, nI_add, pk_mul]) (by simp only [m_len]; omega) ?_
    refine m_iret C E dX7_state_133 ?_
    first | exact ⟨congrArg (fun t => some (Value.int t)) (if_neg (Int32.not_lt.mpr c120)).symm, rfl⟩ | exact ⟨congrArg (fun t => some (Value.int t)) (if_pos (Int32.not_le.mp c120)).symm, rfl⟩
  · skip
    refine x_iconst (v := (-1)) C dX7_state_123 (by decide) ?_
    refine x_goto (tgt := 133) C dX7_state_124 (by decide) ?_
    refine m_iret C E dX7_state_133 ?_
    first | exact ⟨congrArg (fun t => some (Value.int t)) (if_neg (Int32.not_lt.mpr c120)).symm, rfl⟩ | exact ⟨congrArg (fun t => some (Value.int t)) (if_pos (Int32.not_le.mp c120)).symm, rfl⟩
theorem s_state_5 (hW : Wm w M) (k : Nat) (hk : k < 12) (hth : ¬ S.a 10 k = 0) : TF w M yX7_state cX7_state 3 (some .int) 1 [.int (nI k), .int (nI 5)] S (some (.int (f_state S k 5))) (S.si 0 0) := by
  refine TM.intro hW rfl (Nat.le_of_ble_eq_true rfl) (fun z C Y E hn => ?_)
  have hk1 : (0 : Int32) ≤ nI k ∧ nI k ≤ 11 := ⟨nI_pos' (by omega), nI_le (show k ≤ 11 by omega) (by decide)⟩
  have hx1 : (0 : Int32) ≤ nI 5 ∧ nI 5 ≤ 6 := by decide
  have hf := s_fails1 (S := S) hW (((0 : Int32) ≤ nI k ∧ nI k ≤ 11) ∧ ((0 : Int32) ≤ nI 5 ∧ nI 5 ≤ 6))
  rw [bI_t (p := ((0 : Int32) ≤ nI k ∧ nI k ≤ 11) ∧ ((0 : Int32) ≤ nI 5 ∧ nI 5 ≤ 6)) ⟨hk1, hx1⟩, bI_f (p := ¬ (((0 : Int32) ≤ nI k ∧ nI k ≤ 11) ∧ ((0 : Int32) ≤ nI 5 ∧ nI 5 ≤ 6))) (not_not_intro ⟨hk1, hx1⟩)] at hf
  refine x_aload_n C dX7_state_0 rfl ?_
  refine x_iload_n C dX7_state_1 rfl ?_
  refine x_iconst (v := 0) C dX7_state_2 (by decide) ?_
  refine x_bipush (v := 11) C dX7_state_3 (by decide) ?_
  refine m_callSF C hW E (s_in _ _ _) md_X7_in wt_X7_in wm_X7_100 dX7_state_5 rfl (by decide) (by decide) rfl (by simp [Value.category]) ?_
  refine x_if_eq (tgt := 25) C dX7_state_8 (by decide) (fun c8 => absurd c8 (fun q => bI_0.mp q hk1)) (fun c8 => ?_)
  refine x_iload_n C dX7_state_11 rfl ?_
  refine x_iconst (v := 0) C dX7_state_12 (by decide) ?_
  refine x_bipush (v := 6) C dX7_state_13 (by decide) ?_
  refine m_callSF C hW E (s_in _ _ _) md_X7_in wt_X7_in wm_X7_100 dX7_state_15 rfl (by decide) (by decide) rfl (by simp [Value.category]) ?_
  refine x_if_eq (tgt := 25) C dX7_state_18 (by decide) (fun c18 => absurd c18 (fun q => bI_0.mp q hx1)) (fun c18 => ?_)
  refine x_iconst (v := 1) C dX7_state_21 (by decide) ?_
  refine x_goto (tgt := 26) C dX7_state_22 (by decide) ?_
  refine x_iconst (v := 1) C dX7_state_26 (by decide) ?_
  refine m_callF C Y hW E (hf) rfl md_X7_fails wi_X7_fails ws_X7_fails wm_X7_107 dX7_state_27 rfl (by decide) (by decide) rfl (by simp [Value.category]) ?_
  refine x_if_eq (tgt := 35) C dX7_state_30 (by decide) (fun c30 => ?_) (fun c30 => absurd c30 (not_not_intro rfl))
  refine x_aload_n C dX7_state_35 rfl ?_
  refine m_getA C Y 10 (by decide) (by decide) wf_X7_19 dX7_state_36 ?_
  refine x_iload_n C dX7_state_39 rfl ?_
  refine m_zldN C Y 10 (k) (by decide) dX7_state_40 (by simp only [nI_lit, nI_add, pk_mul]) (by simp only [m_len]; omega) ?_
  refine x_if_ne (tgt := 46) C dX7_state_41 (by decide) (fun c41 => ?_) (fun c41 => absurd c41 (fun q => hth q))
  refine x_iload_n C dX7_state_46 rfl ?_
  refine x_tblIn (tgt := 134) (off := 87) C dX7_state_47 (by decide) (by decide) (by decide) (by decide) ?_
  refine x_aload_n C dX7_state_134 rfl ?_
  refine m_getA C Y 15 (by decide) (by decide) wf_X7_35 dX7_state_135 ?_
  refine x_iload_n C dX7_state_138 rfl ?_
  refine m_ildN C Y 15 (k) (by decide) dX7_state_139 (by simp only [nI_lit, nI_add, pk_mul]) (by simp only [m_len]; omega) ?_
  refine m_iret C E dX7_state_140 ?_
  exact ⟨rfl, rfl⟩
theorem s_state_6 (hW : Wm w M) (k : Nat) (hk : k < 12) (hth : ¬ S.a 10 k = 0) : TF w M yX7_state cX7_state 3 (some .int) 1 [.int (nI k), .int (nI 6)] S (some (.int (f_state S k 6))) (S.si 0 0) := by
  refine TM.intro hW rfl (Nat.le_of_ble_eq_true rfl) (fun z C Y E hn => ?_)
  have hk1 : (0 : Int32) ≤ nI k ∧ nI k ≤ 11 := ⟨nI_pos' (by omega), nI_le (show k ≤ 11 by omega) (by decide)⟩
  have hx1 : (0 : Int32) ≤ nI 6 ∧ nI 6 ≤ 6 := by decide
  have hf := s_fails1 (S := S) hW (((0 : Int32) ≤ nI k ∧ nI k ≤ 11) ∧ ((0 : Int32) ≤ nI 6 ∧ nI 6 ≤ 6))
  rw [bI_t (p := ((0 : Int32) ≤ nI k ∧ nI k ≤ 11) ∧ ((0 : Int32) ≤ nI 6 ∧ nI 6 ≤ 6)) ⟨hk1, hx1⟩, bI_f (p := ¬ (((0 : Int32) ≤ nI k ∧ nI k ≤ 11) ∧ ((0 : Int32) ≤ nI 6 ∧ nI 6 ≤ 6))) (not_not_intro ⟨hk1, hx1⟩)] at hf
  refine x_aload_n C dX7_state_0 rfl ?_
  refine x_iload_n C dX7_state_1 rfl ?_
  refine x_iconst (v := 0) C dX7_state_2 (by decide) ?_
  refine x_bipush (v := 11) C dX7_state_3 (by decide) ?_
  refine m_callSF C hW E (s_in _ _ _) md_X7_in wt_X7_in wm_X7_100 dX7_state_5 rfl (by decide) (by decide) rfl (by simp [Value.category]) ?_
  refine x_if_eq (tgt := 25) C dX7_state_8 (by decide) (fun c8 => absurd c8 (fun q => bI_0.mp q hk1)) (fun c8 => ?_)
  refine x_iload_n C dX7_state_11 rfl ?_
  refine x_iconst (v := 0) C dX7_state_12 (by decide) ?_
  refine x_bipush (v := 6) C dX7_state_13 (by decide) ?_
  refine m_callSF C hW E (s_in _ _ _) md_X7_in wt_X7_in wm_X7_100 dX7_state_15 rfl (by decide) (by decide) rfl (by simp [Value.category]) ?_
  refine x_if_eq (tgt := 25) C dX7_state_18 (by decide) (fun c18 => absurd c18 (fun q => bI_0.mp q hx1)) (fun c18 => ?_)
  refine x_iconst (v := 1) C dX7_state_21 (by decide) ?_
  refine x_goto (tgt := 26) C dX7_state_22 (by decide) ?_
  refine x_iconst (v := 1) C dX7_state_26 (by decide) ?_
  refine m_callF C Y hW E (hf) rfl md_X7_fails wi_X7_fails ws_X7_fails wm_X7_107 dX7_state_27 rfl (by decide) (by decide) rfl (by simp [Value.category]) ?_
  refine x_if_eq (tgt := 35) C dX7_state_30 (by decide) (fun c30 => ?_) (fun c30 => absurd c30 (not_not_intro rfl))
  refine x_aload_n C dX7_state_35 rfl ?_
  refine m_getA C Y 10 (by decide) (by decide) wf_X7_19 dX7_state_36 ?_
  refine x_iload_n C dX7_state_39 rfl ?_
  refine m_zldN C Y 10 (k) (by decide) dX7_state_40 (by simp only [nI_lit, nI_add, pk_mul]) (by simp only [m_len]; omega) ?_
  refine x_if_ne (tgt := 46) C dX7_state_41 (by decide) (fun c41 => ?_) (fun c41 => absurd c41 (fun q => hth q))
  refine x_iload_n C dX7_state_46 rfl ?_
  refine x_tblOut (tgt := 141) C dX7_state_47 (by decide) (by decide) ?_
  refine x_aload_n C dX7_state_141 rfl ?_
  refine m_getA C Y 16 (by decide) (by decide) wf_X7_38 dX7_state_142 ?_
  refine x_iload_n C dX7_state_145 rfl ?_
  refine m_ildN C Y 16 (k) (by decide) dX7_state_146 (by simp only [nI_lit, nI_add, pk_mul]) (by simp only [m_len]; omega) ?_
  refine m_iret C E dX7_state_147 ?_
  exact ⟨rfl, rfl⟩

def f_count (S : MS) (x : Int32) : Int32 := if x = 0 then f_cnt S 12 else if x = 1 then S.i 2 else if x = 2 then S.i 20 else if x = 3 then S.i 23 else if x = 4 then S.i 8 else S.i 9
theorem s_count_f (hW : Wm w M) (x : Int32) (hp : ¬ ((0 : Int32) ≤ x ∧ x ≤ 5)) : TF w M yX7_count cX7_count 4 (some .int) 1 [.int x] S (some (.int 0)) (S.si 0 1) := by
  refine TM.intro hW rfl (Nat.le_of_ble_eq_true rfl) (fun z C Y E hn => ?_)
  have hf := s_fails1 (S := S) hW ((0 : Int32) ≤ x ∧ x ≤ 5)
  rw [bI_t hp] at hf
  refine x_aload_n C dX7_count_0 rfl ?_
  refine x_iload_n C dX7_count_1 rfl ?_
  refine x_iconst (v := 0) C dX7_count_2 (by decide) ?_
  refine x_iconst (v := 5) C dX7_count_3 (by decide) ?_
  refine m_callSF C hW E (s_in _ _ _) md_X7_in wt_X7_in wm_X7_100 dX7_count_4 rfl (by decide) (by decide) rfl (by simp [Value.category]) ?_
  refine x_iconst (v := 1) C dX7_count_7 (by decide) ?_
  refine m_callF C Y hW E (hf) rfl md_X7_fails wi_X7_fails ws_X7_fails wm_X7_107 dX7_count_8 rfl (by decide) (by decide) rfl (by simp [Value.category]) ?_
  refine x_if_eq (tgt := 16) C dX7_count_11 (by decide) (fun c11 => absurd c11 (by decide)) (fun c11 => ?_)
  refine x_iconst (v := 0) C dX7_count_14 (by decide) ?_
  refine m_iret C E dX7_count_15 ?_
  exact ⟨rfl, rfl⟩
theorem s_count_t (hW : Wm w M) (x : Int32) (hp : (0 : Int32) ≤ x ∧ x ≤ 5) : TF w M yX7_count cX7_count 4 (some .int) 1 [.int x] S (some (.int (f_count S x))) (S.si 0 0) := by
  refine TM.intro hW rfl (Nat.le_of_ble_eq_true rfl) (fun z C Y E hn => ?_)
  have hf := s_fails1 (S := S) hW ((0 : Int32) ≤ x ∧ x ≤ 5)
  rw [bI_f (not_not_intro hp)] at hf
  have LP : ∀ (t b : Nat), b + t = 12 → X z 0 0 (MA M (S.si 0 0)) 20 [some (.ref M.o), some (.int x), some (.int (f_cnt S b)), some (.int (nI b))] [] := by
    intro t
    induction t with
    | zero =>
      intro b hb
      obtain rfl : b = 12 := by omega
      refine x_iload_n C dX7_count_20 rfl ?_
      refine x_bipush (v := 12) C dX7_count_21 (by decide) ?_
      refine x_icmp_ge (tgt := 49) C dX7_count_23 (by decide) (fun c23 => ?_) (fun c23 => absurd c23 (by decide))
      refine x_iload_n C dX7_count_49 rfl ?_
      refine x_if_ne (tgt := 57) C dX7_count_50 (by decide) (fun c50 => ?_) (fun c50 => ?_)
      · skip
        refine x_iload_n C dX7_count_57 rfl ?_
        refine x_iconst (v := 1) C dX7_count_58 (by decide) ?_
        refine x_icmp_ne (tgt := 69) C dX7_count_59 (by decide) (fun c59 => ?_) (fun c59 => ?_)
        · skip
          refine x_iload_n C dX7_count_69 rfl ?_
          refine x_iconst (v := 2) C dX7_count_70 (by decide) ?_
          refine x_icmp_ne (tgt := 81) C dX7_count_71 (by decide) (fun c71 => ?_) (fun c71 => ?_)
          · skip
            refine x_iload_n C dX7_count_81 rfl ?_
            refine x_iconst (v := 3) C dX7_count_82 (by decide) ?_
            refine x_icmp_ne (tgt := 93) C dX7_count_83 (by decide) (fun c83 => ?_) (fun c83 => ?_)
            · skip
              refine x_iload_n C dX7_count_93 rfl ?_
              refine x_iconst (v := 4) C dX7_count_94 (by decide) ?_
              refine x_icmp_ne (tgt := 105) C dX7_count_95 (by decide) (fun c95 => ?_) (fun c95 => ?_)
              · skip
                refine x_aload_n C dX7_count_105 rfl ?_
                refine m_get C Y 9 (by decide) (by decide) wf_X7_156 dX7_count_106 ?_
                refine m_iret C E dX7_count_109 ?_
                refine ⟨congrArg (fun t => some (Value.int t)) ?_, rfl⟩; clear E C Y hf; unfold f_count; simp_all [MS.si_i]
              · skip
                refine x_aload_n C dX7_count_98 rfl ?_
                refine m_get C Y 8 (by decide) (by decide) wf_X7_129 dX7_count_99 ?_
                refine x_goto (tgt := 109) C dX7_count_102 (by decide) ?_
                refine m_iret C E dX7_count_109 ?_
                refine ⟨congrArg (fun t => some (Value.int t)) ?_, rfl⟩; clear E C Y hf; unfold f_count; simp_all [MS.si_i]
            · skip
              refine x_aload_n C dX7_count_86 rfl ?_
              refine m_get C Y 23 (by decide) (by decide) wf_X7_190 dX7_count_87 ?_
              refine x_goto (tgt := 109) C dX7_count_90 (by decide) ?_
              refine m_iret C E dX7_count_109 ?_
              refine ⟨congrArg (fun t => some (Value.int t)) ?_, rfl⟩; clear E C Y hf; unfold f_count; simp_all [MS.si_i]
          · skip
            refine x_aload_n C dX7_count_74 rfl ?_
            refine m_get C Y 20 (by decide) (by decide) wf_X7_175 dX7_count_75 ?_
            refine x_goto (tgt := 109) C dX7_count_78 (by decide) ?_
            refine m_iret C E dX7_count_109 ?_
            refine ⟨congrArg (fun t => some (Value.int t)) ?_, rfl⟩; clear E C Y hf; unfold f_count; simp_all [MS.si_i]
        · skip
          refine x_aload_n C dX7_count_62 rfl ?_
          refine m_get C Y 2 (by decide) (by decide) wf_X7_104 dX7_count_63 ?_
          refine x_goto (tgt := 109) C dX7_count_66 (by decide) ?_
          refine m_iret C E dX7_count_109 ?_
          refine ⟨congrArg (fun t => some (Value.int t)) ?_, rfl⟩; clear E C Y hf; unfold f_count; simp_all [MS.si_i]
      · skip
        refine x_iload_n C dX7_count_53 rfl ?_
        refine x_goto (tgt := 109) C dX7_count_54 (by decide) ?_
        refine m_iret C E dX7_count_109 ?_
        refine ⟨congrArg (fun t => some (Value.int t)) ?_, rfl⟩; clear E C Y hf; unfold f_count; simp_all [MS.si_i]
    | succ t ih =>
      intro b hb
      have ih2 := ih (b + 1) (by omega)
      have T41 : ∀ v : Int32, v = bI (¬ S.a 10 b = 0) → X z 0 0 (MA M (S.si 0 0)) 41 [some (.ref M.o), some (.int x), some (.int (f_cnt S b)), some (.int (nI b))] [.int v, .int (f_cnt S b)] := by
        intro v ev
        subst ev
        refine x_iadd C dX7_count_41 ?_
        refine x_istore_nE (L' := [some _, some _, some _, some _]) C dX7_count_42 (by rw [hn]; decide) rfl ?_
        refine x_iincE (v := nI (b + 1)) (L' := [some _, some _, some _, some _]) C dX7_count_43 rfl (nI_1 b) (by rw [hn]; decide) rfl ?_
        refine x_goto (tgt := 20) C dX7_count_46 (by decide) ?_
        exact ih2
      refine x_iload_n C dX7_count_20 rfl ?_
      refine x_bipush (v := 12) C dX7_count_21 (by decide) ?_
      refine x_icmp_ge (tgt := 49) C dX7_count_23 (by decide) (fun c23 => absurd c23 (by rw [nI_lit]; exact nI_ge (show b < 12 by omega) (by decide))) (fun c23 => ?_)
      refine x_iload_n C dX7_count_26 rfl ?_
      refine x_aload_n C dX7_count_27 rfl ?_
      refine m_getA C Y 10 (by decide) (by decide) wf_X7_19 dX7_count_28 ?_
      refine x_iload_n C dX7_count_31 rfl ?_
      refine m_zldN C Y 10 (b) (by decide) dX7_count_32 (by simp only [nI_lit, nI_add, pk_mul]) (by simp only [m_len]; omega) ?_
      refine x_if_eq (tgt := 40) C dX7_count_33 (by decide) (fun c33 => ?_) (fun c33 => ?_)
      · skip
        refine x_iconst (v := 0) C dX7_count_40 (by decide) ?_
        first | exact T41 _ (bI_00 (not_not_intro c33)) | exact T41 _ (bI_1 c33)
      · skip
        refine x_iconst (v := 1) C dX7_count_36 (by decide) ?_
        refine x_goto (tgt := 41) C dX7_count_37 (by decide) ?_
        first | exact T41 _ (bI_00 (not_not_intro c33)) | exact T41 _ (bI_1 c33)
  refine x_aload_n C dX7_count_0 rfl ?_
  refine x_iload_n C dX7_count_1 rfl ?_
  refine x_iconst (v := 0) C dX7_count_2 (by decide) ?_
  refine x_iconst (v := 5) C dX7_count_3 (by decide) ?_
  refine m_callSF C hW E (s_in _ _ _) md_X7_in wt_X7_in wm_X7_100 dX7_count_4 rfl (by decide) (by decide) rfl (by simp [Value.category]) ?_
  refine x_iconst (v := 1) C dX7_count_7 (by decide) ?_
  refine m_callF C Y hW E (hf) rfl md_X7_fails wi_X7_fails ws_X7_fails wm_X7_107 dX7_count_8 rfl (by decide) (by decide) rfl (by simp [Value.category]) ?_
  refine x_if_eq (tgt := 16) C dX7_count_11 (by decide) (fun c11 => ?_) (fun c11 => absurd c11 (not_not_intro rfl))
  refine x_iconst (v := 0) C dX7_count_16 (by decide) ?_
  refine x_istore_nE (L' := [some _, some _, some _, none]) C dX7_count_17 (by rw [hn]; decide) rfl ?_
  refine x_iconst (v := 0) C dX7_count_18 (by decide) ?_
  refine x_istore_nE (L' := [some _, some _, some _, some _]) C dX7_count_19 (by rw [hn]; decide) rfl ?_
  exact LP 12 0 rfl
def f_byte (b : Nat) (ident maker version medium : Int32) : Int32 := if b < 4 then (ident >>> (((8 : Int32) * nI b) &&& 31)) &&& 255 else if b = 4 then maker &&& 255 else if b = 5 then maker >>> ((8 : Int32) &&& 31) else if b = 6 then version else medium
theorem s_byteOf (b : Nat) (hb : b < 8) (i m v d : Int32) : TSt w yX7_byteOf cX7_byteOf 5 (some .int) 0 [.int (nI b), .int i, .int m, .int v, .int d] (some (.int (f_byte b i m v d))) := by
  refine TSt.intro rfl (Nat.le_of_ble_eq_true rfl) (fun z A C E hn => ?_)
  have i4 : 4 ≤ nI b ↔ ¬ b < 4 := by rw [show (4 : Int32) = nI 4 from rfl, nI_leI (by omega) (by omega)]; omega
  have e4 : nI b = 4 ↔ b = 4 := by rw [show (4 : Int32) = nI 4 from rfl, nI_eq (by omega) (by omega)]
  have e5 : nI b = 5 ↔ b = 5 := by rw [show (5 : Int32) = nI 5 from rfl, nI_eq (by omega) (by omega)]
  have e6 : nI b = 6 ↔ b = 6 := by rw [show (6 : Int32) = nI 6 from rfl, nI_eq (by omega) (by omega)]
  refine x_iload_n C dX7_byteOf_0 rfl ?_
  refine x_iconst (v := 4) C dX7_byteOf_1 (by decide) ?_
  refine x_icmp_ge (tgt := 18) C dX7_byteOf_2 (by decide) (fun c2 => ?_) (fun c2 => ?_)
  · skip
    refine x_iload_n C dX7_byteOf_18 rfl ?_
    refine x_iconst (v := 4) C dX7_byteOf_19 (by decide) ?_
    refine x_icmp_ne (tgt := 31) C dX7_byteOf_20 (by decide) (fun c20 => ?_) (fun c20 => ?_)
    · skip
      refine x_iload_n C dX7_byteOf_31 rfl ?_
      refine x_iconst (v := 5) C dX7_byteOf_32 (by decide) ?_
      refine x_icmp_ne (tgt := 43) C dX7_byteOf_33 (by decide) (fun c33 => ?_) (fun c33 => ?_)
      · skip
        refine x_iload_n C dX7_byteOf_43 rfl ?_
        refine x_bipush (v := 6) C dX7_byteOf_44 (by decide) ?_
        refine x_icmp_ne (tgt := 53) C dX7_byteOf_46 (by decide) (fun c46 => ?_) (fun c46 => ?_)
        · skip
          refine x_iload C dX7_byteOf_53 rfl ?_
          refine x_iret C E dX7_byteOf_55 (fun h g => ⟨?_, g⟩)
          refine congrArg (fun t => some (Value.int t)) ?_; clear C E; simp only [i4, e4, e5, e6] at *; unfold f_byte; simp_all <;> (intro q; omega)
        · skip
          refine x_iload_n C dX7_byteOf_49 rfl ?_
          refine x_goto (tgt := 55) C dX7_byteOf_50 (by decide) ?_
          refine x_iret C E dX7_byteOf_55 (fun h g => ⟨?_, g⟩)
          refine congrArg (fun t => some (Value.int t)) ?_; clear C E; simp only [i4, e4, e5, e6] at *; unfold f_byte; simp_all <;> (intro q; omega)
      · skip
        refine x_iload_n C dX7_byteOf_36 rfl ?_
        refine x_bipush (v := 8) C dX7_byteOf_37 (by decide) ?_
        refine x_ishr C dX7_byteOf_39 ?_
        refine x_goto (tgt := 55) C dX7_byteOf_40 (by decide) ?_
        refine x_iret C E dX7_byteOf_55 (fun h g => ⟨?_, g⟩)
        refine congrArg (fun t => some (Value.int t)) ?_; clear C E; simp only [i4, e4, e5, e6] at *; unfold f_byte; simp_all <;> (intro q; omega)
    · skip
      refine x_iload_n C dX7_byteOf_23 rfl ?_
      refine x_sipush (v := 255) C dX7_byteOf_24 (by decide) ?_
      refine x_iand C dX7_byteOf_27 ?_
      refine x_goto (tgt := 55) C dX7_byteOf_28 (by decide) ?_
      refine x_iret C E dX7_byteOf_55 (fun h g => ⟨?_, g⟩)
      refine congrArg (fun t => some (Value.int t)) ?_; clear C E; simp only [i4, e4, e5, e6] at *; unfold f_byte; simp_all <;> (intro q; omega)
  · skip
    refine x_iload_n C dX7_byteOf_5 rfl ?_
    refine x_bipush (v := 8) C dX7_byteOf_6 (by decide) ?_
    refine x_iload_n C dX7_byteOf_8 rfl ?_
    refine x_imul C dX7_byteOf_9 ?_
    refine x_ishr C dX7_byteOf_10 ?_
    refine x_sipush (v := 255) C dX7_byteOf_11 (by decide) ?_
    refine x_iand C dX7_byteOf_14 ?_
    refine x_goto (tgt := 55) C dX7_byteOf_15 (by decide) ?_
    refine x_iret C E dX7_byteOf_55 (fun h g => ⟨?_, g⟩)
    refine congrArg (fun t => some (Value.int t)) ?_; clear C E; simp only [i4, e4, e5, e6] at *; unfold f_byte; simp_all <;> (intro q; omega)
end StateS
end
section
/-! MeterBusModel: meter. -/
abbrev g_num (ad mk v d : Int32) : Prop := (0 ≤ ad ∧ ad ≤ 250) ∧ (0 ≤ mk ∧ mk ≤ 65535) ∧ (0 ≤ mk &&& 255 ∧ mk &&& 255 ≤ 254) ∧ (0 ≤ mk >>> ((8 : Int32) &&& 31) ∧ mk >>> ((8 : Int32) &&& 31) ≤ 254) ∧ (0 ≤ v ∧ v ≤ 254) ∧ (0 ≤ d ∧ d ≤ 254)
def g_dig (i : Int32) (n : Nat) : Bool := (List.range n).all (fun t => decide ((i >>> (((4 : Int32) * nI t) &&& 31)) &&& 15 < 10))
theorem g_dig_s {i : Int32} {n : Nat} : g_dig i (n + 1) = true ↔ g_dig i n = true ∧ (i >>> (((4 : Int32) * nI n) &&& 31)) &&& 15 < 10 := by simp [g_dig, List.range_succ]
def g_sb (S : MS) (m : Nat) (i mk v d : Int32) (n : Nat) : Bool := (List.range n).all (fun b => decide (S.a 12 (8 * m + b) = f_byte b i mk v d))
theorem g_sb_s {S : MS} {m : Nat} {i mk v d : Int32} {n : Nat} : g_sb S m i mk v d (n + 1) = true ↔ g_sb S m i mk v d n = true ∧ S.a 12 (8 * m + n) = f_byte n i mk v d := by simp [g_sb, List.range_succ]
abbrev g_same (S : MS) (k : Int32) (i mk v d : Int32) (m : Nat) : Prop := (¬ S.a 10 m = 0 ∧ ¬ nI m = k) ∧ g_sb S m i mk v d 8 = true
def g_free (S : MS) (k : Int32) (i mk v d : Int32) (n : Nat) : Bool := (List.range n).all (fun m => decide (¬ g_same S k i mk v d m))
theorem g_free_s {S : MS} {k i mk v d : Int32} {n : Nat} : g_free S k i mk v d (n + 1) = true ↔ g_free S k i mk v d n = true ∧ ¬ g_same S k i mk v d n := by
  simp only [g_free, List.range_succ, List.all_append, List.all_cons, List.all_nil, Bool.and_true, Bool.and_eq_true, decide_eq_true_eq]
abbrev g_good (S : MS) (k ad i mk v d : Int32) : Prop := (g_num ad mk v d ∧ g_dig i 8 = true) ∧ g_free S k i mk v d 12 = true
def f_mb (S : MS) (k : Nat) (i mk v d : Int32) : Nat → MS
  | 0 => S
  | n + 1 => (f_mb S k i mk v d n).sa 12 (8 * k + n) (f_byte n i mk v d)
def f_mp (S : MS) (k : Nat) : Nat → MS
  | 0 => S
  | n + 1 => (f_mp S k n).sa 17 (3 * k + n) 0
def f_meter (S : MS) (k : Nat) (ad i mk v d : Int32) : MS :=
  f_mp (((((f_mb (((S.si 0 0).sa 10 k 1).sa 11 k ad) k i mk v d 8).sa 13 k 0).sa 15 k (-1)).sa 14 k (-1)).sa 16 k 0) k 3
section MeterS
variable {w : Wd} {M : MW} {S : MS} {z : Fx} {post : Option Value → MS → Prop} {k ad i mk v d : Int32}
/-- the digits' loop -/
theorem mt1 (hW : Wm w M) (C : Cx z RX7 cX7_meter gw) (Y : Mty z M) (E : Ct z w gw yX7_meter none 1 (40 * 1) (PM M post)) (hn : z.nL = 11) (g : Prop) [Decidable g]
    (kk : ∀ l8 : Option Value, X z 0 0 (MA M S) 126 [some (.ref M.o), some (.int k), some (.int ad), some (.int i), some (.int mk), some (.int v), some (.int d), some (.int (bI (g ∧ g_dig i 8 = true))), l8, none, none] []) :
    ∀ (t b : Nat) (x : Int32), b + t = 8 → x = bI (g ∧ g_dig i b = true) → X z 0 0 (MA M S) 87 [some (.ref M.o), some (.int k), some (.int ad), some (.int i), some (.int mk), some (.int v), some (.int d), some (.int x), some (.int (nI b)), none, none] [] := by
  intro t
  induction t with
  | zero =>
    intro b x hb ex
    obtain rfl : b = 8 := by omega
    subst ex
    refine x_iload C dX7_meter_87 rfl ?_
    refine x_bipush (v := 8) C dX7_meter_89 (by decide) ?_
    refine x_icmp_ge (tgt := 126) C dX7_meter_91 (by decide) (fun c91 => ?_) (fun c91 => absurd c91 (by decide))
    exact kk _
  | succ t ih =>
    intro b x hb ex
    have T118 : ∀ y : Int32, y = bI (g ∧ g_dig i (b + 1) = true) → X z 0 0 (MA M S) 118 [some (.ref M.o), some (.int k), some (.int ad), some (.int i), some (.int mk), some (.int v), some (.int d), some (.int x), some (.int (nI b)), none, none] [.int y] := by
      intro y ey
      have ih2 := ih (b + 1) y (by omega) ey
      refine x_istoreE (L' := [some _, some _, some _, some _, some _, some _, some _, some _, some _, none, none]) C dX7_meter_118 (by rw [hn]; decide) rfl ?_
      refine x_iincE (v := nI (b + 1)) (L' := [some _, some _, some _, some _, some _, some _, some _, some _, some _, none, none]) C dX7_meter_120 rfl (nI_1 b) (by rw [hn]; decide) rfl ?_
      refine x_goto (tgt := 87) C dX7_meter_123 (by decide) ?_
      exact ih2
    subst ex
    refine x_iload C dX7_meter_87 rfl ?_
    refine x_bipush (v := 8) C dX7_meter_89 (by decide) ?_
    refine x_icmp_ge (tgt := 126) C dX7_meter_91 (by decide) (fun c91 => absurd c91 (by rw [nI_lit]; exact nI_ge (show b < 8 by omega) (by decide))) (fun c91 => ?_)
    refine x_iload C dX7_meter_94 rfl ?_
    refine x_if_eq (tgt := 117) C dX7_meter_96 (by decide) (fun c96 => ?_) (fun c96 => ?_)
    · skip
      refine x_iconst (v := 0) C dX7_meter_117 (by decide) ?_
      first | exact T118 _ (bI_00 (fun q => bI_0.mp c96 ⟨q.1, (g_dig_s.mp q.2).1⟩)) | exact T118 _ (bI_00 (fun q => Int32.not_lt.mpr c110 (g_dig_s.mp q.2).2)) | exact T118 _ (bI_1 ⟨(bI_0n.mp c96).1, g_dig_s.mpr ⟨(bI_0n.mp c96).2, Int32.not_le.mp c110⟩⟩)
    · skip
      refine x_iload_n C dX7_meter_99 rfl ?_
      refine x_iconst (v := 4) C dX7_meter_100 (by decide) ?_
      refine x_iload C dX7_meter_101 rfl ?_
      refine x_imul C dX7_meter_103 ?_
      refine x_ishr C dX7_meter_104 ?_
      refine x_bipush (v := 15) C dX7_meter_105 (by decide) ?_
      refine x_iand C dX7_meter_107 ?_
      refine x_bipush (v := 10) C dX7_meter_108 (by decide) ?_
      refine x_icmp_ge (tgt := 117) C dX7_meter_110 (by decide) (fun c110 => ?_) (fun c110 => ?_)
      · skip
        refine x_iconst (v := 0) C dX7_meter_117 (by decide) ?_
        first | exact T118 _ (bI_00 (fun q => bI_0.mp c96 ⟨q.1, (g_dig_s.mp q.2).1⟩)) | exact T118 _ (bI_00 (fun q => Int32.not_lt.mpr c110 (g_dig_s.mp q.2).2)) | exact T118 _ (bI_1 ⟨(bI_0n.mp c96).1, g_dig_s.mpr ⟨(bI_0n.mp c96).2, Int32.not_le.mp c110⟩⟩)
      · skip
        refine x_iconst (v := 1) C dX7_meter_113 (by decide) ?_
        refine x_goto (tgt := 118) C dX7_meter_114 (by decide) ?_
        first | exact T118 _ (bI_00 (fun q => bI_0.mp c96 ⟨q.1, (g_dig_s.mp q.2).1⟩)) | exact T118 _ (bI_00 (fun q => Int32.not_lt.mpr c110 (g_dig_s.mp q.2).2)) | exact T118 _ (bI_1 ⟨(bI_0n.mp c96).1, g_dig_s.mpr ⟨(bI_0n.mp c96).2, Int32.not_le.mp c110⟩⟩)
/-- the loop over the bytes of meter m -/
theorem mt3 (hW : Wm w M) (C : Cx z RX7 cX7_meter gw) (Y : Mty z M) (E : Ct z w gw yX7_meter none 1 (40 * 1) (PM M post)) (hn : z.nL = 11) (m : Nat) (hm : m < 12) (gv : Int32) (q : Prop) [Decidable q]
    (kk : ∀ l10 : Option Value, X z 0 0 (MA M S) 220 [some (.ref M.o), some (.int k), some (.int ad), some (.int i), some (.int mk), some (.int v), some (.int d), some (.int gv), some (.int (nI m)), some (.int (bI (q ∧ g_sb S m i mk v d 8 = true))), l10] []) :
    ∀ (t b : Nat) (x : Int32), b + t = 8 → x = bI (q ∧ g_sb S m i mk v d b = true) → X z 0 0 (MA M S) 167 [some (.ref M.o), some (.int k), some (.int ad), some (.int i), some (.int mk), some (.int v), some (.int d), some (.int gv), some (.int (nI m)), some (.int x), some (.int (nI b))] [] := by
  intro t
  induction t with
  | zero =>
    intro b x hb ex
    obtain rfl : b = 8 := by omega
    subst ex
    refine x_iload C dX7_meter_167 rfl ?_
    refine x_bipush (v := 8) C dX7_meter_169 (by decide) ?_
    refine x_icmp_ge (tgt := 220) C dX7_meter_171 (by decide) (fun c171 => ?_) (fun c171 => absurd c171 (by decide))
    exact kk _
  | succ t ih =>
    intro b x hb ex
    have T212 : ∀ y : Int32, y = bI (q ∧ g_sb S m i mk v d (b + 1) = true) → X z 0 0 (MA M S) 212 [some (.ref M.o), some (.int k), some (.int ad), some (.int i), some (.int mk), some (.int v), some (.int d), some (.int gv), some (.int (nI m)), some (.int x), some (.int (nI b))] [.int y] := by
      intro y ey
      have ih2 := ih (b + 1) y (by omega) ey
      refine x_istoreE (L' := [some _, some _, some _, some _, some _, some _, some _, some _, some _, some _, some _]) C dX7_meter_212 (by rw [hn]; decide) rfl ?_
      refine x_iincE (v := nI (b + 1)) (L' := [some _, some _, some _, some _, some _, some _, some _, some _, some _, some _, some _]) C dX7_meter_214 rfl (nI_1 b) (by rw [hn]; decide) rfl ?_
      refine x_goto (tgt := 167) C dX7_meter_217 (by decide) ?_
      exact ih2
    subst ex
    refine x_iload C dX7_meter_167 rfl ?_
    refine x_bipush (v := 8) C dX7_meter_169 (by decide) ?_
    refine x_icmp_ge (tgt := 220) C dX7_meter_171 (by decide) (fun c171 => absurd c171 (by rw [nI_lit]; exact nI_ge (show b < 8 by omega) (by decide))) (fun c171 => ?_)
    refine x_iload C dX7_meter_174 rfl ?_
    refine x_if_eq (tgt := 211) C dX7_meter_176 (by decide) (fun c176 => ?_) (fun c176 => ?_)
    · skip
      refine x_iconst (v := 0) C dX7_meter_211 (by decide) ?_
      first | exact T212 _ (bI_00 (fun q => bI_0.mp c176 ⟨q.1, (g_sb_s.mp q.2).1⟩)) | exact T212 _ (bI_00 (fun q => c204 (g_sb_s.mp q.2).2)) | exact T212 _ (bI_1 ⟨(bI_0n.mp c176).1, g_sb_s.mpr ⟨(bI_0n.mp c176).2, c204⟩⟩)
    · skip
      refine x_aload_n C dX7_meter_179 rfl ?_
      refine m_getA C Y 12 (by decide) (by decide) wf_X7_26 dX7_meter_180 ?_
      refine x_bipush (v := 8) C dX7_meter_183 (by decide) ?_
      refine x_iload C dX7_meter_185 rfl ?_
      refine x_imul C dX7_meter_187 ?_
      refine x_iload C dX7_meter_188 rfl ?_
      refine x_iadd C dX7_meter_190 ?_
      refine m_ildN C Y 12 (8 * m + b) (by decide) dX7_meter_191 (by simp only [nI_lit, nI_add, pk_mul]) (by simp only [m_len]; omega) ?_
      refine x_iload C dX7_meter_192 rfl ?_
      refine x_iload_n C dX7_meter_194 rfl ?_
      refine x_iload C dX7_meter_195 rfl ?_
      refine x_iload C dX7_meter_197 rfl ?_
      refine x_iload C dX7_meter_199 rfl ?_
      refine m_callSF C hW E (s_byteOf b (by omega) _ _ _ _) md_X7_byteOf wt_X7_byteOf wm_X7_114 dX7_meter_201 rfl (by decide) (by decide) rfl (by simp [Value.category]) ?_
      refine x_icmp_ne (tgt := 211) C dX7_meter_204 (by decide) (fun c204 => ?_) (fun c204 => ?_)
      · skip
        refine x_iconst (v := 0) C dX7_meter_211 (by decide) ?_
        first | exact T212 _ (bI_00 (fun q => bI_0.mp c176 ⟨q.1, (g_sb_s.mp q.2).1⟩)) | exact T212 _ (bI_00 (fun q => c204 (g_sb_s.mp q.2).2)) | exact T212 _ (bI_1 ⟨(bI_0n.mp c176).1, g_sb_s.mpr ⟨(bI_0n.mp c176).2, c204⟩⟩)
      · skip
        refine x_iconst (v := 1) C dX7_meter_207 (by decide) ?_
        refine x_goto (tgt := 212) C dX7_meter_208 (by decide) ?_
        first | exact T212 _ (bI_00 (fun q => bI_0.mp c176 ⟨q.1, (g_sb_s.mp q.2).1⟩)) | exact T212 _ (bI_00 (fun q => c204 (g_sb_s.mp q.2).2)) | exact T212 _ (bI_1 ⟨(bI_0n.mp c176).1, g_sb_s.mpr ⟨(bI_0n.mp c176).2, c204⟩⟩)
/-- the loop over the meters -/
theorem mt2 (hW : Wm w M) (C : Cx z RX7 cX7_meter gw) (Y : Mty z M) (E : Ct z w gw yX7_meter none 1 (40 * 1) (PM M post)) (hn : z.nL = 11) (g : Prop) [Decidable g]
    (kk : ∀ l8 l9 l10 : Option Value, X z 0 0 (MA M S) 238 [some (.ref M.o), some (.int k), some (.int ad), some (.int i), some (.int mk), some (.int v), some (.int d), some (.int (bI (g ∧ g_free S k i mk v d 12 = true))), l8, l9, l10] []) :
    ∀ (t m : Nat) (x : Int32) (l9 l10 : Option Value), m + t = 12 → x = bI (g ∧ g_free S k i mk v d m = true) → X z 0 0 (MA M S) 129 [some (.ref M.o), some (.int k), some (.int ad), some (.int i), some (.int mk), some (.int v), some (.int d), some (.int x), some (.int (nI m)), l9, l10] [] := by
  intro t
  induction t with
  | zero =>
    intro m x l9 l10 hm ex
    obtain rfl : m = 12 := by omega
    subst ex
    refine x_iload C dX7_meter_129 rfl ?_
    refine x_bipush (v := 12) C dX7_meter_131 (by decide) ?_
    refine x_icmp_ge (tgt := 238) C dX7_meter_133 (by decide) (fun c133 => ?_) (fun c133 => absurd c133 (by decide))
    exact kk _ _ _
  | succ t ih =>
    intro m x l9 l10 hm ex
    by_cases h0 : g ∧ g_free S k i mk v d m = true
    · rw [bI_t h0] at ex
      subst ex
      have T162 : ∀ y : Int32, y = bI (¬ S.a 10 m = 0 ∧ ¬ nI m = k) → X z 0 0 (MA M S) 162 [some (.ref M.o), some (.int k), some (.int ad), some (.int i), some (.int mk), some (.int v), some (.int d), some (.int 1), some (.int (nI m)), l9, l10] [.int y] := by
        intro y ey
        have T230 : ∀ (u : Int32) (l9 l10 : Option Value), u = bI (g ∧ g_free S k i mk v d (m + 1) = true) → X z 0 0 (MA M S) 230 [some (.ref M.o), some (.int k), some (.int ad), some (.int i), some (.int mk), some (.int v), some (.int d), some (.int 1), some (.int (nI m)), l9, l10] [.int u] := by
          intro u l9 l10 eu
          have ih2 := ih (m + 1) u l9 l10 (by omega) eu
          refine x_istoreE (L' := [some _, some _, some _, some _, some _, some _, some _, some _, some _, _, _]) C dX7_meter_230 (by rw [hn]; decide) rfl ?_
          refine x_iincE (v := nI (m + 1)) (L' := [some _, some _, some _, some _, some _, some _, some _, some _, some _, _, _]) C dX7_meter_232 rfl (nI_1 m) (by rw [hn]; decide) rfl ?_
          refine x_goto (tgt := 129) C dX7_meter_235 (by decide) ?_
          exact ih2
        subst ey
        refine x_istoreE (L' := [some _, some _, some _, some _, some _, some _, some _, some _, some _, some _, _]) C dX7_meter_162 (by rw [hn]; decide) rfl ?_
        refine x_iconst (v := 0) C dX7_meter_164 (by decide) ?_
        refine x_istoreE (L' := [some _, some _, some _, some _, some _, some _, some _, some _, some _, some _, some _]) C dX7_meter_165 (by rw [hn]; decide) rfl ?_
        refine mt3 hW C Y E hn m (by omega) 1 (¬ S.a 10 m = 0 ∧ ¬ nI m = k) (fun l10 => ?_) 8 0 _ rfl (by simp [g_sb])
        refine x_iload C dX7_meter_220 rfl ?_
        refine x_if_ne (tgt := 229) C dX7_meter_222 (by decide) (fun c222 => ?_) (fun c222 => ?_)
        · skip
          refine x_iconst (v := 0) C dX7_meter_229 (by decide) ?_
          first | exact T230 _ _ _ (bI_00 (fun q => (g_free_s.mp q.2).2 (bI_0n.mp c222))) | exact T230 _ _ _ (bI_1 ⟨h0.1, g_free_s.mpr ⟨h0.2, bI_0.mp c222⟩⟩)
        · skip
          refine x_iconst (v := 1) C dX7_meter_225 (by decide) ?_
          refine x_goto (tgt := 230) C dX7_meter_226 (by decide) ?_
          first | exact T230 _ _ _ (bI_00 (fun q => (g_free_s.mp q.2).2 (bI_0n.mp c222))) | exact T230 _ _ _ (bI_1 ⟨h0.1, g_free_s.mpr ⟨h0.2, bI_0.mp c222⟩⟩)
      refine x_iload C dX7_meter_129 rfl ?_
      refine x_bipush (v := 12) C dX7_meter_131 (by decide) ?_
      refine x_icmp_ge (tgt := 238) C dX7_meter_133 (by decide) (fun c133 => absurd c133 (by rw [nI_lit]; exact nI_ge (show m < 12 by omega) (by decide))) (fun c133 => ?_)
      refine x_iload C dX7_meter_136 rfl ?_
      refine x_if_eq (tgt := 238) C dX7_meter_138 (by decide) (fun c138 => absurd c138 (by decide)) (fun c138 => ?_)
      refine x_aload_n C dX7_meter_141 rfl ?_
      refine m_getA C Y 10 (by decide) (by decide) wf_X7_19 dX7_meter_142 ?_
      refine x_iload C dX7_meter_145 rfl ?_
      refine m_zldN C Y 10 (m) (by decide) dX7_meter_147 (by simp only [nI_lit, nI_add, pk_mul]) (by simp only [m_len]; omega) ?_
      refine x_if_eq (tgt := 161) C dX7_meter_148 (by decide) (fun c148 => ?_) (fun c148 => ?_)
      · skip
        refine x_iconst (v := 0) C dX7_meter_161 (by decide) ?_
        first | exact T162 _ (bI_00 (fun q => q.1 c148)) | exact T162 _ (bI_00 (fun q => q.2 c154)) | exact T162 _ (bI_1 ⟨c148, c154⟩)
      · skip
        refine x_iload C dX7_meter_151 rfl ?_
        refine x_iload_n C dX7_meter_153 rfl ?_
        refine x_icmp_eq (tgt := 161) C dX7_meter_154 (by decide) (fun c154 => ?_) (fun c154 => ?_)
        · skip
          refine x_iconst (v := 0) C dX7_meter_161 (by decide) ?_
          first | exact T162 _ (bI_00 (fun q => q.1 c148)) | exact T162 _ (bI_00 (fun q => q.2 c154)) | exact T162 _ (bI_1 ⟨c148, c154⟩)
        · skip
          refine x_iconst (v := 1) C dX7_meter_157 (by decide) ?_
          refine x_goto (tgt := 162) C dX7_meter_158 (by decide) ?_
          first | exact T162 _ (bI_00 (fun q => q.1 c148)) | exact T162 _ (bI_00 (fun q => q.2 c154)) | exact T162 _ (bI_1 ⟨c148, c154⟩)
    · rw [bI_f h0] at ex
      subst ex
      have h12 : ¬ (g ∧ g_free S k i mk v d 12 = true) := fun q => h0 ⟨q.1, by
        have h2 := q.2
        unfold g_free at h2 ⊢
        rw [List.all_eq_true] at h2 ⊢
        intro y hy
        exact h2 y (List.mem_range.mpr (by have := List.mem_range.mp hy; omega))⟩
      rw [bI_f h12] at kk
      refine x_iload C dX7_meter_129 rfl ?_
      refine x_bipush (v := 12) C dX7_meter_131 (by decide) ?_
      refine x_icmp_ge (tgt := 238) C dX7_meter_133 (by decide) (fun c133 => absurd c133 (by rw [nI_lit]; exact nI_ge (show m < 12 by omega) (by decide))) (fun c133 => ?_)
      refine x_iload C dX7_meter_136 rfl ?_
      refine x_if_eq (tgt := 238) C dX7_meter_138 (by decide) (fun c138 => ?_) (fun c138 => absurd c138 (not_not_intro rfl))
      exact kk _ _ _
end MeterS
section MeterT
variable {w : Wd} {M : MW} {S : MS}
/-- from the entry to the call of fails -/
theorem mt_head (hW : Wm w M) {z : Fx} {post : Option Value → MS → Prop} (C : Cx z RX7 cX7_meter gw) (Y : Mty z M) (E : Ct z w gw yX7_meter none 1 (40 * 1) (PM M post)) (hn : z.nL = 11) (k ad i mk v d : Int32)
    (kk : ∀ l8 l9 l10 : Option Value, X z 0 0 (MA M S) 238 [some (.ref M.o), some (.int k), some (.int ad), some (.int i), some (.int mk), some (.int v), some (.int d), some (.int (bI (g_good S k ad i mk v d))), l8, l9, l10] []) :
    X z 0 0 (MA M S) 0 [some (.ref M.o), some (.int k), some (.int ad), some (.int i), some (.int mk), some (.int v), some (.int d), none, none, none, none] [] := by
  have T82 : ∀ x : Int32, x = bI (g_num ad mk v d) → X z 0 0 (MA M S) 82 [some (.ref M.o), some (.int k), some (.int ad), some (.int i), some (.int mk), some (.int v), some (.int d), none, none, none, none] [.int x] := by
    intro x ex
    subst ex
    refine x_istoreE (L' := [some _, some _, some _, some _, some _, some _, some _, some _, none, none, none]) C dX7_meter_82 (by rw [hn]; decide) rfl ?_
    refine x_iconst (v := 0) C dX7_meter_84 (by decide) ?_
    refine x_istoreE (L' := [some _, some _, some _, some _, some _, some _, some _, some _, some _, none, none]) C dX7_meter_85 (by rw [hn]; decide) rfl ?_
    refine mt1 hW C Y E hn (g_num ad mk v d) (fun l8 => ?_) 8 0 _ rfl (by simp [g_dig])
    refine x_iconst (v := 0) C dX7_meter_126 (by decide) ?_
    refine x_istoreE (L' := [some _, some _, some _, some _, some _, some _, some _, some _, some _, none, none]) C dX7_meter_127 (by rw [hn]; decide) rfl ?_
    exact mt2 hW C Y E hn (g_num ad mk v d ∧ g_dig i 8 = true) kk 12 0 _ none none rfl (by simp [g_free])
  refine x_iload_n C dX7_meter_0 rfl ?_
  refine x_iconst (v := 0) C dX7_meter_1 (by decide) ?_
  refine x_sipush (v := 250) C dX7_meter_2 (by decide) ?_
  refine m_callSF C hW E (s_in _ _ _) md_X7_in wt_X7_in wm_X7_100 dX7_meter_5 rfl (by decide) (by decide) rfl (by simp [Value.category]) ?_
  refine x_if_eq (tgt := 81) C dX7_meter_8 (by decide) (fun c8 => ?_) (fun c8 => ?_)
  · skip
    refine x_iconst (v := 0) C dX7_meter_81 (by decide) ?_
    first | exact T82 _ (bI_00 (fun q => bI_0.mp c8 q.1)) | exact T82 _ (bI_00 (fun q => bI_0.mp c19 q.2.1)) | exact T82 _ (bI_00 (fun q => bI_0.mp c35 q.2.2.1)) | exact T82 _ (bI_00 (fun q => bI_0.mp c50 q.2.2.2.1)) | exact T82 _ (bI_00 (fun q => bI_0.mp c62 q.2.2.2.2.1)) | exact T82 _ (bI_00 (fun q => bI_0.mp c74 q.2.2.2.2.2)) | exact T82 _ (bI_1 ⟨bI_0n.mp c8, bI_0n.mp c19, bI_0n.mp c35, bI_0n.mp c50, bI_0n.mp c62, bI_0n.mp c74⟩)
  · skip
    refine x_iload C dX7_meter_11 rfl ?_
    refine x_iconst (v := 0) C dX7_meter_13 (by decide) ?_
    refine x_ldc C wk_X7_113 dX7_meter_14 ?_
    refine m_callSF C hW E (s_in _ _ _) md_X7_in wt_X7_in wm_X7_100 dX7_meter_16 rfl (by decide) (by decide) rfl (by simp [Value.category]) ?_
    refine x_if_eq (tgt := 81) C dX7_meter_19 (by decide) (fun c19 => ?_) (fun c19 => ?_)
    · skip
      refine x_iconst (v := 0) C dX7_meter_81 (by decide) ?_
      first | exact T82 _ (bI_00 (fun q => bI_0.mp c8 q.1)) | exact T82 _ (bI_00 (fun q => bI_0.mp c19 q.2.1)) | exact T82 _ (bI_00 (fun q => bI_0.mp c35 q.2.2.1)) | exact T82 _ (bI_00 (fun q => bI_0.mp c50 q.2.2.2.1)) | exact T82 _ (bI_00 (fun q => bI_0.mp c62 q.2.2.2.2.1)) | exact T82 _ (bI_00 (fun q => bI_0.mp c74 q.2.2.2.2.2)) | exact T82 _ (bI_1 ⟨bI_0n.mp c8, bI_0n.mp c19, bI_0n.mp c35, bI_0n.mp c50, bI_0n.mp c62, bI_0n.mp c74⟩)
    · skip
      refine x_iload C dX7_meter_22 rfl ?_
      refine x_sipush (v := 255) C dX7_meter_24 (by decide) ?_
      refine x_iand C dX7_meter_27 ?_
      refine x_iconst (v := 0) C dX7_meter_28 (by decide) ?_
      refine x_sipush (v := 254) C dX7_meter_29 (by decide) ?_
      refine m_callSF C hW E (s_in _ _ _) md_X7_in wt_X7_in wm_X7_100 dX7_meter_32 rfl (by decide) (by decide) rfl (by simp [Value.category]) ?_
      refine x_if_eq (tgt := 81) C dX7_meter_35 (by decide) (fun c35 => ?_) (fun c35 => ?_)
      · skip
        refine x_iconst (v := 0) C dX7_meter_81 (by decide) ?_
        first | exact T82 _ (bI_00 (fun q => bI_0.mp c8 q.1)) | exact T82 _ (bI_00 (fun q => bI_0.mp c19 q.2.1)) | exact T82 _ (bI_00 (fun q => bI_0.mp c35 q.2.2.1)) | exact T82 _ (bI_00 (fun q => bI_0.mp c50 q.2.2.2.1)) | exact T82 _ (bI_00 (fun q => bI_0.mp c62 q.2.2.2.2.1)) | exact T82 _ (bI_00 (fun q => bI_0.mp c74 q.2.2.2.2.2)) | exact T82 _ (bI_1 ⟨bI_0n.mp c8, bI_0n.mp c19, bI_0n.mp c35, bI_0n.mp c50, bI_0n.mp c62, bI_0n.mp c74⟩)
      · skip
        refine x_iload C dX7_meter_38 rfl ?_
        refine x_bipush (v := 8) C dX7_meter_40 (by decide) ?_
        refine x_ishr C dX7_meter_42 ?_
        refine x_iconst (v := 0) C dX7_meter_43 (by decide) ?_
        refine x_sipush (v := 254) C dX7_meter_44 (by decide) ?_
        refine m_callSF C hW E (s_in _ _ _) md_X7_in wt_X7_in wm_X7_100 dX7_meter_47 rfl (by decide) (by decide) rfl (by simp [Value.category]) ?_
        refine x_if_eq (tgt := 81) C dX7_meter_50 (by decide) (fun c50 => ?_) (fun c50 => ?_)
        · skip
          refine x_iconst (v := 0) C dX7_meter_81 (by decide) ?_
          first | exact T82 _ (bI_00 (fun q => bI_0.mp c8 q.1)) | exact T82 _ (bI_00 (fun q => bI_0.mp c19 q.2.1)) | exact T82 _ (bI_00 (fun q => bI_0.mp c35 q.2.2.1)) | exact T82 _ (bI_00 (fun q => bI_0.mp c50 q.2.2.2.1)) | exact T82 _ (bI_00 (fun q => bI_0.mp c62 q.2.2.2.2.1)) | exact T82 _ (bI_00 (fun q => bI_0.mp c74 q.2.2.2.2.2)) | exact T82 _ (bI_1 ⟨bI_0n.mp c8, bI_0n.mp c19, bI_0n.mp c35, bI_0n.mp c50, bI_0n.mp c62, bI_0n.mp c74⟩)
        · skip
          refine x_iload C dX7_meter_53 rfl ?_
          refine x_iconst (v := 0) C dX7_meter_55 (by decide) ?_
          refine x_sipush (v := 254) C dX7_meter_56 (by decide) ?_
          refine m_callSF C hW E (s_in _ _ _) md_X7_in wt_X7_in wm_X7_100 dX7_meter_59 rfl (by decide) (by decide) rfl (by simp [Value.category]) ?_
          refine x_if_eq (tgt := 81) C dX7_meter_62 (by decide) (fun c62 => ?_) (fun c62 => ?_)
          · skip
            refine x_iconst (v := 0) C dX7_meter_81 (by decide) ?_
            first | exact T82 _ (bI_00 (fun q => bI_0.mp c8 q.1)) | exact T82 _ (bI_00 (fun q => bI_0.mp c19 q.2.1)) | exact T82 _ (bI_00 (fun q => bI_0.mp c35 q.2.2.1)) | exact T82 _ (bI_00 (fun q => bI_0.mp c50 q.2.2.2.1)) | exact T82 _ (bI_00 (fun q => bI_0.mp c62 q.2.2.2.2.1)) | exact T82 _ (bI_00 (fun q => bI_0.mp c74 q.2.2.2.2.2)) | exact T82 _ (bI_1 ⟨bI_0n.mp c8, bI_0n.mp c19, bI_0n.mp c35, bI_0n.mp c50, bI_0n.mp c62, bI_0n.mp c74⟩)
          · skip
            refine x_iload C dX7_meter_65 rfl ?_
            refine x_iconst (v := 0) C dX7_meter_67 (by decide) ?_
            refine x_sipush (v := 254) C dX7_meter_68 (by decide) ?_
            refine m_callSF C hW E (s_in _ _ _) md_X7_in wt_X7_in wm_X7_100 dX7_meter_71 rfl (by decide) (by decide) rfl (by simp [Value.category]) ?_
            refine x_if_eq (tgt := 81) C dX7_meter_74 (by decide) (fun c74 => ?_) (fun c74 => ?_)
            · skip
              refine x_iconst (v := 0) C dX7_meter_81 (by decide) ?_
              first | exact T82 _ (bI_00 (fun q => bI_0.mp c8 q.1)) | exact T82 _ (bI_00 (fun q => bI_0.mp c19 q.2.1)) | exact T82 _ (bI_00 (fun q => bI_0.mp c35 q.2.2.1)) | exact T82 _ (bI_00 (fun q => bI_0.mp c50 q.2.2.2.1)) | exact T82 _ (bI_00 (fun q => bI_0.mp c62 q.2.2.2.2.1)) | exact T82 _ (bI_00 (fun q => bI_0.mp c74 q.2.2.2.2.2)) | exact T82 _ (bI_1 ⟨bI_0n.mp c8, bI_0n.mp c19, bI_0n.mp c35, bI_0n.mp c50, bI_0n.mp c62, bI_0n.mp c74⟩)
            · skip
              refine x_iconst (v := 1) C dX7_meter_77 (by decide) ?_
              refine x_goto (tgt := 82) C dX7_meter_78 (by decide) ?_
              first | exact T82 _ (bI_00 (fun q => bI_0.mp c8 q.1)) | exact T82 _ (bI_00 (fun q => bI_0.mp c19 q.2.1)) | exact T82 _ (bI_00 (fun q => bI_0.mp c35 q.2.2.1)) | exact T82 _ (bI_00 (fun q => bI_0.mp c50 q.2.2.2.1)) | exact T82 _ (bI_00 (fun q => bI_0.mp c62 q.2.2.2.2.1)) | exact T82 _ (bI_00 (fun q => bI_0.mp c74 q.2.2.2.2.2)) | exact T82 _ (bI_1 ⟨bI_0n.mp c8, bI_0n.mp c19, bI_0n.mp c35, bI_0n.mp c50, bI_0n.mp c62, bI_0n.mp c74⟩)
theorem s_meter_x (hW : Wm w M) (k ad i mk v d : Int32) (hp : ¬ (((0 : Int32) ≤ k ∧ k ≤ 11) ∧ g_good S k ad i mk v d)) : TF w M yX7_meter cX7_meter 11 none 1 [.int k, .int ad, .int i, .int mk, .int v, .int d] S none (S.si 0 (if ¬ ((0 : Int32) ≤ k ∧ k ≤ 11) then 1 else 2)) := by
  refine TM.intro hW rfl (Nat.le_of_ble_eq_true rfl) (fun z C Y E hn => ?_)
  have hf := s_fails (S := S) hW ((0 : Int32) ≤ k ∧ k ≤ 11) (g_good S k ad i mk v d)
  rw [bI_t (p := ¬ (((0 : Int32) ≤ k ∧ k ≤ 11) ∧ g_good S k ad i mk v d)) hp] at hf
  have e2 : (if ¬ ((0 : Int32) ≤ k ∧ k ≤ 11) then (1 : Int32) else if ¬ g_good S k ad i mk v d then 2 else 0) = (if ¬ ((0 : Int32) ≤ k ∧ k ≤ 11) then 1 else 2) := by
    by_cases h1 : (0 : Int32) ≤ k ∧ k ≤ 11
    · rw [if_neg (not_not_intro h1), if_neg (not_not_intro h1), if_pos (fun q => hp ⟨h1, q⟩)]
    · rw [if_pos h1, if_pos h1]
  rw [e2] at hf
  refine mt_head hW C Y E hn k ad i mk v d (fun l8 l9 l10 => ?_)
  refine x_aload_n C dX7_meter_238 rfl ?_
  refine x_iload_n C dX7_meter_239 rfl ?_
  refine x_iconst (v := 0) C dX7_meter_240 (by decide) ?_
  refine x_bipush (v := 11) C dX7_meter_241 (by decide) ?_
  refine m_callSF C hW E (s_in _ _ _) md_X7_in wt_X7_in wm_X7_100 dX7_meter_243 rfl (by decide) (by decide) rfl (by simp [Value.category]) ?_
  refine x_iload C dX7_meter_246 rfl ?_
  refine m_callF C Y hW E (hf) rfl md_X7_fails wi_X7_fails ws_X7_fails wm_X7_107 dX7_meter_248 rfl (by decide) (by decide) rfl (by simp [Value.category]) ?_
  refine x_if_eq (tgt := 255) C dX7_meter_251 (by decide) (fun c251 => absurd c251 (by decide)) (fun c251 => ?_)
  refine m_vret C E dX7_meter_254 ?_
  exact ⟨rfl, rfl⟩
theorem s_meter_t (hW : Wm w M) (k : Nat) (hk : k < 12) (ad i mk v d : Int32) (hp : g_good S (nI k) ad i mk v d) : TF w M yX7_meter cX7_meter 11 none 1 [.int (nI k), .int ad, .int i, .int mk, .int v, .int d] S none (f_meter S k ad i mk v d) := by
  refine TM.intro hW rfl (Nat.le_of_ble_eq_true rfl) (fun z C Y E hn => ?_)
  have hk1 : (0 : Int32) ≤ nI k ∧ nI k ≤ 11 := ⟨nI_pos' (by omega), nI_le (show k ≤ 11 by omega) (by decide)⟩
  have hf := s_fails (S := S) hW ((0 : Int32) ≤ nI k ∧ nI k ≤ 11) (g_good S (nI k) ad i mk v d)
  rw [bI_f (p := ¬ (((0 : Int32) ≤ nI k ∧ nI k ≤ 11) ∧ g_good S (nI k) ad i mk v d)) (not_not_intro ⟨hk1, hp⟩), if_neg (not_not_intro hk1), if_neg (not_not_intro hp)] at hf
  refine mt_head hW C Y E hn (nI k) ad i mk v d (fun l8 l9 l10 => ?_)
  have L2 : ∀ (t b : Nat), b + t = 3 → X z 0 0 (MA M (f_mp (((((f_mb (((S.si 0 0).sa 10 k 1).sa 11 k ad) k i mk v d 8).sa 13 k 0).sa 15 k (-1)).sa 14 k (-1)).sa 16 k 0) k b)) 340 [some (.ref M.o), some (.int (nI k)), some (.int ad), some (.int i), some (.int mk), some (.int v), some (.int d), some (.int (bI (g_good S (nI k) ad i mk v d))), some (.int (nI b)), l9, l10] [] := by
    intro t
    induction t with
    | zero =>
      intro b hb
      obtain rfl : b = 3 := by omega
      refine x_iload C dX7_meter_340 rfl ?_
      refine x_iconst (v := 3) C dX7_meter_342 (by decide) ?_
      refine x_icmp_ge (tgt := 364) C dX7_meter_343 (by decide) (fun c343 => ?_) (fun c343 => absurd c343 (by decide))
      refine m_vret C E dX7_meter_364 ?_
      exact ⟨rfl, rfl⟩
    | succ t ih =>
      intro b hb
      have ih2 := ih (b + 1) (by omega)
      refine x_iload C dX7_meter_340 rfl ?_
      refine x_iconst (v := 3) C dX7_meter_342 (by decide) ?_
      refine x_icmp_ge (tgt := 364) C dX7_meter_343 (by decide) (fun c343 => absurd c343 (by rw [nI_lit]; exact nI_ge (show b < 3 by omega) (by decide))) (fun c343 => ?_)
      refine x_aload_n C dX7_meter_346 rfl ?_
      refine m_getA C Y 17 (by decide) (by decide) wf_X7_41 dX7_meter_347 ?_
      refine x_iconst (v := 3) C dX7_meter_350 (by decide) ?_
      refine x_iload_n C dX7_meter_351 rfl ?_
      refine x_imul C dX7_meter_352 ?_
      refine x_iload C dX7_meter_353 rfl ?_
      refine x_iadd C dX7_meter_355 ?_
      refine x_iconst (v := 0) C dX7_meter_356 (by decide) ?_
      refine m_istN C Y hW.2.1 17 (3 * k + b) (by decide) dX7_meter_357 (by simp only [nI_lit, nI_add, pk_mul]) (by simp only [m_len]; omega) ?_
      refine x_iincE (v := nI (b + 1)) (L' := [some _, some _, some _, some _, some _, some _, some _, some _, some _, _, _]) C dX7_meter_358 rfl (nI_1 b) (by rw [hn]; decide) rfl ?_
      refine x_goto (tgt := 340) C dX7_meter_361 (by decide) ?_
      exact ih2
  have L1 : ∀ (t b : Nat), b + t = 8 → X z 0 0 (MA M (f_mb (((S.si 0 0).sa 10 k 1).sa 11 k ad) k i mk v d b)) 272 [some (.ref M.o), some (.int (nI k)), some (.int ad), some (.int i), some (.int mk), some (.int v), some (.int d), some (.int (bI (g_good S (nI k) ad i mk v d))), some (.int (nI b)), l9, l10] [] := by
    intro t
    induction t with
    | zero =>
      intro b hb
      obtain rfl : b = 8 := by omega
      refine x_iload C dX7_meter_272 rfl ?_
      refine x_bipush (v := 8) C dX7_meter_274 (by decide) ?_
      refine x_icmp_ge (tgt := 309) C dX7_meter_276 (by decide) (fun c276 => ?_) (fun c276 => absurd c276 (by decide))
      refine x_aload_n C dX7_meter_309 rfl ?_
      refine m_getA C Y 13 (by decide) (by decide) wf_X7_29 dX7_meter_310 ?_
      refine x_iload_n C dX7_meter_313 rfl ?_
      refine x_iconst (v := 0) C dX7_meter_314 (by decide) ?_
      refine m_zstN C Y hW.2.1 13 (k) (by decide) rfl dX7_meter_315 (by simp only [nI_lit, nI_add, pk_mul]) (by simp only [m_len]; omega) ?_
      refine x_aload_n C dX7_meter_316 rfl ?_
      refine m_getA C Y 15 (by decide) (by decide) wf_X7_35 dX7_meter_317 ?_
      refine x_iload_n C dX7_meter_320 rfl ?_
      refine x_iconst (v := (-1)) C dX7_meter_321 (by decide) ?_
      refine m_istN C Y hW.2.1 15 (k) (by decide) dX7_meter_322 (by simp only [nI_lit, nI_add, pk_mul]) (by simp only [m_len]; omega) ?_
      refine x_aload_n C dX7_meter_323 rfl ?_
      refine m_getA C Y 14 (by decide) (by decide) wf_X7_32 dX7_meter_324 ?_
      refine x_iload_n C dX7_meter_327 rfl ?_
      refine x_iconst (v := (-1)) C dX7_meter_328 (by decide) ?_
      refine m_istN C Y hW.2.1 14 (k) (by decide) dX7_meter_329 (by simp only [nI_lit, nI_add, pk_mul]) (by simp only [m_len]; omega) ?_
      refine x_aload_n C dX7_meter_330 rfl ?_
      refine m_getA C Y 16 (by decide) (by decide) wf_X7_38 dX7_meter_331 ?_
      refine x_iload_n C dX7_meter_334 rfl ?_
      refine x_iconst (v := 0) C dX7_meter_335 (by decide) ?_
      refine m_istN C Y hW.2.1 16 (k) (by decide) dX7_meter_336 (by simp only [nI_lit, nI_add, pk_mul]) (by simp only [m_len]; omega) ?_
      refine x_iconst (v := 0) C dX7_meter_337 (by decide) ?_
      refine x_istoreE (L' := [some _, some _, some _, some _, some _, some _, some _, some _, some _, _, _]) C dX7_meter_338 (by rw [hn]; decide) rfl ?_
      exact L2 3 0 rfl
    | succ t ih =>
      intro b hb
      have ih2 := ih (b + 1) (by omega)
      refine x_iload C dX7_meter_272 rfl ?_
      refine x_bipush (v := 8) C dX7_meter_274 (by decide) ?_
      refine x_icmp_ge (tgt := 309) C dX7_meter_276 (by decide) (fun c276 => absurd c276 (by rw [nI_lit]; exact nI_ge (show b < 8 by omega) (by decide))) (fun c276 => ?_)
      refine x_aload_n C dX7_meter_279 rfl ?_
      refine m_getA C Y 12 (by decide) (by decide) wf_X7_26 dX7_meter_280 ?_
      refine x_bipush (v := 8) C dX7_meter_283 (by decide) ?_
      refine x_iload_n C dX7_meter_285 rfl ?_
      refine x_imul C dX7_meter_286 ?_
      refine x_iload C dX7_meter_287 rfl ?_
      refine x_iadd C dX7_meter_289 ?_
      refine x_iload C dX7_meter_290 rfl ?_
      refine x_iload_n C dX7_meter_292 rfl ?_
      refine x_iload C dX7_meter_293 rfl ?_
      refine x_iload C dX7_meter_295 rfl ?_
      refine x_iload C dX7_meter_297 rfl ?_
      refine m_callSF C hW E (s_byteOf b (by omega) _ _ _ _) md_X7_byteOf wt_X7_byteOf wm_X7_114 dX7_meter_299 rfl (by decide) (by decide) rfl (by simp [Value.category]) ?_
      refine m_istN C Y hW.2.1 12 (8 * k + b) (by decide) dX7_meter_302 (by simp only [nI_lit, nI_add, pk_mul]) (by simp only [m_len]; omega) ?_
      refine x_iincE (v := nI (b + 1)) (L' := [some _, some _, some _, some _, some _, some _, some _, some _, some _, _, _]) C dX7_meter_303 rfl (nI_1 b) (by rw [hn]; decide) rfl ?_
      refine x_goto (tgt := 272) C dX7_meter_306 (by decide) ?_
      exact ih2
  refine x_aload_n C dX7_meter_238 rfl ?_
  refine x_iload_n C dX7_meter_239 rfl ?_
  refine x_iconst (v := 0) C dX7_meter_240 (by decide) ?_
  refine x_bipush (v := 11) C dX7_meter_241 (by decide) ?_
  refine m_callSF C hW E (s_in _ _ _) md_X7_in wt_X7_in wm_X7_100 dX7_meter_243 rfl (by decide) (by decide) rfl (by simp [Value.category]) ?_
  refine x_iload C dX7_meter_246 rfl ?_
  refine m_callF C Y hW E (hf) rfl md_X7_fails wi_X7_fails ws_X7_fails wm_X7_107 dX7_meter_248 rfl (by decide) (by decide) rfl (by simp [Value.category]) ?_
  refine x_if_eq (tgt := 255) C dX7_meter_251 (by decide) (fun c251 => ?_) (fun c251 => absurd c251 (not_not_intro rfl))
  refine x_aload_n C dX7_meter_255 rfl ?_
  refine m_getA C Y 10 (by decide) (by decide) wf_X7_19 dX7_meter_256 ?_
  refine x_iload_n C dX7_meter_259 rfl ?_
  refine x_iconst (v := 1) C dX7_meter_260 (by decide) ?_
  refine m_zstN C Y hW.2.1 10 (k) (by decide) rfl dX7_meter_261 (by simp only [nI_lit, nI_add, pk_mul]) (by simp only [m_len]; omega) ?_
  refine x_aload_n C dX7_meter_262 rfl ?_
  refine m_getA C Y 11 (by decide) (by decide) wf_X7_23 dX7_meter_263 ?_
  refine x_iload_n C dX7_meter_266 rfl ?_
  refine x_iload_n C dX7_meter_267 rfl ?_
  refine m_istN C Y hW.2.1 11 (k) (by decide) dX7_meter_268 (by simp only [nI_lit, nI_add, pk_mul]) (by simp only [m_len]; omega) ?_
  refine x_iconst (v := 0) C dX7_meter_269 (by decide) ?_
  refine x_istoreE (L' := [some _, some _, some _, some _, some _, some _, some _, some _, some _, _, _]) C dX7_meter_270 (by rw [hn]; decide) rfl ?_
  exact L1 8 0 rfl
end MeterT
end
section
/-! MeterBusModel: faults, the next byte, what a long frame must be. -/
def f_bl (S : MS) (kind wh : Int32) : MS := if S.i 41 = 0 then (S.si 41 kind).si 36 wh else S
abbrev f_isB (S : MS) (n i : Nat) (lo hi : Int32) : Prop := i < n ∧ ¬ S.a 38 i < lo ∧ S.a 38 i ≤ hi
def f_bS (S : MS) (n i : Nat) (lo hi : Int32) : MS := if f_isB S n i lo hi then S else f_bl S 1 (if i < n then nI i else nI n)
section Fault
variable {w : Wd} {M : MW} {S : MS}
theorem s_blame (hW : Wm w M) (kind wh : Int32) : TF w M yX7_blame cX7_blame 3 (some .int) 0 [.int kind, .int wh] S (some (.int 0)) (f_bl S kind wh) := by
  refine TM.intro hW rfl (Nat.le_of_ble_eq_true rfl) (fun z C Y E hn => ?_)
  refine x_aload_n C dX7_blame_0 rfl ?_
  refine m_get C Y 41 (by decide) (by decide) wf_X7_204 dX7_blame_1 ?_
  refine x_if_ne (tgt := 17) C dX7_blame_4 (by decide) (fun c4 => ?_) (fun c4 => ?_)
  · skip
    refine x_iconst (v := 0) C dX7_blame_17 (by decide) ?_
    refine m_iret C E dX7_blame_18 ?_
    first | exact ⟨rfl, (if_neg c4).symm⟩ | exact ⟨rfl, (if_pos c4).symm⟩
  · skip
    refine x_aload_n C dX7_blame_7 rfl ?_
    refine x_iload_n C dX7_blame_8 rfl ?_
    refine m_put C Y hW.2.1 41 (by decide) (by decide) rfl rfl rfl wf_X7_204 dX7_blame_9 ?_
    refine x_aload_n C dX7_blame_12 rfl ?_
    refine x_iload_n C dX7_blame_13 rfl ?_
    refine m_put C Y hW.2.1 36 (by decide) (by decide) rfl rfl rfl wf_X7_90 dX7_blame_14 ?_
    refine x_iconst (v := 0) C dX7_blame_17 (by decide) ?_
    refine m_iret C E dX7_blame_18 ?_
    first | exact ⟨rfl, (if_neg c4).symm⟩ | exact ⟨rfl, (if_pos c4).symm⟩
theorem s_next_e (hW : Wm w M) (a e : Nat) (ha : S.i 40 = nI a) (he : S.i 39 = nI e) (he3 : a < 2 ^ 31) (hl : e ≤ a) : TF w M yX7_next cX7_next 1 (some .int) 1 [] S (some (.int 0)) (f_bl S 4 (nI e)) := by
  refine TM.intro hW rfl (Nat.le_of_ble_eq_true rfl) (fun z C Y E hn => ?_)
  have c : ¬ S.i 40 < S.i 39 := by rw [ha, he]; exact nI_nlt hl he3
  have hb := s_blame (S := S) hW 4 (S.i 39)
  rw [← he] at E
  refine x_aload_n C dX7_next_0 rfl ?_
  refine m_get C Y 40 (by decide) (by decide) wf_X7_221 dX7_next_1 ?_
  refine x_aload_n C dX7_next_4 rfl ?_
  refine m_get C Y 39 (by decide) (by decide) wf_X7_215 dX7_next_5 ?_
  refine x_icmp_lt (tgt := 21) C dX7_next_8 (by decide) (fun c8 => absurd c8 c) (fun c8 => ?_)
  refine x_aload_n C dX7_next_11 rfl ?_
  refine x_iconst (v := 4) C dX7_next_12 (by decide) ?_
  refine x_aload_n C dX7_next_13 rfl ?_
  refine m_get C Y 39 (by decide) (by decide) wf_X7_215 dX7_next_14 ?_
  refine m_callF C Y hW E (hb) rfl md_X7_blame wi_X7_blame ws_X7_blame wm_X7_207 dX7_next_17 rfl (by decide) (by decide) rfl (by simp [Value.category]) ?_
  refine m_iret C E dX7_next_20 ?_
  exact ⟨rfl, rfl⟩
theorem s_next (hW : Wm w M) (a e : Nat) (ha : S.i 40 = nI a) (he : S.i 39 = nI e) (he3 : e ≤ 300) (hl : a < e) : TF w M yX7_next cX7_next 1 (some .int) 1 [] S (some (.int (S.a 38 a))) (S.si 40 (nI (a + 1))) := by
  refine TM.intro hW rfl (Nat.le_of_ble_eq_true rfl) (fun z C Y E hn => ?_)
  have c : S.i 40 < S.i 39 := by rw [ha, he]; exact nI_lt hl (by omega)
  refine x_aload_n C dX7_next_0 rfl ?_
  refine m_get C Y 40 (by decide) (by decide) wf_X7_221 dX7_next_1 ?_
  refine x_aload_n C dX7_next_4 rfl ?_
  refine m_get C Y 39 (by decide) (by decide) wf_X7_215 dX7_next_5 ?_
  refine x_icmp_lt (tgt := 21) C dX7_next_8 (by decide) (fun c8 => ?_) (fun c8 => absurd c8 (not_not_intro c))
  refine x_aload_n C dX7_next_21 rfl ?_
  refine x_dup C dX7_next_22 rfl ?_
  refine m_get C Y 40 (by decide) (by decide) wf_X7_221 dX7_next_23 ?_
  refine x_iconst (v := 1) C dX7_next_26 (by decide) ?_
  refine x_iadd C dX7_next_27 ?_
  rw [ha, nI_1]
  refine m_put C Y hW.2.1 40 (by decide) (by decide) rfl rfl rfl wf_X7_221 dX7_next_28 ?_
  refine x_aload_n C dX7_next_31 rfl ?_
  refine m_getA C Y 38 (by decide) (by decide) wf_X7_94 dX7_next_32 ?_
  refine x_aload_n C dX7_next_35 rfl ?_
  refine m_get C Y 40 (by decide) (by decide) wf_X7_221 dX7_next_36 ?_
  refine x_iconst (v := 1) C dX7_next_39 (by decide) ?_
  refine x_isub C dX7_next_40 ?_
  refine m_ildN C Y 38 (a) (by decide) dX7_next_41 (by rw [MS.si_i, if_pos rfl]; exact nI_pred a) (by simp only [m_len]; omega) ?_
  refine m_iret C E dX7_next_42 ?_
  exact ⟨rfl, rfl⟩
theorem s_has_t (hW : Wm w M) (a e m : Nat) (ha : S.i 40 = nI a) (he : S.i 39 = nI e) (he3 : e ≤ 300) (hl : a + m ≤ e) : TF w M yX7_has cX7_has 3 (some .boolean) 1 [.int (nI m)] S (some (.int 1)) S := by
  refine TM.intro hW rfl (Nat.le_of_ble_eq_true rfl) (fun z C Y E hn => ?_)
  have c : nI m ≤ S.i 39 - S.i 40 := by rw [ha, he, pk_sub (by omega)]; exact nI_le (by omega) (by omega)
  refine x_aload_n C dX7_has_0 rfl ?_
  refine m_get C Y 39 (by decide) (by decide) wf_X7_215 dX7_has_1 ?_
  refine x_aload_n C dX7_has_4 rfl ?_
  refine m_get C Y 40 (by decide) (by decide) wf_X7_221 dX7_has_5 ?_
  refine x_isub C dX7_has_8 ?_
  refine x_iload_n C dX7_has_9 rfl ?_
  refine x_icmp_ge (tgt := 25) C dX7_has_10 (by decide) (fun c10 => ?_) (fun c10 => absurd c10 (not_not_intro c))
  refine x_iconst (v := 1) C dX7_has_25 (by decide) ?_
  refine m_zret C E dX7_has_26 (by decide) ?_
  exact ⟨rfl, rfl⟩
theorem s_has_f (hW : Wm w M) (a e m : Nat) (ha : S.i 40 = nI a) (he : S.i 39 = nI e) (he3 : e ≤ 300) (hae : a ≤ e) (hm : m ≤ 300) (hl : ¬ a + m ≤ e) : TF w M yX7_has cX7_has 3 (some .boolean) 1 [.int (nI m)] S (some (.int 0)) (f_bl S 4 (nI e)) := by
  refine TM.intro hW rfl (Nat.le_of_ble_eq_true rfl) (fun z C Y E hn => ?_)
  have c : ¬ nI m ≤ S.i 39 - S.i 40 := by rw [ha, he, pk_sub hae]; exact nI_ge (by omega) (by omega)
  have hb := s_blame (S := S) hW 4 (S.i 39)
  rw [← he] at E
  refine x_aload_n C dX7_has_0 rfl ?_
  refine m_get C Y 39 (by decide) (by decide) wf_X7_215 dX7_has_1 ?_
  refine x_aload_n C dX7_has_4 rfl ?_
  refine m_get C Y 40 (by decide) (by decide) wf_X7_221 dX7_has_5 ?_
  refine x_isub C dX7_has_8 ?_
  refine x_iload_n C dX7_has_9 rfl ?_
  refine x_icmp_ge (tgt := 25) C dX7_has_10 (by decide) (fun c10 => absurd c10 c) (fun c10 => ?_)
  refine x_aload_n C dX7_has_13 rfl ?_
  refine x_iconst (v := 4) C dX7_has_14 (by decide) ?_
  refine x_aload_n C dX7_has_15 rfl ?_
  refine m_get C Y 39 (by decide) (by decide) wf_X7_215 dX7_has_16 ?_
  refine m_callF C Y hW E (hb) rfl md_X7_blame wi_X7_blame ws_X7_blame wm_X7_207 dX7_has_19 rfl (by decide) (by decide) rfl (by simp [Value.category]) ?_
  refine x_istore_nE (L' := [some _, some _, some _]) C dX7_has_22 (by rw [hn]; decide) rfl ?_
  refine x_iconst (v := 0) C dX7_has_23 (by decide) ?_
  refine m_zret C E dX7_has_24 (by decide) ?_
  exact ⟨rfl, rfl⟩
theorem s_isByte (hW : Wm w M) (n i : Nat) (hn3 : n ≤ 300) (hi3 : i < 300) (lo hi : Int32) : TF w M yX7_isByte cX7_isByte 7 (some .boolean) 1 [.int (nI n), .int (nI i), .int lo, .int hi] S (some (.int (bI (f_isB S n i lo hi)))) (f_bS S n i lo hi) := by
  refine TM.intro hW rfl (Nat.le_of_ble_eq_true rfl) (fun z C Y E hn => ?_)
  have ci : nI n ≤ nI i ↔ ¬ i < n := by rw [nI_leI (by omega) (by omega)]; omega
  have ch : hi < S.a 38 i ↔ ¬ S.a 38 i ≤ hi := Int32.not_le.symm
  have T33 : ∀ v : Int32, v = bI (f_isB S n i lo hi) → X z 0 0 (MA M S) 33 [some (.ref M.o), some (.int (nI n)), some (.int (nI i)), some (.int lo), some (.int hi), some (.int v), none] [] := by
    intro v ev
    unfold f_bS at E
    by_cases hb : f_isB S n i lo hi
    · rw [bI_t hb, if_pos hb] at E
      rw [bI_t hb] at ev
      subst ev
      refine x_iload C dX7_isByte_33 rfl ?_
      refine x_if_ne (tgt := 55) C dX7_isByte_35 (by decide) (fun c35 => ?_) (fun c35 => absurd c35 (by decide))
      refine x_iload C dX7_isByte_55 rfl ?_
      refine m_zret C E dX7_isByte_57 (by decide) ?_
      exact ⟨rfl, rfl⟩
    · rw [bI_f hb, if_neg hb] at E
      rw [bI_f hb] at ev
      subst ev
      refine x_iload C dX7_isByte_33 rfl ?_
      refine x_if_ne (tgt := 55) C dX7_isByte_35 (by decide) (fun c35 => absurd c35 (not_not_intro rfl)) (fun c35 => ?_)
      refine x_aload_n C dX7_isByte_38 rfl ?_
      refine x_iconst (v := 1) C dX7_isByte_39 (by decide) ?_
      refine x_iload_n C dX7_isByte_40 rfl ?_
      refine x_iload_n C dX7_isByte_41 rfl ?_
      refine x_icmp_ge (tgt := 49) C dX7_isByte_42 (by decide) (fun c42 => ?_) (fun c42 => ?_)
      · skip
        refine x_iload_n C dX7_isByte_49 rfl ?_
        refine m_callF C Y hW E (s_blame hW _ _) rfl md_X7_blame wi_X7_blame ws_X7_blame wm_X7_207 dX7_isByte_50 rfl (by decide) (by decide) rfl (by simp [Value.category]) ?_
        refine x_istoreE (L' := [some _, some _, some _, some _, some _, some _, some _]) C dX7_isByte_53 (by rw [hn]; decide) rfl ?_
        refine x_iload C dX7_isByte_55 rfl ?_
        refine m_zret C E dX7_isByte_57 (by decide) ?_
        first | exact ⟨rfl, congrArg (f_bl S 1) (if_neg (ci.mp c42)).symm⟩ | exact ⟨rfl, congrArg (f_bl S 1) (if_pos (Classical.not_not.mp (fun q => c42 (ci.mpr q)))).symm⟩
      · skip
        refine x_iload_n C dX7_isByte_45 rfl ?_
        refine x_goto (tgt := 50) C dX7_isByte_46 (by decide) ?_
        refine m_callF C Y hW E (s_blame hW _ _) rfl md_X7_blame wi_X7_blame ws_X7_blame wm_X7_207 dX7_isByte_50 rfl (by decide) (by decide) rfl (by simp [Value.category]) ?_
        refine x_istoreE (L' := [some _, some _, some _, some _, some _, some _, some _]) C dX7_isByte_53 (by rw [hn]; decide) rfl ?_
        refine x_iload C dX7_isByte_55 rfl ?_
        refine m_zret C E dX7_isByte_57 (by decide) ?_
        first | exact ⟨rfl, congrArg (f_bl S 1) (if_neg (ci.mp c42)).symm⟩ | exact ⟨rfl, congrArg (f_bl S 1) (if_pos (Classical.not_not.mp (fun q => c42 (ci.mpr q)))).symm⟩
  refine x_iload_n C dX7_isByte_0 rfl ?_
  refine x_iload_n C dX7_isByte_1 rfl ?_
  refine x_icmp_ge (tgt := 30) C dX7_isByte_2 (by decide) (fun c2 => ?_) (fun c2 => ?_)
  · skip
    refine x_iconst (v := 0) C dX7_isByte_30 (by decide) ?_
    refine x_istoreE (L' := [some _, some _, some _, some _, some _, some _, none]) C dX7_isByte_31 (by rw [hn]; decide) rfl ?_
    first | exact T33 _ (bI_00 (fun q => ci.mp c2 q.1)) | exact T33 _ (bI_00 (fun q => q.2.1 c12)) | exact T33 _ (bI_00 (fun q => ch.mp c23 q.2.2)) | exact T33 _ (bI_1 ⟨Classical.not_not.mp (fun q => c2 (ci.mpr q)), c12, Classical.not_not.mp (fun q => c23 (ch.mpr q))⟩)
  · skip
    refine x_aload_n C dX7_isByte_5 rfl ?_
    refine m_getA C Y 38 (by decide) (by decide) wf_X7_94 dX7_isByte_6 ?_
    refine x_iload_n C dX7_isByte_9 rfl ?_
    refine m_ildN C Y 38 (i) (by decide) dX7_isByte_10 (by simp only [nI_lit, nI_add, pk_mul]) (by simp only [m_len]; omega) ?_
    refine x_iload_n C dX7_isByte_11 rfl ?_
    refine x_icmp_lt (tgt := 30) C dX7_isByte_12 (by decide) (fun c12 => ?_) (fun c12 => ?_)
    · skip
      refine x_iconst (v := 0) C dX7_isByte_30 (by decide) ?_
      refine x_istoreE (L' := [some _, some _, some _, some _, some _, some _, none]) C dX7_isByte_31 (by rw [hn]; decide) rfl ?_
      first | exact T33 _ (bI_00 (fun q => ci.mp c2 q.1)) | exact T33 _ (bI_00 (fun q => q.2.1 c12)) | exact T33 _ (bI_00 (fun q => ch.mp c23 q.2.2)) | exact T33 _ (bI_1 ⟨Classical.not_not.mp (fun q => c2 (ci.mpr q)), c12, Classical.not_not.mp (fun q => c23 (ch.mpr q))⟩)
    · skip
      refine x_aload_n C dX7_isByte_15 rfl ?_
      refine m_getA C Y 38 (by decide) (by decide) wf_X7_94 dX7_isByte_16 ?_
      refine x_iload_n C dX7_isByte_19 rfl ?_
      refine m_ildN C Y 38 (i) (by decide) dX7_isByte_20 (by simp only [nI_lit, nI_add, pk_mul]) (by simp only [m_len]; omega) ?_
      refine x_iload C dX7_isByte_21 rfl ?_
      refine x_icmp_gt (tgt := 30) C dX7_isByte_23 (by decide) (fun c23 => ?_) (fun c23 => ?_)
      · skip
        refine x_iconst (v := 0) C dX7_isByte_30 (by decide) ?_
        refine x_istoreE (L' := [some _, some _, some _, some _, some _, some _, none]) C dX7_isByte_31 (by rw [hn]; decide) rfl ?_
        first | exact T33 _ (bI_00 (fun q => ci.mp c2 q.1)) | exact T33 _ (bI_00 (fun q => q.2.1 c12)) | exact T33 _ (bI_00 (fun q => ch.mp c23 q.2.2)) | exact T33 _ (bI_1 ⟨Classical.not_not.mp (fun q => c2 (ci.mpr q)), c12, Classical.not_not.mp (fun q => c23 (ch.mpr q))⟩)
      · skip
        refine x_iconst (v := 1) C dX7_isByte_26 (by decide) ?_
        refine x_goto (tgt := 31) C dX7_isByte_27 (by decide) ?_
        refine x_istoreE (L' := [some _, some _, some _, some _, some _, some _, none]) C dX7_isByte_31 (by rw [hn]; decide) rfl ?_
        first | exact T33 _ (bI_00 (fun q => ci.mp c2 q.1)) | exact T33 _ (bI_00 (fun q => q.2.1 c12)) | exact T33 _ (bI_00 (fun q => ch.mp c23 q.2.2)) | exact T33 _ (bI_1 ⟨Classical.not_not.mp (fun q => c2 (ci.mpr q)), c12, Classical.not_not.mp (fun q => c23 (ch.mpr q))⟩)
end Fault
end
section
/-! MeterBusModel: isFrame. -/
def f_L (S : MS) : Nat := (S.a 38 1).toNatClampNeg
abbrev f_bad (S : MS) (k : Nat) : Prop := 9 < S.a 38 k &&& 15 ∨ ¬ S.a 38 k >>> ((4 : Int32) &&& 31) ≤ 9
def f_ids (S : MS) (L : Nat) : Nat → Nat → Bool × MS
  | 0, _ => (true, S.si 39 (nI (L + 4)))
  | t + 1, k => if f_bad S k then (false, f_bl S 3 (nI k)) else f_ids S L t (k + 1)
def f_fr3 (S : MS) : Bool × MS := if S.a 38 (f_L S + 4) = sumF (S.a 38) 4 (f_L S + 4) &&& 255 then f_ids S (f_L S) 4 7 else (false, f_bl S 2 (nI (f_L S + 4)))
def f_fr2 (S : MS) (n : Nat) : Bool × MS :=
  if n = f_L S + 6 then (if f_isB S n 4 8 8 then (if f_isB S n 6 114 114 then (if f_isB S n (f_L S + 5) 22 22 then f_fr3 S else (false, f_bS S n (f_L S + 5) 22 22)) else (false, f_bS S n 6 114 114)) else (false, f_bS S n 4 8 8))
  else (false, f_bl S 1 (if n < f_L S + 6 then nI n else nI (f_L S + 6)))
def f_fr (S : MS) (n : Nat) : Bool × MS :=
  if f_isB S n 0 104 104 then (if f_isB S n 1 15 252 then (if f_isB S n 2 (S.a 38 1) (S.a 38 1) then (if f_isB S n 3 104 104 then f_fr2 S n else (false, f_bS S n 3 104 104)) else (false, f_bS S n 2 (S.a 38 1) (S.a 38 1))) else (false, f_bS S n 1 15 252))
  else (false, f_bS S n 0 104 104)
theorem f_bS_t {S : MS} {n i : Nat} {lo hi : Int32} (h : f_isB S n i lo hi) : f_bS S n i lo hi = S := if_pos h
section Frame
variable {w : Wd} {M : MW} {S : MS}
theorem s_isB_t (hW : Wm w M) {n i : Nat} (hn3 : n ≤ 300) (hi3 : i < 300) {lo hi : Int32} (h : f_isB S n i lo hi) : TF w M yX7_isByte cX7_isByte 7 (some .boolean) 1 [.int (nI n), .int (nI i), .int lo, .int hi] S (some (.int 1)) S := by
  have g := s_isByte (S := S) hW n i hn3 hi3 lo hi
  rw [bI_t h, f_bS_t h] at g
  exact g
theorem s_isB_f (hW : Wm w M) {n i : Nat} (hn3 : n ≤ 300) (hi3 : i < 300) {lo hi : Int32} (h : ¬ f_isB S n i lo hi) : TF w M yX7_isByte cX7_isByte 7 (some .boolean) 1 [.int (nI n), .int (nI i), .int lo, .int hi] S (some (.int 0)) (f_bS S n i lo hi) := by
  have g := s_isByte (S := S) hW n i hn3 hi3 lo hi
  rw [bI_f h] at g
  exact g
theorem f_L_of {n : Nat} (h : f_isB S n 1 15 252) : 15 ≤ f_L S ∧ f_L S ≤ 252 ∧ S.a 38 1 = nI (f_L S) := by
  obtain ⟨j, h1, h2, e⟩ := in_nI (x := S.a 38 1) (lo := 15) (hi := 252) (by decide) ⟨Int32.not_lt.mp h.2.1, h.2.2⟩ (by decide)
  unfold f_L
  rw [e, nI_clamp (by omega)]
  exact ⟨h1, h2, rfl⟩
/-- the digits of the address, from pc 199 -/
theorem fr_ids (hW : Wm w M) {n L : Nat} (hL2 : L ≤ 252) {z : Fx} {R : Bool × MS} (C : Cx z RX7 cX7_isFrame gw) (Y : Mty z M) (E : Ct z w gw yX7_isFrame (some .boolean) 2 (40 * 2) (PM M (fun q Q => q = some (.int (bI (R.1 = true))) ∧ Q = R.2))) (hn : z.nL = 6) (sv : Int32) :
    ∀ (t k : Nat), k + t = 11 → 7 ≤ k → f_ids S L t k = R → X z 0 0 (MA M S) 199 [some (.ref M.o), some (.int (nI n)), some (.int (nI L)), some (.int sv), some (.int (nI k)), none] [] := by
  intro t
  induction t with
  | zero =>
    intro k hk _ e
    obtain rfl : k = 11 := by omega
    subst e
    refine x_iload C dX7_isFrame_199 rfl ?_
    refine x_bipush (v := 11) C dX7_isFrame_201 (by decide) ?_
    refine x_icmp_ge (tgt := 252) C dX7_isFrame_203 (by decide) (fun c203 => ?_) (fun c203 => absurd c203 (by decide))
    refine x_aload_n C dX7_isFrame_252 rfl ?_
    refine x_iload_n C dX7_isFrame_253 rfl ?_
    refine x_iconst (v := 4) C dX7_isFrame_254 (by decide) ?_
    refine x_iadd C dX7_isFrame_255 ?_
    refine m_put C Y hW.2.1 39 (by decide) (by decide) rfl rfl rfl wf_X7_215 dX7_isFrame_256 ?_
    refine x_iconst (v := 1) C dX7_isFrame_259 (by decide) ?_
    refine m_zret C E dX7_isFrame_260 (by decide) ?_
    exact ⟨rfl, by simp only [nI_lit, nI_add]; rfl⟩
  | succ t ih =>
    intro k hk h7 e
    have hlt : ¬ 11 ≤ nI k := by rw [nI_lit]; exact nI_ge (show k < 11 by omega) (by decide)
    by_cases hb : f_bad S k
    · rw [f_ids, if_pos hb] at e
      subst e
      refine x_iload C dX7_isFrame_199 rfl ?_
      refine x_bipush (v := 11) C dX7_isFrame_201 (by decide) ?_
      refine x_icmp_ge (tgt := 252) C dX7_isFrame_203 (by decide) (fun c203 => absurd c203 hlt) (fun c203 => ?_)
      refine x_aload_n C dX7_isFrame_206 rfl ?_
      refine m_getA C Y 38 (by decide) (by decide) wf_X7_94 dX7_isFrame_207 ?_
      refine x_iload C dX7_isFrame_210 rfl ?_
      refine m_ildN C Y 38 (k) (by decide) dX7_isFrame_212 (by simp only [nI_lit, nI_add, pk_mul]) (by simp only [m_len]; omega) ?_
      refine x_bipush (v := 15) C dX7_isFrame_213 (by decide) ?_
      refine x_iand C dX7_isFrame_215 ?_
      refine x_bipush (v := 9) C dX7_isFrame_216 (by decide) ?_
      refine x_icmp_gt (tgt := 235) C dX7_isFrame_218 (by decide) (fun c218 => ?_) (fun c218 => ?_)
      · skip
        refine x_aload_n C dX7_isFrame_235 rfl ?_
        refine x_iconst (v := 3) C dX7_isFrame_236 (by decide) ?_
        refine x_iload C dX7_isFrame_237 rfl ?_
        refine m_callF C Y hW E (s_blame hW _ _) rfl md_X7_blame wi_X7_blame ws_X7_blame wm_X7_207 dX7_isFrame_239 rfl (by decide) (by decide) rfl (by simp [Value.category]) ?_
        refine x_istoreE (L' := [some _, some _, some _, some _, some _, some _]) C dX7_isFrame_242 (by rw [hn]; decide) rfl ?_
        refine x_iconst (v := 0) C dX7_isFrame_244 (by decide) ?_
        refine m_zret C E dX7_isFrame_245 (by decide) ?_
        exact ⟨rfl, rfl⟩
      · skip
        refine x_aload_n C dX7_isFrame_221 rfl ?_
        refine m_getA C Y 38 (by decide) (by decide) wf_X7_94 dX7_isFrame_222 ?_
        refine x_iload C dX7_isFrame_225 rfl ?_
        refine m_ildN C Y 38 (k) (by decide) dX7_isFrame_227 (by simp only [nI_lit, nI_add, pk_mul]) (by simp only [m_len]; omega) ?_
        refine x_iconst (v := 4) C dX7_isFrame_228 (by decide) ?_
        refine x_ishr C dX7_isFrame_229 ?_
        refine x_bipush (v := 9) C dX7_isFrame_230 (by decide) ?_
        refine x_icmp_le (tgt := 246) C dX7_isFrame_232 (by decide) (fun c232 => ?_) (fun c232 => ?_)
        · skip
          exact absurd hb (fun q => q.elim c218 (fun r => r c232))
        · skip
          refine x_aload_n C dX7_isFrame_235 rfl ?_
          refine x_iconst (v := 3) C dX7_isFrame_236 (by decide) ?_
          refine x_iload C dX7_isFrame_237 rfl ?_
          refine m_callF C Y hW E (s_blame hW _ _) rfl md_X7_blame wi_X7_blame ws_X7_blame wm_X7_207 dX7_isFrame_239 rfl (by decide) (by decide) rfl (by simp [Value.category]) ?_
          refine x_istoreE (L' := [some _, some _, some _, some _, some _, some _]) C dX7_isFrame_242 (by rw [hn]; decide) rfl ?_
          refine x_iconst (v := 0) C dX7_isFrame_244 (by decide) ?_
          refine m_zret C E dX7_isFrame_245 (by decide) ?_
          exact ⟨rfl, rfl⟩
    · rw [f_ids, if_neg hb] at e
      have ih2 := ih (k + 1) (by omega) (by omega) e
      refine x_iload C dX7_isFrame_199 rfl ?_
      refine x_bipush (v := 11) C dX7_isFrame_201 (by decide) ?_
      refine x_icmp_ge (tgt := 252) C dX7_isFrame_203 (by decide) (fun c203 => absurd c203 hlt) (fun c203 => ?_)
      refine x_aload_n C dX7_isFrame_206 rfl ?_
      refine m_getA C Y 38 (by decide) (by decide) wf_X7_94 dX7_isFrame_207 ?_
      refine x_iload C dX7_isFrame_210 rfl ?_
      refine m_ildN C Y 38 (k) (by decide) dX7_isFrame_212 (by simp only [nI_lit, nI_add, pk_mul]) (by simp only [m_len]; omega) ?_
      refine x_bipush (v := 15) C dX7_isFrame_213 (by decide) ?_
      refine x_iand C dX7_isFrame_215 ?_
      refine x_bipush (v := 9) C dX7_isFrame_216 (by decide) ?_
      refine x_icmp_gt (tgt := 235) C dX7_isFrame_218 (by decide) (fun c218 => absurd c218 (fun q => hb (Or.inl q))) (fun c218 => ?_)
      refine x_aload_n C dX7_isFrame_221 rfl ?_
      refine m_getA C Y 38 (by decide) (by decide) wf_X7_94 dX7_isFrame_222 ?_
      refine x_iload C dX7_isFrame_225 rfl ?_
      refine m_ildN C Y 38 (k) (by decide) dX7_isFrame_227 (by simp only [nI_lit, nI_add, pk_mul]) (by simp only [m_len]; omega) ?_
      refine x_iconst (v := 4) C dX7_isFrame_228 (by decide) ?_
      refine x_ishr C dX7_isFrame_229 ?_
      refine x_bipush (v := 9) C dX7_isFrame_230 (by decide) ?_
      refine x_icmp_le (tgt := 246) C dX7_isFrame_232 (by decide) (fun c232 => ?_) (fun c232 => absurd c232 (not_not_intro (Classical.not_not.mp (fun q => hb (Or.inr q)))))
      refine x_iincE (v := nI (k + 1)) (L' := [some _, some _, some _, some _, some _, none]) C dX7_isFrame_246 rfl (nI_1 k) (by rw [hn]; decide) rfl ?_
      refine x_goto (tgt := 199) C dX7_isFrame_249 (by decide) ?_
      exact ih2
/-- the sum, from pc 138 -/
theorem fr_sum (hW : Wm w M) {n : Nat} (hL1 : 15 ≤ f_L S) (hL2 : f_L S ≤ 252) {z : Fx} (C : Cx z RX7 cX7_isFrame gw) (Y : Mty z M) (E : Ct z w gw yX7_isFrame (some .boolean) 2 (40 * 2) (PM M (fun q Q => q = some (.int (bI ((f_fr3 S).1 = true))) ∧ Q = (f_fr3 S).2))) (hn : z.nL = 6) :
    X z 0 0 (MA M S) 138 [some (.ref M.o), some (.int (nI n)), some (.int (nI (f_L S))), none, none, none] [] := by
  have e4 : nI (f_L S) + 4 = nI (f_L S + 4) := by simp only [nI_lit, nI_add]
  have LP : ∀ (t b : Nat), b + t = f_L S + 4 → 4 ≤ b → X z 0 0 (MA M S) 143 [some (.ref M.o), some (.int (nI n)), some (.int (nI (f_L S))), some (.int (sumF (S.a 38) 4 b)), some (.int (nI b)), none] [] := by
    intro t
    induction t with
    | zero =>
      intro b hb h4
      obtain rfl : b = f_L S + 4 := by omega
      by_cases hs : S.a 38 (f_L S + 4) = sumF (S.a 38) 4 (f_L S + 4) &&& 255
      · have e : f_fr3 S = f_ids S (f_L S) 4 7 := if_pos hs
        rw [e] at E
        refine x_iload C dX7_isFrame_143 rfl ?_
        refine x_iload_n C dX7_isFrame_145 rfl ?_
        refine x_iconst (v := 4) C dX7_isFrame_146 (by decide) ?_
        refine x_iadd C dX7_isFrame_147 ?_
        rw [e4]
        refine x_icmp_ge (tgt := 167) C dX7_isFrame_148 (by decide) (fun c148 => ?_) (fun c148 => absurd c148 (not_not_intro (Int32.le_refl _)))
        refine x_aload_n C dX7_isFrame_167 rfl ?_
        refine m_getA C Y 38 (by decide) (by decide) wf_X7_94 dX7_isFrame_168 ?_
        refine x_iload_n C dX7_isFrame_171 rfl ?_
        refine x_iconst (v := 4) C dX7_isFrame_172 (by decide) ?_
        refine x_iadd C dX7_isFrame_173 ?_
        rw [e4]
        refine m_ildN C Y 38 (f_L S + 4) (by decide) dX7_isFrame_174 rfl (by simp only [m_len]; omega) ?_
        refine x_iload_n C dX7_isFrame_175 rfl ?_
        refine x_sipush (v := 255) C dX7_isFrame_176 (by decide) ?_
        refine x_iand C dX7_isFrame_179 ?_
        refine x_icmp_eq (tgt := 195) C dX7_isFrame_180 (by decide) (fun c180 => ?_) (fun c180 => absurd c180 (not_not_intro hs))
        refine x_bipush (v := 7) C dX7_isFrame_195 (by decide) ?_
        refine x_istoreE (L' := [some _, some _, some _, some _, some _, none]) C dX7_isFrame_197 (by rw [hn]; decide) rfl ?_
        exact fr_ids hW hL2 C Y E hn _ 4 7 rfl (by decide) rfl
      · have e : f_fr3 S = (false, f_bl S 2 (nI (f_L S + 4))) := if_neg hs
        rw [e] at E
        refine x_iload C dX7_isFrame_143 rfl ?_
        refine x_iload_n C dX7_isFrame_145 rfl ?_
        refine x_iconst (v := 4) C dX7_isFrame_146 (by decide) ?_
        refine x_iadd C dX7_isFrame_147 ?_
        rw [e4]
        refine x_icmp_ge (tgt := 167) C dX7_isFrame_148 (by decide) (fun c148 => ?_) (fun c148 => absurd c148 (not_not_intro (Int32.le_refl _)))
        refine x_aload_n C dX7_isFrame_167 rfl ?_
        refine m_getA C Y 38 (by decide) (by decide) wf_X7_94 dX7_isFrame_168 ?_
        refine x_iload_n C dX7_isFrame_171 rfl ?_
        refine x_iconst (v := 4) C dX7_isFrame_172 (by decide) ?_
        refine x_iadd C dX7_isFrame_173 ?_
        rw [e4]
        refine m_ildN C Y 38 (f_L S + 4) (by decide) dX7_isFrame_174 rfl (by simp only [m_len]; omega) ?_
        refine x_iload_n C dX7_isFrame_175 rfl ?_
        refine x_sipush (v := 255) C dX7_isFrame_176 (by decide) ?_
        refine x_iand C dX7_isFrame_179 ?_
        refine x_icmp_eq (tgt := 195) C dX7_isFrame_180 (by decide) (fun c180 => absurd c180 (fun q => hs q)) (fun c180 => ?_)
        refine x_aload_n C dX7_isFrame_183 rfl ?_
        refine x_iconst (v := 2) C dX7_isFrame_184 (by decide) ?_
        refine x_iload_n C dX7_isFrame_185 rfl ?_
        refine x_iconst (v := 4) C dX7_isFrame_186 (by decide) ?_
        refine x_iadd C dX7_isFrame_187 ?_
        rw [e4]
        refine m_callF C Y hW E (s_blame hW _ _) rfl md_X7_blame wi_X7_blame ws_X7_blame wm_X7_207 dX7_isFrame_188 rfl (by decide) (by decide) rfl (by simp [Value.category]) ?_
        refine x_istoreE (L' := [some _, some _, some _, some _, some _, none]) C dX7_isFrame_191 (by rw [hn]; decide) rfl ?_
        refine x_iconst (v := 0) C dX7_isFrame_193 (by decide) ?_
        refine m_zret C E dX7_isFrame_194 (by decide) ?_
        exact ⟨rfl, rfl⟩
    | succ t ih =>
      intro b hb h4
      have ih2 := ih (b + 1) (by omega) (by omega)
      refine x_iload C dX7_isFrame_143 rfl ?_
      refine x_iload_n C dX7_isFrame_145 rfl ?_
      refine x_iconst (v := 4) C dX7_isFrame_146 (by decide) ?_
      refine x_iadd C dX7_isFrame_147 ?_
      rw [e4]
      refine x_icmp_ge (tgt := 167) C dX7_isFrame_148 (by decide) (fun c148 => absurd c148 (nI_ge (show b < f_L S + 4 by omega) (by omega))) (fun c148 => ?_)
      refine x_iload_n C dX7_isFrame_151 rfl ?_
      refine x_aload_n C dX7_isFrame_152 rfl ?_
      refine m_getA C Y 38 (by decide) (by decide) wf_X7_94 dX7_isFrame_153 ?_
      refine x_iload C dX7_isFrame_156 rfl ?_
      refine m_ildN C Y 38 (b) (by decide) dX7_isFrame_158 (by simp only [nI_lit, nI_add, pk_mul]) (by simp only [m_len]; omega) ?_
      refine x_iadd C dX7_isFrame_159 ?_
      rw [← sumF_s (S.a 38) h4]
      refine x_istore_nE (L' := [some _, some _, some _, some _, some _, none]) C dX7_isFrame_160 (by rw [hn]; decide) rfl ?_
      refine x_iincE (v := nI (b + 1)) (L' := [some _, some _, some _, some _, some _, none]) C dX7_isFrame_161 rfl (nI_1 b) (by rw [hn]; decide) rfl ?_
      refine x_goto (tgt := 143) C dX7_isFrame_164 (by decide) ?_
      exact ih2
  refine x_iconst (v := 0) C dX7_isFrame_138 (by decide) ?_
  refine x_istore_nE (L' := [some _, some _, some _, some _, none, none]) C dX7_isFrame_139 (by rw [hn]; decide) rfl ?_
  refine x_iconst (v := 4) C dX7_isFrame_140 (by decide) ?_
  refine x_istoreE (L' := [some _, some _, some _, some _, some _, none]) C dX7_isFrame_141 (by rw [hn]; decide) rfl ?_
  exact LP (f_L S) 4 (by omega) (by omega)
/-- behind the first four bytes, from pc 62 -/
theorem fr_mid (hW : Wm w M) {n : Nat} (hn3 : n ≤ 300) (hL1 : 15 ≤ f_L S) (hL2 : f_L S ≤ 252) {z : Fx} (C : Cx z RX7 cX7_isFrame gw) (Y : Mty z M) (E : Ct z w gw yX7_isFrame (some .boolean) 2 (40 * 2) (PM M (fun q Q => q = some (.int (bI ((f_fr2 S n).1 = true))) ∧ Q = (f_fr2 S n).2))) (hn : z.nL = 6) :
    X z 0 0 (MA M S) 62 [some (.ref M.o), some (.int (nI n)), some (.int (nI (f_L S))), none, none, none] [] := by
  have e6 : nI (f_L S) + 6 = nI (f_L S + 6) := by simp only [nI_lit, nI_add]
  have e5 : nI (f_L S) + 5 = nI (f_L S + 5) := by simp only [nI_lit, nI_add]
  have c6 : nI n = nI (f_L S + 6) ↔ n = f_L S + 6 := nI_eq (by omega) (by omega)
  have g6 : nI (f_L S + 6) ≤ nI n ↔ ¬ n < f_L S + 6 := by rw [nI_leI (by omega) (by omega)]; omega
  unfold f_fr2 at E
  by_cases h0 : n = f_L S + 6
  · rw [if_pos h0] at E
    by_cases h1 : f_isB S n 4 8 8
    · rw [if_pos h1] at E
      have b1 := s_isB_t hW hn3 (by decide) h1
      by_cases h2 : f_isB S n 6 114 114
      · rw [if_pos h2] at E
        have b2 := s_isB_t hW hn3 (by decide) h2
        by_cases h3 : f_isB S n (f_L S + 5) 22 22
        · rw [if_pos h3] at E
          have b3 := s_isB_t hW hn3 (by omega) h3
          refine x_iload_n C dX7_isFrame_62 rfl ?_
          refine x_iload_n C dX7_isFrame_63 rfl ?_
          refine x_bipush (v := 6) C dX7_isFrame_64 (by decide) ?_
          refine x_iadd C dX7_isFrame_66 ?_
          rw [e6]
          refine x_icmp_eq (tgt := 94) C dX7_isFrame_67 (by decide) (fun c67 => ?_) (fun c67 => absurd c67 (not_not_intro (c6.mpr h0)))
          refine x_aload_n C dX7_isFrame_94 rfl ?_
          refine x_iload_n C dX7_isFrame_95 rfl ?_
          refine x_iconst (v := 4) C dX7_isFrame_96 (by decide) ?_
          refine x_bipush (v := 8) C dX7_isFrame_97 (by decide) ?_
          refine x_bipush (v := 8) C dX7_isFrame_99 (by decide) ?_
          refine m_callF C Y hW E (b1) rfl md_X7_isByte wi_X7_isByte ws_X7_isByte wm_X7_211 dX7_isFrame_101 rfl (by decide) (by decide) rfl (by simp [Value.category]) ?_
          refine x_if_eq (tgt := 136) C dX7_isFrame_104 (by decide) (fun c104 => absurd c104 (by decide)) (fun c104 => ?_)
          refine x_aload_n C dX7_isFrame_107 rfl ?_
          refine x_iload_n C dX7_isFrame_108 rfl ?_
          refine x_bipush (v := 6) C dX7_isFrame_109 (by decide) ?_
          refine x_bipush (v := 114) C dX7_isFrame_111 (by decide) ?_
          refine x_bipush (v := 114) C dX7_isFrame_113 (by decide) ?_
          refine m_callF C Y hW E (b2) rfl md_X7_isByte wi_X7_isByte ws_X7_isByte wm_X7_211 dX7_isFrame_115 rfl (by decide) (by decide) rfl (by simp [Value.category]) ?_
          refine x_if_eq (tgt := 136) C dX7_isFrame_118 (by decide) (fun c118 => absurd c118 (by decide)) (fun c118 => ?_)
          refine x_aload_n C dX7_isFrame_121 rfl ?_
          refine x_iload_n C dX7_isFrame_122 rfl ?_
          refine x_iload_n C dX7_isFrame_123 rfl ?_
          refine x_iconst (v := 5) C dX7_isFrame_124 (by decide) ?_
          refine x_iadd C dX7_isFrame_125 ?_
          refine x_bipush (v := 22) C dX7_isFrame_126 (by decide) ?_
          refine x_bipush (v := 22) C dX7_isFrame_128 (by decide) ?_
          rw [e5]
          refine m_callF C Y hW E (b3) rfl md_X7_isByte wi_X7_isByte ws_X7_isByte wm_X7_211 dX7_isFrame_130 rfl (by decide) (by decide) rfl (by simp [Value.category]) ?_
          refine x_if_ne (tgt := 138) C dX7_isFrame_133 (by decide) (fun c133 => ?_) (fun c133 => absurd c133 (by decide))
          exact fr_sum hW hL1 hL2 C Y E hn
        · rw [if_neg h3] at E
          have b3 := s_isB_f hW hn3 (by omega) h3
          refine x_iload_n C dX7_isFrame_62 rfl ?_
          refine x_iload_n C dX7_isFrame_63 rfl ?_
          refine x_bipush (v := 6) C dX7_isFrame_64 (by decide) ?_
          refine x_iadd C dX7_isFrame_66 ?_
          rw [e6]
          refine x_icmp_eq (tgt := 94) C dX7_isFrame_67 (by decide) (fun c67 => ?_) (fun c67 => absurd c67 (not_not_intro (c6.mpr h0)))
          refine x_aload_n C dX7_isFrame_94 rfl ?_
          refine x_iload_n C dX7_isFrame_95 rfl ?_
          refine x_iconst (v := 4) C dX7_isFrame_96 (by decide) ?_
          refine x_bipush (v := 8) C dX7_isFrame_97 (by decide) ?_
          refine x_bipush (v := 8) C dX7_isFrame_99 (by decide) ?_
          refine m_callF C Y hW E (b1) rfl md_X7_isByte wi_X7_isByte ws_X7_isByte wm_X7_211 dX7_isFrame_101 rfl (by decide) (by decide) rfl (by simp [Value.category]) ?_
          refine x_if_eq (tgt := 136) C dX7_isFrame_104 (by decide) (fun c104 => absurd c104 (by decide)) (fun c104 => ?_)
          refine x_aload_n C dX7_isFrame_107 rfl ?_
          refine x_iload_n C dX7_isFrame_108 rfl ?_
          refine x_bipush (v := 6) C dX7_isFrame_109 (by decide) ?_
          refine x_bipush (v := 114) C dX7_isFrame_111 (by decide) ?_
          refine x_bipush (v := 114) C dX7_isFrame_113 (by decide) ?_
          refine m_callF C Y hW E (b2) rfl md_X7_isByte wi_X7_isByte ws_X7_isByte wm_X7_211 dX7_isFrame_115 rfl (by decide) (by decide) rfl (by simp [Value.category]) ?_
          refine x_if_eq (tgt := 136) C dX7_isFrame_118 (by decide) (fun c118 => absurd c118 (by decide)) (fun c118 => ?_)
          refine x_aload_n C dX7_isFrame_121 rfl ?_
          refine x_iload_n C dX7_isFrame_122 rfl ?_
          refine x_iload_n C dX7_isFrame_123 rfl ?_
          refine x_iconst (v := 5) C dX7_isFrame_124 (by decide) ?_
          refine x_iadd C dX7_isFrame_125 ?_
          refine x_bipush (v := 22) C dX7_isFrame_126 (by decide) ?_
          refine x_bipush (v := 22) C dX7_isFrame_128 (by decide) ?_
          rw [e5]
          refine m_callF C Y hW E (b3) rfl md_X7_isByte wi_X7_isByte ws_X7_isByte wm_X7_211 dX7_isFrame_130 rfl (by decide) (by decide) rfl (by simp [Value.category]) ?_
          refine x_if_ne (tgt := 138) C dX7_isFrame_133 (by decide) (fun c133 => absurd c133 (not_not_intro rfl)) (fun c133 => ?_)
          refine x_iconst (v := 0) C dX7_isFrame_136 (by decide) ?_
          refine m_zret C E dX7_isFrame_137 (by decide) ?_
          exact ⟨rfl, rfl⟩
      · rw [if_neg h2] at E
        have b2 := s_isB_f hW hn3 (by decide) h2
        refine x_iload_n C dX7_isFrame_62 rfl ?_
        refine x_iload_n C dX7_isFrame_63 rfl ?_
        refine x_bipush (v := 6) C dX7_isFrame_64 (by decide) ?_
        refine x_iadd C dX7_isFrame_66 ?_
        rw [e6]
        refine x_icmp_eq (tgt := 94) C dX7_isFrame_67 (by decide) (fun c67 => ?_) (fun c67 => absurd c67 (not_not_intro (c6.mpr h0)))
        refine x_aload_n C dX7_isFrame_94 rfl ?_
        refine x_iload_n C dX7_isFrame_95 rfl ?_
        refine x_iconst (v := 4) C dX7_isFrame_96 (by decide) ?_
        refine x_bipush (v := 8) C dX7_isFrame_97 (by decide) ?_
        refine x_bipush (v := 8) C dX7_isFrame_99 (by decide) ?_
        refine m_callF C Y hW E (b1) rfl md_X7_isByte wi_X7_isByte ws_X7_isByte wm_X7_211 dX7_isFrame_101 rfl (by decide) (by decide) rfl (by simp [Value.category]) ?_
        refine x_if_eq (tgt := 136) C dX7_isFrame_104 (by decide) (fun c104 => absurd c104 (by decide)) (fun c104 => ?_)
        refine x_aload_n C dX7_isFrame_107 rfl ?_
        refine x_iload_n C dX7_isFrame_108 rfl ?_
        refine x_bipush (v := 6) C dX7_isFrame_109 (by decide) ?_
        refine x_bipush (v := 114) C dX7_isFrame_111 (by decide) ?_
        refine x_bipush (v := 114) C dX7_isFrame_113 (by decide) ?_
        refine m_callF C Y hW E (b2) rfl md_X7_isByte wi_X7_isByte ws_X7_isByte wm_X7_211 dX7_isFrame_115 rfl (by decide) (by decide) rfl (by simp [Value.category]) ?_
        refine x_if_eq (tgt := 136) C dX7_isFrame_118 (by decide) (fun c118 => ?_) (fun c118 => absurd c118 (not_not_intro rfl))
        refine x_iconst (v := 0) C dX7_isFrame_136 (by decide) ?_
        refine m_zret C E dX7_isFrame_137 (by decide) ?_
        exact ⟨rfl, rfl⟩
    · rw [if_neg h1] at E
      have b1 := s_isB_f hW hn3 (by decide) h1
      refine x_iload_n C dX7_isFrame_62 rfl ?_
      refine x_iload_n C dX7_isFrame_63 rfl ?_
      refine x_bipush (v := 6) C dX7_isFrame_64 (by decide) ?_
      refine x_iadd C dX7_isFrame_66 ?_
      rw [e6]
      refine x_icmp_eq (tgt := 94) C dX7_isFrame_67 (by decide) (fun c67 => ?_) (fun c67 => absurd c67 (not_not_intro (c6.mpr h0)))
      refine x_aload_n C dX7_isFrame_94 rfl ?_
      refine x_iload_n C dX7_isFrame_95 rfl ?_
      refine x_iconst (v := 4) C dX7_isFrame_96 (by decide) ?_
      refine x_bipush (v := 8) C dX7_isFrame_97 (by decide) ?_
      refine x_bipush (v := 8) C dX7_isFrame_99 (by decide) ?_
      refine m_callF C Y hW E (b1) rfl md_X7_isByte wi_X7_isByte ws_X7_isByte wm_X7_211 dX7_isFrame_101 rfl (by decide) (by decide) rfl (by simp [Value.category]) ?_
      refine x_if_eq (tgt := 136) C dX7_isFrame_104 (by decide) (fun c104 => ?_) (fun c104 => absurd c104 (not_not_intro rfl))
      refine x_iconst (v := 0) C dX7_isFrame_136 (by decide) ?_
      refine m_zret C E dX7_isFrame_137 (by decide) ?_
      exact ⟨rfl, rfl⟩
  · rw [if_neg h0] at E
    refine x_iload_n C dX7_isFrame_62 rfl ?_
    refine x_iload_n C dX7_isFrame_63 rfl ?_
    refine x_bipush (v := 6) C dX7_isFrame_64 (by decide) ?_
    refine x_iadd C dX7_isFrame_66 ?_
    rw [e6]
    refine x_icmp_eq (tgt := 94) C dX7_isFrame_67 (by decide) (fun c67 => absurd c67 (fun q => h0 (c6.mp q))) (fun c67 => ?_)
    refine x_aload_n C dX7_isFrame_70 rfl ?_
    refine x_iconst (v := 1) C dX7_isFrame_71 (by decide) ?_
    refine x_iload_n C dX7_isFrame_72 rfl ?_
    refine x_iload_n C dX7_isFrame_73 rfl ?_
    refine x_bipush (v := 6) C dX7_isFrame_74 (by decide) ?_
    refine x_iadd C dX7_isFrame_76 ?_
    rw [e6]
    refine x_icmp_ge (tgt := 84) C dX7_isFrame_77 (by decide) (fun c77 => ?_) (fun c77 => ?_)
    · skip
      refine x_iload_n C dX7_isFrame_84 rfl ?_
      refine x_bipush (v := 6) C dX7_isFrame_85 (by decide) ?_
      refine x_iadd C dX7_isFrame_87 ?_
      try rw [e6]
      refine m_callF C Y hW E (s_blame hW _ _) rfl md_X7_blame wi_X7_blame ws_X7_blame wm_X7_207 dX7_isFrame_88 rfl (by decide) (by decide) rfl (by simp [Value.category]) ?_
      refine x_istore_nE (L' := [some _, some _, some _, some _, none, none]) C dX7_isFrame_91 (by rw [hn]; decide) rfl ?_
      refine x_iconst (v := 0) C dX7_isFrame_92 (by decide) ?_
      refine m_zret C E dX7_isFrame_93 (by decide) ?_
      first | exact ⟨rfl, congrArg (f_bl S 1) (if_neg (g6.mp c77)).symm⟩ | exact ⟨rfl, congrArg (f_bl S 1) (if_pos (Classical.not_not.mp (fun q => c77 (g6.mpr q)))).symm⟩
    · skip
      refine x_iload_n C dX7_isFrame_80 rfl ?_
      refine x_goto (tgt := 88) C dX7_isFrame_81 (by decide) ?_
      try rw [e6]
      refine m_callF C Y hW E (s_blame hW _ _) rfl md_X7_blame wi_X7_blame ws_X7_blame wm_X7_207 dX7_isFrame_88 rfl (by decide) (by decide) rfl (by simp [Value.category]) ?_
      refine x_istore_nE (L' := [some _, some _, some _, some _, none, none]) C dX7_isFrame_91 (by rw [hn]; decide) rfl ?_
      refine x_iconst (v := 0) C dX7_isFrame_92 (by decide) ?_
      refine m_zret C E dX7_isFrame_93 (by decide) ?_
      first | exact ⟨rfl, congrArg (f_bl S 1) (if_neg (g6.mp c77)).symm⟩ | exact ⟨rfl, congrArg (f_bl S 1) (if_pos (Classical.not_not.mp (fun q => c77 (g6.mpr q)))).symm⟩
theorem s_isFrame (hW : Wm w M) (n : Nat) (hn3 : n ≤ 300) : TF w M yX7_isFrame cX7_isFrame 6 (some .boolean) 2 [.int (nI n)] S (some (.int (bI ((f_fr S n).1 = true)))) (f_fr S n).2 := by
  refine TM.intro hW rfl (Nat.le_of_ble_eq_true rfl) (fun z C Y E hn => ?_)
  unfold f_fr at E
  by_cases h0 : f_isB S n 0 104 104
  · rw [if_pos h0] at E
    have b0 := s_isB_t hW hn3 (by decide) h0
    by_cases h1 : f_isB S n 1 15 252
    · rw [if_pos h1] at E
      have b1 := s_isB_t hW hn3 (by decide) h1
      obtain ⟨l1, l2, l3⟩ := f_L_of h1
      by_cases h2 : f_isB S n 2 (S.a 38 1) (S.a 38 1)
      · rw [if_pos h2] at E
        have b2 := s_isB_t hW hn3 (by decide) h2
        rw [l3] at b2
        by_cases h3 : f_isB S n 3 104 104
        · rw [if_pos h3] at E
          have b3 := s_isB_t hW hn3 (by decide) h3
          refine x_aload_n C dX7_isFrame_0 rfl ?_
          refine x_iload_n C dX7_isFrame_1 rfl ?_
          refine x_iconst (v := 0) C dX7_isFrame_2 (by decide) ?_
          refine x_bipush (v := 104) C dX7_isFrame_3 (by decide) ?_
          refine x_bipush (v := 104) C dX7_isFrame_5 (by decide) ?_
          refine m_callF C Y hW E (b0) rfl md_X7_isByte wi_X7_isByte ws_X7_isByte wm_X7_211 dX7_isFrame_7 rfl (by decide) (by decide) rfl (by simp [Value.category]) ?_
          refine x_if_eq (tgt := 27) C dX7_isFrame_10 (by decide) (fun c10 => absurd c10 (by decide)) (fun c10 => ?_)
          refine x_aload_n C dX7_isFrame_13 rfl ?_
          refine x_iload_n C dX7_isFrame_14 rfl ?_
          refine x_iconst (v := 1) C dX7_isFrame_15 (by decide) ?_
          refine x_bipush (v := 15) C dX7_isFrame_16 (by decide) ?_
          refine x_sipush (v := 252) C dX7_isFrame_18 (by decide) ?_
          refine m_callF C Y hW E (b1) rfl md_X7_isByte wi_X7_isByte ws_X7_isByte wm_X7_211 dX7_isFrame_21 rfl (by decide) (by decide) rfl (by simp [Value.category]) ?_
          refine x_if_ne (tgt := 29) C dX7_isFrame_24 (by decide) (fun c24 => ?_) (fun c24 => absurd c24 (by decide))
          refine x_aload_n C dX7_isFrame_29 rfl ?_
          refine m_getA C Y 38 (by decide) (by decide) wf_X7_94 dX7_isFrame_30 ?_
          refine x_iconst (v := 1) C dX7_isFrame_33 (by decide) ?_
          refine m_ildN C Y 38 (1) (by decide) dX7_isFrame_34 (by simp only [nI_lit, nI_add, pk_mul]) (by simp only [m_len]; omega) ?_
          rw [l3]
          refine x_istore_nE (L' := [some _, some _, some _, none, none, none]) C dX7_isFrame_35 (by rw [hn]; decide) rfl ?_
          refine x_aload_n C dX7_isFrame_36 rfl ?_
          refine x_iload_n C dX7_isFrame_37 rfl ?_
          refine x_iconst (v := 2) C dX7_isFrame_38 (by decide) ?_
          refine x_iload_n C dX7_isFrame_39 rfl ?_
          refine x_iload_n C dX7_isFrame_40 rfl ?_
          refine m_callF C Y hW E (b2) rfl md_X7_isByte wi_X7_isByte ws_X7_isByte wm_X7_211 dX7_isFrame_41 rfl (by decide) (by decide) rfl (by simp [Value.category]) ?_
          refine x_if_eq (tgt := 60) C dX7_isFrame_44 (by decide) (fun c44 => absurd c44 (by decide)) (fun c44 => ?_)
          refine x_aload_n C dX7_isFrame_47 rfl ?_
          refine x_iload_n C dX7_isFrame_48 rfl ?_
          refine x_iconst (v := 3) C dX7_isFrame_49 (by decide) ?_
          refine x_bipush (v := 104) C dX7_isFrame_50 (by decide) ?_
          refine x_bipush (v := 104) C dX7_isFrame_52 (by decide) ?_
          refine m_callF C Y hW E (b3) rfl md_X7_isByte wi_X7_isByte ws_X7_isByte wm_X7_211 dX7_isFrame_54 rfl (by decide) (by decide) rfl (by simp [Value.category]) ?_
          refine x_if_ne (tgt := 62) C dX7_isFrame_57 (by decide) (fun c57 => ?_) (fun c57 => absurd c57 (by decide))
          exact fr_mid hW hn3 l1 l2 C Y E hn
        · rw [if_neg h3] at E
          have b3 := s_isB_f hW hn3 (by decide) h3
          refine x_aload_n C dX7_isFrame_0 rfl ?_
          refine x_iload_n C dX7_isFrame_1 rfl ?_
          refine x_iconst (v := 0) C dX7_isFrame_2 (by decide) ?_
          refine x_bipush (v := 104) C dX7_isFrame_3 (by decide) ?_
          refine x_bipush (v := 104) C dX7_isFrame_5 (by decide) ?_
          refine m_callF C Y hW E (b0) rfl md_X7_isByte wi_X7_isByte ws_X7_isByte wm_X7_211 dX7_isFrame_7 rfl (by decide) (by decide) rfl (by simp [Value.category]) ?_
          refine x_if_eq (tgt := 27) C dX7_isFrame_10 (by decide) (fun c10 => absurd c10 (by decide)) (fun c10 => ?_)
          refine x_aload_n C dX7_isFrame_13 rfl ?_
          refine x_iload_n C dX7_isFrame_14 rfl ?_
          refine x_iconst (v := 1) C dX7_isFrame_15 (by decide) ?_
          refine x_bipush (v := 15) C dX7_isFrame_16 (by decide) ?_
          refine x_sipush (v := 252) C dX7_isFrame_18 (by decide) ?_
          refine m_callF C Y hW E (b1) rfl md_X7_isByte wi_X7_isByte ws_X7_isByte wm_X7_211 dX7_isFrame_21 rfl (by decide) (by decide) rfl (by simp [Value.category]) ?_
          refine x_if_ne (tgt := 29) C dX7_isFrame_24 (by decide) (fun c24 => ?_) (fun c24 => absurd c24 (by decide))
          refine x_aload_n C dX7_isFrame_29 rfl ?_
          refine m_getA C Y 38 (by decide) (by decide) wf_X7_94 dX7_isFrame_30 ?_
          refine x_iconst (v := 1) C dX7_isFrame_33 (by decide) ?_
          refine m_ildN C Y 38 (1) (by decide) dX7_isFrame_34 (by simp only [nI_lit, nI_add, pk_mul]) (by simp only [m_len]; omega) ?_
          rw [l3]
          refine x_istore_nE (L' := [some _, some _, some _, none, none, none]) C dX7_isFrame_35 (by rw [hn]; decide) rfl ?_
          refine x_aload_n C dX7_isFrame_36 rfl ?_
          refine x_iload_n C dX7_isFrame_37 rfl ?_
          refine x_iconst (v := 2) C dX7_isFrame_38 (by decide) ?_
          refine x_iload_n C dX7_isFrame_39 rfl ?_
          refine x_iload_n C dX7_isFrame_40 rfl ?_
          refine m_callF C Y hW E (b2) rfl md_X7_isByte wi_X7_isByte ws_X7_isByte wm_X7_211 dX7_isFrame_41 rfl (by decide) (by decide) rfl (by simp [Value.category]) ?_
          refine x_if_eq (tgt := 60) C dX7_isFrame_44 (by decide) (fun c44 => absurd c44 (by decide)) (fun c44 => ?_)
          refine x_aload_n C dX7_isFrame_47 rfl ?_
          refine x_iload_n C dX7_isFrame_48 rfl ?_
          refine x_iconst (v := 3) C dX7_isFrame_49 (by decide) ?_
          refine x_bipush (v := 104) C dX7_isFrame_50 (by decide) ?_
          refine x_bipush (v := 104) C dX7_isFrame_52 (by decide) ?_
          refine m_callF C Y hW E (b3) rfl md_X7_isByte wi_X7_isByte ws_X7_isByte wm_X7_211 dX7_isFrame_54 rfl (by decide) (by decide) rfl (by simp [Value.category]) ?_
          refine x_if_ne (tgt := 62) C dX7_isFrame_57 (by decide) (fun c57 => absurd c57 (not_not_intro rfl)) (fun c57 => ?_)
          refine x_iconst (v := 0) C dX7_isFrame_60 (by decide) ?_
          refine m_zret C E dX7_isFrame_61 (by decide) ?_
          exact ⟨rfl, rfl⟩
      · rw [if_neg h2] at E
        have b2 := s_isB_f hW hn3 (by decide) h2
        rw [l3] at b2 E
        refine x_aload_n C dX7_isFrame_0 rfl ?_
        refine x_iload_n C dX7_isFrame_1 rfl ?_
        refine x_iconst (v := 0) C dX7_isFrame_2 (by decide) ?_
        refine x_bipush (v := 104) C dX7_isFrame_3 (by decide) ?_
        refine x_bipush (v := 104) C dX7_isFrame_5 (by decide) ?_
        refine m_callF C Y hW E (b0) rfl md_X7_isByte wi_X7_isByte ws_X7_isByte wm_X7_211 dX7_isFrame_7 rfl (by decide) (by decide) rfl (by simp [Value.category]) ?_
        refine x_if_eq (tgt := 27) C dX7_isFrame_10 (by decide) (fun c10 => absurd c10 (by decide)) (fun c10 => ?_)
        refine x_aload_n C dX7_isFrame_13 rfl ?_
        refine x_iload_n C dX7_isFrame_14 rfl ?_
        refine x_iconst (v := 1) C dX7_isFrame_15 (by decide) ?_
        refine x_bipush (v := 15) C dX7_isFrame_16 (by decide) ?_
        refine x_sipush (v := 252) C dX7_isFrame_18 (by decide) ?_
        refine m_callF C Y hW E (b1) rfl md_X7_isByte wi_X7_isByte ws_X7_isByte wm_X7_211 dX7_isFrame_21 rfl (by decide) (by decide) rfl (by simp [Value.category]) ?_
        refine x_if_ne (tgt := 29) C dX7_isFrame_24 (by decide) (fun c24 => ?_) (fun c24 => absurd c24 (by decide))
        refine x_aload_n C dX7_isFrame_29 rfl ?_
        refine m_getA C Y 38 (by decide) (by decide) wf_X7_94 dX7_isFrame_30 ?_
        refine x_iconst (v := 1) C dX7_isFrame_33 (by decide) ?_
        refine m_ildN C Y 38 (1) (by decide) dX7_isFrame_34 (by simp only [nI_lit, nI_add, pk_mul]) (by simp only [m_len]; omega) ?_
        rw [l3]
        refine x_istore_nE (L' := [some _, some _, some _, none, none, none]) C dX7_isFrame_35 (by rw [hn]; decide) rfl ?_
        refine x_aload_n C dX7_isFrame_36 rfl ?_
        refine x_iload_n C dX7_isFrame_37 rfl ?_
        refine x_iconst (v := 2) C dX7_isFrame_38 (by decide) ?_
        refine x_iload_n C dX7_isFrame_39 rfl ?_
        refine x_iload_n C dX7_isFrame_40 rfl ?_
        refine m_callF C Y hW E (b2) rfl md_X7_isByte wi_X7_isByte ws_X7_isByte wm_X7_211 dX7_isFrame_41 rfl (by decide) (by decide) rfl (by simp [Value.category]) ?_
        refine x_if_eq (tgt := 60) C dX7_isFrame_44 (by decide) (fun c44 => ?_) (fun c44 => absurd c44 (not_not_intro rfl))
        refine x_iconst (v := 0) C dX7_isFrame_60 (by decide) ?_
        refine m_zret C E dX7_isFrame_61 (by decide) ?_
        exact ⟨rfl, rfl⟩
    · rw [if_neg h1] at E
      have b1 := s_isB_f hW hn3 (by decide) h1
      refine x_aload_n C dX7_isFrame_0 rfl ?_
      refine x_iload_n C dX7_isFrame_1 rfl ?_
      refine x_iconst (v := 0) C dX7_isFrame_2 (by decide) ?_
      refine x_bipush (v := 104) C dX7_isFrame_3 (by decide) ?_
      refine x_bipush (v := 104) C dX7_isFrame_5 (by decide) ?_
      refine m_callF C Y hW E (b0) rfl md_X7_isByte wi_X7_isByte ws_X7_isByte wm_X7_211 dX7_isFrame_7 rfl (by decide) (by decide) rfl (by simp [Value.category]) ?_
      refine x_if_eq (tgt := 27) C dX7_isFrame_10 (by decide) (fun c10 => absurd c10 (by decide)) (fun c10 => ?_)
      refine x_aload_n C dX7_isFrame_13 rfl ?_
      refine x_iload_n C dX7_isFrame_14 rfl ?_
      refine x_iconst (v := 1) C dX7_isFrame_15 (by decide) ?_
      refine x_bipush (v := 15) C dX7_isFrame_16 (by decide) ?_
      refine x_sipush (v := 252) C dX7_isFrame_18 (by decide) ?_
      refine m_callF C Y hW E (b1) rfl md_X7_isByte wi_X7_isByte ws_X7_isByte wm_X7_211 dX7_isFrame_21 rfl (by decide) (by decide) rfl (by simp [Value.category]) ?_
      refine x_if_ne (tgt := 29) C dX7_isFrame_24 (by decide) (fun c24 => absurd c24 (not_not_intro rfl)) (fun c24 => ?_)
      refine x_iconst (v := 0) C dX7_isFrame_27 (by decide) ?_
      refine m_zret C E dX7_isFrame_28 (by decide) ?_
      exact ⟨rfl, rfl⟩
  · rw [if_neg h0] at E
    have b0 := s_isB_f hW hn3 (by decide) h0
    refine x_aload_n C dX7_isFrame_0 rfl ?_
    refine x_iload_n C dX7_isFrame_1 rfl ?_
    refine x_iconst (v := 0) C dX7_isFrame_2 (by decide) ?_
    refine x_bipush (v := 104) C dX7_isFrame_3 (by decide) ?_
    refine x_bipush (v := 104) C dX7_isFrame_5 (by decide) ?_
    refine m_callF C Y hW E (b0) rfl md_X7_isByte wi_X7_isByte ws_X7_isByte wm_X7_211 dX7_isFrame_7 rfl (by decide) (by decide) rfl (by simp [Value.category]) ?_
    refine x_if_eq (tgt := 27) C dX7_isFrame_10 (by decide) (fun c10 => ?_) (fun c10 => absurd c10 (not_not_intro rfl))
    refine x_iconst (v := 0) C dX7_isFrame_27 (by decide) ?_
    refine m_zret C E dX7_isFrame_28 (by decide) ?_
    exact ⟨rfl, rfl⟩
end Frame
end
