/-! MeterBusModel: the calls that look at little. -/
theorem bT1 : bI True = 1 := bI_t True.intro
theorem in_vp {x m : Int32} {n N : Nat} (hm : m = nI n) (hn : n ≤ N) (hN : N < 2 ^ 31) (h : 0 ≤ x ∧ x ≤ m - 1) : vp_in x N := by
  subst hm
  have h1 := h.1
  have h2 := h.2
  rw [Int32.le_iff_toInt_le] at h1 h2
  refine vp_in_iff.mpr ⟨h1, ?_⟩
  rcases Nat.eq_zero_or_pos n with e | e
  · subst e
    have : (nI 0 - 1).toInt = -1 := by decide
    rw [this] at h2
    have : (0 : Int32).toInt = 0 := rfl
    omega
  · rw [show (1 : Int32) = nI 1 from rfl, pk_sub e, nI_toInt (by omega)] at h2
    omega
theorem in_nI {x : Int32} {lo hi : Nat} (hi31 : hi < 2 ^ 31) (h : nI lo ≤ x ∧ x ≤ nI hi) (hlo : lo ≤ hi) : ∃ j, lo ≤ j ∧ j ≤ hi ∧ x = nI j := by
  have h1 := h.1
  have h2 := h.2
  rw [Int32.le_iff_toInt_le, nI_toInt (by omega)] at h1
  have h0 : ¬ x < 0 := by rw [Int32.lt_iff_toInt_lt]; have : (0 : Int32).toInt = 0 := rfl; omega
  obtain ⟨j, hj, e⟩ := nI_of h0
  subst e
  rw [Int32.le_iff_toInt_le, nI_toInt hj, nI_toInt hi31] at h2
  rw [nI_toInt hj] at h1
  exact ⟨j, by omega, by omega, rfl⟩
section Calls
variable {w : Wd} {M : MW} {S : MS}
theorem s_fails1 (hW : Wm w M) (p : Prop) [Decidable p] : TF w M yX7_fails cX7_fails 3 (some .boolean) 0 [.int (bI p), .int 1] S (some (.int (bI (¬ p)))) (S.si 0 (bI (¬ p))) := by
  have h := s_fails (S := S) hW p True
  rw [bT1] at h
  by_cases hp : p
  · simpa [hp, bI] using h
  · simpa [hp, bI] using h
theorem s_place (hW : Wm w M) : TF w M yX7_place cX7_place 1 (some .int) 0 [] S (some (.int (S.i 36))) (S.si 0 0) := by
  refine TM.intro hW rfl (Nat.le_of_ble_eq_true rfl) (fun z C Y E hn => ?_)
  refine x_aload_n C dX7_place_0 rfl ?_
  refine x_iconst (v := 0) C dX7_place_1 (by decide) ?_
  refine m_put C Y hW.2.1 0 (by decide) (by decide) rfl rfl rfl wf_X7_97 dX7_place_2 ?_
  refine x_aload_n C dX7_place_5 rfl ?_
  refine m_get C Y 36 (by decide) (by decide) wf_X7_90 dX7_place_6 ?_
  refine m_iret C E dX7_place_9 ?_
  exact ⟨rfl, rfl⟩
theorem s_clear (hW : Wm w M) : TF w M yX7_clear cX7_clear 2 (some .int) 0 [] S (some (.int (S.i 23))) (((S.si 0 0).si 23 0).si 34 0) := by
  refine TM.intro hW rfl (Nat.le_of_ble_eq_true rfl) (fun z C Y E hn => ?_)
  refine x_aload_n C dX7_clear_0 rfl ?_
  refine x_iconst (v := 0) C dX7_clear_1 (by decide) ?_
  refine m_put C Y hW.2.1 0 (by decide) (by decide) rfl rfl rfl wf_X7_97 dX7_clear_2 ?_
  refine x_aload_n C dX7_clear_5 rfl ?_
  refine m_get C Y 23 (by decide) (by decide) wf_X7_190 dX7_clear_6 ?_
  refine x_istore_nE (L' := [some _, some _]) C dX7_clear_9 (by rw [hn]; decide) rfl ?_
  refine x_aload_n C dX7_clear_10 rfl ?_
  refine x_iconst (v := 0) C dX7_clear_11 (by decide) ?_
  refine m_put C Y hW.2.1 23 (by decide) (by decide) rfl rfl rfl wf_X7_190 dX7_clear_12 ?_
  refine x_aload_n C dX7_clear_15 rfl ?_
  refine x_iconst (v := 0) C dX7_clear_16 (by decide) ?_
  refine m_put C Y hW.2.1 34 (by decide) (by decide) rfl rfl rfl wf_X7_193 dX7_clear_17 ?_
  refine x_iload_n C dX7_clear_20 rfl ?_
  refine m_iret C E dX7_clear_21 ?_
  exact ⟨rfl, rfl⟩
abbrev q_keep (S : MS) (n : Int32) : Prop := 0 ≤ n ∧ n ≤ S.i 2
theorem s_keep (hW : Wm w M) (n : Int32) : TF w M yX7_keep cX7_keep 2 none 1 [.int n] S none (if q_keep S n then (S.si 0 0).si 2 n else S.si 0 1) := by
  refine TM.intro hW rfl (Nat.le_of_ble_eq_true rfl) (fun z C Y E hn => ?_)
  have hf := s_fails1 (S := S) hW (q_keep S n)
  by_cases hp : q_keep S n
  · rw [if_pos hp] at E
    rw [bI_f (not_not_intro hp)] at hf
    refine x_aload_n C dX7_keep_0 rfl ?_
    refine x_iload_n C dX7_keep_1 rfl ?_
    refine x_iconst (v := 0) C dX7_keep_2 (by decide) ?_
    refine x_aload_n C dX7_keep_3 rfl ?_
    refine m_get C Y 2 (by decide) (by decide) wf_X7_104 dX7_keep_4 ?_
    refine m_callSF C hW E (s_in _ _ _) md_X7_in wt_X7_in wm_X7_100 dX7_keep_7 rfl (by decide) (by decide) rfl (by simp [Value.category]) ?_
    refine x_iconst (v := 1) C dX7_keep_10 (by decide) ?_
    refine m_callF C Y hW E (hf) rfl md_X7_fails wi_X7_fails ws_X7_fails wm_X7_107 dX7_keep_11 rfl (by decide) (by decide) rfl (by simp [Value.category]) ?_
    refine x_if_ne (tgt := 22) C dX7_keep_14 (by decide) (fun c14 => absurd c14 (fun q => q rfl)) (fun c14 => ?_)
    refine x_aload_n C dX7_keep_17 rfl ?_
    refine x_iload_n C dX7_keep_18 rfl ?_
    refine m_put C Y hW.2.1 2 (by decide) (by decide) rfl rfl rfl wf_X7_104 dX7_keep_19 ?_
    refine m_vret C E dX7_keep_22 ?_
    exact ⟨rfl, rfl⟩
  · rw [if_neg hp] at E
    rw [bI_t hp] at hf
    refine x_aload_n C dX7_keep_0 rfl ?_
    refine x_iload_n C dX7_keep_1 rfl ?_
    refine x_iconst (v := 0) C dX7_keep_2 (by decide) ?_
    refine x_aload_n C dX7_keep_3 rfl ?_
    refine m_get C Y 2 (by decide) (by decide) wf_X7_104 dX7_keep_4 ?_
    refine m_callSF C hW E (s_in _ _ _) md_X7_in wt_X7_in wm_X7_100 dX7_keep_7 rfl (by decide) (by decide) rfl (by simp [Value.category]) ?_
    refine x_iconst (v := 1) C dX7_keep_10 (by decide) ?_
    refine m_callF C Y hW E (hf) rfl md_X7_fails wi_X7_fails ws_X7_fails wm_X7_107 dX7_keep_11 rfl (by decide) (by decide) rfl (by simp [Value.category]) ?_
    refine x_if_ne (tgt := 22) C dX7_keep_14 (by decide) (fun c14 => ?_) (fun c14 => absurd c14 (by decide))
    refine m_vret C E dX7_keep_22 ?_
    exact ⟨rfl, rfl⟩
abbrev q_typed (S : MS) (i : Int32) : Prop := 0 ≤ i ∧ i ≤ S.i 2 - 1
theorem s_typed (hW : Wm w M) (m : Nat) (hm : S.i 2 = nI m) (hm3 : m ≤ 300) (i : Int32) : TF w M yX7_typed cX7_typed 2 (some .int) 1 [.int i] S (some (.int (if q_typed S i then S.a 1 i.toNatClampNeg else 0))) (S.si 0 (bI (¬ q_typed S i))) := by
  refine TM.intro hW rfl (Nat.le_of_ble_eq_true rfl) (fun z C Y E hn => ?_)
  have hf := s_fails1 (S := S) hW (q_typed S i)
  by_cases hp : q_typed S i
  · rw [if_pos hp] at E
    rw [bI_f (not_not_intro hp)] at hf E
    refine x_aload_n C dX7_typed_0 rfl ?_
    refine x_iload_n C dX7_typed_1 rfl ?_
    refine x_iconst (v := 0) C dX7_typed_2 (by decide) ?_
    refine x_aload_n C dX7_typed_3 rfl ?_
    refine m_get C Y 2 (by decide) (by decide) wf_X7_104 dX7_typed_4 ?_
    refine x_iconst (v := 1) C dX7_typed_7 (by decide) ?_
    refine x_isub C dX7_typed_8 ?_
    refine m_callSF C hW E (s_in _ _ _) md_X7_in wt_X7_in wm_X7_100 dX7_typed_9 rfl (by decide) (by decide) rfl (by simp [Value.category]) ?_
    refine x_iconst (v := 1) C dX7_typed_12 (by decide) ?_
    refine m_callF C Y hW E (hf) rfl md_X7_fails wi_X7_fails ws_X7_fails wm_X7_107 dX7_typed_13 rfl (by decide) (by decide) rfl (by simp [Value.category]) ?_
    refine x_if_eq (tgt := 23) C dX7_typed_16 (by decide) (fun c16 => ?_) (fun c16 => absurd c16 (not_not_intro rfl))
    refine x_aload_n C dX7_typed_23 rfl ?_
    refine m_getA C Y 1 (by decide) (by decide) wf_X7_7 dX7_typed_24 ?_
    refine x_iload_n C dX7_typed_27 rfl ?_
    refine m_ild C Y 1 (by decide) dX7_typed_28 (in_vp hm hm3 (by decide) hp) ?_
    refine m_iret C E dX7_typed_29 ?_
    exact ⟨rfl, rfl⟩
  · rw [if_neg hp] at E
    rw [bI_t hp] at hf E
    refine x_aload_n C dX7_typed_0 rfl ?_
    refine x_iload_n C dX7_typed_1 rfl ?_
    refine x_iconst (v := 0) C dX7_typed_2 (by decide) ?_
    refine x_aload_n C dX7_typed_3 rfl ?_
    refine m_get C Y 2 (by decide) (by decide) wf_X7_104 dX7_typed_4 ?_
    refine x_iconst (v := 1) C dX7_typed_7 (by decide) ?_
    refine x_isub C dX7_typed_8 ?_
    refine m_callSF C hW E (s_in _ _ _) md_X7_in wt_X7_in wm_X7_100 dX7_typed_9 rfl (by decide) (by decide) rfl (by simp [Value.category]) ?_
    refine x_iconst (v := 1) C dX7_typed_12 (by decide) ?_
    refine m_callF C Y hW E (hf) rfl md_X7_fails wi_X7_fails ws_X7_fails wm_X7_107 dX7_typed_13 rfl (by decide) (by decide) rfl (by simp [Value.category]) ?_
    refine x_if_eq (tgt := 23) C dX7_typed_16 (by decide) (fun c16 => absurd c16 (by decide)) (fun c16 => ?_)
    refine x_iconst (v := 0) C dX7_typed_19 (by decide) ?_
    refine x_goto (tgt := 29) C dX7_typed_20 (by decide) ?_
    refine m_iret C E dX7_typed_29 ?_
    exact ⟨rfl, rfl⟩
theorem s_remove_t (hW : Wm w M) (k : Nat) (hk : k < 12) (hb : narrow .boolean (.int (S.a 10 k)) = .int (S.a 10 k)) : TF w M yX7_remove cX7_remove 3 (some .boolean) 1 [.int (nI k)] S (some (.int (S.a 10 k))) ((S.si 0 0).sa 10 k 0) := by
  refine TM.intro hW rfl (Nat.le_of_ble_eq_true rfl) (fun z C Y E hn => ?_)
  have hp : (0 : Int32) ≤ nI k ∧ nI k ≤ 11 := ⟨nI_pos' (by omega), nI_le (show k ≤ 11 by omega) (by decide)⟩
  have hf := s_fails1 (S := S) hW ((0 : Int32) ≤ nI k ∧ nI k ≤ 11)
  rw [bI_f (not_not_intro hp)] at hf
  refine x_aload_n C dX7_remove_0 rfl ?_
  refine x_iload_n C dX7_remove_1 rfl ?_
  refine x_iconst (v := 0) C dX7_remove_2 (by decide) ?_
  refine x_bipush (v := 11) C dX7_remove_3 (by decide) ?_
  refine m_callSF C hW E (s_in _ _ _) md_X7_in wt_X7_in wm_X7_100 dX7_remove_5 rfl (by decide) (by decide) rfl (by simp [Value.category]) ?_
  refine x_iconst (v := 1) C dX7_remove_8 (by decide) ?_
  refine m_callF C Y hW E (hf) rfl md_X7_fails wi_X7_fails ws_X7_fails wm_X7_107 dX7_remove_9 rfl (by decide) (by decide) rfl (by simp [Value.category]) ?_
  refine x_if_eq (tgt := 17) C dX7_remove_12 (by decide) (fun c12 => ?_) (fun c12 => absurd c12 (not_not_intro rfl))
  refine x_aload_n C dX7_remove_17 rfl ?_
  refine m_getA C Y 10 (by decide) (by decide) wf_X7_19 dX7_remove_18 ?_
  refine x_iload_n C dX7_remove_21 rfl ?_
  refine m_zldN C Y 10 (k) (by decide) dX7_remove_22 (by simp only [nI_lit, nI_add, pk_mul]) (by simp only [m_len]; omega) ?_
  refine x_istore_nE (L' := [some _, some _, some _]) C dX7_remove_23 (by rw [hn]; decide) rfl ?_
  refine x_aload_n C dX7_remove_24 rfl ?_
  refine m_getA C Y 10 (by decide) (by decide) wf_X7_19 dX7_remove_25 ?_
  refine x_iload_n C dX7_remove_28 rfl ?_
  refine x_iconst (v := 0) C dX7_remove_29 (by decide) ?_
  refine m_zstN C Y hW.2.1 10 (k) (by decide) rfl dX7_remove_30 (by simp only [nI_lit, nI_add, pk_mul]) (by simp only [m_len]; omega) ?_
  refine x_iload_n C dX7_remove_31 rfl ?_
  refine m_zret C E dX7_remove_32 hb ?_
  exact ⟨rfl, rfl⟩
theorem s_remove_f (hW : Wm w M) (k : Int32) (hp : ¬ ((0 : Int32) ≤ k ∧ k ≤ 11)) : TF w M yX7_remove cX7_remove 3 (some .boolean) 1 [.int k] S (some (.int 0)) (S.si 0 1) := by
  refine TM.intro hW rfl (Nat.le_of_ble_eq_true rfl) (fun z C Y E hn => ?_)
  have hf := s_fails1 (S := S) hW ((0 : Int32) ≤ k ∧ k ≤ 11)
  rw [bI_t hp] at hf
  refine x_aload_n C dX7_remove_0 rfl ?_
  refine x_iload_n C dX7_remove_1 rfl ?_
  refine x_iconst (v := 0) C dX7_remove_2 (by decide) ?_
  refine x_bipush (v := 11) C dX7_remove_3 (by decide) ?_
  refine m_callSF C hW E (s_in _ _ _) md_X7_in wt_X7_in wm_X7_100 dX7_remove_5 rfl (by decide) (by decide) rfl (by simp [Value.category]) ?_
  refine x_iconst (v := 1) C dX7_remove_8 (by decide) ?_
  refine m_callF C Y hW E (hf) rfl md_X7_fails wi_X7_fails ws_X7_fails wm_X7_107 dX7_remove_9 rfl (by decide) (by decide) rfl (by simp [Value.category]) ?_
  refine x_if_eq (tgt := 17) C dX7_remove_12 (by decide) (fun c12 => absurd c12 (by decide)) (fun c12 => ?_)
  refine x_iconst (v := 0) C dX7_remove_15 (by decide) ?_
  refine m_zret C E dX7_remove_16 (by decide) ?_
  exact ⟨rfl, rfl⟩
abbrev q_found (S : MS) (k x : Int32) : Prop := (0 ≤ k ∧ k ≤ S.i 20 - 1) ∧ (0 ≤ x ∧ x ≤ 7)
theorem s_found (hW : Wm w M) (f : Nat) (hf0 : S.i 20 = nI f) (hf1 : f ≤ 100) (k x : Int32) : TF w M yX7_found cX7_found 3 (some .int) 1 [.int k, .int x] S (some (.int (if q_found S k x then S.a 21 (8 * k.toNatClampNeg + x.toNatClampNeg) else 0))) (S.si 0 (bI (¬ q_found S k x))) := by
  refine TM.intro hW rfl (Nat.le_of_ble_eq_true rfl) (fun z C Y E hn => ?_)
  have hf := s_fails1 (S := S) hW (q_found S k x)
  have a0 : bI (0 ≤ k ∧ k ≤ S.i 20 - 1) = 0 ↔ ¬ (0 ≤ k ∧ k ≤ S.i 20 - 1) := bI_0
  have b0 : bI (0 ≤ x ∧ x ≤ 7) = 0 ↔ ¬ (0 ≤ x ∧ x ≤ 7) := bI_0
  by_cases hp : q_found S k x
  · rw [if_pos hp] at E
    rw [bI_t hp, bI_f (not_not_intro hp)] at hf
    rw [bI_f (not_not_intro hp)] at E
    obtain ⟨j, hj, ek⟩ := vp_in_of (in_vp hf0 hf1 (by decide) hp.1) (by decide)
    obtain ⟨b, -, hb, ex⟩ := in_nI (x := x) (lo := 0) (hi := 7) (by decide) hp.2 (by decide)
    have ec : 8 * k.toNatClampNeg + x.toNatClampNeg = 8 * j + b := by rw [ek, ex, nI_clamp (by omega), nI_clamp (by omega)]
    rw [ec] at E
    refine x_aload_n C dX7_found_0 rfl ?_
    refine x_iload_n C dX7_found_1 rfl ?_
    refine x_iconst (v := 0) C dX7_found_2 (by decide) ?_
    refine x_aload_n C dX7_found_3 rfl ?_
    refine m_get C Y 20 (by decide) (by decide) wf_X7_175 dX7_found_4 ?_
    refine x_iconst (v := 1) C dX7_found_7 (by decide) ?_
    refine x_isub C dX7_found_8 ?_
    refine m_callSF C hW E (s_in _ _ _) md_X7_in wt_X7_in wm_X7_100 dX7_found_9 rfl (by decide) (by decide) rfl (by simp [Value.category]) ?_
    refine x_if_eq (tgt := 29) C dX7_found_12 (by decide) (fun c12 => absurd c12 (fun q => a0.mp q hp.1)) (fun c12 => ?_)
    refine x_iload_n C dX7_found_15 rfl ?_
    refine x_iconst (v := 0) C dX7_found_16 (by decide) ?_
    refine x_bipush (v := 7) C dX7_found_17 (by decide) ?_
    refine m_callSF C hW E (s_in _ _ _) md_X7_in wt_X7_in wm_X7_100 dX7_found_19 rfl (by decide) (by decide) rfl (by simp [Value.category]) ?_
    refine x_if_eq (tgt := 29) C dX7_found_22 (by decide) (fun c22 => absurd c22 (fun q => b0.mp q hp.2)) (fun c22 => ?_)
    refine x_iconst (v := 1) C dX7_found_25 (by decide) ?_
    refine x_goto (tgt := 30) C dX7_found_26 (by decide) ?_
    refine x_iconst (v := 1) C dX7_found_30 (by decide) ?_
    refine m_callF C Y hW E (hf) rfl md_X7_fails wi_X7_fails ws_X7_fails wm_X7_107 dX7_found_31 rfl (by decide) (by decide) rfl (by simp [Value.category]) ?_
    refine x_if_eq (tgt := 41) C dX7_found_34 (by decide) (fun c34 => ?_) (fun c34 => absurd c34 (not_not_intro rfl))
    refine x_aload_n C dX7_found_41 rfl ?_
    refine m_getA C Y 21 (by decide) (by decide) wf_X7_50 dX7_found_42 ?_
    refine x_bipush (v := 8) C dX7_found_45 (by decide) ?_
    refine x_iload_n C dX7_found_47 rfl ?_
    refine x_imul C dX7_found_48 ?_
    refine x_iload_n C dX7_found_49 rfl ?_
    refine x_iadd C dX7_found_50 ?_
    refine m_ildN C Y 21 (8 * j + b) (by decide) dX7_found_51 (by rw [ek, ex]; simp only [nI_lit, nI_add, pk_mul]) (by simp only [m_len]; omega) ?_
    refine m_iret C E dX7_found_52 ?_
    exact ⟨rfl, rfl⟩
  · rw [if_neg hp] at E
    rw [bI_f hp, bI_t hp] at hf
    rw [bI_t hp] at E
    refine x_aload_n C dX7_found_0 rfl ?_
    refine x_iload_n C dX7_found_1 rfl ?_
    refine x_iconst (v := 0) C dX7_found_2 (by decide) ?_
    refine x_aload_n C dX7_found_3 rfl ?_
    refine m_get C Y 20 (by decide) (by decide) wf_X7_175 dX7_found_4 ?_
    refine x_iconst (v := 1) C dX7_found_7 (by decide) ?_
    refine x_isub C dX7_found_8 ?_
    refine m_callSF C hW E (s_in _ _ _) md_X7_in wt_X7_in wm_X7_100 dX7_found_9 rfl (by decide) (by decide) rfl (by simp [Value.category]) ?_
    refine x_if_eq (tgt := 29) C dX7_found_12 (by decide) (fun c12 => ?_) (fun c12 => ?_)
    · skip
      refine x_iconst (v := 0) C dX7_found_29 (by decide) ?_
      refine x_iconst (v := 1) C dX7_found_30 (by decide) ?_
      refine m_callF C Y hW E (hf) rfl md_X7_fails wi_X7_fails ws_X7_fails wm_X7_107 dX7_found_31 rfl (by decide) (by decide) rfl (by simp [Value.category]) ?_
      refine x_if_eq (tgt := 41) C dX7_found_34 (by decide) (fun c34 => absurd c34 (by decide)) (fun c34 => ?_)
      refine x_iconst (v := 0) C dX7_found_37 (by decide) ?_
      refine x_goto (tgt := 52) C dX7_found_38 (by decide) ?_
      refine m_iret C E dX7_found_52 ?_
      exact ⟨rfl, rfl⟩
    · skip
      refine x_iload_n C dX7_found_15 rfl ?_
      refine x_iconst (v := 0) C dX7_found_16 (by decide) ?_
      refine x_bipush (v := 7) C dX7_found_17 (by decide) ?_
      refine m_callSF C hW E (s_in _ _ _) md_X7_in wt_X7_in wm_X7_100 dX7_found_19 rfl (by decide) (by decide) rfl (by simp [Value.category]) ?_
      refine x_if_eq (tgt := 29) C dX7_found_22 (by decide) (fun c22 => ?_) (fun c22 => ?_)
      · skip
        refine x_iconst (v := 0) C dX7_found_29 (by decide) ?_
        refine x_iconst (v := 1) C dX7_found_30 (by decide) ?_
        refine m_callF C Y hW E (hf) rfl md_X7_fails wi_X7_fails ws_X7_fails wm_X7_107 dX7_found_31 rfl (by decide) (by decide) rfl (by simp [Value.category]) ?_
        refine x_if_eq (tgt := 41) C dX7_found_34 (by decide) (fun c34 => absurd c34 (by decide)) (fun c34 => ?_)
        refine x_iconst (v := 0) C dX7_found_37 (by decide) ?_
        refine x_goto (tgt := 52) C dX7_found_38 (by decide) ?_
        refine m_iret C E dX7_found_52 ?_
        exact ⟨rfl, rfl⟩
      · skip
        exact absurd ⟨bI_0n.mp c12, bI_0n.mp c22⟩ hp
end Calls
