/-! MeterBusModel: the small methods. -/
section Small
variable {w : Wd} {M : MW} {S : MS}
theorem s_in (v a b : Int32) : TSt w yX7_in cX7_in 3 (some .boolean) 0 [.int v, .int a, .int b] (some (.int (bI (a ≤ v ∧ v ≤ b)))) := by
  refine TSt.intro rfl (Nat.le_of_ble_eq_true rfl) (fun z A C E hn => ?_)
  refine x_iload_n C dX7_in_0 rfl ?_
  refine x_iload_n C dX7_in_1 rfl ?_
  refine x_icmp_lt (tgt := 14) C dX7_in_2 (by decide) (fun c2 => ?_) (fun c2 => ?_)
  · skip
    refine x_iconst (v := 0) C dX7_in_14 (by decide) ?_
    refine x_zret C E dX7_in_15 (by decide) (fun h g => ⟨?_, g⟩)
    first | (refine congrArg (fun t => some (Value.int t)) (Eq.symm (bI_t ?_)); simp only [Int32.le_iff_toInt_le, Int32.lt_iff_toInt_lt] at *; omega) | (refine congrArg (fun t => some (Value.int t)) (Eq.symm (bI_f ?_)); simp only [Int32.le_iff_toInt_le, Int32.lt_iff_toInt_lt] at *; omega)
  · skip
    refine x_iload_n C dX7_in_5 rfl ?_
    refine x_iload_n C dX7_in_6 rfl ?_
    refine x_icmp_gt (tgt := 14) C dX7_in_7 (by decide) (fun c7 => ?_) (fun c7 => ?_)
    · skip
      refine x_iconst (v := 0) C dX7_in_14 (by decide) ?_
      refine x_zret C E dX7_in_15 (by decide) (fun h g => ⟨?_, g⟩)
      first | (refine congrArg (fun t => some (Value.int t)) (Eq.symm (bI_t ?_)); simp only [Int32.le_iff_toInt_le, Int32.lt_iff_toInt_lt] at *; omega) | (refine congrArg (fun t => some (Value.int t)) (Eq.symm (bI_f ?_)); simp only [Int32.le_iff_toInt_le, Int32.lt_iff_toInt_lt] at *; omega)
    · skip
      refine x_iconst (v := 1) C dX7_in_10 (by decide) ?_
      refine x_goto (tgt := 15) C dX7_in_11 (by decide) ?_
      refine x_zret C E dX7_in_15 (by decide) (fun h g => ⟨?_, g⟩)
      first | (refine congrArg (fun t => some (Value.int t)) (Eq.symm (bI_t ?_)); simp only [Int32.le_iff_toInt_le, Int32.lt_iff_toInt_lt] at *; omega) | (refine congrArg (fun t => some (Value.int t)) (Eq.symm (bI_f ?_)); simp only [Int32.le_iff_toInt_le, Int32.lt_iff_toInt_lt] at *; omega)
theorem s_fails (hW : Wm w M) (p q : Prop) [Decidable p] [Decidable q] : TF w M yX7_fails cX7_fails 3 (some .boolean) 0 [.int (bI p), .int (bI q)] S (some (.int (bI (¬ (p ∧ q))))) (S.si 0 (if ¬ p then 1 else if ¬ q then 2 else 0)) := by
  refine TM.intro hW rfl (Nat.le_of_ble_eq_true rfl) (fun z C Y E hn => ?_)
  refine x_aload_n C dX7_fails_0 rfl ?_
  refine x_iload_n C dX7_fails_1 rfl ?_
  refine x_if_ne (tgt := 9) C dX7_fails_2 (by decide) (fun c2 => ?_) (fun c2 => ?_)
  · skip
    refine x_iload_n C dX7_fails_9 rfl ?_
    refine x_if_ne (tgt := 17) C dX7_fails_10 (by decide) (fun c10 => ?_) (fun c10 => ?_)
    · skip
      refine x_iconst (v := 0) C dX7_fails_17 (by decide) ?_
      refine m_put C Y hW.2.1 0 (by decide) (by decide) rfl rfl rfl wf_X7_97 dX7_fails_18 ?_
      refine x_aload_n C dX7_fails_21 rfl ?_
      refine m_get C Y 0 (by decide) (by decide) wf_X7_97 dX7_fails_22 ?_
      refine x_if_le (tgt := 32) C dX7_fails_25 (by decide) (fun c25 => ?_) (fun c25 => ?_)
      · skip
        refine x_iconst (v := 0) C dX7_fails_32 (by decide) ?_
        refine m_zret C E dX7_fails_33 (by decide) ?_
        simp_all [bI_0, bI_0n, bI, MS.si_i]
      · skip
        refine x_iconst (v := 1) C dX7_fails_28 (by decide) ?_
        refine x_goto (tgt := 33) C dX7_fails_29 (by decide) ?_
        refine m_zret C E dX7_fails_33 (by decide) ?_
        simp_all [bI_0, bI_0n, bI, MS.si_i]
    · skip
      refine x_iconst (v := 2) C dX7_fails_13 (by decide) ?_
      refine x_goto (tgt := 18) C dX7_fails_14 (by decide) ?_
      refine m_put C Y hW.2.1 0 (by decide) (by decide) rfl rfl rfl wf_X7_97 dX7_fails_18 ?_
      refine x_aload_n C dX7_fails_21 rfl ?_
      refine m_get C Y 0 (by decide) (by decide) wf_X7_97 dX7_fails_22 ?_
      refine x_if_le (tgt := 32) C dX7_fails_25 (by decide) (fun c25 => ?_) (fun c25 => ?_)
      · skip
        refine x_iconst (v := 0) C dX7_fails_32 (by decide) ?_
        refine m_zret C E dX7_fails_33 (by decide) ?_
        simp_all [bI_0, bI_0n, bI, MS.si_i]
      · skip
        refine x_iconst (v := 1) C dX7_fails_28 (by decide) ?_
        refine x_goto (tgt := 33) C dX7_fails_29 (by decide) ?_
        refine m_zret C E dX7_fails_33 (by decide) ?_
        simp_all [bI_0, bI_0n, bI, MS.si_i]
  · skip
    refine x_iconst (v := 1) C dX7_fails_5 (by decide) ?_
    refine x_goto (tgt := 18) C dX7_fails_6 (by decide) ?_
    refine m_put C Y hW.2.1 0 (by decide) (by decide) rfl rfl rfl wf_X7_97 dX7_fails_18 ?_
    refine x_aload_n C dX7_fails_21 rfl ?_
    refine m_get C Y 0 (by decide) (by decide) wf_X7_97 dX7_fails_22 ?_
    refine x_if_le (tgt := 32) C dX7_fails_25 (by decide) (fun c25 => ?_) (fun c25 => ?_)
    · skip
      refine x_iconst (v := 0) C dX7_fails_32 (by decide) ?_
      refine m_zret C E dX7_fails_33 (by decide) ?_
      simp_all [bI_0, bI_0n, bI, MS.si_i]
    · skip
      refine x_iconst (v := 1) C dX7_fails_28 (by decide) ?_
      refine x_goto (tgt := 33) C dX7_fails_29 (by decide) ?_
      refine m_zret C E dX7_fails_33 (by decide) ?_
      simp_all [bI_0, bI_0n, bI, MS.si_i]
theorem s_say (hW : Wm w M) (b : Int32) (n : Nat) (h : S.i 6 = nI n) (hl : n < 300) : TF w M yX7_say cX7_say 2 none 0 [.int b] S none ((S.sa 5 n b).si 6 (nI (n + 1))) := by
  refine TM.intro hW rfl (Nat.le_of_ble_eq_true rfl) (fun z C Y E hn => ?_)
  refine x_aload_n C dX7_say_0 rfl ?_
  refine m_getA C Y 5 (by decide) (by decide) wf_X7_16 dX7_say_1 ?_
  refine x_aload_n C dX7_say_4 rfl ?_
  refine m_get C Y 6 (by decide) (by decide) wf_X7_135 dX7_say_5 ?_
  refine x_iload_n C dX7_say_8 rfl ?_
  refine m_ist C Y hW.2.1 5 (by decide) dX7_say_9 (by rw [h]; exact vp_in_nI hl (by decide)) ?_
  refine x_aload_n C dX7_say_10 rfl ?_
  refine x_dup C dX7_say_11 rfl ?_
  refine m_get C Y 6 (by decide) (by decide) wf_X7_135 dX7_say_12 ?_
  refine x_iconst (v := 1) C dX7_say_15 (by decide) ?_
  refine x_iadd C dX7_say_16 ?_
  refine m_put C Y hW.2.1 6 (by decide) (by decide) rfl rfl rfl wf_X7_135 dX7_say_17 ?_
  refine m_vret C E dX7_say_20 ?_
  rw [h, nI_clamp (by omega)]; simp [MS.sa_i, h, nI_1]
theorem s_pagesOf (hW : Wm w M) (k : Nat) (hk : k < 12) : TF w M yX7_pagesOf cX7_pagesOf 2 (some .int) 0 [.int (nI k)] S (some (.int (if 0 < S.a 17 (3 * k + 2) then 3 else if 0 < S.a 17 (3 * k + 1) then 2 else 1))) S := by
  refine TM.intro hW rfl (Nat.le_of_ble_eq_true rfl) (fun z C Y E hn => ?_)
  have e2 : (3 : Int32) * nI k + 2 = nI (3 * k + 2) := by rw [show (3 : Int32) = nI 3 from rfl, show (2 : Int32) = nI 2 from rfl, pk_mul, nI_add]
  have e1 : (3 : Int32) * nI k + 1 = nI (3 * k + 1) := by rw [show (3 : Int32) = nI 3 from rfl, show (1 : Int32) = nI 1 from rfl, pk_mul, nI_add]
  refine x_aload_n C dX7_pagesOf_0 rfl ?_
  refine m_getA C Y 17 (by decide) (by decide) wf_X7_41 dX7_pagesOf_1 ?_
  refine x_iconst (v := 3) C dX7_pagesOf_4 (by decide) ?_
  refine x_iload_n C dX7_pagesOf_5 rfl ?_
  refine x_imul C dX7_pagesOf_6 ?_
  refine x_iconst (v := 2) C dX7_pagesOf_7 (by decide) ?_
  refine x_iadd C dX7_pagesOf_8 ?_
  refine m_ild C Y 17 (by decide) dX7_pagesOf_9 (by (first | rw [e2] | rw [e1]); exact vp_in_nI (show _ < 36 by omega) (by decide)) ?_
  rw [e2, nI_clamp (by omega)]
  refine x_if_le (tgt := 17) C dX7_pagesOf_10 (by decide) (fun c10 => ?_) (fun c10 => ?_)
  · skip
    refine x_aload_n C dX7_pagesOf_17 rfl ?_
    refine m_getA C Y 17 (by decide) (by decide) wf_X7_41 dX7_pagesOf_18 ?_
    refine x_iconst (v := 3) C dX7_pagesOf_21 (by decide) ?_
    refine x_iload_n C dX7_pagesOf_22 rfl ?_
    refine x_imul C dX7_pagesOf_23 ?_
    refine x_iconst (v := 1) C dX7_pagesOf_24 (by decide) ?_
    refine x_iadd C dX7_pagesOf_25 ?_
    refine m_ild C Y 17 (by decide) dX7_pagesOf_26 (by (first | rw [e2] | rw [e1]); exact vp_in_nI (show _ < 36 by omega) (by decide)) ?_
    rw [e1, nI_clamp (by omega)]
    refine x_if_le (tgt := 34) C dX7_pagesOf_27 (by decide) (fun c27 => ?_) (fun c27 => ?_)
    · skip
      refine x_iconst (v := 1) C dX7_pagesOf_34 (by decide) ?_
      refine m_iret C E dX7_pagesOf_35 ?_
      first | exact ⟨by rw [if_neg (Int32.not_lt.mpr c10), if_neg (Int32.not_lt.mpr c27)], rfl⟩ | exact ⟨by rw [if_neg (Int32.not_lt.mpr c10), if_pos (Int32.not_le.mp c27)], rfl⟩ | exact ⟨by rw [if_pos (Int32.not_le.mp c10)], rfl⟩
    · skip
      refine x_iconst (v := 2) C dX7_pagesOf_30 (by decide) ?_
      refine x_goto (tgt := 35) C dX7_pagesOf_31 (by decide) ?_
      refine m_iret C E dX7_pagesOf_35 ?_
      first | exact ⟨by rw [if_neg (Int32.not_lt.mpr c10), if_neg (Int32.not_lt.mpr c27)], rfl⟩ | exact ⟨by rw [if_neg (Int32.not_lt.mpr c10), if_pos (Int32.not_le.mp c27)], rfl⟩ | exact ⟨by rw [if_pos (Int32.not_le.mp c10)], rfl⟩
  · skip
    refine x_iconst (v := 3) C dX7_pagesOf_13 (by decide) ?_
    refine x_goto (tgt := 35) C dX7_pagesOf_14 (by decide) ?_
    refine m_iret C E dX7_pagesOf_35 ?_
    first | exact ⟨by rw [if_neg (Int32.not_lt.mpr c10), if_neg (Int32.not_lt.mpr c27)], rfl⟩ | exact ⟨by rw [if_neg (Int32.not_lt.mpr c10), if_pos (Int32.not_le.mp c27)], rfl⟩ | exact ⟨by rw [if_pos (Int32.not_le.mp c10)], rfl⟩
end Small
