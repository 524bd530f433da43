/-! MeterBusModel: what a frame is; the bus. -/
def sumF (f : Nat → Int32) (a b : Nat) : Int32 := ((List.range (b - a)).map (fun j => f (a + j))).foldl (· + ·) 0
theorem sumF_0 (f : Nat → Int32) (a : Nat) : sumF f a a = 0 := by simp [sumF]
theorem sumF_s (f : Nat → Int32) {a b : Nat} (h : a ≤ b) : sumF f a (b + 1) = sumF f a b + f b := by
  unfold sumF
  rw [show b + 1 - a = (b - a) + 1 by omega, List.range_succ, List.map_append, List.foldl_append]
  simp [show a + (b - a) = b by omega]
abbrev f_isS (S : MS) : Prop := S.i 4 = 5 ∧ S.a 3 0 = 16 ∧ S.a 3 4 = 22 ∧ S.a 3 3 = (S.a 3 1 + S.a 3 2) &&& 255
abbrev f_isL (S : MS) (n : Nat) : Prop := 9 ≤ n ∧ S.a 3 0 = 104 ∧ ¬ S.a 3 1 < 3 ∧ S.a 3 1 ≤ 252 ∧ S.a 3 2 = S.a 3 1 ∧ S.a 3 3 = 104 ∧ nI n = S.a 3 1 + 6 ∧ S.a 3 (n - 1) = 22 ∧ S.a 3 (n - 2) = sumF (S.a 3) 4 (n - 2) &&& 255
section Frames
variable {w : Wd} {M : MW} {S : MS}
theorem s_isShort (hW : Wm w M) : TF w M yX7_isShort cX7_isShort 1 (some .boolean) 0 [] S (some (.int (bI (f_isS S)))) S := by
  refine TM.intro hW rfl (Nat.le_of_ble_eq_true rfl) (fun z C Y E hn => ?_)
  refine x_aload_n C dX7_isShort_0 rfl ?_
  refine m_get C Y 4 (by decide) (by decide) wf_X7_126 dX7_isShort_1 ?_
  refine x_iconst (v := 5) C dX7_isShort_4 (by decide) ?_
  refine x_icmp_ne (tgt := 60) C dX7_isShort_5 (by decide) (fun c5 => ?_) (fun c5 => ?_)
  · skip
    refine x_iconst (v := 0) C dX7_isShort_60 (by decide) ?_
    refine m_zret C E dX7_isShort_61 (by decide) ?_
    first | exact ⟨bI_vt ⟨c5, c16, c27, c53⟩, rfl⟩ | exact ⟨bI_vf (fun q => c5 q.1), rfl⟩ | exact ⟨bI_vf (fun q => c16 q.2.1), rfl⟩ | exact ⟨bI_vf (fun q => c27 q.2.2.1), rfl⟩ | exact ⟨bI_vf (fun q => c53 q.2.2.2), rfl⟩
  · skip
    refine x_aload_n C dX7_isShort_8 rfl ?_
    refine m_getA C Y 3 (by decide) (by decide) wf_X7_13 dX7_isShort_9 ?_
    refine x_iconst (v := 0) C dX7_isShort_12 (by decide) ?_
    refine m_ildN C Y 3 (0) (by decide) dX7_isShort_13 (by simp only [nI_lit, nI_add, pk_mul]) (by simp only [m_len]; omega) ?_
    refine x_bipush (v := 16) C dX7_isShort_14 (by decide) ?_
    refine x_icmp_ne (tgt := 60) C dX7_isShort_16 (by decide) (fun c16 => ?_) (fun c16 => ?_)
    · skip
      refine x_iconst (v := 0) C dX7_isShort_60 (by decide) ?_
      refine m_zret C E dX7_isShort_61 (by decide) ?_
      first | exact ⟨bI_vt ⟨c5, c16, c27, c53⟩, rfl⟩ | exact ⟨bI_vf (fun q => c5 q.1), rfl⟩ | exact ⟨bI_vf (fun q => c16 q.2.1), rfl⟩ | exact ⟨bI_vf (fun q => c27 q.2.2.1), rfl⟩ | exact ⟨bI_vf (fun q => c53 q.2.2.2), rfl⟩
    · skip
      refine x_aload_n C dX7_isShort_19 rfl ?_
      refine m_getA C Y 3 (by decide) (by decide) wf_X7_13 dX7_isShort_20 ?_
      refine x_iconst (v := 4) C dX7_isShort_23 (by decide) ?_
      refine m_ildN C Y 3 (4) (by decide) dX7_isShort_24 (by simp only [nI_lit, nI_add, pk_mul]) (by simp only [m_len]; omega) ?_
      refine x_bipush (v := 22) C dX7_isShort_25 (by decide) ?_
      refine x_icmp_ne (tgt := 60) C dX7_isShort_27 (by decide) (fun c27 => ?_) (fun c27 => ?_)
      · skip
        refine x_iconst (v := 0) C dX7_isShort_60 (by decide) ?_
        refine m_zret C E dX7_isShort_61 (by decide) ?_
        first | exact ⟨bI_vt ⟨c5, c16, c27, c53⟩, rfl⟩ | exact ⟨bI_vf (fun q => c5 q.1), rfl⟩ | exact ⟨bI_vf (fun q => c16 q.2.1), rfl⟩ | exact ⟨bI_vf (fun q => c27 q.2.2.1), rfl⟩ | exact ⟨bI_vf (fun q => c53 q.2.2.2), rfl⟩
      · skip
        refine x_aload_n C dX7_isShort_30 rfl ?_
        refine m_getA C Y 3 (by decide) (by decide) wf_X7_13 dX7_isShort_31 ?_
        refine x_iconst (v := 3) C dX7_isShort_34 (by decide) ?_
        refine m_ildN C Y 3 (3) (by decide) dX7_isShort_35 (by simp only [nI_lit, nI_add, pk_mul]) (by simp only [m_len]; omega) ?_
        refine x_aload_n C dX7_isShort_36 rfl ?_
        refine m_getA C Y 3 (by decide) (by decide) wf_X7_13 dX7_isShort_37 ?_
        refine x_iconst (v := 1) C dX7_isShort_40 (by decide) ?_
        refine m_ildN C Y 3 (1) (by decide) dX7_isShort_41 (by simp only [nI_lit, nI_add, pk_mul]) (by simp only [m_len]; omega) ?_
        refine x_aload_n C dX7_isShort_42 rfl ?_
        refine m_getA C Y 3 (by decide) (by decide) wf_X7_13 dX7_isShort_43 ?_
        refine x_iconst (v := 2) C dX7_isShort_46 (by decide) ?_
        refine m_ildN C Y 3 (2) (by decide) dX7_isShort_47 (by simp only [nI_lit, nI_add, pk_mul]) (by simp only [m_len]; omega) ?_
        refine x_iadd C dX7_isShort_48 ?_
        refine x_sipush (v := 255) C dX7_isShort_49 (by decide) ?_
        refine x_iand C dX7_isShort_52 ?_
        refine x_icmp_ne (tgt := 60) C dX7_isShort_53 (by decide) (fun c53 => ?_) (fun c53 => ?_)
        · skip
          refine x_iconst (v := 0) C dX7_isShort_60 (by decide) ?_
          refine m_zret C E dX7_isShort_61 (by decide) ?_
          first | exact ⟨bI_vt ⟨c5, c16, c27, c53⟩, rfl⟩ | exact ⟨bI_vf (fun q => c5 q.1), rfl⟩ | exact ⟨bI_vf (fun q => c16 q.2.1), rfl⟩ | exact ⟨bI_vf (fun q => c27 q.2.2.1), rfl⟩ | exact ⟨bI_vf (fun q => c53 q.2.2.2), rfl⟩
        · skip
          refine x_iconst (v := 1) C dX7_isShort_56 (by decide) ?_
          refine x_goto (tgt := 61) C dX7_isShort_57 (by decide) ?_
          refine m_zret C E dX7_isShort_61 (by decide) ?_
          first | exact ⟨bI_vt ⟨c5, c16, c27, c53⟩, rfl⟩ | exact ⟨bI_vf (fun q => c5 q.1), rfl⟩ | exact ⟨bI_vf (fun q => c16 q.2.1), rfl⟩ | exact ⟨bI_vf (fun q => c27 q.2.2.1), rfl⟩ | exact ⟨bI_vf (fun q => c53 q.2.2.2), rfl⟩
theorem s_isLong (hW : Wm w M) (n : Nat) (hs : S.i 4 = nI n) (hn3 : n ≤ 300) : TF w M yX7_isLong cX7_isLong 3 (some .boolean) 0 [] S (some (.int (bI (f_isL S n)))) S := by
  refine TM.intro hW rfl (Nat.le_of_ble_eq_true rfl) (fun z C Y E hn => ?_)
  have i9 : S.i 4 < 9 ↔ ¬ 9 ≤ n := by rw [hs, show (9 : Int32) = nI 9 from rfl, nI_ltI (by omega) (by omega)]; omega
  have ex : ∀ x : Int32, 252 < x ↔ ¬ x ≤ 252 := fun x => Int32.not_le.symm
  have T131 : ∀ s : Int32, s = sumF (S.a 3) 4 (n - 2) → 9 ≤ n ∧ S.a 3 0 = 104 ∧ ¬ S.a 3 1 < 3 ∧ S.a 3 1 ≤ 252 ∧ S.a 3 2 = S.a 3 1 ∧ S.a 3 3 = 104 ∧ nI n = S.a 3 1 + 6 ∧ S.a 3 (n - 1) = 22 → X z 0 0 (MA M S) 131 [some (.ref M.o), some (.int s), some (.int (nI (n - 2)))] [] := by
    intro s hs2 ⟨a1, a2, a3, a4, a5, a6, a7, a8⟩
    subst hs2
    refine x_aload_n C dX7_isLong_131 rfl ?_
    refine m_getA C Y 3 (by decide) (by decide) wf_X7_13 dX7_isLong_132 ?_
    refine x_aload_n C dX7_isLong_135 rfl ?_
    refine m_get C Y 4 (by decide) (by decide) wf_X7_126 dX7_isLong_136 ?_
    refine x_iconst (v := 2) C dX7_isLong_139 (by decide) ?_
    refine x_isub C dX7_isLong_140 ?_
    refine m_ildN C Y 3 (n - 2) (by decide) dX7_isLong_141 (by rw [hs, show (2 : Int32) = nI 2 from rfl, pk_sub (by omega)]) (by simp only [m_len]; omega) ?_
    refine x_iload_n C dX7_isLong_142 rfl ?_
    refine x_sipush (v := 255) C dX7_isLong_143 (by decide) ?_
    refine x_iand C dX7_isLong_146 ?_
    refine x_icmp_ne (tgt := 154) C dX7_isLong_147 (by decide) (fun c147 => ?_) (fun c147 => ?_)
    · skip
      refine x_iconst (v := 0) C dX7_isLong_154 (by decide) ?_
      refine m_zret C E dX7_isLong_155 (by decide) ?_
      first | exact ⟨bI_vt ⟨a1, a2, a3, a4, a5, a6, a7, a8, c147⟩, rfl⟩ | exact ⟨bI_vf (fun q => c147 q.2.2.2.2.2.2.2.2), rfl⟩
    · skip
      refine x_iconst (v := 1) C dX7_isLong_150 (by decide) ?_
      refine x_goto (tgt := 155) C dX7_isLong_151 (by decide) ?_
      refine m_zret C E dX7_isLong_155 (by decide) ?_
      first | exact ⟨bI_vt ⟨a1, a2, a3, a4, a5, a6, a7, a8, c147⟩, rfl⟩ | exact ⟨bI_vf (fun q => c147 q.2.2.2.2.2.2.2.2), rfl⟩
  have T106 : 9 ≤ n ∧ S.a 3 0 = 104 ∧ ¬ S.a 3 1 < 3 ∧ S.a 3 1 ≤ 252 ∧ S.a 3 2 = S.a 3 1 ∧ S.a 3 3 = 104 ∧ nI n = S.a 3 1 + 6 ∧ S.a 3 (n - 1) = 22 → ∀ (t b : Nat), b + t = n - 2 → 4 ≤ b → X z 0 0 (MA M S) 106 [some (.ref M.o), some (.int (sumF (S.a 3) 4 b)), some (.int (nI b))] [] := by
    intro H t
    have h9 := H.1
    have e2 : S.i 4 - 2 = nI (n - 2) := by rw [hs, show (2 : Int32) = nI 2 from rfl, pk_sub (by omega)]
    induction t with
    | zero =>
      intro b hb h4
      obtain rfl : b = n - 2 := by omega
      refine x_iload_n C dX7_isLong_106 rfl ?_
      refine x_aload_n C dX7_isLong_107 rfl ?_
      refine m_get C Y 4 (by decide) (by decide) wf_X7_126 dX7_isLong_108 ?_
      refine x_iconst (v := 2) C dX7_isLong_111 (by decide) ?_
      refine x_isub C dX7_isLong_112 ?_
      rw [e2]
      refine x_icmp_ge (tgt := 131) C dX7_isLong_113 (by decide) (fun c113 => ?_) (fun c113 => absurd c113 (not_not_intro (Int32.le_refl _)))
      exact T131 _ rfl H
    | succ t ih =>
      intro b hb h4
      refine x_iload_n C dX7_isLong_106 rfl ?_
      refine x_aload_n C dX7_isLong_107 rfl ?_
      refine m_get C Y 4 (by decide) (by decide) wf_X7_126 dX7_isLong_108 ?_
      refine x_iconst (v := 2) C dX7_isLong_111 (by decide) ?_
      refine x_isub C dX7_isLong_112 ?_
      rw [e2]
      refine x_icmp_ge (tgt := 131) C dX7_isLong_113 (by decide) (fun c113 => absurd c113 (nI_ge (show b < n - 2 by omega) (by omega))) (fun c113 => ?_)
      refine x_iload_n C dX7_isLong_116 rfl ?_
      refine x_aload_n C dX7_isLong_117 rfl ?_
      refine m_getA C Y 3 (by decide) (by decide) wf_X7_13 dX7_isLong_118 ?_
      refine x_iload_n C dX7_isLong_121 rfl ?_
      refine m_ildN C Y 3 (b) (by decide) dX7_isLong_122 (by simp only [nI_lit, nI_add, pk_mul]) (by simp only [m_len]; omega) ?_
      refine x_iadd C dX7_isLong_123 ?_
      rw [← sumF_s (S.a 3) h4]
      refine x_istore_nE (L' := [some _, some _, some _]) C dX7_isLong_124 (by rw [hn]; decide) rfl ?_
      refine x_iincE (v := nI (b + 1)) (L' := [some _, some _, some _]) C dX7_isLong_125 rfl (nI_1 b) (by rw [hn]; decide) rfl ?_
      refine x_goto (tgt := 106) C dX7_isLong_128 (by decide) ?_
      exact ih (b + 1) (by omega) (by omega)
  refine x_aload_n C dX7_isLong_0 rfl ?_
  refine m_get C Y 4 (by decide) (by decide) wf_X7_126 dX7_isLong_1 ?_
  refine x_bipush (v := 9) C dX7_isLong_4 (by decide) ?_
  refine x_icmp_lt (tgt := 100) C dX7_isLong_6 (by decide) (fun c6 => ?_) (fun c6 => ?_)
  · skip
    refine x_iconst (v := 0) C dX7_isLong_100 (by decide) ?_
    refine m_zret C E dX7_isLong_101 (by decide) ?_
    first | exact ⟨bI_vf (fun q => i9.mp c6 q.1), rfl⟩ | exact ⟨bI_vf (fun q => c17 q.2.1), rfl⟩ | exact ⟨bI_vf (fun q => q.2.2.1 c27), rfl⟩ | exact ⟨bI_vf (fun q => (ex _).mp c39 q.2.2.2.1), rfl⟩ | exact ⟨bI_vf (fun q => c54 q.2.2.2.2.1), rfl⟩ | exact ⟨bI_vf (fun q => c65 q.2.2.2.2.2.1), rfl⟩ | exact ⟨bI_vf (fun q => c81 (hs.trans q.2.2.2.2.2.2.1)), rfl⟩ | exact ⟨bI_vf (fun q => c97 q.2.2.2.2.2.2.2.1), rfl⟩
  · skip
    have g6 := Classical.not_not.mp (fun q => c6 (i9.mpr q))
    refine x_aload_n C dX7_isLong_9 rfl ?_
    refine m_getA C Y 3 (by decide) (by decide) wf_X7_13 dX7_isLong_10 ?_
    refine x_iconst (v := 0) C dX7_isLong_13 (by decide) ?_
    refine m_ildN C Y 3 (0) (by decide) dX7_isLong_14 (by simp only [nI_lit, nI_add, pk_mul]) (by simp only [m_len]; omega) ?_
    refine x_bipush (v := 104) C dX7_isLong_15 (by decide) ?_
    refine x_icmp_ne (tgt := 100) C dX7_isLong_17 (by decide) (fun c17 => ?_) (fun c17 => ?_)
    · skip
      refine x_iconst (v := 0) C dX7_isLong_100 (by decide) ?_
      refine m_zret C E dX7_isLong_101 (by decide) ?_
      first | exact ⟨bI_vf (fun q => i9.mp c6 q.1), rfl⟩ | exact ⟨bI_vf (fun q => c17 q.2.1), rfl⟩ | exact ⟨bI_vf (fun q => q.2.2.1 c27), rfl⟩ | exact ⟨bI_vf (fun q => (ex _).mp c39 q.2.2.2.1), rfl⟩ | exact ⟨bI_vf (fun q => c54 q.2.2.2.2.1), rfl⟩ | exact ⟨bI_vf (fun q => c65 q.2.2.2.2.2.1), rfl⟩ | exact ⟨bI_vf (fun q => c81 (hs.trans q.2.2.2.2.2.2.1)), rfl⟩ | exact ⟨bI_vf (fun q => c97 q.2.2.2.2.2.2.2.1), rfl⟩
    · skip
      refine x_aload_n C dX7_isLong_20 rfl ?_
      refine m_getA C Y 3 (by decide) (by decide) wf_X7_13 dX7_isLong_21 ?_
      refine x_iconst (v := 1) C dX7_isLong_24 (by decide) ?_
      refine m_ildN C Y 3 (1) (by decide) dX7_isLong_25 (by simp only [nI_lit, nI_add, pk_mul]) (by simp only [m_len]; omega) ?_
      refine x_iconst (v := 3) C dX7_isLong_26 (by decide) ?_
      refine x_icmp_lt (tgt := 100) C dX7_isLong_27 (by decide) (fun c27 => ?_) (fun c27 => ?_)
      · skip
        refine x_iconst (v := 0) C dX7_isLong_100 (by decide) ?_
        refine m_zret C E dX7_isLong_101 (by decide) ?_
        first | exact ⟨bI_vf (fun q => i9.mp c6 q.1), rfl⟩ | exact ⟨bI_vf (fun q => c17 q.2.1), rfl⟩ | exact ⟨bI_vf (fun q => q.2.2.1 c27), rfl⟩ | exact ⟨bI_vf (fun q => (ex _).mp c39 q.2.2.2.1), rfl⟩ | exact ⟨bI_vf (fun q => c54 q.2.2.2.2.1), rfl⟩ | exact ⟨bI_vf (fun q => c65 q.2.2.2.2.2.1), rfl⟩ | exact ⟨bI_vf (fun q => c81 (hs.trans q.2.2.2.2.2.2.1)), rfl⟩ | exact ⟨bI_vf (fun q => c97 q.2.2.2.2.2.2.2.1), rfl⟩
      · skip
        refine x_aload_n C dX7_isLong_30 rfl ?_
        refine m_getA C Y 3 (by decide) (by decide) wf_X7_13 dX7_isLong_31 ?_
        refine x_iconst (v := 1) C dX7_isLong_34 (by decide) ?_
        refine m_ildN C Y 3 (1) (by decide) dX7_isLong_35 (by simp only [nI_lit, nI_add, pk_mul]) (by simp only [m_len]; omega) ?_
        refine x_sipush (v := 252) C dX7_isLong_36 (by decide) ?_
        refine x_icmp_gt (tgt := 100) C dX7_isLong_39 (by decide) (fun c39 => ?_) (fun c39 => ?_)
        · skip
          refine x_iconst (v := 0) C dX7_isLong_100 (by decide) ?_
          refine m_zret C E dX7_isLong_101 (by decide) ?_
          first | exact ⟨bI_vf (fun q => i9.mp c6 q.1), rfl⟩ | exact ⟨bI_vf (fun q => c17 q.2.1), rfl⟩ | exact ⟨bI_vf (fun q => q.2.2.1 c27), rfl⟩ | exact ⟨bI_vf (fun q => (ex _).mp c39 q.2.2.2.1), rfl⟩ | exact ⟨bI_vf (fun q => c54 q.2.2.2.2.1), rfl⟩ | exact ⟨bI_vf (fun q => c65 q.2.2.2.2.2.1), rfl⟩ | exact ⟨bI_vf (fun q => c81 (hs.trans q.2.2.2.2.2.2.1)), rfl⟩ | exact ⟨bI_vf (fun q => c97 q.2.2.2.2.2.2.2.1), rfl⟩
        · skip
          refine x_aload_n C dX7_isLong_42 rfl ?_
          refine m_getA C Y 3 (by decide) (by decide) wf_X7_13 dX7_isLong_43 ?_
          refine x_iconst (v := 2) C dX7_isLong_46 (by decide) ?_
          refine m_ildN C Y 3 (2) (by decide) dX7_isLong_47 (by simp only [nI_lit, nI_add, pk_mul]) (by simp only [m_len]; omega) ?_
          refine x_aload_n C dX7_isLong_48 rfl ?_
          refine m_getA C Y 3 (by decide) (by decide) wf_X7_13 dX7_isLong_49 ?_
          refine x_iconst (v := 1) C dX7_isLong_52 (by decide) ?_
          refine m_ildN C Y 3 (1) (by decide) dX7_isLong_53 (by simp only [nI_lit, nI_add, pk_mul]) (by simp only [m_len]; omega) ?_
          refine x_icmp_ne (tgt := 100) C dX7_isLong_54 (by decide) (fun c54 => ?_) (fun c54 => ?_)
          · skip
            refine x_iconst (v := 0) C dX7_isLong_100 (by decide) ?_
            refine m_zret C E dX7_isLong_101 (by decide) ?_
            first | exact ⟨bI_vf (fun q => i9.mp c6 q.1), rfl⟩ | exact ⟨bI_vf (fun q => c17 q.2.1), rfl⟩ | exact ⟨bI_vf (fun q => q.2.2.1 c27), rfl⟩ | exact ⟨bI_vf (fun q => (ex _).mp c39 q.2.2.2.1), rfl⟩ | exact ⟨bI_vf (fun q => c54 q.2.2.2.2.1), rfl⟩ | exact ⟨bI_vf (fun q => c65 q.2.2.2.2.2.1), rfl⟩ | exact ⟨bI_vf (fun q => c81 (hs.trans q.2.2.2.2.2.2.1)), rfl⟩ | exact ⟨bI_vf (fun q => c97 q.2.2.2.2.2.2.2.1), rfl⟩
          · skip
            refine x_aload_n C dX7_isLong_57 rfl ?_
            refine m_getA C Y 3 (by decide) (by decide) wf_X7_13 dX7_isLong_58 ?_
            refine x_iconst (v := 3) C dX7_isLong_61 (by decide) ?_
            refine m_ildN C Y 3 (3) (by decide) dX7_isLong_62 (by simp only [nI_lit, nI_add, pk_mul]) (by simp only [m_len]; omega) ?_
            refine x_bipush (v := 104) C dX7_isLong_63 (by decide) ?_
            refine x_icmp_ne (tgt := 100) C dX7_isLong_65 (by decide) (fun c65 => ?_) (fun c65 => ?_)
            · skip
              refine x_iconst (v := 0) C dX7_isLong_100 (by decide) ?_
              refine m_zret C E dX7_isLong_101 (by decide) ?_
              first | exact ⟨bI_vf (fun q => i9.mp c6 q.1), rfl⟩ | exact ⟨bI_vf (fun q => c17 q.2.1), rfl⟩ | exact ⟨bI_vf (fun q => q.2.2.1 c27), rfl⟩ | exact ⟨bI_vf (fun q => (ex _).mp c39 q.2.2.2.1), rfl⟩ | exact ⟨bI_vf (fun q => c54 q.2.2.2.2.1), rfl⟩ | exact ⟨bI_vf (fun q => c65 q.2.2.2.2.2.1), rfl⟩ | exact ⟨bI_vf (fun q => c81 (hs.trans q.2.2.2.2.2.2.1)), rfl⟩ | exact ⟨bI_vf (fun q => c97 q.2.2.2.2.2.2.2.1), rfl⟩
            · skip
              refine x_aload_n C dX7_isLong_68 rfl ?_
              refine m_get C Y 4 (by decide) (by decide) wf_X7_126 dX7_isLong_69 ?_
              refine x_aload_n C dX7_isLong_72 rfl ?_
              refine m_getA C Y 3 (by decide) (by decide) wf_X7_13 dX7_isLong_73 ?_
              refine x_iconst (v := 1) C dX7_isLong_76 (by decide) ?_
              refine m_ildN C Y 3 (1) (by decide) dX7_isLong_77 (by simp only [nI_lit, nI_add, pk_mul]) (by simp only [m_len]; omega) ?_
              refine x_bipush (v := 6) C dX7_isLong_78 (by decide) ?_
              refine x_iadd C dX7_isLong_80 ?_
              refine x_icmp_ne (tgt := 100) C dX7_isLong_81 (by decide) (fun c81 => ?_) (fun c81 => ?_)
              · skip
                refine x_iconst (v := 0) C dX7_isLong_100 (by decide) ?_
                refine m_zret C E dX7_isLong_101 (by decide) ?_
                first | exact ⟨bI_vf (fun q => i9.mp c6 q.1), rfl⟩ | exact ⟨bI_vf (fun q => c17 q.2.1), rfl⟩ | exact ⟨bI_vf (fun q => q.2.2.1 c27), rfl⟩ | exact ⟨bI_vf (fun q => (ex _).mp c39 q.2.2.2.1), rfl⟩ | exact ⟨bI_vf (fun q => c54 q.2.2.2.2.1), rfl⟩ | exact ⟨bI_vf (fun q => c65 q.2.2.2.2.2.1), rfl⟩ | exact ⟨bI_vf (fun q => c81 (hs.trans q.2.2.2.2.2.2.1)), rfl⟩ | exact ⟨bI_vf (fun q => c97 q.2.2.2.2.2.2.2.1), rfl⟩
              · skip
                refine x_aload_n C dX7_isLong_84 rfl ?_
                refine m_getA C Y 3 (by decide) (by decide) wf_X7_13 dX7_isLong_85 ?_
                refine x_aload_n C dX7_isLong_88 rfl ?_
                refine m_get C Y 4 (by decide) (by decide) wf_X7_126 dX7_isLong_89 ?_
                refine x_iconst (v := 1) C dX7_isLong_92 (by decide) ?_
                refine x_isub C dX7_isLong_93 ?_
                refine m_ildN C Y 3 (n - 1) (by decide) dX7_isLong_94 (by rw [hs, show (1 : Int32) = nI 1 from rfl, pk_sub (by omega)]) (by simp only [m_len]; omega) ?_
                refine x_bipush (v := 22) C dX7_isLong_95 (by decide) ?_
                refine x_icmp_eq (tgt := 102) C dX7_isLong_97 (by decide) (fun c97 => ?_) (fun c97 => ?_)
                · skip
                  refine x_iconst (v := 0) C dX7_isLong_102 (by decide) ?_
                  refine x_istore_nE (L' := [some _, some _, none]) C dX7_isLong_103 (by rw [hn]; decide) rfl ?_
                  refine x_iconst (v := 4) C dX7_isLong_104 (by decide) ?_
                  refine x_istore_nE (L' := [some _, some _, some _]) C dX7_isLong_105 (by rw [hn]; decide) rfl ?_
                  exact T106 ⟨g6, c17, c27, Classical.not_not.mp (fun q => c39 ((ex _).mpr q)), c54, c65, hs.symm.trans c81, c97⟩ (n - 6) 4 (by omega) (by omega)
                · skip
                  refine x_iconst (v := 0) C dX7_isLong_100 (by decide) ?_
                  refine m_zret C E dX7_isLong_101 (by decide) ?_
                  first | exact ⟨bI_vf (fun q => i9.mp c6 q.1), rfl⟩ | exact ⟨bI_vf (fun q => c17 q.2.1), rfl⟩ | exact ⟨bI_vf (fun q => q.2.2.1 c27), rfl⟩ | exact ⟨bI_vf (fun q => (ex _).mp c39 q.2.2.2.1), rfl⟩ | exact ⟨bI_vf (fun q => c54 q.2.2.2.2.1), rfl⟩ | exact ⟨bI_vf (fun q => c65 q.2.2.2.2.2.1), rfl⟩ | exact ⟨bI_vf (fun q => c81 (hs.trans q.2.2.2.2.2.2.1)), rfl⟩ | exact ⟨bI_vf (fun q => c97 q.2.2.2.2.2.2.2.1), rfl⟩
end Frames
