/-! MeterBusModel: faults, the next byte, what a long frame must be. -/
def f_bl (S : MS) (kind wh : Int32) : MS := if S.i 41 = 0 then (S.si 41 kind).si 36 wh else S
abbrev f_isB (S : MS) (n i : Nat) (lo hi : Int32) : Prop := i < n ∧ ¬ S.a 38 i < lo ∧ S.a 38 i ≤ hi
def f_bS (S : MS) (n i : Nat) (lo hi : Int32) : MS := if f_isB S n i lo hi then S else f_bl S 1 (if i < n then nI i else nI n)
section Fault
variable {w : Wd} {M : MW} {S : MS}
theorem s_blame (hW : Wm w M) (kind wh : Int32) : TF w M yX7_blame cX7_blame 3 (some .int) 0 [.int kind, .int wh] S (some (.int 0)) (f_bl S kind wh) := by
  refine TM.intro hW rfl (Nat.le_of_ble_eq_true rfl) (fun z C Y E hn => ?_)
  refine x_aload_n C dX7_blame_0 rfl ?_
  refine m_get C Y 41 (by decide) (by decide) wf_X7_204 dX7_blame_1 ?_
  refine x_if_ne (tgt := 17) C dX7_blame_4 (by decide) (fun c4 => ?_) (fun c4 => ?_)
  · skip
    refine x_iconst (v := 0) C dX7_blame_17 (by decide) ?_
    refine m_iret C E dX7_blame_18 ?_
    first | exact ⟨rfl, (if_neg c4).symm⟩ | exact ⟨rfl, (if_pos c4).symm⟩
  · skip
    refine x_aload_n C dX7_blame_7 rfl ?_
    refine x_iload_n C dX7_blame_8 rfl ?_
    refine m_put C Y hW.2.1 41 (by decide) (by decide) rfl rfl rfl wf_X7_204 dX7_blame_9 ?_
    refine x_aload_n C dX7_blame_12 rfl ?_
    refine x_iload_n C dX7_blame_13 rfl ?_
    refine m_put C Y hW.2.1 36 (by decide) (by decide) rfl rfl rfl wf_X7_90 dX7_blame_14 ?_
    refine x_iconst (v := 0) C dX7_blame_17 (by decide) ?_
    refine m_iret C E dX7_blame_18 ?_
    first | exact ⟨rfl, (if_neg c4).symm⟩ | exact ⟨rfl, (if_pos c4).symm⟩
theorem s_next_e (hW : Wm w M) (a e : Nat) (ha : S.i 40 = nI a) (he : S.i 39 = nI e) (he3 : a < 2 ^ 31) (hl : e ≤ a) : TF w M yX7_next cX7_next 1 (some .int) 1 [] S (some (.int 0)) (f_bl S 4 (nI e)) := by
  refine TM.intro hW rfl (Nat.le_of_ble_eq_true rfl) (fun z C Y E hn => ?_)
  have c : ¬ S.i 40 < S.i 39 := by rw [ha, he]; exact nI_nlt hl he3
  have hb := s_blame (S := S) hW 4 (S.i 39)
  rw [← he] at E
  refine x_aload_n C dX7_next_0 rfl ?_
  refine m_get C Y 40 (by decide) (by decide) wf_X7_221 dX7_next_1 ?_
  refine x_aload_n C dX7_next_4 rfl ?_
  refine m_get C Y 39 (by decide) (by decide) wf_X7_215 dX7_next_5 ?_
  refine x_icmp_lt (tgt := 21) C dX7_next_8 (by decide) (fun c8 => absurd c8 c) (fun c8 => ?_)
  refine x_aload_n C dX7_next_11 rfl ?_
  refine x_iconst (v := 4) C dX7_next_12 (by decide) ?_
  refine x_aload_n C dX7_next_13 rfl ?_
  refine m_get C Y 39 (by decide) (by decide) wf_X7_215 dX7_next_14 ?_
  refine m_callF C Y hW E (hb) rfl md_X7_blame wi_X7_blame ws_X7_blame wm_X7_207 dX7_next_17 rfl (by decide) (by decide) rfl (by simp [Value.category]) ?_
  refine m_iret C E dX7_next_20 ?_
  exact ⟨rfl, rfl⟩
theorem s_next (hW : Wm w M) (a e : Nat) (ha : S.i 40 = nI a) (he : S.i 39 = nI e) (he3 : e ≤ 300) (hl : a < e) : TF w M yX7_next cX7_next 1 (some .int) 1 [] S (some (.int (S.a 38 a))) (S.si 40 (nI (a + 1))) := by
  refine TM.intro hW rfl (Nat.le_of_ble_eq_true rfl) (fun z C Y E hn => ?_)
  have c : S.i 40 < S.i 39 := by rw [ha, he]; exact nI_lt hl (by omega)
  refine x_aload_n C dX7_next_0 rfl ?_
  refine m_get C Y 40 (by decide) (by decide) wf_X7_221 dX7_next_1 ?_
  refine x_aload_n C dX7_next_4 rfl ?_
  refine m_get C Y 39 (by decide) (by decide) wf_X7_215 dX7_next_5 ?_
  refine x_icmp_lt (tgt := 21) C dX7_next_8 (by decide) (fun c8 => ?_) (fun c8 => absurd c8 (not_not_intro c))
  refine x_aload_n C dX7_next_21 rfl ?_
  refine x_dup C dX7_next_22 rfl ?_
  refine m_get C Y 40 (by decide) (by decide) wf_X7_221 dX7_next_23 ?_
  refine x_iconst (v := 1) C dX7_next_26 (by decide) ?_
  refine x_iadd C dX7_next_27 ?_
  rw [ha, nI_1]
  refine m_put C Y hW.2.1 40 (by decide) (by decide) rfl rfl rfl wf_X7_221 dX7_next_28 ?_
  refine x_aload_n C dX7_next_31 rfl ?_
  refine m_getA C Y 38 (by decide) (by decide) wf_X7_94 dX7_next_32 ?_
  refine x_aload_n C dX7_next_35 rfl ?_
  refine m_get C Y 40 (by decide) (by decide) wf_X7_221 dX7_next_36 ?_
  refine x_iconst (v := 1) C dX7_next_39 (by decide) ?_
  refine x_isub C dX7_next_40 ?_
  refine m_ildN C Y 38 (a) (by decide) dX7_next_41 (by rw [MS.si_i, if_pos rfl]; exact nI_pred a) (by simp only [m_len]; omega) ?_
  refine m_iret C E dX7_next_42 ?_
  exact ⟨rfl, rfl⟩
theorem s_has_t (hW : Wm w M) (a e m : Nat) (ha : S.i 40 = nI a) (he : S.i 39 = nI e) (he3 : e ≤ 300) (hl : a + m ≤ e) : TF w M yX7_has cX7_has 3 (some .boolean) 1 [.int (nI m)] S (some (.int 1)) S := by
  refine TM.intro hW rfl (Nat.le_of_ble_eq_true rfl) (fun z C Y E hn => ?_)
  have c : nI m ≤ S.i 39 - S.i 40 := by rw [ha, he, pk_sub (by omega)]; exact nI_le (by omega) (by omega)
  refine x_aload_n C dX7_has_0 rfl ?_
  refine m_get C Y 39 (by decide) (by decide) wf_X7_215 dX7_has_1 ?_
  refine x_aload_n C dX7_has_4 rfl ?_
  refine m_get C Y 40 (by decide) (by decide) wf_X7_221 dX7_has_5 ?_
  refine x_isub C dX7_has_8 ?_
  refine x_iload_n C dX7_has_9 rfl ?_
  refine x_icmp_ge (tgt := 25) C dX7_has_10 (by decide) (fun c10 => ?_) (fun c10 => absurd c10 (not_not_intro c))
  refine x_iconst (v := 1) C dX7_has_25 (by decide) ?_
  refine m_zret C E dX7_has_26 (by decide) ?_
  exact ⟨rfl, rfl⟩
theorem s_has_f (hW : Wm w M) (a e m : Nat) (ha : S.i 40 = nI a) (he : S.i 39 = nI e) (he3 : e ≤ 300) (hae : a ≤ e) (hm : m ≤ 300) (hl : ¬ a + m ≤ e) : TF w M yX7_has cX7_has 3 (some .boolean) 1 [.int (nI m)] S (some (.int 0)) (f_bl S 4 (nI e)) := by
  refine TM.intro hW rfl (Nat.le_of_ble_eq_true rfl) (fun z C Y E hn => ?_)
  have c : ¬ nI m ≤ S.i 39 - S.i 40 := by rw [ha, he, pk_sub hae]; exact nI_ge (by omega) (by omega)
  have hb := s_blame (S := S) hW 4 (S.i 39)
  rw [← he] at E
  refine x_aload_n C dX7_has_0 rfl ?_
  refine m_get C Y 39 (by decide) (by decide) wf_X7_215 dX7_has_1 ?_
  refine x_aload_n C dX7_has_4 rfl ?_
  refine m_get C Y 40 (by decide) (by decide) wf_X7_221 dX7_has_5 ?_
  refine x_isub C dX7_has_8 ?_
  refine x_iload_n C dX7_has_9 rfl ?_
  refine x_icmp_ge (tgt := 25) C dX7_has_10 (by decide) (fun c10 => absurd c10 c) (fun c10 => ?_)
  refine x_aload_n C dX7_has_13 rfl ?_
  refine x_iconst (v := 4) C dX7_has_14 (by decide) ?_
  refine x_aload_n C dX7_has_15 rfl ?_
  refine m_get C Y 39 (by decide) (by decide) wf_X7_215 dX7_has_16 ?_
  refine m_callF C Y hW E (hb) rfl md_X7_blame wi_X7_blame ws_X7_blame wm_X7_207 dX7_has_19 rfl (by decide) (by decide) rfl (by simp [Value.category]) ?_
  refine x_istore_nE (L' := [some _, some _, some _]) C dX7_has_22 (by rw [hn]; decide) rfl ?_
  refine x_iconst (v := 0) C dX7_has_23 (by decide) ?_
  refine m_zret C E dX7_has_24 (by decide) ?_
  exact ⟨rfl, rfl⟩
theorem s_isByte (hW : Wm w M) (n i : Nat) (hn3 : n ≤ 300) (hi3 : i < 300) (lo hi : Int32) : TF w M yX7_isByte cX7_isByte 7 (some .boolean) 1 [.int (nI n), .int (nI i), .int lo, .int hi] S (some (.int (bI (f_isB S n i lo hi)))) (f_bS S n i lo hi) := by
  refine TM.intro hW rfl (Nat.le_of_ble_eq_true rfl) (fun z C Y E hn => ?_)
  have ci : nI n ≤ nI i ↔ ¬ i < n := by rw [nI_leI (by omega) (by omega)]; omega
  have ch : hi < S.a 38 i ↔ ¬ S.a 38 i ≤ hi := Int32.not_le.symm
  have T33 : ∀ v : Int32, v = bI (f_isB S n i lo hi) → X z 0 0 (MA M S) 33 [some (.ref M.o), some (.int (nI n)), some (.int (nI i)), some (.int lo), some (.int hi), some (.int v), none] [] := by
    intro v ev
    unfold f_bS at E
    by_cases hb : f_isB S n i lo hi
    · rw [bI_t hb, if_pos hb] at E
      rw [bI_t hb] at ev
      subst ev
      refine x_iload C dX7_isByte_33 rfl ?_
      refine x_if_ne (tgt := 55) C dX7_isByte_35 (by decide) (fun c35 => ?_) (fun c35 => absurd c35 (by decide))
      refine x_iload C dX7_isByte_55 rfl ?_
      refine m_zret C E dX7_isByte_57 (by decide) ?_
      exact ⟨rfl, rfl⟩
    · rw [bI_f hb, if_neg hb] at E
      rw [bI_f hb] at ev
      subst ev
      refine x_iload C dX7_isByte_33 rfl ?_
      refine x_if_ne (tgt := 55) C dX7_isByte_35 (by decide) (fun c35 => absurd c35 (not_not_intro rfl)) (fun c35 => ?_)
      refine x_aload_n C dX7_isByte_38 rfl ?_
      refine x_iconst (v := 1) C dX7_isByte_39 (by decide) ?_
      refine x_iload_n C dX7_isByte_40 rfl ?_
      refine x_iload_n C dX7_isByte_41 rfl ?_
      refine x_icmp_ge (tgt := 49) C dX7_isByte_42 (by decide) (fun c42 => ?_) (fun c42 => ?_)
      · skip
        refine x_iload_n C dX7_isByte_49 rfl ?_
        refine m_callF C Y hW E (s_blame hW _ _) rfl md_X7_blame wi_X7_blame ws_X7_blame wm_X7_207 dX7_isByte_50 rfl (by decide) (by decide) rfl (by simp [Value.category]) ?_
        refine x_istoreE (L' := [some _, some _, some _, some _, some _, some _, some _]) C dX7_isByte_53 (by rw [hn]; decide) rfl ?_
        refine x_iload C dX7_isByte_55 rfl ?_
        refine m_zret C E dX7_isByte_57 (by decide) ?_
        first | exact ⟨rfl, congrArg (f_bl S 1) (if_neg (ci.mp c42)).symm⟩ | exact ⟨rfl, congrArg (f_bl S 1) (if_pos (Classical.not_not.mp (fun q => c42 (ci.mpr q)))).symm⟩
      · skip
        refine x_iload_n C dX7_isByte_45 rfl ?_
        refine x_goto (tgt := 50) C dX7_isByte_46 (by decide) ?_
        refine m_callF C Y hW E (s_blame hW _ _) rfl md_X7_blame wi_X7_blame ws_X7_blame wm_X7_207 dX7_isByte_50 rfl (by decide) (by decide) rfl (by simp [Value.category]) ?_
        refine x_istoreE (L' := [some _, some _, some _, some _, some _, some _, some _]) C dX7_isByte_53 (by rw [hn]; decide) rfl ?_
        refine x_iload C dX7_isByte_55 rfl ?_
        refine m_zret C E dX7_isByte_57 (by decide) ?_
        first | exact ⟨rfl, congrArg (f_bl S 1) (if_neg (ci.mp c42)).symm⟩ | exact ⟨rfl, congrArg (f_bl S 1) (if_pos (Classical.not_not.mp (fun q => c42 (ci.mpr q)))).symm⟩
  refine x_iload_n C dX7_isByte_0 rfl ?_
  refine x_iload_n C dX7_isByte_1 rfl ?_
  refine x_icmp_ge (tgt := 30) C dX7_isByte_2 (by decide) (fun c2 => ?_) (fun c2 => ?_)
  · skip
    refine x_iconst (v := 0) C dX7_isByte_30 (by decide) ?_
    refine x_istoreE (L' := [some _, some _, some _, some _, some _, some _, none]) C dX7_isByte_31 (by rw [hn]; decide) rfl ?_
    first | exact T33 _ (bI_00 (fun q => ci.mp c2 q.1)) | exact T33 _ (bI_00 (fun q => q.2.1 c12)) | exact T33 _ (bI_00 (fun q => ch.mp c23 q.2.2)) | exact T33 _ (bI_1 ⟨Classical.not_not.mp (fun q => c2 (ci.mpr q)), c12, Classical.not_not.mp (fun q => c23 (ch.mpr q))⟩)
  · skip
    refine x_aload_n C dX7_isByte_5 rfl ?_
    refine m_getA C Y 38 (by decide) (by decide) wf_X7_94 dX7_isByte_6 ?_
    refine x_iload_n C dX7_isByte_9 rfl ?_
    refine m_ildN C Y 38 (i) (by decide) dX7_isByte_10 (by simp only [nI_lit, nI_add, pk_mul]) (by simp only [m_len]; omega) ?_
    refine x_iload_n C dX7_isByte_11 rfl ?_
    refine x_icmp_lt (tgt := 30) C dX7_isByte_12 (by decide) (fun c12 => ?_) (fun c12 => ?_)
    · skip
      refine x_iconst (v := 0) C dX7_isByte_30 (by decide) ?_
      refine x_istoreE (L' := [some _, some _, some _, some _, some _, some _, none]) C dX7_isByte_31 (by rw [hn]; decide) rfl ?_
      first | exact T33 _ (bI_00 (fun q => ci.mp c2 q.1)) | exact T33 _ (bI_00 (fun q => q.2.1 c12)) | exact T33 _ (bI_00 (fun q => ch.mp c23 q.2.2)) | exact T33 _ (bI_1 ⟨Classical.not_not.mp (fun q => c2 (ci.mpr q)), c12, Classical.not_not.mp (fun q => c23 (ch.mpr q))⟩)
    · skip
      refine x_aload_n C dX7_isByte_15 rfl ?_
      refine m_getA C Y 38 (by decide) (by decide) wf_X7_94 dX7_isByte_16 ?_
      refine x_iload_n C dX7_isByte_19 rfl ?_
      refine m_ildN C Y 38 (i) (by decide) dX7_isByte_20 (by simp only [nI_lit, nI_add, pk_mul]) (by simp only [m_len]; omega) ?_
      refine x_iload C dX7_isByte_21 rfl ?_
      refine x_icmp_gt (tgt := 30) C dX7_isByte_23 (by decide) (fun c23 => ?_) (fun c23 => ?_)
      · skip
        refine x_iconst (v := 0) C dX7_isByte_30 (by decide) ?_
        refine x_istoreE (L' := [some _, some _, some _, some _, some _, some _, none]) C dX7_isByte_31 (by rw [hn]; decide) rfl ?_
        first | exact T33 _ (bI_00 (fun q => ci.mp c2 q.1)) | exact T33 _ (bI_00 (fun q => q.2.1 c12)) | exact T33 _ (bI_00 (fun q => ch.mp c23 q.2.2)) | exact T33 _ (bI_1 ⟨Classical.not_not.mp (fun q => c2 (ci.mpr q)), c12, Classical.not_not.mp (fun q => c23 (ch.mpr q))⟩)
      · skip
        refine x_iconst (v := 1) C dX7_isByte_26 (by decide) ?_
        refine x_goto (tgt := 31) C dX7_isByte_27 (by decide) ?_
        refine x_istoreE (L' := [some _, some _, some _, some _, some _, some _, none]) C dX7_isByte_31 (by rw [hn]; decide) rfl ?_
        first | exact T33 _ (bI_00 (fun q => ci.mp c2 q.1)) | exact T33 _ (bI_00 (fun q => q.2.1 c12)) | exact T33 _ (bI_00 (fun q => ch.mp c23 q.2.2)) | exact T33 _ (bI_1 ⟨Classical.not_not.mp (fun q => c2 (ci.mpr q)), c12, Classical.not_not.mp (fun q => c23 (ch.mpr q))⟩)
end Fault
