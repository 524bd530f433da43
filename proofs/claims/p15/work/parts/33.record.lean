/-! MeterBusModel: record, text. -/
def f_record (S : MS) (j x : Nat) : Int64 := if x = 0 then S.w 24 j else if x = 1 then (S.a 25 j).toInt64 else if x = 2 then (S.a 26 j).toInt64 else if x = 3 then S.w 27 j else if x = 4 then (S.a 28 j).toInt64 else if x = 5 then (S.a 29 j).toInt64 else if x = 6 then (S.a 30 j).toInt64 else (S.a 31 (11 * j + x - 7)).toInt64
abbrev q_rec (S : MS) (i : Int32) : Prop := 0 ≤ i ∧ i ≤ S.i 23 - 1
abbrev q_record (S : MS) (i x : Int32) : Prop := q_rec S i ∧ ¬ x < 0 ∧ x < 7 + S.a 30 i.toNatClampNeg
abbrev q_text (S : MS) (i t : Int32) : Prop := q_rec S i ∧ (0 ≤ t ∧ t ≤ S.a 33 i.toNatClampNeg - 1)
section RecordS
variable {w : Wd} {M : MW} {S : MS} {z : Fx}
theorem rd_0 (hW : Wm w M) (C : Cx z RX7 cX7_record gw) (Y : Mty z M) (hn : z.nL = 4) (j nv : Nat) (hj : j < 100) (hv : nv ≤ 11) (hxv : 0 < 7 + nv) (v3 : Int32)
    (E : Ct z w gw yX7_record (some .long) 1 (40 * 1) (PM M (fun q Q => q = some (.long (f_record S j 0)) ∧ Q = S.si 0 0))) : X z 0 0 (MA M (S.si 0 0)) 50 [some (.ref M.o), some (.int (nI j)), some (.int (nI 0)), some (.int v3)] [] := by
  skip
  skip
  refine x_iload_n C dX7_record_50 rfl ?_
  refine x_tblIn (tgt := 92) (off := 41) C dX7_record_51 (by decide) (by decide) (by decide) (by decide) ?_
  refine x_aload_n C dX7_record_92 rfl ?_
  refine m_getA C Y 24 (by decide) (by decide) wf_X7_56 dX7_record_93 ?_
  refine x_iload_n C dX7_record_96 rfl ?_
  refine m_lldN C Y 24 (j) (by decide) dX7_record_97 (by simp only [nI_lit, nI_add, pk_mul]) (by simp only [m_len]; omega) ?_
  refine m_lret C E dX7_record_98 ?_
  exact ⟨rfl, rfl⟩
theorem rd_1 (hW : Wm w M) (C : Cx z RX7 cX7_record gw) (Y : Mty z M) (hn : z.nL = 4) (j nv : Nat) (hj : j < 100) (hv : nv ≤ 11) (hxv : 1 < 7 + nv) (v3 : Int32)
    (E : Ct z w gw yX7_record (some .long) 1 (40 * 1) (PM M (fun q Q => q = some (.long (f_record S j 1)) ∧ Q = S.si 0 0))) : X z 0 0 (MA M (S.si 0 0)) 50 [some (.ref M.o), some (.int (nI j)), some (.int (nI 1)), some (.int v3)] [] := by
  skip
  skip
  refine x_iload_n C dX7_record_50 rfl ?_
  refine x_tblIn (tgt := 99) (off := 48) C dX7_record_51 (by decide) (by decide) (by decide) (by decide) ?_
  refine x_aload_n C dX7_record_99 rfl ?_
  refine m_getA C Y 25 (by decide) (by decide) wf_X7_60 dX7_record_100 ?_
  refine x_iload_n C dX7_record_103 rfl ?_
  refine m_ildN C Y 25 (j) (by decide) dX7_record_104 (by simp only [nI_lit, nI_add, pk_mul]) (by simp only [m_len]; omega) ?_
  refine x_i2l C dX7_record_105 ?_
  refine m_lret C E dX7_record_106 ?_
  exact ⟨rfl, rfl⟩
theorem rd_2 (hW : Wm w M) (C : Cx z RX7 cX7_record gw) (Y : Mty z M) (hn : z.nL = 4) (j nv : Nat) (hj : j < 100) (hv : nv ≤ 11) (hxv : 2 < 7 + nv) (v3 : Int32)
    (E : Ct z w gw yX7_record (some .long) 1 (40 * 1) (PM M (fun q Q => q = some (.long (f_record S j 2)) ∧ Q = S.si 0 0))) : X z 0 0 (MA M (S.si 0 0)) 50 [some (.ref M.o), some (.int (nI j)), some (.int (nI 2)), some (.int v3)] [] := by
  skip
  skip
  refine x_iload_n C dX7_record_50 rfl ?_
  refine x_tblIn (tgt := 107) (off := 56) C dX7_record_51 (by decide) (by decide) (by decide) (by decide) ?_
  refine x_aload_n C dX7_record_107 rfl ?_
  refine m_getA C Y 26 (by decide) (by decide) wf_X7_63 dX7_record_108 ?_
  refine x_iload_n C dX7_record_111 rfl ?_
  refine m_ildN C Y 26 (j) (by decide) dX7_record_112 (by simp only [nI_lit, nI_add, pk_mul]) (by simp only [m_len]; omega) ?_
  refine x_i2l C dX7_record_113 ?_
  refine m_lret C E dX7_record_114 ?_
  exact ⟨rfl, rfl⟩
theorem rd_3 (hW : Wm w M) (C : Cx z RX7 cX7_record gw) (Y : Mty z M) (hn : z.nL = 4) (j nv : Nat) (hj : j < 100) (hv : nv ≤ 11) (hxv : 3 < 7 + nv) (v3 : Int32)
    (E : Ct z w gw yX7_record (some .long) 1 (40 * 1) (PM M (fun q Q => q = some (.long (f_record S j 3)) ∧ Q = S.si 0 0))) : X z 0 0 (MA M (S.si 0 0)) 50 [some (.ref M.o), some (.int (nI j)), some (.int (nI 3)), some (.int v3)] [] := by
  skip
  skip
  refine x_iload_n C dX7_record_50 rfl ?_
  refine x_tblIn (tgt := 115) (off := 64) C dX7_record_51 (by decide) (by decide) (by decide) (by decide) ?_
  refine x_aload_n C dX7_record_115 rfl ?_
  refine m_getA C Y 27 (by decide) (by decide) wf_X7_66 dX7_record_116 ?_
  refine x_iload_n C dX7_record_119 rfl ?_
  refine m_lldN C Y 27 (j) (by decide) dX7_record_120 (by simp only [nI_lit, nI_add, pk_mul]) (by simp only [m_len]; omega) ?_
  refine m_lret C E dX7_record_121 ?_
  exact ⟨rfl, rfl⟩
theorem rd_4 (hW : Wm w M) (C : Cx z RX7 cX7_record gw) (Y : Mty z M) (hn : z.nL = 4) (j nv : Nat) (hj : j < 100) (hv : nv ≤ 11) (hxv : 4 < 7 + nv) (v3 : Int32)
    (E : Ct z w gw yX7_record (some .long) 1 (40 * 1) (PM M (fun q Q => q = some (.long (f_record S j 4)) ∧ Q = S.si 0 0))) : X z 0 0 (MA M (S.si 0 0)) 50 [some (.ref M.o), some (.int (nI j)), some (.int (nI 4)), some (.int v3)] [] := by
  skip
  skip
  refine x_iload_n C dX7_record_50 rfl ?_
  refine x_tblIn (tgt := 122) (off := 71) C dX7_record_51 (by decide) (by decide) (by decide) (by decide) ?_
  refine x_aload_n C dX7_record_122 rfl ?_
  refine m_getA C Y 28 (by decide) (by decide) wf_X7_69 dX7_record_123 ?_
  refine x_iload_n C dX7_record_126 rfl ?_
  refine m_ildN C Y 28 (j) (by decide) dX7_record_127 (by simp only [nI_lit, nI_add, pk_mul]) (by simp only [m_len]; omega) ?_
  refine x_i2l C dX7_record_128 ?_
  refine m_lret C E dX7_record_129 ?_
  exact ⟨rfl, rfl⟩
theorem rd_5 (hW : Wm w M) (C : Cx z RX7 cX7_record gw) (Y : Mty z M) (hn : z.nL = 4) (j nv : Nat) (hj : j < 100) (hv : nv ≤ 11) (hxv : 5 < 7 + nv) (v3 : Int32)
    (E : Ct z w gw yX7_record (some .long) 1 (40 * 1) (PM M (fun q Q => q = some (.long (f_record S j 5)) ∧ Q = S.si 0 0))) : X z 0 0 (MA M (S.si 0 0)) 50 [some (.ref M.o), some (.int (nI j)), some (.int (nI 5)), some (.int v3)] [] := by
  skip
  skip
  refine x_iload_n C dX7_record_50 rfl ?_
  refine x_tblIn (tgt := 130) (off := 79) C dX7_record_51 (by decide) (by decide) (by decide) (by decide) ?_
  refine x_aload_n C dX7_record_130 rfl ?_
  refine m_getA C Y 29 (by decide) (by decide) wf_X7_72 dX7_record_131 ?_
  refine x_iload_n C dX7_record_134 rfl ?_
  refine m_ildN C Y 29 (j) (by decide) dX7_record_135 (by simp only [nI_lit, nI_add, pk_mul]) (by simp only [m_len]; omega) ?_
  refine x_i2l C dX7_record_136 ?_
  refine m_lret C E dX7_record_137 ?_
  exact ⟨rfl, rfl⟩
theorem rd_6 (hW : Wm w M) (C : Cx z RX7 cX7_record gw) (Y : Mty z M) (hn : z.nL = 4) (j nv : Nat) (hj : j < 100) (hv : nv ≤ 11) (hxv : 6 < 7 + nv) (v3 : Int32)
    (E : Ct z w gw yX7_record (some .long) 1 (40 * 1) (PM M (fun q Q => q = some (.long (f_record S j 6)) ∧ Q = S.si 0 0))) : X z 0 0 (MA M (S.si 0 0)) 50 [some (.ref M.o), some (.int (nI j)), some (.int (nI 6)), some (.int v3)] [] := by
  skip
  skip
  refine x_iload_n C dX7_record_50 rfl ?_
  refine x_tblIn (tgt := 138) (off := 87) C dX7_record_51 (by decide) (by decide) (by decide) (by decide) ?_
  refine x_aload_n C dX7_record_138 rfl ?_
  refine m_getA C Y 30 (by decide) (by decide) wf_X7_75 dX7_record_139 ?_
  refine x_iload_n C dX7_record_142 rfl ?_
  refine m_ildN C Y 30 (j) (by decide) dX7_record_143 (by simp only [nI_lit, nI_add, pk_mul]) (by simp only [m_len]; omega) ?_
  refine x_i2l C dX7_record_144 ?_
  refine m_lret C E dX7_record_145 ?_
  exact ⟨rfl, rfl⟩
theorem rd_7 (hW : Wm w M) (C : Cx z RX7 cX7_record gw) (Y : Mty z M) (hn : z.nL = 4) (j nv : Nat) (hj : j < 100) (hv : nv ≤ 11) (x : Nat) (hx7 : 7 ≤ x) (hxv : x < 7 + nv) (v3 : Int32)
    (E : Ct z w gw yX7_record (some .long) 1 (40 * 1) (PM M (fun q Q => q = some (.long (f_record S j x)) ∧ Q = S.si 0 0))) : X z 0 0 (MA M (S.si 0 0)) 50 [some (.ref M.o), some (.int (nI j)), some (.int (nI x)), some (.int v3)] [] := by
  unfold f_record at E
  rw [if_neg (by omega), if_neg (by omega), if_neg (by omega), if_neg (by omega), if_neg (by omega), if_neg (by omega), if_neg (by omega)] at E
  refine x_iload_n C dX7_record_50 rfl ?_
  refine x_tblOut (tgt := 146) C dX7_record_51 (Or.inr (by rw [nI_toInt (by omega)]; omega)) (by decide) ?_
  refine x_aload_n C dX7_record_146 rfl ?_
  refine m_getA C Y 31 (by decide) (by decide) wf_X7_78 dX7_record_147 ?_
  refine x_bipush (v := 11) C dX7_record_150 (by decide) ?_
  refine x_iload_n C dX7_record_152 rfl ?_
  refine x_imul C dX7_record_153 ?_
  refine x_iload_n C dX7_record_154 rfl ?_
  refine x_iadd C dX7_record_155 ?_
  refine x_bipush (v := 7) C dX7_record_156 (by decide) ?_
  refine x_isub C dX7_record_158 ?_
  refine m_ildN C Y 31 (11 * j + x - 7) (by decide) dX7_record_159 (by simp only [nI_lit, nI_add, pk_mul]; exact pk_sub (by omega)) (by simp only [m_len]; omega) ?_
  refine x_i2l C dX7_record_160 ?_
  refine m_lret C E dX7_record_161 ?_
  exact ⟨rfl, rfl⟩
/-- from the entry to the call of fails -/
theorem rd_head (hW : Wm w M) {post : Option Value → MS → Prop} (r : Nat) (hr : S.i 23 = nI r) (hr1 : r ≤ 100) (i x : Int32) (C : Cx z RX7 cX7_record gw) (Y : Mty z M) (E : Ct z w gw yX7_record (some .long) 1 (40 * 1) (PM M post)) (hn : z.nL = 4)
    (kk : X z 0 0 (MA M S) 39 [some (.ref M.o), some (.int i), some (.int x), some (.int (bI (q_record S i x)))] []) : X z 0 0 (MA M S) 0 [some (.ref M.o), some (.int i), some (.int x), none] [] := by
  have T38 : ∀ v v3 : Int32, v = bI (q_record S i x) → X z 0 0 (MA M S) 38 [some (.ref M.o), some (.int i), some (.int x), some (.int v3)] [.int v] := by
    intro v v3 ev
    subst ev
    refine x_istore_nE (L' := [some _, some _, some _, some _]) C dX7_record_38 (by rw [hn]; decide) rfl ?_
    exact kk
  have cx : 7 + S.a 30 i.toNatClampNeg ≤ x ↔ ¬ x < 7 + S.a 30 i.toNatClampNeg := Int32.not_lt.symm
  refine x_iload_n C dX7_record_0 rfl ?_
  refine x_iconst (v := 0) C dX7_record_1 (by decide) ?_
  refine x_aload_n C dX7_record_2 rfl ?_
  refine m_get C Y 23 (by decide) (by decide) wf_X7_190 dX7_record_3 ?_
  refine x_iconst (v := 1) C dX7_record_6 (by decide) ?_
  refine x_isub C dX7_record_7 ?_
  refine m_callSF C hW E (s_in _ _ _) md_X7_in wt_X7_in wm_X7_100 dX7_record_8 rfl (by decide) (by decide) rfl (by simp [Value.category]) ?_
  refine x_istore_nE (L' := [some _, some _, some _, some _]) C dX7_record_11 (by rw [hn]; decide) rfl ?_
  refine x_iload_n C dX7_record_12 rfl ?_
  refine x_if_eq (tgt := 37) C dX7_record_13 (by decide) (fun c13 => ?_) (fun c13 => ?_)
  · skip
    refine x_iconst (v := 0) C dX7_record_37 (by decide) ?_
    first | exact T38 _ _ (bI_00 (fun q => bI_0.mp c13 q.1)) | exact T38 _ _ (bI_00 (fun q => q.2.1 c17)) | exact T38 _ _ (bI_00 (fun q => cx.mp c30 q.2.2)) | exact T38 _ _ (bI_1 ⟨bI_0n.mp c13, c17, Classical.not_not.mp (fun q => c30 (cx.mpr q))⟩)
  · skip
    refine x_iload_n C dX7_record_16 rfl ?_
    refine x_if_lt (tgt := 37) C dX7_record_17 (by decide) (fun c17 => ?_) (fun c17 => ?_)
    · skip
      refine x_iconst (v := 0) C dX7_record_37 (by decide) ?_
      first | exact T38 _ _ (bI_00 (fun q => bI_0.mp c13 q.1)) | exact T38 _ _ (bI_00 (fun q => q.2.1 c17)) | exact T38 _ _ (bI_00 (fun q => cx.mp c30 q.2.2)) | exact T38 _ _ (bI_1 ⟨bI_0n.mp c13, c17, Classical.not_not.mp (fun q => c30 (cx.mpr q))⟩)
    · skip
      refine x_iload_n C dX7_record_20 rfl ?_
      refine x_bipush (v := 7) C dX7_record_21 (by decide) ?_
      refine x_aload_n C dX7_record_23 rfl ?_
      refine m_getA C Y 30 (by decide) (by decide) wf_X7_75 dX7_record_24 ?_
      refine x_iload_n C dX7_record_27 rfl ?_
      refine m_ild C Y 30 (by decide) dX7_record_28 (in_vp hr hr1 (by decide) (bI_0n.mp c13)) ?_
      refine x_iadd C dX7_record_29 ?_
      refine x_icmp_ge (tgt := 37) C dX7_record_30 (by decide) (fun c30 => ?_) (fun c30 => ?_)
      · skip
        refine x_iconst (v := 0) C dX7_record_37 (by decide) ?_
        first | exact T38 _ _ (bI_00 (fun q => bI_0.mp c13 q.1)) | exact T38 _ _ (bI_00 (fun q => q.2.1 c17)) | exact T38 _ _ (bI_00 (fun q => cx.mp c30 q.2.2)) | exact T38 _ _ (bI_1 ⟨bI_0n.mp c13, c17, Classical.not_not.mp (fun q => c30 (cx.mpr q))⟩)
      · skip
        refine x_iconst (v := 1) C dX7_record_33 (by decide) ?_
        refine x_goto (tgt := 38) C dX7_record_34 (by decide) ?_
        first | exact T38 _ _ (bI_00 (fun q => bI_0.mp c13 q.1)) | exact T38 _ _ (bI_00 (fun q => q.2.1 c17)) | exact T38 _ _ (bI_00 (fun q => cx.mp c30 q.2.2)) | exact T38 _ _ (bI_1 ⟨bI_0n.mp c13, c17, Classical.not_not.mp (fun q => c30 (cx.mpr q))⟩)
theorem s_record_x (hW : Wm w M) (r : Nat) (hr : S.i 23 = nI r) (hr1 : r ≤ 100) (i x : Int32) (hp : ¬ q_record S i x) : TF w M yX7_record cX7_record 4 (some .long) 1 [.int i, .int x] S (some (.long 0)) (S.si 0 1) := by
  refine TM.intro hW rfl (Nat.le_of_ble_eq_true rfl) (fun z C Y E hn => ?_)
  have hf := s_fails1 (S := S) hW (q_record S i x)
  rw [bI_t (p := ¬ q_record S i x) hp] at hf
  refine rd_head hW r hr hr1 i x C Y E hn ?_
  refine x_aload_n C dX7_record_39 rfl ?_
  refine x_iload_n C dX7_record_40 rfl ?_
  refine x_iconst (v := 1) C dX7_record_41 (by decide) ?_
  refine m_callF C Y hW E (hf) rfl md_X7_fails wi_X7_fails ws_X7_fails wm_X7_107 dX7_record_42 rfl (by decide) (by decide) rfl (by simp [Value.category]) ?_
  refine x_if_eq (tgt := 50) C dX7_record_45 (by decide) (fun c45 => absurd c45 (by decide)) (fun c45 => ?_)
  refine x_lconst (v := 0) C dX7_record_48 (by decide) ?_
  refine m_lret C E dX7_record_49 ?_
  exact ⟨rfl, rfl⟩
theorem s_record_t (hW : Wm w M) (r j x nv : Nat) (hr : S.i 23 = nI r) (hr1 : r ≤ 100) (hj : j < r) (hv : S.a 30 j = nI nv) (hv1 : nv ≤ 11) (hx : x < 7 + nv) : TF w M yX7_record cX7_record 4 (some .long) 1 [.int (nI j), .int (nI x)] S (some (.long (f_record S j x))) (S.si 0 0) := by
  refine TM.intro hW rfl (Nat.le_of_ble_eq_true rfl) (fun z C Y E hn => ?_)
  have hp : q_record S (nI j) (nI x) := by
    refine ⟨⟨nI_pos' (by omega), ?_⟩, nI_pos (by omega), ?_⟩
    · rw [hr, show (1 : Int32) = nI 1 from rfl, pk_sub (by omega)]; exact nI_le (by omega) (by omega)
    · rw [nI_clamp (by omega), hv, show (7 : Int32) = nI 7 from rfl, nI_add]; exact nI_lt hx (by omega)
  have hf := s_fails1 (S := S) hW (q_record S (nI j) (nI x))
  rw [bI_f (p := ¬ q_record S (nI j) (nI x)) (not_not_intro hp)] at hf
  refine rd_head hW r hr hr1 _ _ C Y E hn ?_
  have T50 : ∀ v3 : Int32, X z 0 0 (MA M (S.si 0 0)) 50 [some (.ref M.o), some (.int (nI j)), some (.int (nI x)), some (.int v3)] [] := by
    intro v3
    match x, hx, E with
    | 0, hx, E => exact rd_0 hW C Y hn j nv (by omega) hv1 hx v3 E
    | 1, hx, E => exact rd_1 hW C Y hn j nv (by omega) hv1 hx v3 E
    | 2, hx, E => exact rd_2 hW C Y hn j nv (by omega) hv1 hx v3 E
    | 3, hx, E => exact rd_3 hW C Y hn j nv (by omega) hv1 hx v3 E
    | 4, hx, E => exact rd_4 hW C Y hn j nv (by omega) hv1 hx v3 E
    | 5, hx, E => exact rd_5 hW C Y hn j nv (by omega) hv1 hx v3 E
    | 6, hx, E => exact rd_6 hW C Y hn j nv (by omega) hv1 hx v3 E
    | x + 7, hx, E => exact rd_7 hW C Y hn j nv (by omega) hv1 (x + 7) (by omega) hx v3 E
  refine x_aload_n C dX7_record_39 rfl ?_
  refine x_iload_n C dX7_record_40 rfl ?_
  refine x_iconst (v := 1) C dX7_record_41 (by decide) ?_
  refine m_callF C Y hW E (hf) rfl md_X7_fails wi_X7_fails ws_X7_fails wm_X7_107 dX7_record_42 rfl (by decide) (by decide) rfl (by simp [Value.category]) ?_
  refine x_if_eq (tgt := 50) C dX7_record_45 (by decide) (fun c45 => ?_) (fun c45 => absurd c45 (not_not_intro rfl))
  exact T50 _
theorem tx_head (hW : Wm w M) {post : Option Value → MS → Prop} (r : Nat) (hr : S.i 23 = nI r) (hr1 : r ≤ 100) (i x : Int32) (C : Cx z RX7 cX7_text gw) (Y : Mty z M) (E : Ct z w gw yX7_text (some .int) 1 (40 * 1) (PM M post)) (hn : z.nL = 4)
    (kk : X z 0 0 (MA M S) 38 [some (.ref M.o), some (.int i), some (.int x), some (.int (bI (q_text S i x)))] []) : X z 0 0 (MA M S) 0 [some (.ref M.o), some (.int i), some (.int x), none] [] := by
  have T37 : ∀ v v3 : Int32, v = bI (q_text S i x) → X z 0 0 (MA M S) 37 [some (.ref M.o), some (.int i), some (.int x), some (.int v3)] [.int v] := by
    intro v v3 ev
    subst ev
    refine x_istore_nE (L' := [some _, some _, some _, some _]) C dX7_text_37 (by rw [hn]; decide) rfl ?_
    exact kk
  refine x_iload_n C dX7_text_0 rfl ?_
  refine x_iconst (v := 0) C dX7_text_1 (by decide) ?_
  refine x_aload_n C dX7_text_2 rfl ?_
  refine m_get C Y 23 (by decide) (by decide) wf_X7_190 dX7_text_3 ?_
  refine x_iconst (v := 1) C dX7_text_6 (by decide) ?_
  refine x_isub C dX7_text_7 ?_
  refine m_callSF C hW E (s_in _ _ _) md_X7_in wt_X7_in wm_X7_100 dX7_text_8 rfl (by decide) (by decide) rfl (by simp [Value.category]) ?_
  refine x_istore_nE (L' := [some _, some _, some _, some _]) C dX7_text_11 (by rw [hn]; decide) rfl ?_
  refine x_iload_n C dX7_text_12 rfl ?_
  refine x_if_eq (tgt := 36) C dX7_text_13 (by decide) (fun c13 => ?_) (fun c13 => ?_)
  · skip
    refine x_iconst (v := 0) C dX7_text_36 (by decide) ?_
    first | exact T37 _ _ (bI_00 (fun q => bI_0.mp c13 q.1)) | exact T37 _ _ (bI_00 (fun q => bI_0.mp c29 q.2)) | exact T37 _ _ (bI_1 ⟨bI_0n.mp c13, bI_0n.mp c29⟩)
  · skip
    refine x_iload_n C dX7_text_16 rfl ?_
    refine x_iconst (v := 0) C dX7_text_17 (by decide) ?_
    refine x_aload_n C dX7_text_18 rfl ?_
    refine m_getA C Y 33 (by decide) (by decide) wf_X7_84 dX7_text_19 ?_
    refine x_iload_n C dX7_text_22 rfl ?_
    refine m_ild C Y 33 (by decide) dX7_text_23 (in_vp hr hr1 (by decide) (bI_0n.mp c13)) ?_
    refine x_iconst (v := 1) C dX7_text_24 (by decide) ?_
    refine x_isub C dX7_text_25 ?_
    refine m_callSF C hW E (s_in _ _ _) md_X7_in wt_X7_in wm_X7_100 dX7_text_26 rfl (by decide) (by decide) rfl (by simp [Value.category]) ?_
    refine x_if_eq (tgt := 36) C dX7_text_29 (by decide) (fun c29 => ?_) (fun c29 => ?_)
    · skip
      refine x_iconst (v := 0) C dX7_text_36 (by decide) ?_
      first | exact T37 _ _ (bI_00 (fun q => bI_0.mp c13 q.1)) | exact T37 _ _ (bI_00 (fun q => bI_0.mp c29 q.2)) | exact T37 _ _ (bI_1 ⟨bI_0n.mp c13, bI_0n.mp c29⟩)
    · skip
      refine x_iconst (v := 1) C dX7_text_32 (by decide) ?_
      refine x_goto (tgt := 37) C dX7_text_33 (by decide) ?_
      first | exact T37 _ _ (bI_00 (fun q => bI_0.mp c13 q.1)) | exact T37 _ _ (bI_00 (fun q => bI_0.mp c29 q.2)) | exact T37 _ _ (bI_1 ⟨bI_0n.mp c13, bI_0n.mp c29⟩)
theorem s_text_x (hW : Wm w M) (r : Nat) (hr : S.i 23 = nI r) (hr1 : r ≤ 100) (i x : Int32) (hp : ¬ q_text S i x) : TF w M yX7_text cX7_text 4 (some .int) 1 [.int i, .int x] S (some (.int 0)) (S.si 0 1) := by
  refine TM.intro hW rfl (Nat.le_of_ble_eq_true rfl) (fun z C Y E hn => ?_)
  have hf := s_fails1 (S := S) hW (q_text S i x)
  rw [bI_f hp, bI_t (p := ¬ q_text S i x) hp] at hf
  refine tx_head hW r hr hr1 i x C Y E hn ?_
  rw [bI_f hp]
  refine x_aload_n C dX7_text_38 rfl ?_
  refine x_iload_n C dX7_text_39 rfl ?_
  refine x_iconst (v := 1) C dX7_text_40 (by decide) ?_
  refine m_callF C Y hW E (hf) rfl md_X7_fails wi_X7_fails ws_X7_fails wm_X7_107 dX7_text_41 rfl (by decide) (by decide) rfl (by simp [Value.category]) ?_
  refine x_if_eq (tgt := 51) C dX7_text_44 (by decide) (fun c44 => absurd c44 (by decide)) (fun c44 => ?_)
  refine x_iconst (v := 0) C dX7_text_47 (by decide) ?_
  refine x_goto (tgt := 64) C dX7_text_48 (by decide) ?_
  refine m_iret C E dX7_text_64 ?_
  exact ⟨rfl, rfl⟩
theorem s_text_t (hW : Wm w M) (r j t n o : Nat) (hr : S.i 23 = nI r) (hr1 : r ≤ 100) (hj : j < r) (hv : S.a 33 j = nI n) (hn3 : n ≤ 300) (ht : t < n) (ho : S.a 32 j = nI o) (ho1 : o + n ≤ 26000) : TF w M yX7_text cX7_text 4 (some .int) 1 [.int (nI j), .int (nI t)] S (some (.int (S.a 35 (o + t)))) (S.si 0 0) := by
  refine TM.intro hW rfl (Nat.le_of_ble_eq_true rfl) (fun z C Y E hn => ?_)
  have hp : q_text S (nI j) (nI t) := by
    refine ⟨⟨nI_pos' (by omega), ?_⟩, nI_pos' (by omega), ?_⟩
    · rw [hr, show (1 : Int32) = nI 1 from rfl, pk_sub (by omega)]; exact nI_le (by omega) (by omega)
    · rw [nI_clamp (by omega), hv, show (1 : Int32) = nI 1 from rfl, pk_sub (by omega)]; exact nI_le (by omega) (by omega)
  have hf := s_fails1 (S := S) hW (q_text S (nI j) (nI t))
  rw [bI_t hp, bI_f (p := ¬ q_text S (nI j) (nI t)) (not_not_intro hp)] at hf
  refine tx_head hW r hr hr1 _ _ C Y E hn ?_
  rw [bI_t hp]
  refine x_aload_n C dX7_text_38 rfl ?_
  refine x_iload_n C dX7_text_39 rfl ?_
  refine x_iconst (v := 1) C dX7_text_40 (by decide) ?_
  refine m_callF C Y hW E (hf) rfl md_X7_fails wi_X7_fails ws_X7_fails wm_X7_107 dX7_text_41 rfl (by decide) (by decide) rfl (by simp [Value.category]) ?_
  refine x_if_eq (tgt := 51) C dX7_text_44 (by decide) (fun c44 => ?_) (fun c44 => absurd c44 (not_not_intro rfl))
  refine x_aload_n C dX7_text_51 rfl ?_
  refine m_getA C Y 35 (by decide) (by decide) wf_X7_87 dX7_text_52 ?_
  refine x_aload_n C dX7_text_55 rfl ?_
  refine m_getA C Y 32 (by decide) (by decide) wf_X7_81 dX7_text_56 ?_
  refine x_iload_n C dX7_text_59 rfl ?_
  refine m_ildN C Y 32 (j) (by decide) dX7_text_60 (by simp only [nI_lit, nI_add, pk_mul]) (by simp only [m_len]; omega) ?_
  rw [MS.si_a, ho]
  refine x_iload_n C dX7_text_61 rfl ?_
  refine x_iadd C dX7_text_62 ?_
  refine m_ildN C Y 35 (o + t) (by decide) dX7_text_63 (by simp only [nI_lit, nI_add, pk_mul]) (by simp only [m_len]; omega) ?_
  refine m_iret C E dX7_text_64 ?_
  exact ⟨rfl, rfl⟩
end RecordS
