/-! MeterBusModel: short frames, what a frame is, the bus. -/
def f_t (S : MS) (k : Nat) : Nat := (S.a 14 k).toNatClampNeg
def f_N (S : MS) (k p : Nat) : Nat := (S.a 17 (3 * k + p)).toNatClampNeg
def f_p0 (S : MS) (k : Nat) (bit : Int32) : Nat := if 0 ≤ S.a 15 k then (if S.a 15 k = bit then f_t S k else f_t S k + 1) else 0
def f_p (S : MS) (k : Nat) (bit : Int32) : Nat := if f_p0 S k bit < f_pages S k then f_p0 S k bit else 0
/-- what a meter's arrays hold is as it must be -/
def WFm (S : MS) (k : Nat) : Prop := (0 ≤ S.a 15 k → ∃ t, t < 3 ∧ S.a 14 k = nI t) ∧ ∀ p, p < 3 → ∃ N, N ≤ 60 ∧ S.a 17 (3 * k + p) = nI N
def f_asked (S : MS) (k : Nat) (bit : Int32) : MS :=
  ((((S.ans (f_tel S k (f_p S k bit) (f_N S k (f_p S k bit)))).sa 14 k (nI (f_p S k bit))).sa 15 k bit).sa 16 k ((S.a 16 k + 1) &&& 255)).si 7 (S.i 7 + 1)
def f_short (S : MS) (k : Nat) (c a : Int32) : MS :=
  if c = 64 then f_ack ((f_forget S k).sa 13 k (bI (¬ S.a 13 k = 0 ∧ ¬ a = 253)))
  else if c = 91 ∨ c = 123 then f_asked S k (if c = 123 then 1 else 0) else S
section Short
variable {w : Wd} {M : MW} {S : MS}
theorem WFm.N {k p : Nat} (h : WFm S k) (hp : p < 3) : f_N S k p ≤ 60 ∧ S.a 17 (3 * k + p) = nI (f_N S k p) := by
  obtain ⟨N, h1, h2⟩ := h.2 p hp
  unfold f_N
  rw [h2, nI_clamp (by omega)]
  exact ⟨h1, rfl⟩
theorem WFm.t {k : Nat} (h : WFm S k) (g : 0 ≤ S.a 15 k) : f_t S k < 3 ∧ S.a 14 k = nI (f_t S k) := by
  obtain ⟨t, h1, h2⟩ := h.1 g
  unfold f_t
  rw [h2, nI_clamp (by omega)]
  exact ⟨h1, rfl⟩
theorem f_p_lt (S : MS) (k : Nat) (bit : Int32) : f_p S k bit < 3 := by
  have := f_pages_le S k
  unfold f_p
  split <;> omega
theorem f_p0_lt {k : Nat} (h : WFm S k) (bit : Int32) : f_p0 S k bit < 4 := by
  unfold f_p0
  split
  · have := (h.t (by assumption)).1
    split <;> omega
  · omega
theorem sh_tail (hW : Wm w M) (k : Nat) (hk : k < 12) (h : WFm S k) (bit : Int32) (c a : Int32) {z : Fx} (C : Cx z RX7 cX7_shortFrame gw) (Y : Mty z M) (E : Ct z w gw yX7_shortFrame none 2 (40 * 2) (PM M (fun q Q => q = none ∧ Q = f_asked S k bit))) (hn : z.nL = 6) (p0 : Int32) (e0 : p0 = nI (f_p0 S k bit)) :
    X z 0 0 (MA M S) 111 [some (.ref M.o), some (.int (nI k)), some (.int c), some (.int a), some (.int bit), none] [.int p0] := by
  subst e0
  have hpg := f_pages_le S k
  have hp0 := f_p0_lt h bit
  have hcmp : nI (f_pages S k) ≤ nI (f_p0 S k bit) ↔ ¬ f_p0 S k bit < f_pages S k := by rw [nI_leI (by omega) (by omega)]; omega
  have hlt := f_p_lt S k bit
  obtain ⟨hN1, hN2⟩ := h.N hlt
  have T129 : X z 0 0 (MA M S) 129 [some (.ref M.o), some (.int (nI k)), some (.int c), some (.int a), some (.int bit), some (.int (nI (f_p0 S k bit)))] [.int (nI (f_p S k bit))] := by
    refine x_istoreE (L' := [some _, some _, some _, some _, some _, some _]) C dX7_shortFrame_129 (by rw [hn]; decide) rfl ?_
    refine x_aload_n C dX7_shortFrame_131 rfl ?_
    refine x_iload_n C dX7_shortFrame_132 rfl ?_
    refine x_iload C dX7_shortFrame_133 rfl ?_
    refine m_callF C Y hW E (s_tell hW k hk (f_p S k bit) hlt (f_N S k (f_p S k bit)) hN1 hN2) rfl md_X7_tell wi_X7_tell ws_X7_tell wm_X7_165 dX7_shortFrame_135 rfl (by decide) (by decide) rfl (by simp [Value.category]) ?_
    refine x_aload_n C dX7_shortFrame_138 rfl ?_
    refine m_getA C Y 14 (by decide) (by decide) wf_X7_32 dX7_shortFrame_139 ?_
    refine x_iload_n C dX7_shortFrame_142 rfl ?_
    refine x_iload C dX7_shortFrame_143 rfl ?_
    refine m_istN C Y hW.2.1 14 (k) (by decide) dX7_shortFrame_145 (by simp only [nI_lit, nI_add, pk_mul]) (by simp only [m_len]; omega) ?_
    refine x_aload_n C dX7_shortFrame_146 rfl ?_
    refine m_getA C Y 15 (by decide) (by decide) wf_X7_35 dX7_shortFrame_147 ?_
    refine x_iload_n C dX7_shortFrame_150 rfl ?_
    refine x_iload C dX7_shortFrame_151 rfl ?_
    refine m_istN C Y hW.2.1 15 (k) (by decide) dX7_shortFrame_153 (by simp only [nI_lit, nI_add, pk_mul]) (by simp only [m_len]; omega) ?_
    refine x_aload_n C dX7_shortFrame_154 rfl ?_
    refine m_getA C Y 16 (by decide) (by decide) wf_X7_38 dX7_shortFrame_155 ?_
    refine x_iload_n C dX7_shortFrame_158 rfl ?_
    refine x_aload_n C dX7_shortFrame_159 rfl ?_
    refine m_getA C Y 16 (by decide) (by decide) wf_X7_38 dX7_shortFrame_160 ?_
    refine x_iload_n C dX7_shortFrame_163 rfl ?_
    refine m_ildN C Y 16 (k) (by decide) dX7_shortFrame_164 (by simp only [nI_lit, nI_add, pk_mul]) (by simp only [m_len]; omega) ?_
    rw [MS.sa_a, MS.sa_a, MS.ans_ne (by decide)]; simp only [show ¬ (16 = 15) by decide, show ¬ (16 = 14) by decide, false_and, if_false]
    refine x_iconst (v := 1) C dX7_shortFrame_165 (by decide) ?_
    refine x_iadd C dX7_shortFrame_166 ?_
    refine x_sipush (v := 255) C dX7_shortFrame_167 (by decide) ?_
    refine x_iand C dX7_shortFrame_170 ?_
    refine m_istN C Y hW.2.1 16 (k) (by decide) dX7_shortFrame_171 (by simp only [nI_lit, nI_add, pk_mul]) (by simp only [m_len]; omega) ?_
    refine x_aload_n C dX7_shortFrame_172 rfl ?_
    refine x_dup C dX7_shortFrame_173 rfl ?_
    refine m_get C Y 7 (by decide) (by decide) wf_X7_132 dX7_shortFrame_174 ?_
    refine x_iconst (v := 1) C dX7_shortFrame_177 (by decide) ?_
    refine x_iadd C dX7_shortFrame_178 ?_
    refine m_put C Y hW.2.1 7 (by decide) (by decide) rfl rfl rfl wf_X7_132 dX7_shortFrame_179 ?_
    refine m_vret C E dX7_shortFrame_182 ?_
    exact ⟨rfl, rfl⟩
  refine x_istoreE (L' := [some _, some _, some _, some _, some _, some _]) C dX7_shortFrame_111 (by rw [hn]; decide) rfl ?_
  refine x_iload C dX7_shortFrame_113 rfl ?_
  refine x_aload_n C dX7_shortFrame_115 rfl ?_
  refine x_iload_n C dX7_shortFrame_116 rfl ?_
  refine m_callF C Y hW E (s_pages hW k hk) rfl md_X7_pagesOf wi_X7_pagesOf ws_X7_pagesOf wm_X7_122 dX7_shortFrame_117 rfl (by decide) (by decide) rfl (by simp [Value.category]) ?_
  refine x_icmp_ge (tgt := 128) C dX7_shortFrame_120 (by decide) (fun c120 => ?_) (fun c120 => ?_)
  · skip
    refine x_iconst (v := 0) C dX7_shortFrame_128 (by decide) ?_
    first | (have g : f_p S k bit = 0 := if_neg (hcmp.mp c120); rw [g] at T129; exact T129) | (have g : f_p S k bit = f_p0 S k bit := if_pos (Classical.not_not.mp (fun q => c120 (hcmp.mpr q))); rw [g] at T129; exact T129)
  · skip
    refine x_iload C dX7_shortFrame_123 rfl ?_
    refine x_goto (tgt := 129) C dX7_shortFrame_125 (by decide) ?_
    first | (have g : f_p S k bit = 0 := if_neg (hcmp.mp c120); rw [g] at T129; exact T129) | (have g : f_p S k bit = f_p0 S k bit := if_pos (Classical.not_not.mp (fun q => c120 (hcmp.mpr q))); rw [g] at T129; exact T129)
theorem f_p0_neg {k : Nat} {bit : Int32} (g : ¬ 0 ≤ S.a 15 k) : (0 : Int32) = nI (f_p0 S k bit) := by unfold f_p0; rw [if_neg g]; rfl
theorem f_p0_same {k : Nat} {bit : Int32} (h : WFm S k) (g : 0 ≤ S.a 15 k) (e : S.a 15 k = bit) : S.a 14 k = nI (f_p0 S k bit) := by unfold f_p0; rw [if_pos g, if_pos e]; exact (h.t g).2
theorem f_p0_next {k : Nat} {bit : Int32} (h : WFm S k) (g : 0 ≤ S.a 15 k) (e : ¬ S.a 15 k = bit) : S.a 14 k + 1 = nI (f_p0 S k bit) := by unfold f_p0; rw [if_pos g, if_neg e, ← nI_1, ← (h.t g).2]
theorem s_short (hW : Wm w M) (k : Nat) (hk : k < 12) (h : WFm S k) (c a : Int32) : TF w M yX7_shortFrame cX7_shortFrame 6 none 2 [.int (nI k), .int c, .int a] S none (f_short S k c a) := by
  refine TM.intro hW rfl (Nat.le_of_ble_eq_true rfl) (fun z C Y E hn => ?_)
  by_cases h1 : c = 64
  · have e : f_short S k c a = f_ack ((f_forget S k).sa 13 k (bI (¬ S.a 13 k = 0 ∧ ¬ a = 253))) := if_pos h1
    rw [e] at E
    have hsel : (f_forget S k).a 13 k = S.a 13 k := by unfold f_forget; rw [MS.sa_a, MS.sa_a]; simp
    refine x_iload_n C dX7_shortFrame_0 rfl ?_
    refine x_bipush (v := 64) C dX7_shortFrame_1 (by decide) ?_
    refine x_icmp_ne (tgt := 45) C dX7_shortFrame_3 (by decide) (fun c3 => absurd c3 (not_not_intro h1)) (fun c3 => ?_)
    refine x_aload_n C dX7_shortFrame_6 rfl ?_
    refine x_iload_n C dX7_shortFrame_7 rfl ?_
    refine m_callF C Y hW E (s_forget hW k hk) rfl md_X7_forget wi_X7_forget ws_X7_forget wm_X7_162 dX7_shortFrame_8 rfl (by decide) (by decide) rfl (by simp [Value.category]) ?_
    refine x_aload_n C dX7_shortFrame_11 rfl ?_
    refine m_getA C Y 13 (by decide) (by decide) wf_X7_29 dX7_shortFrame_12 ?_
    refine x_iload_n C dX7_shortFrame_15 rfl ?_
    refine x_aload_n C dX7_shortFrame_16 rfl ?_
    refine m_getA C Y 13 (by decide) (by decide) wf_X7_29 dX7_shortFrame_17 ?_
    refine x_iload_n C dX7_shortFrame_20 rfl ?_
    refine m_zldN C Y 13 (k) (by decide) dX7_shortFrame_21 (by simp only [nI_lit, nI_add, pk_mul]) (by simp only [m_len]; omega) ?_
    rw [hsel]
    refine x_if_eq (tgt := 36) C dX7_shortFrame_22 (by decide) (fun c22 => ?_) (fun c22 => ?_)
    · skip
      refine x_iconst (v := 0) C dX7_shortFrame_36 (by decide) ?_
      refine m_zstN C Y hW.2.1 13 (k) (by decide) rfl dX7_shortFrame_37 (by simp only [nI_lit, nI_add, pk_mul]) (by simp only [m_len]; omega) ?_
      refine x_aload_n C dX7_shortFrame_38 rfl ?_
      refine m_callF C Y hW E (s_ack hW) rfl md_X7_acknowledge wi_X7_acknowledge ws_X7_acknowledge wm_X7_159 dX7_shortFrame_39 rfl (by decide) (by decide) rfl (by simp [Value.category]) ?_
      refine x_goto (tgt := 182) C dX7_shortFrame_42 (by decide) ?_
      refine m_vret C E dX7_shortFrame_182 ?_
      first | exact ⟨rfl, congrArg (fun t => f_ack ((f_forget S k).sa 13 k t)) (bI_00 (fun q => q.1 c22))⟩ | exact ⟨rfl, congrArg (fun t => f_ack ((f_forget S k).sa 13 k t)) (bI_00 (fun q => q.2 c29))⟩ | exact ⟨rfl, congrArg (fun t => f_ack ((f_forget S k).sa 13 k t)) (bI_1 ⟨c22, c29⟩)⟩
    · skip
      refine x_iload_n C dX7_shortFrame_25 rfl ?_
      refine x_sipush (v := 253) C dX7_shortFrame_26 (by decide) ?_
      refine x_icmp_eq (tgt := 36) C dX7_shortFrame_29 (by decide) (fun c29 => ?_) (fun c29 => ?_)
      · skip
        refine x_iconst (v := 0) C dX7_shortFrame_36 (by decide) ?_
        refine m_zstN C Y hW.2.1 13 (k) (by decide) rfl dX7_shortFrame_37 (by simp only [nI_lit, nI_add, pk_mul]) (by simp only [m_len]; omega) ?_
        refine x_aload_n C dX7_shortFrame_38 rfl ?_
        refine m_callF C Y hW E (s_ack hW) rfl md_X7_acknowledge wi_X7_acknowledge ws_X7_acknowledge wm_X7_159 dX7_shortFrame_39 rfl (by decide) (by decide) rfl (by simp [Value.category]) ?_
        refine x_goto (tgt := 182) C dX7_shortFrame_42 (by decide) ?_
        refine m_vret C E dX7_shortFrame_182 ?_
        first | exact ⟨rfl, congrArg (fun t => f_ack ((f_forget S k).sa 13 k t)) (bI_00 (fun q => q.1 c22))⟩ | exact ⟨rfl, congrArg (fun t => f_ack ((f_forget S k).sa 13 k t)) (bI_00 (fun q => q.2 c29))⟩ | exact ⟨rfl, congrArg (fun t => f_ack ((f_forget S k).sa 13 k t)) (bI_1 ⟨c22, c29⟩)⟩
      · skip
        refine x_iconst (v := 1) C dX7_shortFrame_32 (by decide) ?_
        refine x_goto (tgt := 37) C dX7_shortFrame_33 (by decide) ?_
        refine m_zstN C Y hW.2.1 13 (k) (by decide) rfl dX7_shortFrame_37 (by simp only [nI_lit, nI_add, pk_mul]) (by simp only [m_len]; omega) ?_
        refine x_aload_n C dX7_shortFrame_38 rfl ?_
        refine m_callF C Y hW E (s_ack hW) rfl md_X7_acknowledge wi_X7_acknowledge ws_X7_acknowledge wm_X7_159 dX7_shortFrame_39 rfl (by decide) (by decide) rfl (by simp [Value.category]) ?_
        refine x_goto (tgt := 182) C dX7_shortFrame_42 (by decide) ?_
        refine m_vret C E dX7_shortFrame_182 ?_
        first | exact ⟨rfl, congrArg (fun t => f_ack ((f_forget S k).sa 13 k t)) (bI_00 (fun q => q.1 c22))⟩ | exact ⟨rfl, congrArg (fun t => f_ack ((f_forget S k).sa 13 k t)) (bI_00 (fun q => q.2 c29))⟩ | exact ⟨rfl, congrArg (fun t => f_ack ((f_forget S k).sa 13 k t)) (bI_1 ⟨c22, c29⟩)⟩
  · by_cases h2 : c = 91 ∨ c = 123
    · have e : f_short S k c a = f_asked S k (if c = 123 then 1 else 0) := by unfold f_short; rw [if_neg h1, if_pos h2]
      rw [e] at E
      have T111 := sh_tail hW k hk h (if c = 123 then 1 else 0) c a C Y E hn
      have T70 : ∀ bit : Int32, bit = (if c = 123 then 1 else 0) → X z 0 0 (MA M S) 70 [some (.ref M.o), some (.int (nI k)), some (.int c), some (.int a), some (.int bit), none] [] := by
        intro bit eb
        rw [← eb] at T111
        refine x_aload_n C dX7_shortFrame_70 rfl ?_
        refine m_getA C Y 15 (by decide) (by decide) wf_X7_35 dX7_shortFrame_71 ?_
        refine x_iload_n C dX7_shortFrame_74 rfl ?_
        refine m_ildN C Y 15 (k) (by decide) dX7_shortFrame_75 (by simp only [nI_lit, nI_add, pk_mul]) (by simp only [m_len]; omega) ?_
        refine x_if_ge (tgt := 83) C dX7_shortFrame_76 (by decide) (fun c76 => ?_) (fun c76 => ?_)
        · skip
          refine x_aload_n C dX7_shortFrame_83 rfl ?_
          refine m_getA C Y 15 (by decide) (by decide) wf_X7_35 dX7_shortFrame_84 ?_
          refine x_iload_n C dX7_shortFrame_87 rfl ?_
          refine m_ildN C Y 15 (k) (by decide) dX7_shortFrame_88 (by simp only [nI_lit, nI_add, pk_mul]) (by simp only [m_len]; omega) ?_
          refine x_iload C dX7_shortFrame_89 rfl ?_
          refine x_icmp_ne (tgt := 103) C dX7_shortFrame_91 (by decide) (fun c91 => ?_) (fun c91 => ?_)
          · skip
            refine x_aload_n C dX7_shortFrame_103 rfl ?_
            refine m_getA C Y 14 (by decide) (by decide) wf_X7_32 dX7_shortFrame_104 ?_
            refine x_iload_n C dX7_shortFrame_107 rfl ?_
            refine m_ildN C Y 14 (k) (by decide) dX7_shortFrame_108 (by simp only [nI_lit, nI_add, pk_mul]) (by simp only [m_len]; omega) ?_
            refine x_iconst (v := 1) C dX7_shortFrame_109 (by decide) ?_
            refine x_iadd C dX7_shortFrame_110 ?_
            first | exact T111 _ (f_p0_neg c76) | exact T111 _ (f_p0_same h (Classical.not_not.mp c76) c91) | exact T111 _ (f_p0_next h (Classical.not_not.mp c76) c91) | exact T111 _ (f_p0_same h c76 c91) | exact T111 _ (f_p0_next h c76 c91)
          · skip
            refine x_aload_n C dX7_shortFrame_94 rfl ?_
            refine m_getA C Y 14 (by decide) (by decide) wf_X7_32 dX7_shortFrame_95 ?_
            refine x_iload_n C dX7_shortFrame_98 rfl ?_
            refine m_ildN C Y 14 (k) (by decide) dX7_shortFrame_99 (by simp only [nI_lit, nI_add, pk_mul]) (by simp only [m_len]; omega) ?_
            refine x_goto (tgt := 111) C dX7_shortFrame_100 (by decide) ?_
            first | exact T111 _ (f_p0_neg c76) | exact T111 _ (f_p0_same h (Classical.not_not.mp c76) c91) | exact T111 _ (f_p0_next h (Classical.not_not.mp c76) c91) | exact T111 _ (f_p0_same h c76 c91) | exact T111 _ (f_p0_next h c76 c91)
        · skip
          refine x_iconst (v := 0) C dX7_shortFrame_79 (by decide) ?_
          refine x_goto (tgt := 111) C dX7_shortFrame_80 (by decide) ?_
          first | exact T111 _ (f_p0_neg c76) | exact T111 _ (f_p0_same h (Classical.not_not.mp c76) c91) | exact T111 _ (f_p0_next h (Classical.not_not.mp c76) c91) | exact T111 _ (f_p0_same h c76 c91) | exact T111 _ (f_p0_next h c76 c91)
      refine x_iload_n C dX7_shortFrame_0 rfl ?_
      refine x_bipush (v := 64) C dX7_shortFrame_1 (by decide) ?_
      refine x_icmp_ne (tgt := 45) C dX7_shortFrame_3 (by decide) (fun c3 => ?_) (fun c3 => absurd c3 (fun q => h1 q))
      refine x_iload_n C dX7_shortFrame_45 rfl ?_
      refine x_bipush (v := 91) C dX7_shortFrame_46 (by decide) ?_
      refine x_icmp_eq (tgt := 57) C dX7_shortFrame_48 (by decide) (fun c48 => ?_) (fun c48 => ?_)
      · skip
        refine x_iload_n C dX7_shortFrame_57 rfl ?_
        refine x_bipush (v := 123) C dX7_shortFrame_58 (by decide) ?_
        refine x_icmp_ne (tgt := 67) C dX7_shortFrame_60 (by decide) (fun c60 => ?_) (fun c60 => ?_)
        · skip
          refine x_iconst (v := 0) C dX7_shortFrame_67 (by decide) ?_
          refine x_istoreE (L' := [some _, some _, some _, some _, some _, none]) C dX7_shortFrame_68 (by rw [hn]; decide) rfl ?_
          first | exact T70 _ (if_pos c60).symm | exact T70 _ (if_neg c60).symm
        · skip
          refine x_iconst (v := 1) C dX7_shortFrame_63 (by decide) ?_
          refine x_goto (tgt := 68) C dX7_shortFrame_64 (by decide) ?_
          refine x_istoreE (L' := [some _, some _, some _, some _, some _, none]) C dX7_shortFrame_68 (by rw [hn]; decide) rfl ?_
          first | exact T70 _ (if_pos c60).symm | exact T70 _ (if_neg c60).symm
      · skip
        refine x_iload_n C dX7_shortFrame_51 rfl ?_
        refine x_bipush (v := 123) C dX7_shortFrame_52 (by decide) ?_
        refine x_icmp_ne (tgt := 182) C dX7_shortFrame_54 (by decide) (fun c54 => ?_) (fun c54 => ?_)
        · skip
          refine m_vret C E dX7_shortFrame_182 ?_
          exact absurd h2 (fun q => q.elim c48 c54)
        · skip
          refine x_iload_n C dX7_shortFrame_57 rfl ?_
          refine x_bipush (v := 123) C dX7_shortFrame_58 (by decide) ?_
          refine x_icmp_ne (tgt := 67) C dX7_shortFrame_60 (by decide) (fun c60 => ?_) (fun c60 => ?_)
          · skip
            refine x_iconst (v := 0) C dX7_shortFrame_67 (by decide) ?_
            refine x_istoreE (L' := [some _, some _, some _, some _, some _, none]) C dX7_shortFrame_68 (by rw [hn]; decide) rfl ?_
            first | exact T70 _ (if_pos c60).symm | exact T70 _ (if_neg c60).symm
          · skip
            refine x_iconst (v := 1) C dX7_shortFrame_63 (by decide) ?_
            refine x_goto (tgt := 68) C dX7_shortFrame_64 (by decide) ?_
            refine x_istoreE (L' := [some _, some _, some _, some _, some _, none]) C dX7_shortFrame_68 (by rw [hn]; decide) rfl ?_
            first | exact T70 _ (if_pos c60).symm | exact T70 _ (if_neg c60).symm
    · have e : f_short S k c a = S := by unfold f_short; rw [if_neg h1, if_neg h2]
      rw [e] at E
      refine x_iload_n C dX7_shortFrame_0 rfl ?_
      refine x_bipush (v := 64) C dX7_shortFrame_1 (by decide) ?_
      refine x_icmp_ne (tgt := 45) C dX7_shortFrame_3 (by decide) (fun c3 => ?_) (fun c3 => absurd c3 (fun q => h1 q))
      refine x_iload_n C dX7_shortFrame_45 rfl ?_
      refine x_bipush (v := 91) C dX7_shortFrame_46 (by decide) ?_
      refine x_icmp_eq (tgt := 57) C dX7_shortFrame_48 (by decide) (fun c48 => absurd c48 (fun q => h2 (Or.inl q))) (fun c48 => ?_)
      refine x_iload_n C dX7_shortFrame_51 rfl ?_
      refine x_bipush (v := 123) C dX7_shortFrame_52 (by decide) ?_
      refine x_icmp_ne (tgt := 182) C dX7_shortFrame_54 (by decide) (fun c54 => ?_) (fun c54 => absurd c54 (fun q => h2 (Or.inr q)))
      refine m_vret C E dX7_shortFrame_182 ?_
      exact ⟨rfl, rfl⟩
end Short
