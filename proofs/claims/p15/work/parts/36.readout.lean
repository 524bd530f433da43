/-! MeterBusModel: readOut, over any invariant I that its steps keep. -/
def f_rm (S : MS) (k : Nat) : Nat → MS
  | 0 => S
  | n + 1 => (f_rm S k n).sa 19 n (S.a 21 (8 * k + n))
theorem f_rm_a (S : MS) (k n : Nat) {q j : Nat} (h : q ≠ 19) : (f_rm S k n).a q j = S.a q j := by
  induction n with
  | zero => rfl
  | succ n ih => rw [f_rm, sa_ne h, ih]
def f_roC (q : Nat) : Int32 := if q % 2 = 0 then 123 else 91
def f_ro : Nat → Nat → MS → Int32 × MS
  | 0, _, S => (S.i 23, S)
  | t + 1, q, S =>
    if (f_putS S (f_roC q)).i 7 = 1 then
      (if 0 < (f_da1 (f_putS S (f_roC q)) 5 (f_m (f_putS S (f_roC q)))).i 41 then (-2 - (f_da1 (f_putS S (f_roC q)) 5 (f_m (f_putS S (f_roC q)))).i 41, ((f_da (f_putS S (f_roC q)) 5 (f_m (f_putS S (f_roC q)))).si 23 0).si 34 0)
       else if (f_da (f_putS S (f_roC q)) 5 (f_m (f_putS S (f_roC q)))).i 37 = 0 then ((f_da (f_putS S (f_roC q)) 5 (f_m (f_putS S (f_roC q)))).i 23, f_da (f_putS S (f_roC q)) 5 (f_m (f_putS S (f_roC q))))
       else f_ro t (q + 1) (f_da (f_putS S (f_roC q)) 5 (f_m (f_putS S (f_roC q)))))
    else (-1, ((f_putS S (f_roC q)).si 23 0).si 34 0)
def f_ro0 (S : MS) (k : Nat) : MS := f_putM (f_rm ((((S.si 0 0).si 23 0).si 34 0).si 36 (-1)) k 8)
def f_readOut (S : MS) (k : Nat) : Int32 × MS := if (f_ro0 S k).i 7 = 1 then f_ro 10 0 (f_putM (f_putS (f_ro0 S k) 64)) else (-1, f_ro0 S k)
/-- what an invariant must give for reading out -/
def IR (I : MS → Prop) : Prop := (∀ S, I S → WFa S ∧ WFd S ∧ ∃ r tx, S.i 23 = nI r ∧ r ≤ 100 ∧ S.i 34 = nI tx ∧ tx ≤ 240 * r) ∧ (∀ S c, I S → (∃ b : Nat, b < 256 ∧ c = nI b) → I (f_putS S c)) ∧ (∀ S, I S → I (f_putM S)) ∧ (∀ S n, I S → n ≤ 300 → I (f_da S 5 n)) ∧ ∀ S j, I S → ∃ b, b < 256 ∧ S.a 5 j = nI b
section ReadOut
variable {w : Wd} {M : MW} {S : MS} {z : Fx}
theorem s_readOut_f (hW : Wm w M) (k : Int32) (hp : ¬ ((0 : Int32) ≤ k ∧ k ≤ S.i 20 - 1)) : TF w M yX7_readOut cX7_readOut 4 (some .int) 5 [.int k] S (some (.int 0)) (S.si 0 1) := by
  refine TM.intro hW rfl (Nat.le_of_ble_eq_true rfl) (fun z C Y E hn => ?_)
  have hf := s_fails1 (S := S) hW ((0 : Int32) ≤ k ∧ k ≤ S.i 20 - 1)
  rw [bI_t hp] at hf
  refine x_aload_n C dX7_readOut_0 rfl ?_
  refine x_iload_n C dX7_readOut_1 rfl ?_
  refine x_iconst (v := 0) C dX7_readOut_2 (by decide) ?_
  refine x_aload_n C dX7_readOut_3 rfl ?_
  refine m_get C Y 20 (by decide) (by decide) wf_X7_175 dX7_readOut_4 ?_
  refine x_iconst (v := 1) C dX7_readOut_7 (by decide) ?_
  refine x_isub C dX7_readOut_8 ?_
  refine m_callSF C hW E (s_in _ _ _) md_X7_in wt_X7_in wm_X7_100 dX7_readOut_9 rfl (by decide) (by decide) rfl (by simp [Value.category]) ?_
  refine x_iconst (v := 1) C dX7_readOut_12 (by decide) ?_
  refine m_callF C Y hW E (hf) rfl md_X7_fails wi_X7_fails ws_X7_fails wm_X7_107 dX7_readOut_13 rfl (by decide) (by decide) rfl (by simp [Value.category]) ?_
  refine x_if_eq (tgt := 21) C dX7_readOut_16 (by decide) (fun c16 => absurd c16 (by decide)) (fun c16 => ?_)
  refine x_iconst (v := 0) C dX7_readOut_19 (by decide) ?_
  refine m_iret C E dX7_readOut_20 ?_
  exact ⟨rfl, rfl⟩
theorem ro_loop (hW : Wm w M) {I : MS → Prop} (hI : IR I) (k : Nat) {R : Int32 × MS} (C : Cx z RX7 cX7_readOut gw) (Y : Mty z M) (E : Ct z w gw yX7_readOut (some .int) 5 (40 * 5) (PM M (fun q Q => q = some (.int R.1) ∧ Q = R.2))) (hn : z.nL = 4) :
    ∀ (t q : Nat) (S : MS) (l3 : Option Value), q + t = 10 → I S → f_ro t q S = R → X z 0 0 (MA M S) 93 [some (.ref M.o), some (.int (nI k)), some (.int (nI q)), l3] [] := by
  intro t
  induction t with
  | zero =>
    intro q S l3 hq hS e
    obtain rfl : q = 10 := by omega
    subst e
    refine x_iload_n C dX7_readOut_93 rfl ?_
    refine x_bipush (v := 10) C dX7_readOut_94 (by decide) ?_
    refine x_icmp_ge (tgt := 186) C dX7_readOut_96 (by decide) (fun c96 => ?_) (fun c96 => absurd c96 (by decide))
    refine x_aload_n C dX7_readOut_186 rfl ?_
    refine m_get C Y 23 (by decide) (by decide) wf_X7_190 dX7_readOut_187 ?_
    refine m_iret C E dX7_readOut_190 ?_
    exact ⟨rfl, rfl⟩
  | succ t ih =>
    intro q S l3 hq hS e
    rw [f_ro] at e
    have hw := hI.1 S hS
    have hs := s_putShort (S := S) hW hw.1 (f_roC q)
    have hS1 := hI.2.1 S (f_roC q) hS (by unfold f_roC; split; exact ⟨123, by decide, rfl⟩; exact ⟨91, by decide, rfl⟩)
    obtain ⟨m1, m2⟩ := (AO.bus (S := f_putS0 S (f_roC q)) hw.1.putS0 5).m
    have m1 : f_m (f_putS S (f_roC q)) ≤ 300 := m1
    have m2 : (f_putS S (f_roC q)).i 6 = nI (f_m (f_putS S (f_roC q))) := m2
    have er : nI q - nI q / 2 * 2 = nI (q % 2) := by rw [show (2 : Int32) = nI 2 from rfl, pk_rem (by omega) (by decide) (by decide)]
    have er0 : nI (q % 2) = 0 ↔ q % 2 = 0 := by rw [show (0 : Int32) = nI 0 from rfl, nI_eq (by omega) (by omega)]
    have T113 : ∀ cv : Int32, cv = f_roC q → X z 0 0 (MA M S) 113 [some (.ref M.o), some (.int (nI k)), some (.int (nI q)), l3] [.int cv, .ref M.o] := by
      intro cv ec
      subst ec
      have T116 : X z 0 0 (MA M (f_putS S (f_roC q))) 116 [some (.ref M.o), some (.int (nI k)), some (.int (nI q)), l3] [] := by
        generalize f_putS S (f_roC q) = S1 at e hS1 m1 m2 ⊢
        generalize f_m S1 = n at e m1 m2
        by_cases h1 : S1.i 7 = 1
        · rw [if_pos h1] at e
          obtain ⟨w1, w2, r, tx, w3, w4, w5, w6⟩ := hI.1 S1 hS1
          have hd := s_decodeAll (S := S1) hW 5 n r tx rfl rfl (by decide) m1 w2 (fun j _ => hI.2.2.2.2 S1 j hS1) w3 w4 w5 w6
          have hS2 := hI.2.2.2.1 S1 n hS1 m1
          generalize f_da S1 5 n = S2 at e hd hS2
          generalize (f_da1 S1 5 n).i 41 = v at e hd
          by_cases h2 : 0 < v
          · rw [if_pos h2] at e
            subst e
            refine x_aload_n C dX7_readOut_116 rfl ?_
            refine m_get C Y 7 (by decide) (by decide) wf_X7_132 dX7_readOut_117 ?_
            refine x_iconst (v := 1) C dX7_readOut_120 (by decide) ?_
            refine x_icmp_eq (tgt := 136) C dX7_readOut_121 (by decide) (fun c121 => ?_) (fun c121 => absurd c121 (not_not_intro h1))
            refine x_aload_n C dX7_readOut_136 rfl ?_
            refine x_aload_n C dX7_readOut_137 rfl ?_
            refine m_getA C Y 5 (by decide) (by decide) wf_X7_16 dX7_readOut_138 ?_
            refine x_aload_n C dX7_readOut_141 rfl ?_
            refine m_get C Y 6 (by decide) (by decide) wf_X7_135 dX7_readOut_142 ?_
            rw [m2]
            refine m_callF C Y hW E (hd) rfl md_X7_decodeAll wi_X7_decodeAll ws_X7_decodeAll wm_X7_196 dX7_readOut_145 rfl (by decide) (by decide) rfl (by simp [Value.category]) ?_
            refine x_istore_nE (L' := [some _, some _, some _, some _]) C dX7_readOut_148 (by rw [hn]; decide) rfl ?_
            refine x_iload_n C dX7_readOut_149 rfl ?_
            refine x_if_le (tgt := 168) C dX7_readOut_150 (by decide) (fun c150 => absurd c150 (Int32.not_le.mpr h2)) (fun c150 => ?_)
            refine x_aload_n C dX7_readOut_153 rfl ?_
            refine x_iconst (v := 0) C dX7_readOut_154 (by decide) ?_
            refine m_put C Y hW.2.1 23 (by decide) (by decide) rfl rfl rfl wf_X7_190 dX7_readOut_155 ?_
            refine x_aload_n C dX7_readOut_158 rfl ?_
            refine x_iconst (v := 0) C dX7_readOut_159 (by decide) ?_
            refine m_put C Y hW.2.1 34 (by decide) (by decide) rfl rfl rfl wf_X7_193 dX7_readOut_160 ?_
            refine x_bipush (v := (-2)) C dX7_readOut_163 (by decide) ?_
            refine x_iload_n C dX7_readOut_165 rfl ?_
            refine x_isub C dX7_readOut_166 ?_
            refine m_iret C E dX7_readOut_167 ?_
            exact ⟨rfl, rfl⟩
          · rw [if_neg h2] at e
            by_cases h3 : S2.i 37 = 0
            · rw [if_pos h3] at e
              subst e
              refine x_aload_n C dX7_readOut_116 rfl ?_
              refine m_get C Y 7 (by decide) (by decide) wf_X7_132 dX7_readOut_117 ?_
              refine x_iconst (v := 1) C dX7_readOut_120 (by decide) ?_
              refine x_icmp_eq (tgt := 136) C dX7_readOut_121 (by decide) (fun c121 => ?_) (fun c121 => absurd c121 (not_not_intro h1))
              refine x_aload_n C dX7_readOut_136 rfl ?_
              refine x_aload_n C dX7_readOut_137 rfl ?_
              refine m_getA C Y 5 (by decide) (by decide) wf_X7_16 dX7_readOut_138 ?_
              refine x_aload_n C dX7_readOut_141 rfl ?_
              refine m_get C Y 6 (by decide) (by decide) wf_X7_135 dX7_readOut_142 ?_
              rw [m2]
              refine m_callF C Y hW E (hd) rfl md_X7_decodeAll wi_X7_decodeAll ws_X7_decodeAll wm_X7_196 dX7_readOut_145 rfl (by decide) (by decide) rfl (by simp [Value.category]) ?_
              refine x_istore_nE (L' := [some _, some _, some _, some _]) C dX7_readOut_148 (by rw [hn]; decide) rfl ?_
              refine x_iload_n C dX7_readOut_149 rfl ?_
              refine x_if_le (tgt := 168) C dX7_readOut_150 (by decide) (fun c150 => ?_) (fun c150 => absurd c150 (not_not_intro (Int32.not_lt.mp h2)))
              refine x_aload_n C dX7_readOut_168 rfl ?_
              refine m_get C Y 37 (by decide) (by decide) wf_X7_200 dX7_readOut_169 ?_
              refine x_if_ne (tgt := 180) C dX7_readOut_172 (by decide) (fun c172 => absurd c172 (not_not_intro h3)) (fun c172 => ?_)
              refine x_aload_n C dX7_readOut_175 rfl ?_
              refine m_get C Y 23 (by decide) (by decide) wf_X7_190 dX7_readOut_176 ?_
              refine m_iret C E dX7_readOut_179 ?_
              exact ⟨rfl, rfl⟩
            · rw [if_neg h3] at e
              have ih2 := ih (q + 1) S2 (some (.int v)) (by omega) hS2 e
              refine x_aload_n C dX7_readOut_116 rfl ?_
              refine m_get C Y 7 (by decide) (by decide) wf_X7_132 dX7_readOut_117 ?_
              refine x_iconst (v := 1) C dX7_readOut_120 (by decide) ?_
              refine x_icmp_eq (tgt := 136) C dX7_readOut_121 (by decide) (fun c121 => ?_) (fun c121 => absurd c121 (not_not_intro h1))
              refine x_aload_n C dX7_readOut_136 rfl ?_
              refine x_aload_n C dX7_readOut_137 rfl ?_
              refine m_getA C Y 5 (by decide) (by decide) wf_X7_16 dX7_readOut_138 ?_
              refine x_aload_n C dX7_readOut_141 rfl ?_
              refine m_get C Y 6 (by decide) (by decide) wf_X7_135 dX7_readOut_142 ?_
              rw [m2]
              refine m_callF C Y hW E (hd) rfl md_X7_decodeAll wi_X7_decodeAll ws_X7_decodeAll wm_X7_196 dX7_readOut_145 rfl (by decide) (by decide) rfl (by simp [Value.category]) ?_
              refine x_istore_nE (L' := [some _, some _, some _, some _]) C dX7_readOut_148 (by rw [hn]; decide) rfl ?_
              refine x_iload_n C dX7_readOut_149 rfl ?_
              refine x_if_le (tgt := 168) C dX7_readOut_150 (by decide) (fun c150 => ?_) (fun c150 => absurd c150 (not_not_intro (Int32.not_lt.mp h2)))
              refine x_aload_n C dX7_readOut_168 rfl ?_
              refine m_get C Y 37 (by decide) (by decide) wf_X7_200 dX7_readOut_169 ?_
              refine x_if_ne (tgt := 180) C dX7_readOut_172 (by decide) (fun c172 => ?_) (fun c172 => absurd c172 (fun q => h3 q))
              refine x_iincE (v := nI (q + 1)) (L' := [some _, some _, some _, some _]) C dX7_readOut_180 rfl (nI_1 q) (by rw [hn]; decide) rfl ?_
              refine x_goto (tgt := 93) C dX7_readOut_183 (by decide) ?_
              exact ih2
        · rw [if_neg h1] at e
          subst e
          refine x_aload_n C dX7_readOut_116 rfl ?_
          refine m_get C Y 7 (by decide) (by decide) wf_X7_132 dX7_readOut_117 ?_
          refine x_iconst (v := 1) C dX7_readOut_120 (by decide) ?_
          refine x_icmp_eq (tgt := 136) C dX7_readOut_121 (by decide) (fun c121 => absurd c121 (fun q => h1 q)) (fun c121 => ?_)
          refine x_aload_n C dX7_readOut_124 rfl ?_
          refine x_iconst (v := 0) C dX7_readOut_125 (by decide) ?_
          refine m_put C Y hW.2.1 23 (by decide) (by decide) rfl rfl rfl wf_X7_190 dX7_readOut_126 ?_
          refine x_aload_n C dX7_readOut_129 rfl ?_
          refine x_iconst (v := 0) C dX7_readOut_130 (by decide) ?_
          refine m_put C Y hW.2.1 34 (by decide) (by decide) rfl rfl rfl wf_X7_193 dX7_readOut_131 ?_
          refine x_iconst (v := (-1)) C dX7_readOut_134 (by decide) ?_
          refine m_iret C E dX7_readOut_135 ?_
          exact ⟨rfl, rfl⟩
      refine m_callF C Y hW E (hs) rfl md_X7_putShort wi_X7_putShort ws_X7_putShort wm_X7_187 dX7_readOut_113 rfl (by decide) (by decide) rfl (by simp [Value.category]) ?_
      exact T116
    refine x_iload_n C dX7_readOut_93 rfl ?_
    refine x_bipush (v := 10) C dX7_readOut_94 (by decide) ?_
    refine x_icmp_ge (tgt := 186) C dX7_readOut_96 (by decide) (fun c96 => absurd c96 (by rw [nI_lit]; exact nI_ge (show q < 10 by omega) (by decide))) (fun c96 => ?_)
    refine x_aload_n C dX7_readOut_99 rfl ?_
    refine x_iload_n C dX7_readOut_100 rfl ?_
    refine x_iconst (v := 2) C dX7_readOut_101 (by decide) ?_
    refine x_irem C dX7_readOut_102 (by decide) ?_
    rw [er]
    refine x_if_ne (tgt := 111) C dX7_readOut_103 (by decide) (fun c103 => ?_) (fun c103 => ?_)
    · skip
      refine x_bipush (v := 91) C dX7_readOut_111 (by decide) ?_
      first | exact T113 _ (if_pos (er0.mp c103)).symm | exact T113 _ (if_neg (fun u => c103 (er0.mpr u))).symm
    · skip
      refine x_bipush (v := 123) C dX7_readOut_106 (by decide) ?_
      refine x_goto (tgt := 113) C dX7_readOut_108 (by decide) ?_
      first | exact T113 _ (if_pos (er0.mp c103)).symm | exact T113 _ (if_neg (fun u => c103 (er0.mpr u))).symm
theorem s_readOut_t (hW : Wm w M) {I : MS → Prop} (hI : IR I) (k f : Nat) (hf0 : S.i 20 = nI f) (hk : k < f) (hf1 : f ≤ 100) (h0 : I (f_rm ((((S.si 0 0).si 23 0).si 34 0).si 36 (-1)) k 8)) : TF w M yX7_readOut cX7_readOut 4 (some .int) 5 [.int (nI k)] S (some (.int (f_readOut S k).1)) (f_readOut S k).2 := by
  refine TM.intro hW rfl (Nat.le_of_ble_eq_true rfl) (fun z C Y E hn => ?_)
  have hp : (0 : Int32) ≤ nI k ∧ nI k ≤ S.i 20 - 1 := ⟨nI_pos' (by omega), by rw [hf0, show (1 : Int32) = nI 1 from rfl, pk_sub (by omega)]; exact nI_le (by omega) (by omega)⟩
  have hf := s_fails1 (S := S) hW ((0 : Int32) ≤ nI k ∧ nI k ≤ S.i 20 - 1)
  rw [bI_f (not_not_intro hp)] at hf
  have hm := s_putMask hW (hI.1 _ h0).1
  have i0 : I (f_ro0 S k) := hI.2.2.1 _ h0
  have T71 : X z 0 0 (MA M (f_ro0 S k)) 71 [some (.ref M.o), some (.int (nI k)), some (.int (nI 8)), none] [] := by
    unfold f_readOut at E
    generalize f_ro0 S k = S1 at E i0 ⊢
    have hs := s_putShort (S := S1) hW (hI.1 _ i0).1 64
    have hm2 := s_putMask (S := f_putS S1 64) hW (hI.1 _ (hI.2.1 _ 64 i0 ⟨64, by decide, rfl⟩)).1
    by_cases h1 : S1.i 7 = 1
    · rw [if_pos h1] at E
      have LP := ro_loop hW hI k C Y E hn 10 0 (f_putM (f_putS S1 64)) none rfl (hI.2.2.1 _ (hI.2.1 _ 64 i0 ⟨64, by decide, rfl⟩)) rfl
      refine x_aload_n C dX7_readOut_71 rfl ?_
      refine m_get C Y 7 (by decide) (by decide) wf_X7_132 dX7_readOut_72 ?_
      refine x_iconst (v := 1) C dX7_readOut_75 (by decide) ?_
      refine x_icmp_eq (tgt := 81) C dX7_readOut_76 (by decide) (fun c76 => ?_) (fun c76 => absurd c76 (not_not_intro h1))
      refine x_aload_n C dX7_readOut_81 rfl ?_
      refine x_bipush (v := 64) C dX7_readOut_82 (by decide) ?_
      refine m_callF C Y hW E (hs) rfl md_X7_putShort wi_X7_putShort ws_X7_putShort wm_X7_187 dX7_readOut_84 rfl (by decide) (by decide) rfl (by simp [Value.category]) ?_
      refine x_aload_n C dX7_readOut_87 rfl ?_
      refine m_callF C Y hW E (hm2) rfl md_X7_putMask wi_X7_putMask ws_X7_putMask wm_X7_178 dX7_readOut_88 rfl (by decide) (by decide) rfl (by simp [Value.category]) ?_
      refine x_iconst (v := 0) C dX7_readOut_91 (by decide) ?_
      refine x_istore_nE (L' := [some _, some _, some _, none]) C dX7_readOut_92 (by rw [hn]; decide) rfl ?_
      exact LP
    · rw [if_neg h1] at E
      refine x_aload_n C dX7_readOut_71 rfl ?_
      refine m_get C Y 7 (by decide) (by decide) wf_X7_132 dX7_readOut_72 ?_
      refine x_iconst (v := 1) C dX7_readOut_75 (by decide) ?_
      refine x_icmp_eq (tgt := 81) C dX7_readOut_76 (by decide) (fun c76 => absurd c76 (fun q => h1 q)) (fun c76 => ?_)
      refine x_iconst (v := (-1)) C dX7_readOut_79 (by decide) ?_
      refine m_iret C E dX7_readOut_80 ?_
      exact ⟨rfl, rfl⟩
  generalize hS0 : (((S.si 0 0).si 23 0).si 34 0).si 36 (-1) = S0 at hm
  have LP : ∀ (t b : Nat), b + t = 8 → X z 0 0 (MA M (f_rm S0 k b)) 38 [some (.ref M.o), some (.int (nI k)), some (.int (nI b)), none] [] := by
    intro t
    induction t with
    | zero =>
      intro b hb
      obtain rfl : b = 8 := by omega
      unfold f_ro0 at T71
      rw [hS0] at T71
      refine x_iload_n C dX7_readOut_38 rfl ?_
      refine x_bipush (v := 8) C dX7_readOut_39 (by decide) ?_
      refine x_icmp_ge (tgt := 67) C dX7_readOut_41 (by decide) (fun c41 => ?_) (fun c41 => absurd c41 (by decide))
      refine x_aload_n C dX7_readOut_67 rfl ?_
      refine m_callF C Y hW E (hm) rfl md_X7_putMask wi_X7_putMask ws_X7_putMask wm_X7_178 dX7_readOut_68 rfl (by decide) (by decide) rfl (by simp [Value.category]) ?_
      exact T71
    | succ t ih =>
      intro b hb
      have ih2 := ih (b + 1) (by omega)
      refine x_iload_n C dX7_readOut_38 rfl ?_
      refine x_bipush (v := 8) C dX7_readOut_39 (by decide) ?_
      refine x_icmp_ge (tgt := 67) C dX7_readOut_41 (by decide) (fun c41 => absurd c41 (by rw [nI_lit]; exact nI_ge (show b < 8 by omega) (by decide))) (fun c41 => ?_)
      refine x_aload_n C dX7_readOut_44 rfl ?_
      refine m_getA C Y 19 (by decide) (by decide) wf_X7_47 dX7_readOut_45 ?_
      refine x_iload_n C dX7_readOut_48 rfl ?_
      refine x_aload_n C dX7_readOut_49 rfl ?_
      refine m_getA C Y 21 (by decide) (by decide) wf_X7_50 dX7_readOut_50 ?_
      refine x_bipush (v := 8) C dX7_readOut_53 (by decide) ?_
      refine x_iload_n C dX7_readOut_55 rfl ?_
      refine x_imul C dX7_readOut_56 ?_
      refine x_iload_n C dX7_readOut_57 rfl ?_
      refine x_iadd C dX7_readOut_58 ?_
      refine m_ildN C Y 21 (8 * k + b) (by decide) dX7_readOut_59 (by simp only [nI_lit, nI_add, pk_mul]) (by simp only [m_len]; omega) ?_
      rw [f_rm_a _ _ _ (by decide)]
      refine m_istN C Y hW.2.1 19 (b) (by decide) dX7_readOut_60 (by simp only [nI_lit, nI_add, pk_mul]) (by simp only [m_len]; omega) ?_
      refine x_iincE (v := nI (b + 1)) (L' := [some _, some _, some _, none]) C dX7_readOut_61 rfl (nI_1 b) (by rw [hn]; decide) rfl ?_
      refine x_goto (tgt := 38) C dX7_readOut_64 (by decide) ?_
      exact ih2
  refine x_aload_n C dX7_readOut_0 rfl ?_
  refine x_iload_n C dX7_readOut_1 rfl ?_
  refine x_iconst (v := 0) C dX7_readOut_2 (by decide) ?_
  refine x_aload_n C dX7_readOut_3 rfl ?_
  refine m_get C Y 20 (by decide) (by decide) wf_X7_175 dX7_readOut_4 ?_
  refine x_iconst (v := 1) C dX7_readOut_7 (by decide) ?_
  refine x_isub C dX7_readOut_8 ?_
  refine m_callSF C hW E (s_in _ _ _) md_X7_in wt_X7_in wm_X7_100 dX7_readOut_9 rfl (by decide) (by decide) rfl (by simp [Value.category]) ?_
  refine x_iconst (v := 1) C dX7_readOut_12 (by decide) ?_
  refine m_callF C Y hW E (hf) rfl md_X7_fails wi_X7_fails ws_X7_fails wm_X7_107 dX7_readOut_13 rfl (by decide) (by decide) rfl (by simp [Value.category]) ?_
  refine x_if_eq (tgt := 21) C dX7_readOut_16 (by decide) (fun c16 => ?_) (fun c16 => absurd c16 (not_not_intro rfl))
  refine x_aload_n C dX7_readOut_21 rfl ?_
  refine x_iconst (v := 0) C dX7_readOut_22 (by decide) ?_
  refine m_put C Y hW.2.1 23 (by decide) (by decide) rfl rfl rfl wf_X7_190 dX7_readOut_23 ?_
  refine x_aload_n C dX7_readOut_26 rfl ?_
  refine x_iconst (v := 0) C dX7_readOut_27 (by decide) ?_
  refine m_put C Y hW.2.1 34 (by decide) (by decide) rfl rfl rfl wf_X7_193 dX7_readOut_28 ?_
  refine x_aload_n C dX7_readOut_31 rfl ?_
  refine x_iconst (v := (-1)) C dX7_readOut_32 (by decide) ?_
  refine m_put C Y hW.2.1 36 (by decide) (by decide) rfl rfl rfl wf_X7_90 dX7_readOut_33 ?_
  refine x_iconst (v := 0) C dX7_readOut_36 (by decide) ?_
  refine x_istore_nE (L' := [some _, some _, some _, none]) C dX7_readOut_37 (by rw [hn]; decide) rfl ?_
  rw [hS0]; exact LP 8 0 rfl
end ReadOut
