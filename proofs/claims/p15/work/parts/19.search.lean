/-! MeterBusModel: search. -/
theorem f_ack_i (S : MS) {q : Nat} (h6 : q ≠ 6) (h7 : q ≠ 7) : (f_ack S).i q = S.i q := by
  unfold f_ack
  rw [MS.si_i, if_neg h6, MS.sa_i, MS.si_i, if_neg h7]
theorem f_asked_i (S : MS) (k : Nat) (bit : Int32) {q : Nat} (h6 : q ≠ 6) (h7 : q ≠ 7) : (f_asked S k bit).i q = S.i q := by
  unfold f_asked
  rw [MS.si_i, if_neg h7, MS.sa_i, MS.sa_i, MS.sa_i, MS.ans_i, if_neg h6]
theorem f_step_i (S : MS) (isS sel : Bool) (c a : Int32) (k : Nat) {q : Nat} (h6 : q ≠ 6) (h7 : q ≠ 7) : (f_step S isS sel c a k).i q = S.i q := by
  unfold f_step f_does
  split
  · split
    · unfold f_sel
      split
      · rw [f_ack_i _ h6 h7, MS.sa_i]
      · rfl
    · split
      · unfold f_short
        split
        · rw [f_ack_i _ h6 h7, MS.sa_i]; rfl
        · split
          · rw [f_asked_i _ _ _ h6 h7]
          · rfl
      · split
        · unfold f_long
          split
          · rw [f_ack_i _ h6 h7]; rfl
          · split
            · rw [f_ack_i _ h6 h7]; rfl
            · rfl
        · rfl
  · rfl
theorem f_run_i (S : MS) (isS sel : Bool) (c a : Int32) {q : Nat} (h6 : q ≠ 6) (h7 : q ≠ 7) : ∀ n, (f_run S isS sel c a n).i q = S.i q
  | 0 => rfl
  | n + 1 => by rw [f_run, f_step_i _ _ _ _ _ _ h6 h7, f_run_i S isS sel c a h6 h7 n]
theorem f_end_i (S : MS) (a : Int32) {q : Nat} (h7 : q ≠ 7) (h9 : q ≠ 9) : (f_end S a).i q = S.i q := by
  unfold f_end
  rw [MS.si_i, if_neg h9, MS.si_i, if_neg h7]
theorem f_bus_i (S : MS) (n : Nat) {q : Nat} (h6 : q ≠ 6) (h7 : q ≠ 7) (h8 : q ≠ 8) (h9 : q ≠ 9) : (f_bus S n).i q = S.i q := by
  have e : (f_begin S).i q = S.i q := by unfold f_begin; rw [MS.si_i, if_neg h6, MS.si_i, if_neg h7, MS.si_i, if_neg h8]
  unfold f_bus
  split
  · rw [f_end_i _ _ h7 h9, f_run_i _ _ _ _ _ h6 h7, e]
  · split
    · rw [f_end_i _ _ h7 h9, f_run_i _ _ _ _ _ h6 h7, e]
    · exact e
theorem f_mcp_i (S : MS) (n q : Nat) : (f_mcp S n).i q = S.i q := by
  induction n with
  | zero => rfl
  | succ n ih => rw [f_mcp, MS.sa_i, ih]
theorem f_putM_i (S : MS) {q : Nat} (h4 : q ≠ 4) (h6 : q ≠ 6) (h7 : q ≠ 7) (h8 : q ≠ 8) (h9 : q ≠ 9) : (f_putM S).i q = S.i q := by
  unfold f_putM
  rw [f_bus_i _ _ h6 h7 h8 h9]
  unfold f_putM0
  rw [MS.si_i, if_neg h4, MS.sa_i, MS.sa_i, f_mcp_i]
  rfl
theorem f_putS_i (S : MS) (c : Int32) {q : Nat} (h4 : q ≠ 4) (h6 : q ≠ 6) (h7 : q ≠ 7) (h8 : q ≠ 8) (h9 : q ≠ 9) : (f_putS S c).i q = S.i q := by
  unfold f_putS
  rw [f_bus_i _ _ h6 h7 h8 h9]
  unfold f_putS0
  rw [MS.si_i, if_neg h4]
  rfl
theorem f_find0_i (S : MS) {q : Nat} (h4 : q ≠ 4) (h6 : q ≠ 6) (h7 : q ≠ 7) (h8 : q ≠ 8) (h9 : q ≠ 9) : (f_find0 S).i q = S.i q := by
  unfold f_find0
  rw [f_putS_i _ _ h4 h6 h7 h8 h9, f_putM_i _ h4 h6 h7 h8 h9, f_putS_i _ _ h4 h6 h7 h8 h9]
theorem WFa.part {S : MS} {n : Nat} {v : Int32} (h : WFa S) : WFa (f_part S n v) := by
  unfold f_part
  split
  · exact h.sa (by decide) (by decide) (by decide)
  · exact h.sa (by decide) (by decide) (by decide)
theorem WFa.fcp {S : MS} {f : Nat} (h : WFa S) : ∀ n, WFa (f_fcp S f n)
  | 0 => h
  | n + 1 => (h.fcp n).sa (by decide) (by decide) (by decide)
theorem WFa.find {S : MS} {f : Nat} (h : WFa S) : WFa (f_find S f) := by
  have h0 : WFa (f_find0 S) := h.putS.putM.putS
  unfold f_find
  split
  · exact (h0.fcp 8).si
  · exact h0
def f_lim (n : Nat) : Int32 := if n < 8 then 10 else 255
/-- back to the last part that has another value -/
def f_back : Nat → MS → MS × Nat × Bool
  | 0, S => (S, 0, false)
  | n + 1, S => if S.a 22 n + 1 < f_lim n then (f_part (S.sa 22 n (S.a 22 n + 1)) n (S.a 22 n + 1), n + 1, true) else f_back n (f_part (S.sa 22 n (S.a 22 n + 1)) n (-1))
theorem WFa.back : ∀ (n : Nat) {S : MS}, WFa S → WFa (f_back n S).1
  | 0, _, h => h
  | n + 1, S, h => by
    unfold f_back
    split
    · exact (h.sa (by decide) (by decide) (by decide)).part
    · exact WFa.back n (h.sa (by decide) (by decide) (by decide)).part
theorem f_back_le : ∀ (n : Nat) (S : MS), (f_back n S).2.1 ≤ n
  | 0, _ => Nat.le_refl 0
  | n + 1, S => by
    unfold f_back
    split
    · exact Nat.le_refl _
    · exact Nat.le_succ_of_le (f_back_le n _)
theorem f_back_pos : ∀ (n : Nat) (S : MS), (f_back n S).2.2 = true → 1 ≤ (f_back n S).2.1
  | 0, _ => fun h => nomatch h
  | n + 1, S => by
    unfold f_back
    split
    · intro _; exact Nat.succ_le_succ (Nat.zero_le _)
    · exact f_back_pos n _
def f_c (S : MS) : Nat := (S.i 20).toNatClampNeg
def f_cOK (S : MS) : Bool := decide (f_c S < 100) && decide (S.i 20 = nI (f_c S))
def f_one (S : MS) : MS := if S.i 7 = 1 then f_find S (f_c S) else S
/-- the loop of the search: none where it would not end in time, or leave its rows -/
def f_sr : Nat → MS → Nat → Option MS
  | 0, _, _ => none
  | t + 1, S, n =>
    if 1 < (f_putM S).i 7 then (if n < 12 then f_sr t (f_part ((f_putM S).sa 22 n 0) n 0) (n + 1) else none)
    else if f_cOK (f_putM S) = true then (if (f_back n (f_one (f_putM S))).2.2 = true then f_sr t (f_back n (f_one (f_putM S))).1 (f_back n (f_one (f_putM S))).2.1 else some (f_back n (f_one (f_putM S))).1)
    else none
section Search
variable {w : Wd} {M : MW} {S : MS}
/-- the way back, from pc 86 -/
theorem sr_back (hW : Wm w M) {post : Option Value → MS → Prop} {z : Fx} (C : Cx z RX7 cX7_search gw) (Y : Mty z M) (E : Ct z w gw yX7_search (some .int) 6 (40 * 6) (PM M post)) (hn : z.nL = 3) :
    ∀ (n : Nat) (S : MS), n ≤ 12 → ((f_back n S).2.2 = true → X z 0 0 (MA M (f_back n S).1) 37 [some (.ref M.o), some (.int (nI (f_back n S).2.1)), some (.int 1)] []) → ((f_back n S).2.2 = false → X z 0 0 (MA M (f_back n S).1) 37 [some (.ref M.o), some (.int (nI (f_back n S).2.1)), some (.int 0)] []) →
    X z 0 0 (MA M S) 86 [some (.ref M.o), some (.int (nI n)), some (.int 0)] [] := by
  intro n
  induction n with
  | zero =>
    intro S _ _ k0
    have k0 := k0 rfl
    refine x_iload_n C dX7_search_86 rfl ?_
    refine x_if_le (tgt := 37) C dX7_search_87 (by decide) (fun c87 => ?_) (fun c87 => absurd c87 (not_not_intro (by decide)))
    exact k0
  | succ n ih =>
    intro S hn12 k1 k0
    have i8 : 8 ≤ nI n ↔ ¬ n < 8 := by rw [show (8 : Int32) = nI 8 from rfl, nI_leI (by omega) (by omega)]; omega
    have T127 : ∀ lim : Int32, lim = f_lim n → X z 0 0 (MA M (S.sa 22 n (S.a 22 n + 1))) 127 [some (.ref M.o), some (.int (nI n)), some (.int 0)] [.int lim, .int (S.a 22 n + 1)] := by
      intro lim el
      subst el
      have hp := fun v => s_setPart (S := S.sa 22 n (S.a 22 n + 1)) hW n (by omega) v
      by_cases hm : S.a 22 n + 1 < f_lim n
      · have e : f_back (n + 1) S = (f_part (S.sa 22 n (S.a 22 n + 1)) n (S.a 22 n + 1), n + 1, true) := by rw [f_back, if_pos hm]
        rw [e] at k1
        have k1 := k1 rfl
        refine x_icmp_ge (tgt := 134) C dX7_search_127 (by decide) (fun c127 => absurd c127 (Int32.not_le.mpr hm)) (fun c127 => ?_)
        refine x_iconst (v := 1) C dX7_search_130 (by decide) ?_
        refine x_goto (tgt := 135) C dX7_search_131 (by decide) ?_
        refine x_istore_nE (L' := [some _, some _, some _]) C dX7_search_135 (by rw [hn]; decide) rfl ?_
        refine x_aload_n C dX7_search_136 rfl ?_
        refine x_iload_n C dX7_search_137 rfl ?_
        refine x_iload_n C dX7_search_138 rfl ?_
        refine x_if_eq (tgt := 151) C dX7_search_139 (by decide) (fun c139 => absurd c139 (by decide)) (fun c139 => ?_)
        refine x_aload_n C dX7_search_142 rfl ?_
        refine m_getA C Y 22 (by decide) (by decide) wf_X7_53 dX7_search_143 ?_
        refine x_iload_n C dX7_search_146 rfl ?_
        refine m_ildN C Y 22 (n) (by decide) dX7_search_147 (by simp only [nI_lit, nI_add, pk_mul]) (by simp only [m_len]; omega) ?_
        rw [MS.sa_a, if_pos ⟨rfl, rfl⟩]
        refine x_goto (tgt := 152) C dX7_search_148 (by decide) ?_
        refine m_callF C Y hW E (hp _) rfl md_X7_setPart wi_X7_setPart ws_X7_setPart wm_X7_181 dX7_search_152 rfl (by decide) (by decide) rfl (by simp [Value.category]) ?_
        refine x_iload_n C dX7_search_155 rfl ?_
        refine x_iload_n C dX7_search_156 rfl ?_
        refine x_if_eq (tgt := 164) C dX7_search_157 (by decide) (fun c157 => absurd c157 (by decide)) (fun c157 => ?_)
        refine x_iconst (v := 1) C dX7_search_160 (by decide) ?_
        refine x_goto (tgt := 165) C dX7_search_161 (by decide) ?_
        refine x_iadd C dX7_search_165 ?_
        rw [nI_1]
        refine x_istore_nE (L' := [some _, some _, some _]) C dX7_search_166 (by rw [hn]; decide) rfl ?_
        refine x_goto (tgt := 86) C dX7_search_167 (by decide) ?_
        refine x_iload_n C dX7_search_86 rfl ?_
        refine x_if_le (tgt := 37) C dX7_search_87 (by decide) (fun c87 => absurd c87 (fun q => absurd q (nI_nle (Nat.succ_pos n) (by omega)))) (fun c87 => ?_)
        refine x_iload_n C dX7_search_90 rfl ?_
        refine x_if_ne (tgt := 37) C dX7_search_91 (by decide) (fun c91 => ?_) (fun c91 => absurd c91 (by decide))
        exact k1
      · have e : f_back (n + 1) S = f_back n (f_part (S.sa 22 n (S.a 22 n + 1)) n (-1)) := by rw [f_back, if_neg hm]
        rw [e] at k1 k0
        have ih2 := ih _ (by omega) k1 k0
        refine x_icmp_ge (tgt := 134) C dX7_search_127 (by decide) (fun c127 => ?_) (fun c127 => absurd c127 (not_not_intro (Int32.not_lt.mp hm)))
        refine x_iconst (v := 0) C dX7_search_134 (by decide) ?_
        refine x_istore_nE (L' := [some _, some _, some _]) C dX7_search_135 (by rw [hn]; decide) rfl ?_
        refine x_aload_n C dX7_search_136 rfl ?_
        refine x_iload_n C dX7_search_137 rfl ?_
        refine x_iload_n C dX7_search_138 rfl ?_
        refine x_if_eq (tgt := 151) C dX7_search_139 (by decide) (fun c139 => ?_) (fun c139 => absurd c139 (not_not_intro rfl))
        refine x_iconst (v := (-1)) C dX7_search_151 (by decide) ?_
        refine m_callF C Y hW E (hp _) rfl md_X7_setPart wi_X7_setPart ws_X7_setPart wm_X7_181 dX7_search_152 rfl (by decide) (by decide) rfl (by simp [Value.category]) ?_
        refine x_iload_n C dX7_search_155 rfl ?_
        refine x_iload_n C dX7_search_156 rfl ?_
        refine x_if_eq (tgt := 164) C dX7_search_157 (by decide) (fun c157 => ?_) (fun c157 => absurd c157 (not_not_intro rfl))
        refine x_iconst (v := 0) C dX7_search_164 (by decide) ?_
        refine x_iadd C dX7_search_165 ?_
        rw [Int32.add_zero]
        refine x_istore_nE (L' := [some _, some _, some _]) C dX7_search_166 (by rw [hn]; decide) rfl ?_
        refine x_goto (tgt := 86) C dX7_search_167 (by decide) ?_
        exact ih2
    refine x_iload_n C dX7_search_86 rfl ?_
    refine x_if_le (tgt := 37) C dX7_search_87 (by decide) (fun c87 => absurd c87 (nI_nle (Nat.succ_pos n) (by omega))) (fun c87 => ?_)
    refine x_iload_n C dX7_search_90 rfl ?_
    refine x_if_ne (tgt := 37) C dX7_search_91 (by decide) (fun c91 => absurd c91 (fun q => q rfl)) (fun c91 => ?_)
    refine x_iincE (v := nI n) (L' := [some _, some _, some _]) C dX7_search_94 rfl (pk_m1 n) (by rw [hn]; decide) rfl ?_
    refine x_aload_n C dX7_search_97 rfl ?_
    refine m_getA C Y 22 (by decide) (by decide) wf_X7_53 dX7_search_98 ?_
    refine x_iload_n C dX7_search_101 rfl ?_
    refine x_dup2 C dX7_search_102 rfl rfl ?_
    refine m_ildN C Y 22 (n) (by decide) dX7_search_103 (by simp only [nI_lit, nI_add, pk_mul]) (by simp only [m_len]; omega) ?_
    refine x_iconst (v := 1) C dX7_search_104 (by decide) ?_
    refine x_iadd C dX7_search_105 ?_
    refine m_istN C Y hW.2.1 22 (n) (by decide) dX7_search_106 (by simp only [nI_lit, nI_add, pk_mul]) (by simp only [m_len]; omega) ?_
    refine x_aload_n C dX7_search_107 rfl ?_
    refine m_getA C Y 22 (by decide) (by decide) wf_X7_53 dX7_search_108 ?_
    refine x_iload_n C dX7_search_111 rfl ?_
    refine m_ildN C Y 22 (n) (by decide) dX7_search_112 (by simp only [nI_lit, nI_add, pk_mul]) (by simp only [m_len]; omega) ?_
    rw [MS.sa_a, if_pos ⟨rfl, rfl⟩]
    refine x_iload_n C dX7_search_113 rfl ?_
    refine x_bipush (v := 8) C dX7_search_114 (by decide) ?_
    refine x_icmp_ge (tgt := 124) C dX7_search_116 (by decide) (fun c116 => ?_) (fun c116 => ?_)
    · skip
      refine x_sipush (v := 255) C dX7_search_124 (by decide) ?_
      first | exact T127 _ (if_neg (i8.mp c116)).symm | exact T127 _ (if_pos (Classical.not_not.mp (fun q => c116 (i8.mpr q)))).symm
    · skip
      refine x_bipush (v := 10) C dX7_search_119 (by decide) ?_
      refine x_goto (tgt := 127) C dX7_search_121 (by decide) ?_
      first | exact T127 _ (if_neg (i8.mp c116)).symm | exact T127 _ (if_pos (Classical.not_not.mp (fun q => c116 (i8.mpr q)))).symm
theorem f_cOK_of {S : MS} (h : f_cOK S = true) : f_c S < 100 ∧ S.i 20 = nI (f_c S) := by
  simpa [f_cOK] using h
theorem WFa.one {S : MS} (h : WFa S) : WFa (f_one S) := by
  unfold f_one
  split
  · exact h.find
  · exact h
theorem sr_loop (hW : Wm w M) {S' : MS} {z : Fx} (C : Cx z RX7 cX7_search gw) (Y : Mty z M) (E : Ct z w gw yX7_search (some .int) 6 (40 * 6) (PM M (fun q Q => q = some (.int (S'.i 20)) ∧ Q = S'))) (hn : z.nL = 3) :
    ∀ (t : Nat) (S : MS) (n : Nat), WFa S → n ≤ 12 → f_sr t S n = some S' → X z 0 0 (MA M S) 37 [some (.ref M.o), some (.int (nI n)), some (.int 1)] [] := by
  intro t
  induction t with
  | zero => intro S n _ _ e; exact absurd e (by unfold f_sr; exact fun q => nomatch q)
  | succ t ih =>
    intro S n h hn12 e
    have hm := s_putMask (S := S) hW h
    have hw := h.putM
    rw [f_sr] at e
    have T45 : X z 0 0 (MA M (f_putM S)) 45 [some (.ref M.o), some (.int (nI n)), some (.int 1)] [] := by
      generalize f_putM S = S1 at e hw ⊢
      by_cases h1 : 1 < S1.i 7
      · rw [if_pos h1] at e
        by_cases h2 : n < 12
        · rw [if_pos h2] at e
          have ih2 := ih _ _ ((hw.sa (by decide) (by decide) (by decide)).part) (by omega) e
          have hp := s_setPart (S := S1.sa 22 n 0) hW n h2 0
          refine x_aload_n C dX7_search_45 rfl ?_
          refine m_get C Y 7 (by decide) (by decide) wf_X7_132 dX7_search_46 ?_
          refine x_iconst (v := 1) C dX7_search_49 (by decide) ?_
          refine x_icmp_le (tgt := 72) C dX7_search_50 (by decide) (fun c50 => absurd c50 (Int32.not_le.mpr h1)) (fun c50 => ?_)
          refine x_aload_n C dX7_search_53 rfl ?_
          refine m_getA C Y 22 (by decide) (by decide) wf_X7_53 dX7_search_54 ?_
          refine x_iload_n C dX7_search_57 rfl ?_
          refine x_iconst (v := 0) C dX7_search_58 (by decide) ?_
          refine m_istN C Y hW.2.1 22 (n) (by decide) dX7_search_59 (by simp only [nI_lit, nI_add, pk_mul]) (by simp only [m_len]; omega) ?_
          refine x_aload_n C dX7_search_60 rfl ?_
          refine x_iload_n C dX7_search_61 rfl ?_
          refine x_iconst (v := 0) C dX7_search_62 (by decide) ?_
          refine m_callF C Y hW E (hp) rfl md_X7_setPart wi_X7_setPart ws_X7_setPart wm_X7_181 dX7_search_63 rfl (by decide) (by decide) rfl (by simp [Value.category]) ?_
          refine x_iincE (v := nI (n + 1)) (L' := [some _, some _, some _]) C dX7_search_66 rfl (nI_1 n) (by rw [hn]; decide) rfl ?_
          refine x_goto (tgt := 37) C dX7_search_69 (by decide) ?_
          exact ih2
        · rw [if_neg h2] at e
          exact nomatch e
      · rw [if_neg h1] at e
        by_cases h2 : f_cOK S1 = true
        · rw [if_pos h2] at e
          have T84 : X z 0 0 (MA M (f_one S1)) 84 [some (.ref M.o), some (.int (nI n)), some (.int 1)] [] := by
            have hw1 := hw.one
            generalize f_one S1 = S2 at e hw1 ⊢
            refine x_iconst (v := 0) C dX7_search_84 (by decide) ?_
            refine x_istore_nE (L' := [some _, some _, some _]) C dX7_search_85 (by rw [hn]; decide) rfl ?_
            refine sr_back hW C Y E hn n S2 hn12 (fun g => ?_) (fun g => ?_)
            · rw [if_pos g] at e
              exact ih _ _ (WFa.back n hw1) (Nat.le_trans (f_back_le n S2) hn12) e
            · rw [if_neg (by rw [g]; decide)] at e
              obtain rfl := Option.some.inj e
              refine x_iload_n C dX7_search_37 rfl ?_
              refine x_if_eq (tgt := 170) C dX7_search_38 (by decide) (fun c38 => ?_) (fun c38 => absurd c38 (not_not_intro rfl))
              refine x_aload_n C dX7_search_170 rfl ?_
              refine m_get C Y 20 (by decide) (by decide) wf_X7_175 dX7_search_171 ?_
              refine m_iret C E dX7_search_174 ?_
              exact ⟨rfl, rfl⟩
          by_cases h3 : S1.i 7 = 1
          · have eo : f_one S1 = f_find S1 (f_c S1) := if_pos h3
            rw [eo] at T84
            obtain ⟨k1, k2⟩ := f_cOK_of h2
            have hfd := s_find (S := S1) hW hw (f_c S1) k1 (by rw [f_find0_i _ (by decide) (by decide) (by decide) (by decide) (by decide)]; exact k2)
            refine x_aload_n C dX7_search_45 rfl ?_
            refine m_get C Y 7 (by decide) (by decide) wf_X7_132 dX7_search_46 ?_
            refine x_iconst (v := 1) C dX7_search_49 (by decide) ?_
            refine x_icmp_le (tgt := 72) C dX7_search_50 (by decide) (fun c50 => ?_) (fun c50 => absurd c50 (not_not_intro (Int32.not_lt.mp h1)))
            refine x_aload_n C dX7_search_72 rfl ?_
            refine m_get C Y 7 (by decide) (by decide) wf_X7_132 dX7_search_73 ?_
            refine x_iconst (v := 1) C dX7_search_76 (by decide) ?_
            refine x_icmp_ne (tgt := 84) C dX7_search_77 (by decide) (fun c77 => absurd c77 (not_not_intro h3)) (fun c77 => ?_)
            refine x_aload_n C dX7_search_80 rfl ?_
            refine m_callF C Y hW E (hfd) rfl md_X7_find wi_X7_find ws_X7_find wm_X7_184 dX7_search_81 rfl (by decide) (by decide) rfl (by simp [Value.category]) ?_
            exact T84
          · have eo : f_one S1 = S1 := if_neg h3
            rw [eo] at T84
            refine x_aload_n C dX7_search_45 rfl ?_
            refine m_get C Y 7 (by decide) (by decide) wf_X7_132 dX7_search_46 ?_
            refine x_iconst (v := 1) C dX7_search_49 (by decide) ?_
            refine x_icmp_le (tgt := 72) C dX7_search_50 (by decide) (fun c50 => ?_) (fun c50 => absurd c50 (not_not_intro (Int32.not_lt.mp h1)))
            refine x_aload_n C dX7_search_72 rfl ?_
            refine m_get C Y 7 (by decide) (by decide) wf_X7_132 dX7_search_73 ?_
            refine x_iconst (v := 1) C dX7_search_76 (by decide) ?_
            refine x_icmp_ne (tgt := 84) C dX7_search_77 (by decide) (fun c77 => ?_) (fun c77 => absurd c77 (fun q => h3 q))
            exact T84
        · rw [if_neg h2] at e
          exact nomatch e
    refine x_iload_n C dX7_search_37 rfl ?_
    refine x_if_eq (tgt := 170) C dX7_search_38 (by decide) (fun c38 => absurd c38 (by decide)) (fun c38 => ?_)
    refine x_aload_n C dX7_search_41 rfl ?_
    refine m_callF C Y hW E (hm) rfl md_X7_putMask wi_X7_putMask ws_X7_putMask wm_X7_178 dX7_search_42 rfl (by decide) (by decide) rfl (by simp [Value.category]) ?_
    exact T45
def f_ff (S : MS) : Nat → MS
  | 0 => S
  | n + 1 => (f_ff S n).sa 19 n 255
def f_sr0 (S : MS) : MS := f_ff ((S.si 0 0).si 20 0) 8
theorem WFa.ff {S : MS} (h : WFa S) : ∀ n, WFa (f_ff S n)
  | 0 => h
  | n + 1 => (h.ff n).sa (by decide) (by decide) (by decide)
theorem s_search (hW : Wm w M) (h : WFa S) (t : Nat) (S' : MS) (e : f_sr t (f_sr0 S) 0 = some S') : TF w M yX7_search cX7_search 3 (some .int) 6 [] S (some (.int (S'.i 20))) S' := by
  refine TM.intro hW rfl (Nat.le_of_ble_eq_true rfl) (fun z C Y E hn => ?_)
  have LS := sr_loop hW C Y E hn t (f_sr0 S) 0 (h.si.si.ff 8) (by decide) e
  have LP : ∀ (t b : Nat), b + t = 8 → X z 0 0 (MA M (f_ff ((S.si 0 0).si 20 0) b)) 12 [some (.ref M.o), some (.int (nI b)), none] [] := by
    intro t
    induction t with
    | zero =>
      intro b hb
      obtain rfl : b = 8 := by omega
      refine x_iload_n C dX7_search_12 rfl ?_
      refine x_bipush (v := 8) C dX7_search_13 (by decide) ?_
      refine x_icmp_ge (tgt := 33) C dX7_search_15 (by decide) (fun c15 => ?_) (fun c15 => absurd c15 (by decide))
      refine x_iconst (v := 0) C dX7_search_33 (by decide) ?_
      refine x_istore_nE (L' := [some _, some _, none]) C dX7_search_34 (by rw [hn]; decide) rfl ?_
      refine x_iconst (v := 1) C dX7_search_35 (by decide) ?_
      refine x_istore_nE (L' := [some _, some _, some _]) C dX7_search_36 (by rw [hn]; decide) rfl ?_
      exact LS
    | succ t ih =>
      intro b hb
      have ih2 := ih (b + 1) (by omega)
      refine x_iload_n C dX7_search_12 rfl ?_
      refine x_bipush (v := 8) C dX7_search_13 (by decide) ?_
      refine x_icmp_ge (tgt := 33) C dX7_search_15 (by decide) (fun c15 => absurd c15 (by rw [nI_lit]; exact nI_ge (show b < 8 by omega) (by decide))) (fun c15 => ?_)
      refine x_aload_n C dX7_search_18 rfl ?_
      refine m_getA C Y 19 (by decide) (by decide) wf_X7_47 dX7_search_19 ?_
      refine x_iload_n C dX7_search_22 rfl ?_
      refine x_sipush (v := 255) C dX7_search_23 (by decide) ?_
      refine m_istN C Y hW.2.1 19 (b) (by decide) dX7_search_26 (by simp only [nI_lit, nI_add, pk_mul]) (by simp only [m_len]; omega) ?_
      refine x_iincE (v := nI (b + 1)) (L' := [some _, some _, none]) C dX7_search_27 rfl (nI_1 b) (by rw [hn]; decide) rfl ?_
      refine x_goto (tgt := 12) C dX7_search_30 (by decide) ?_
      exact ih2
  refine x_aload_n C dX7_search_0 rfl ?_
  refine x_iconst (v := 0) C dX7_search_1 (by decide) ?_
  refine m_put C Y hW.2.1 0 (by decide) (by decide) rfl rfl rfl wf_X7_97 dX7_search_2 ?_
  refine x_aload_n C dX7_search_5 rfl ?_
  refine x_iconst (v := 0) C dX7_search_6 (by decide) ?_
  refine m_put C Y hW.2.1 20 (by decide) (by decide) rfl rfl rfl wf_X7_175 dX7_search_7 ?_
  refine x_iconst (v := 0) C dX7_search_10 (by decide) ?_
  refine x_istore_nE (L' := [some _, some _, none]) C dX7_search_11 (by rw [hn]; decide) rfl ?_
  exact LP 8 0 rfl
end Search
