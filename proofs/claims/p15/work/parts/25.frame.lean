/-! MeterBusModel: isFrame. -/
def f_L (S : MS) : Nat := (S.a 38 1).toNatClampNeg
abbrev f_bad (S : MS) (k : Nat) : Prop := 9 < S.a 38 k &&& 15 ∨ ¬ S.a 38 k >>> ((4 : Int32) &&& 31) ≤ 9
def f_ids (S : MS) (L : Nat) : Nat → Nat → Bool × MS
  | 0, _ => (true, S.si 39 (nI (L + 4)))
  | t + 1, k => if f_bad S k then (false, f_bl S 3 (nI k)) else f_ids S L t (k + 1)
def f_fr3 (S : MS) : Bool × MS := if S.a 38 (f_L S + 4) = sumF (S.a 38) 4 (f_L S + 4) &&& 255 then f_ids S (f_L S) 4 7 else (false, f_bl S 2 (nI (f_L S + 4)))
def f_fr2 (S : MS) (n : Nat) : Bool × MS :=
  if n = f_L S + 6 then (if f_isB S n 4 8 8 then (if f_isB S n 6 114 114 then (if f_isB S n (f_L S + 5) 22 22 then f_fr3 S else (false, f_bS S n (f_L S + 5) 22 22)) else (false, f_bS S n 6 114 114)) else (false, f_bS S n 4 8 8))
  else (false, f_bl S 1 (if n < f_L S + 6 then nI n else nI (f_L S + 6)))
def f_fr (S : MS) (n : Nat) : Bool × MS :=
  if f_isB S n 0 104 104 then (if f_isB S n 1 15 252 then (if f_isB S n 2 (S.a 38 1) (S.a 38 1) then (if f_isB S n 3 104 104 then f_fr2 S n else (false, f_bS S n 3 104 104)) else (false, f_bS S n 2 (S.a 38 1) (S.a 38 1))) else (false, f_bS S n 1 15 252))
  else (false, f_bS S n 0 104 104)
theorem f_bS_t {S : MS} {n i : Nat} {lo hi : Int32} (h : f_isB S n i lo hi) : f_bS S n i lo hi = S := if_pos h
section Frame
variable {w : Wd} {M : MW} {S : MS}
theorem s_isB_t (hW : Wm w M) {n i : Nat} (hn3 : n ≤ 300) (hi3 : i < 300) {lo hi : Int32} (h : f_isB S n i lo hi) : TF w M yX7_isByte cX7_isByte 7 (some .boolean) 1 [.int (nI n), .int (nI i), .int lo, .int hi] S (some (.int 1)) S := by
  have g := s_isByte (S := S) hW n i hn3 hi3 lo hi
  rw [bI_t h, f_bS_t h] at g
  exact g
theorem s_isB_f (hW : Wm w M) {n i : Nat} (hn3 : n ≤ 300) (hi3 : i < 300) {lo hi : Int32} (h : ¬ f_isB S n i lo hi) : TF w M yX7_isByte cX7_isByte 7 (some .boolean) 1 [.int (nI n), .int (nI i), .int lo, .int hi] S (some (.int 0)) (f_bS S n i lo hi) := by
  have g := s_isByte (S := S) hW n i hn3 hi3 lo hi
  rw [bI_f h] at g
  exact g
theorem f_L_of {n : Nat} (h : f_isB S n 1 15 252) : 15 ≤ f_L S ∧ f_L S ≤ 252 ∧ S.a 38 1 = nI (f_L S) := by
  obtain ⟨j, h1, h2, e⟩ := in_nI (x := S.a 38 1) (lo := 15) (hi := 252) (by decide) ⟨Int32.not_lt.mp h.2.1, h.2.2⟩ (by decide)
  unfold f_L
  rw [e, nI_clamp (by omega)]
  exact ⟨h1, h2, rfl⟩
/-- the digits of the address, from pc 199 -/
theorem fr_ids (hW : Wm w M) {n L : Nat} (hL2 : L ≤ 252) {z : Fx} {R : Bool × MS} (C : Cx z RX7 cX7_isFrame gw) (Y : Mty z M) (E : Ct z w gw yX7_isFrame (some .boolean) 2 (40 * 2) (PM M (fun q Q => q = some (.int (bI (R.1 = true))) ∧ Q = R.2))) (hn : z.nL = 6) (sv : Int32) :
    ∀ (t k : Nat), k + t = 11 → 7 ≤ k → f_ids S L t k = R → X z 0 0 (MA M S) 199 [some (.ref M.o), some (.int (nI n)), some (.int (nI L)), some (.int sv), some (.int (nI k)), none] [] := by
  intro t
  induction t with
  | zero =>
    intro k hk _ e
    obtain rfl : k = 11 := by omega
    subst e
    refine x_iload C dX7_isFrame_199 rfl ?_
    refine x_bipush (v := 11) C dX7_isFrame_201 (by decide) ?_
    refine x_icmp_ge (tgt := 252) C dX7_isFrame_203 (by decide) (fun c203 => ?_) (fun c203 => absurd c203 (by decide))
    refine x_aload_n C dX7_isFrame_252 rfl ?_
    refine x_iload_n C dX7_isFrame_253 rfl ?_
    refine x_iconst (v := 4) C dX7_isFrame_254 (by decide) ?_
    refine x_iadd C dX7_isFrame_255 ?_
    refine m_put C Y hW.2.1 39 (by decide) (by decide) rfl rfl rfl wf_X7_215 dX7_isFrame_256 ?_
    refine x_iconst (v := 1) C dX7_isFrame_259 (by decide) ?_
    refine m_zret C E dX7_isFrame_260 (by decide) ?_
    exact ⟨rfl, by simp only [nI_lit, nI_add]; rfl⟩
  | succ t ih =>
    intro k hk h7 e
    have hlt : ¬ 11 ≤ nI k := by rw [nI_lit]; exact nI_ge (show k < 11 by omega) (by decide)
    by_cases hb : f_bad S k
    · rw [f_ids, if_pos hb] at e
      subst e
      refine x_iload C dX7_isFrame_199 rfl ?_
      refine x_bipush (v := 11) C dX7_isFrame_201 (by decide) ?_
      refine x_icmp_ge (tgt := 252) C dX7_isFrame_203 (by decide) (fun c203 => absurd c203 hlt) (fun c203 => ?_)
      refine x_aload_n C dX7_isFrame_206 rfl ?_
      refine m_getA C Y 38 (by decide) (by decide) wf_X7_94 dX7_isFrame_207 ?_
      refine x_iload C dX7_isFrame_210 rfl ?_
      refine m_ildN C Y 38 (k) (by decide) dX7_isFrame_212 (by simp only [nI_lit, nI_add, pk_mul]) (by simp only [m_len]; omega) ?_
      refine x_bipush (v := 15) C dX7_isFrame_213 (by decide) ?_
      refine x_iand C dX7_isFrame_215 ?_
      refine x_bipush (v := 9) C dX7_isFrame_216 (by decide) ?_
      refine x_icmp_gt (tgt := 235) C dX7_isFrame_218 (by decide) (fun c218 => ?_) (fun c218 => ?_)
      · skip
        refine x_aload_n C dX7_isFrame_235 rfl ?_
        refine x_iconst (v := 3) C dX7_isFrame_236 (by decide) ?_
        refine x_iload C dX7_isFrame_237 rfl ?_
        refine m_callF C Y hW E (s_blame hW _ _) rfl md_X7_blame wi_X7_blame ws_X7_blame wm_X7_207 dX7_isFrame_239 rfl (by decide) (by decide) rfl (by simp [Value.category]) ?_
        refine x_istoreE (L' := [some _, some _, some _, some _, some _, some _]) C dX7_isFrame_242 (by rw [hn]; decide) rfl ?_
        refine x_iconst (v := 0) C dX7_isFrame_244 (by decide) ?_
        refine m_zret C E dX7_isFrame_245 (by decide) ?_
        exact ⟨rfl, rfl⟩
      · skip
        refine x_aload_n C dX7_isFrame_221 rfl ?_
        refine m_getA C Y 38 (by decide) (by decide) wf_X7_94 dX7_isFrame_222 ?_
        refine x_iload C dX7_isFrame_225 rfl ?_
        refine m_ildN C Y 38 (k) (by decide) dX7_isFrame_227 (by simp only [nI_lit, nI_add, pk_mul]) (by simp only [m_len]; omega) ?_
        refine x_iconst (v := 4) C dX7_isFrame_228 (by decide) ?_
        refine x_ishr C dX7_isFrame_229 ?_
        refine x_bipush (v := 9) C dX7_isFrame_230 (by decide) ?_
        refine x_icmp_le (tgt := 246) C dX7_isFrame_232 (by decide) (fun c232 => ?_) (fun c232 => ?_)
        · skip
          exact absurd hb (fun q => q.elim c218 (fun r => r c232))
        · skip
          refine x_aload_n C dX7_isFrame_235 rfl ?_
          refine x_iconst (v := 3) C dX7_isFrame_236 (by decide) ?_
          refine x_iload C dX7_isFrame_237 rfl ?_
          refine m_callF C Y hW E (s_blame hW _ _) rfl md_X7_blame wi_X7_blame ws_X7_blame wm_X7_207 dX7_isFrame_239 rfl (by decide) (by decide) rfl (by simp [Value.category]) ?_
          refine x_istoreE (L' := [some _, some _, some _, some _, some _, some _]) C dX7_isFrame_242 (by rw [hn]; decide) rfl ?_
          refine x_iconst (v := 0) C dX7_isFrame_244 (by decide) ?_
          refine m_zret C E dX7_isFrame_245 (by decide) ?_
          exact ⟨rfl, rfl⟩
    · rw [f_ids, if_neg hb] at e
      have ih2 := ih (k + 1) (by omega) (by omega) e
      refine x_iload C dX7_isFrame_199 rfl ?_
      refine x_bipush (v := 11) C dX7_isFrame_201 (by decide) ?_
      refine x_icmp_ge (tgt := 252) C dX7_isFrame_203 (by decide) (fun c203 => absurd c203 hlt) (fun c203 => ?_)
      refine x_aload_n C dX7_isFrame_206 rfl ?_
      refine m_getA C Y 38 (by decide) (by decide) wf_X7_94 dX7_isFrame_207 ?_
      refine x_iload C dX7_isFrame_210 rfl ?_
      refine m_ildN C Y 38 (k) (by decide) dX7_isFrame_212 (by simp only [nI_lit, nI_add, pk_mul]) (by simp only [m_len]; omega) ?_
      refine x_bipush (v := 15) C dX7_isFrame_213 (by decide) ?_
      refine x_iand C dX7_isFrame_215 ?_
      refine x_bipush (v := 9) C dX7_isFrame_216 (by decide) ?_
      refine x_icmp_gt (tgt := 235) C dX7_isFrame_218 (by decide) (fun c218 => absurd c218 (fun q => hb (Or.inl q))) (fun c218 => ?_)
      refine x_aload_n C dX7_isFrame_221 rfl ?_
      refine m_getA C Y 38 (by decide) (by decide) wf_X7_94 dX7_isFrame_222 ?_
      refine x_iload C dX7_isFrame_225 rfl ?_
      refine m_ildN C Y 38 (k) (by decide) dX7_isFrame_227 (by simp only [nI_lit, nI_add, pk_mul]) (by simp only [m_len]; omega) ?_
      refine x_iconst (v := 4) C dX7_isFrame_228 (by decide) ?_
      refine x_ishr C dX7_isFrame_229 ?_
      refine x_bipush (v := 9) C dX7_isFrame_230 (by decide) ?_
      refine x_icmp_le (tgt := 246) C dX7_isFrame_232 (by decide) (fun c232 => ?_) (fun c232 => absurd c232 (not_not_intro (Classical.not_not.mp (fun q => hb (Or.inr q)))))
      refine x_iincE (v := nI (k + 1)) (L' := [some _, some _, some _, some _, some _, none]) C dX7_isFrame_246 rfl (nI_1 k) (by rw [hn]; decide) rfl ?_
      refine x_goto (tgt := 199) C dX7_isFrame_249 (by decide) ?_
      exact ih2
/-- the sum, from pc 138 -/
theorem fr_sum (hW : Wm w M) {n : Nat} (hL1 : 15 ≤ f_L S) (hL2 : f_L S ≤ 252) {z : Fx} (C : Cx z RX7 cX7_isFrame gw) (Y : Mty z M) (E : Ct z w gw yX7_isFrame (some .boolean) 2 (40 * 2) (PM M (fun q Q => q = some (.int (bI ((f_fr3 S).1 = true))) ∧ Q = (f_fr3 S).2))) (hn : z.nL = 6) :
    X z 0 0 (MA M S) 138 [some (.ref M.o), some (.int (nI n)), some (.int (nI (f_L S))), none, none, none] [] := by
  have e4 : nI (f_L S) + 4 = nI (f_L S + 4) := by simp only [nI_lit, nI_add]
  have LP : ∀ (t b : Nat), b + t = f_L S + 4 → 4 ≤ b → X z 0 0 (MA M S) 143 [some (.ref M.o), some (.int (nI n)), some (.int (nI (f_L S))), some (.int (sumF (S.a 38) 4 b)), some (.int (nI b)), none] [] := by
    intro t
    induction t with
    | zero =>
      intro b hb h4
      obtain rfl : b = f_L S + 4 := by omega
      by_cases hs : S.a 38 (f_L S + 4) = sumF (S.a 38) 4 (f_L S + 4) &&& 255
      · have e : f_fr3 S = f_ids S (f_L S) 4 7 := if_pos hs
        rw [e] at E
        refine x_iload C dX7_isFrame_143 rfl ?_
        refine x_iload_n C dX7_isFrame_145 rfl ?_
        refine x_iconst (v := 4) C dX7_isFrame_146 (by decide) ?_
        refine x_iadd C dX7_isFrame_147 ?_
        rw [e4]
        refine x_icmp_ge (tgt := 167) C dX7_isFrame_148 (by decide) (fun c148 => ?_) (fun c148 => absurd c148 (not_not_intro (Int32.le_refl _)))
        refine x_aload_n C dX7_isFrame_167 rfl ?_
        refine m_getA C Y 38 (by decide) (by decide) wf_X7_94 dX7_isFrame_168 ?_
        refine x_iload_n C dX7_isFrame_171 rfl ?_
        refine x_iconst (v := 4) C dX7_isFrame_172 (by decide) ?_
        refine x_iadd C dX7_isFrame_173 ?_
        rw [e4]
        refine m_ildN C Y 38 (f_L S + 4) (by decide) dX7_isFrame_174 rfl (by simp only [m_len]; omega) ?_
        refine x_iload_n C dX7_isFrame_175 rfl ?_
        refine x_sipush (v := 255) C dX7_isFrame_176 (by decide) ?_
        refine x_iand C dX7_isFrame_179 ?_
        refine x_icmp_eq (tgt := 195) C dX7_isFrame_180 (by decide) (fun c180 => ?_) (fun c180 => absurd c180 (not_not_intro hs))
        refine x_bipush (v := 7) C dX7_isFrame_195 (by decide) ?_
        refine x_istoreE (L' := [some _, some _, some _, some _, some _, none]) C dX7_isFrame_197 (by rw [hn]; decide) rfl ?_
        exact fr_ids hW hL2 C Y E hn _ 4 7 rfl (by decide) rfl
      · have e : f_fr3 S = (false, f_bl S 2 (nI (f_L S + 4))) := if_neg hs
        rw [e] at E
        refine x_iload C dX7_isFrame_143 rfl ?_
        refine x_iload_n C dX7_isFrame_145 rfl ?_
        refine x_iconst (v := 4) C dX7_isFrame_146 (by decide) ?_
        refine x_iadd C dX7_isFrame_147 ?_
        rw [e4]
        refine x_icmp_ge (tgt := 167) C dX7_isFrame_148 (by decide) (fun c148 => ?_) (fun c148 => absurd c148 (not_not_intro (Int32.le_refl _)))
        refine x_aload_n C dX7_isFrame_167 rfl ?_
        refine m_getA C Y 38 (by decide) (by decide) wf_X7_94 dX7_isFrame_168 ?_
        refine x_iload_n C dX7_isFrame_171 rfl ?_
        refine x_iconst (v := 4) C dX7_isFrame_172 (by decide) ?_
        refine x_iadd C dX7_isFrame_173 ?_
        rw [e4]
        refine m_ildN C Y 38 (f_L S + 4) (by decide) dX7_isFrame_174 rfl (by simp only [m_len]; omega) ?_
        refine x_iload_n C dX7_isFrame_175 rfl ?_
        refine x_sipush (v := 255) C dX7_isFrame_176 (by decide) ?_
        refine x_iand C dX7_isFrame_179 ?_
        refine x_icmp_eq (tgt := 195) C dX7_isFrame_180 (by decide) (fun c180 => absurd c180 (fun q => hs q)) (fun c180 => ?_)
        refine x_aload_n C dX7_isFrame_183 rfl ?_
        refine x_iconst (v := 2) C dX7_isFrame_184 (by decide) ?_
        refine x_iload_n C dX7_isFrame_185 rfl ?_
        refine x_iconst (v := 4) C dX7_isFrame_186 (by decide) ?_
        refine x_iadd C dX7_isFrame_187 ?_
        rw [e4]
        refine m_callF C Y hW E (s_blame hW _ _) rfl md_X7_blame wi_X7_blame ws_X7_blame wm_X7_207 dX7_isFrame_188 rfl (by decide) (by decide) rfl (by simp [Value.category]) ?_
        refine x_istoreE (L' := [some _, some _, some _, some _, some _, none]) C dX7_isFrame_191 (by rw [hn]; decide) rfl ?_
        refine x_iconst (v := 0) C dX7_isFrame_193 (by decide) ?_
        refine m_zret C E dX7_isFrame_194 (by decide) ?_
        exact ⟨rfl, rfl⟩
    | succ t ih =>
      intro b hb h4
      have ih2 := ih (b + 1) (by omega) (by omega)
      refine x_iload C dX7_isFrame_143 rfl ?_
      refine x_iload_n C dX7_isFrame_145 rfl ?_
      refine x_iconst (v := 4) C dX7_isFrame_146 (by decide) ?_
      refine x_iadd C dX7_isFrame_147 ?_
      rw [e4]
      refine x_icmp_ge (tgt := 167) C dX7_isFrame_148 (by decide) (fun c148 => absurd c148 (nI_ge (show b < f_L S + 4 by omega) (by omega))) (fun c148 => ?_)
      refine x_iload_n C dX7_isFrame_151 rfl ?_
      refine x_aload_n C dX7_isFrame_152 rfl ?_
      refine m_getA C Y 38 (by decide) (by decide) wf_X7_94 dX7_isFrame_153 ?_
      refine x_iload C dX7_isFrame_156 rfl ?_
      refine m_ildN C Y 38 (b) (by decide) dX7_isFrame_158 (by simp only [nI_lit, nI_add, pk_mul]) (by simp only [m_len]; omega) ?_
      refine x_iadd C dX7_isFrame_159 ?_
      rw [← sumF_s (S.a 38) h4]
      refine x_istore_nE (L' := [some _, some _, some _, some _, some _, none]) C dX7_isFrame_160 (by rw [hn]; decide) rfl ?_
      refine x_iincE (v := nI (b + 1)) (L' := [some _, some _, some _, some _, some _, none]) C dX7_isFrame_161 rfl (nI_1 b) (by rw [hn]; decide) rfl ?_
      refine x_goto (tgt := 143) C dX7_isFrame_164 (by decide) ?_
      exact ih2
  refine x_iconst (v := 0) C dX7_isFrame_138 (by decide) ?_
  refine x_istore_nE (L' := [some _, some _, some _, some _, none, none]) C dX7_isFrame_139 (by rw [hn]; decide) rfl ?_
  refine x_iconst (v := 4) C dX7_isFrame_140 (by decide) ?_
  refine x_istoreE (L' := [some _, some _, some _, some _, some _, none]) C dX7_isFrame_141 (by rw [hn]; decide) rfl ?_
  exact LP (f_L S) 4 (by omega) (by omega)
/-- behind the first four bytes, from pc 62 -/
theorem fr_mid (hW : Wm w M) {n : Nat} (hn3 : n ≤ 300) (hL1 : 15 ≤ f_L S) (hL2 : f_L S ≤ 252) {z : Fx} (C : Cx z RX7 cX7_isFrame gw) (Y : Mty z M) (E : Ct z w gw yX7_isFrame (some .boolean) 2 (40 * 2) (PM M (fun q Q => q = some (.int (bI ((f_fr2 S n).1 = true))) ∧ Q = (f_fr2 S n).2))) (hn : z.nL = 6) :
    X z 0 0 (MA M S) 62 [some (.ref M.o), some (.int (nI n)), some (.int (nI (f_L S))), none, none, none] [] := by
  have e6 : nI (f_L S) + 6 = nI (f_L S + 6) := by simp only [nI_lit, nI_add]
  have e5 : nI (f_L S) + 5 = nI (f_L S + 5) := by simp only [nI_lit, nI_add]
  have c6 : nI n = nI (f_L S + 6) ↔ n = f_L S + 6 := nI_eq (by omega) (by omega)
  have g6 : nI (f_L S + 6) ≤ nI n ↔ ¬ n < f_L S + 6 := by rw [nI_leI (by omega) (by omega)]; omega
  unfold f_fr2 at E
  by_cases h0 : n = f_L S + 6
  · rw [if_pos h0] at E
    by_cases h1 : f_isB S n 4 8 8
    · rw [if_pos h1] at E
      have b1 := s_isB_t hW hn3 (by decide) h1
      by_cases h2 : f_isB S n 6 114 114
      · rw [if_pos h2] at E
        have b2 := s_isB_t hW hn3 (by decide) h2
        by_cases h3 : f_isB S n (f_L S + 5) 22 22
        · rw [if_pos h3] at E
          have b3 := s_isB_t hW hn3 (by omega) h3
          refine x_iload_n C dX7_isFrame_62 rfl ?_
          refine x_iload_n C dX7_isFrame_63 rfl ?_
          refine x_bipush (v := 6) C dX7_isFrame_64 (by decide) ?_
          refine x_iadd C dX7_isFrame_66 ?_
          rw [e6]
          refine x_icmp_eq (tgt := 94) C dX7_isFrame_67 (by decide) (fun c67 => ?_) (fun c67 => absurd c67 (not_not_intro (c6.mpr h0)))
          refine x_aload_n C dX7_isFrame_94 rfl ?_
          refine x_iload_n C dX7_isFrame_95 rfl ?_
          refine x_iconst (v := 4) C dX7_isFrame_96 (by decide) ?_
          refine x_bipush (v := 8) C dX7_isFrame_97 (by decide) ?_
          refine x_bipush (v := 8) C dX7_isFrame_99 (by decide) ?_
          refine m_callF C Y hW E (b1) rfl md_X7_isByte wi_X7_isByte ws_X7_isByte wm_X7_211 dX7_isFrame_101 rfl (by decide) (by decide) rfl (by simp [Value.category]) ?_
          refine x_if_eq (tgt := 136) C dX7_isFrame_104 (by decide) (fun c104 => absurd c104 (by decide)) (fun c104 => ?_)
          refine x_aload_n C dX7_isFrame_107 rfl ?_
          refine x_iload_n C dX7_isFrame_108 rfl ?_
          refine x_bipush (v := 6) C dX7_isFrame_109 (by decide) ?_
          refine x_bipush (v := 114) C dX7_isFrame_111 (by decide) ?_
          refine x_bipush (v := 114) C dX7_isFrame_113 (by decide) ?_
          refine m_callF C Y hW E (b2) rfl md_X7_isByte wi_X7_isByte ws_X7_isByte wm_X7_211 dX7_isFrame_115 rfl (by decide) (by decide) rfl (by simp [Value.category]) ?_
          refine x_if_eq (tgt := 136) C dX7_isFrame_118 (by decide) (fun c118 => absurd c118 (by decide)) (fun c118 => ?_)
          refine x_aload_n C dX7_isFrame_121 rfl ?_
          refine x_iload_n C dX7_isFrame_122 rfl ?_
          refine x_iload_n C dX7_isFrame_123 rfl ?_
          refine x_iconst (v := 5) C dX7_isFrame_124 (by decide) ?_
          refine x_iadd C dX7_isFrame_125 ?_
          refine x_bipush (v := 22) C dX7_isFrame_126 (by decide) ?_
          refine x_bipush (v := 22) C dX7_isFrame_128 (by decide) ?_
          rw [e5]
          refine m_callF C Y hW E (b3) rfl md_X7_isByte wi_X7_isByte ws_X7_isByte wm_X7_211 dX7_isFrame_130 rfl (by decide) (by decide) rfl (by simp [Value.category]) ?_
          refine x_if_ne (tgt := 138) C dX7_isFrame_133 (by decide) (fun c133 => ?_) (fun c133 => absurd c133 (by decide))
          exact fr_sum hW hL1 hL2 C Y E hn
        · rw [if_neg h3] at E
          have b3 := s_isB_f hW hn3 (by omega) h3
          refine x_iload_n C dX7_isFrame_62 rfl ?_
          refine x_iload_n C dX7_isFrame_63 rfl ?_
          refine x_bipush (v := 6) C dX7_isFrame_64 (by decide) ?_
          refine x_iadd C dX7_isFrame_66 ?_
          rw [e6]
          refine x_icmp_eq (tgt := 94) C dX7_isFrame_67 (by decide) (fun c67 => ?_) (fun c67 => absurd c67 (not_not_intro (c6.mpr h0)))
          refine x_aload_n C dX7_isFrame_94 rfl ?_
          refine x_iload_n C dX7_isFrame_95 rfl ?_
          refine x_iconst (v := 4) C dX7_isFrame_96 (by decide) ?_
          refine x_bipush (v := 8) C dX7_isFrame_97 (by decide) ?_
          refine x_bipush (v := 8) C dX7_isFrame_99 (by decide) ?_
          refine m_callF C Y hW E (b1) rfl md_X7_isByte wi_X7_isByte ws_X7_isByte wm_X7_211 dX7_isFrame_101 rfl (by decide) (by decide) rfl (by simp [Value.category]) ?_
          refine x_if_eq (tgt := 136) C dX7_isFrame_104 (by decide) (fun c104 => absurd c104 (by decide)) (fun c104 => ?_)
          refine x_aload_n C dX7_isFrame_107 rfl ?_
          refine x_iload_n C dX7_isFrame_108 rfl ?_
          refine x_bipush (v := 6) C dX7_isFrame_109 (by decide) ?_
          refine x_bipush (v := 114) C dX7_isFrame_111 (by decide) ?_
          refine x_bipush (v := 114) C dX7_isFrame_113 (by decide) ?_
          refine m_callF C Y hW E (b2) rfl md_X7_isByte wi_X7_isByte ws_X7_isByte wm_X7_211 dX7_isFrame_115 rfl (by decide) (by decide) rfl (by simp [Value.category]) ?_
          refine x_if_eq (tgt := 136) C dX7_isFrame_118 (by decide) (fun c118 => absurd c118 (by decide)) (fun c118 => ?_)
          refine x_aload_n C dX7_isFrame_121 rfl ?_
          refine x_iload_n C dX7_isFrame_122 rfl ?_
          refine x_iload_n C dX7_isFrame_123 rfl ?_
          refine x_iconst (v := 5) C dX7_isFrame_124 (by decide) ?_
          refine x_iadd C dX7_isFrame_125 ?_
          refine x_bipush (v := 22) C dX7_isFrame_126 (by decide) ?_
          refine x_bipush (v := 22) C dX7_isFrame_128 (by decide) ?_
          rw [e5]
          refine m_callF C Y hW E (b3) rfl md_X7_isByte wi_X7_isByte ws_X7_isByte wm_X7_211 dX7_isFrame_130 rfl (by decide) (by decide) rfl (by simp [Value.category]) ?_
          refine x_if_ne (tgt := 138) C dX7_isFrame_133 (by decide) (fun c133 => absurd c133 (not_not_intro rfl)) (fun c133 => ?_)
          refine x_iconst (v := 0) C dX7_isFrame_136 (by decide) ?_
          refine m_zret C E dX7_isFrame_137 (by decide) ?_
          exact ⟨rfl, rfl⟩
      · rw [if_neg h2] at E
        have b2 := s_isB_f hW hn3 (by decide) h2
        refine x_iload_n C dX7_isFrame_62 rfl ?_
        refine x_iload_n C dX7_isFrame_63 rfl ?_
        refine x_bipush (v := 6) C dX7_isFrame_64 (by decide) ?_
        refine x_iadd C dX7_isFrame_66 ?_
        rw [e6]
        refine x_icmp_eq (tgt := 94) C dX7_isFrame_67 (by decide) (fun c67 => ?_) (fun c67 => absurd c67 (not_not_intro (c6.mpr h0)))
        refine x_aload_n C dX7_isFrame_94 rfl ?_
        refine x_iload_n C dX7_isFrame_95 rfl ?_
        refine x_iconst (v := 4) C dX7_isFrame_96 (by decide) ?_
        refine x_bipush (v := 8) C dX7_isFrame_97 (by decide) ?_
        refine x_bipush (v := 8) C dX7_isFrame_99 (by decide) ?_
        refine m_callF C Y hW E (b1) rfl md_X7_isByte wi_X7_isByte ws_X7_isByte wm_X7_211 dX7_isFrame_101 rfl (by decide) (by decide) rfl (by simp [Value.category]) ?_
        refine x_if_eq (tgt := 136) C dX7_isFrame_104 (by decide) (fun c104 => absurd c104 (by decide)) (fun c104 => ?_)
        refine x_aload_n C dX7_isFrame_107 rfl ?_
        refine x_iload_n C dX7_isFrame_108 rfl ?_
        refine x_bipush (v := 6) C dX7_isFrame_109 (by decide) ?_
        refine x_bipush (v := 114) C dX7_isFrame_111 (by decide) ?_
        refine x_bipush (v := 114) C dX7_isFrame_113 (by decide) ?_
        refine m_callF C Y hW E (b2) rfl md_X7_isByte wi_X7_isByte ws_X7_isByte wm_X7_211 dX7_isFrame_115 rfl (by decide) (by decide) rfl (by simp [Value.category]) ?_
        refine x_if_eq (tgt := 136) C dX7_isFrame_118 (by decide) (fun c118 => ?_) (fun c118 => absurd c118 (not_not_intro rfl))
        refine x_iconst (v := 0) C dX7_isFrame_136 (by decide) ?_
        refine m_zret C E dX7_isFrame_137 (by decide) ?_
        exact ⟨rfl, rfl⟩
    · rw [if_neg h1] at E
      have b1 := s_isB_f hW hn3 (by decide) h1
      refine x_iload_n C dX7_isFrame_62 rfl ?_
      refine x_iload_n C dX7_isFrame_63 rfl ?_
      refine x_bipush (v := 6) C dX7_isFrame_64 (by decide) ?_
      refine x_iadd C dX7_isFrame_66 ?_
      rw [e6]
      refine x_icmp_eq (tgt := 94) C dX7_isFrame_67 (by decide) (fun c67 => ?_) (fun c67 => absurd c67 (not_not_intro (c6.mpr h0)))
      refine x_aload_n C dX7_isFrame_94 rfl ?_
      refine x_iload_n C dX7_isFrame_95 rfl ?_
      refine x_iconst (v := 4) C dX7_isFrame_96 (by decide) ?_
      refine x_bipush (v := 8) C dX7_isFrame_97 (by decide) ?_
      refine x_bipush (v := 8) C dX7_isFrame_99 (by decide) ?_
      refine m_callF C Y hW E (b1) rfl md_X7_isByte wi_X7_isByte ws_X7_isByte wm_X7_211 dX7_isFrame_101 rfl (by decide) (by decide) rfl (by simp [Value.category]) ?_
      refine x_if_eq (tgt := 136) C dX7_isFrame_104 (by decide) (fun c104 => ?_) (fun c104 => absurd c104 (not_not_intro rfl))
      refine x_iconst (v := 0) C dX7_isFrame_136 (by decide) ?_
      refine m_zret C E dX7_isFrame_137 (by decide) ?_
      exact ⟨rfl, rfl⟩
  · rw [if_neg h0] at E
    refine x_iload_n C dX7_isFrame_62 rfl ?_
    refine x_iload_n C dX7_isFrame_63 rfl ?_
    refine x_bipush (v := 6) C dX7_isFrame_64 (by decide) ?_
    refine x_iadd C dX7_isFrame_66 ?_
    rw [e6]
    refine x_icmp_eq (tgt := 94) C dX7_isFrame_67 (by decide) (fun c67 => absurd c67 (fun q => h0 (c6.mp q))) (fun c67 => ?_)
    refine x_aload_n C dX7_isFrame_70 rfl ?_
    refine x_iconst (v := 1) C dX7_isFrame_71 (by decide) ?_
    refine x_iload_n C dX7_isFrame_72 rfl ?_
    refine x_iload_n C dX7_isFrame_73 rfl ?_
    refine x_bipush (v := 6) C dX7_isFrame_74 (by decide) ?_
    refine x_iadd C dX7_isFrame_76 ?_
    rw [e6]
    refine x_icmp_ge (tgt := 84) C dX7_isFrame_77 (by decide) (fun c77 => ?_) (fun c77 => ?_)
    · skip
      refine x_iload_n C dX7_isFrame_84 rfl ?_
      refine x_bipush (v := 6) C dX7_isFrame_85 (by decide) ?_
      refine x_iadd C dX7_isFrame_87 ?_
      try rw [e6]
      refine m_callF C Y hW E (s_blame hW _ _) rfl md_X7_blame wi_X7_blame ws_X7_blame wm_X7_207 dX7_isFrame_88 rfl (by decide) (by decide) rfl (by simp [Value.category]) ?_
      refine x_istore_nE (L' := [some _, some _, some _, some _, none, none]) C dX7_isFrame_91 (by rw [hn]; decide) rfl ?_
      refine x_iconst (v := 0) C dX7_isFrame_92 (by decide) ?_
      refine m_zret C E dX7_isFrame_93 (by decide) ?_
      first | exact ⟨rfl, congrArg (f_bl S 1) (if_neg (g6.mp c77)).symm⟩ | exact ⟨rfl, congrArg (f_bl S 1) (if_pos (Classical.not_not.mp (fun q => c77 (g6.mpr q)))).symm⟩
    · skip
      refine x_iload_n C dX7_isFrame_80 rfl ?_
      refine x_goto (tgt := 88) C dX7_isFrame_81 (by decide) ?_
      try rw [e6]
      refine m_callF C Y hW E (s_blame hW _ _) rfl md_X7_blame wi_X7_blame ws_X7_blame wm_X7_207 dX7_isFrame_88 rfl (by decide) (by decide) rfl (by simp [Value.category]) ?_
      refine x_istore_nE (L' := [some _, some _, some _, some _, none, none]) C dX7_isFrame_91 (by rw [hn]; decide) rfl ?_
      refine x_iconst (v := 0) C dX7_isFrame_92 (by decide) ?_
      refine m_zret C E dX7_isFrame_93 (by decide) ?_
      first | exact ⟨rfl, congrArg (f_bl S 1) (if_neg (g6.mp c77)).symm⟩ | exact ⟨rfl, congrArg (f_bl S 1) (if_pos (Classical.not_not.mp (fun q => c77 (g6.mpr q)))).symm⟩
theorem s_isFrame (hW : Wm w M) (n : Nat) (hn3 : n ≤ 300) : TF w M yX7_isFrame cX7_isFrame 6 (some .boolean) 2 [.int (nI n)] S (some (.int (bI ((f_fr S n).1 = true)))) (f_fr S n).2 := by
  refine TM.intro hW rfl (Nat.le_of_ble_eq_true rfl) (fun z C Y E hn => ?_)
  unfold f_fr at E
  by_cases h0 : f_isB S n 0 104 104
  · rw [if_pos h0] at E
    have b0 := s_isB_t hW hn3 (by decide) h0
    by_cases h1 : f_isB S n 1 15 252
    · rw [if_pos h1] at E
      have b1 := s_isB_t hW hn3 (by decide) h1
      obtain ⟨l1, l2, l3⟩ := f_L_of h1
      by_cases h2 : f_isB S n 2 (S.a 38 1) (S.a 38 1)
      · rw [if_pos h2] at E
        have b2 := s_isB_t hW hn3 (by decide) h2
        rw [l3] at b2
        by_cases h3 : f_isB S n 3 104 104
        · rw [if_pos h3] at E
          have b3 := s_isB_t hW hn3 (by decide) h3
          refine x_aload_n C dX7_isFrame_0 rfl ?_
          refine x_iload_n C dX7_isFrame_1 rfl ?_
          refine x_iconst (v := 0) C dX7_isFrame_2 (by decide) ?_
          refine x_bipush (v := 104) C dX7_isFrame_3 (by decide) ?_
          refine x_bipush (v := 104) C dX7_isFrame_5 (by decide) ?_
          refine m_callF C Y hW E (b0) rfl md_X7_isByte wi_X7_isByte ws_X7_isByte wm_X7_211 dX7_isFrame_7 rfl (by decide) (by decide) rfl (by simp [Value.category]) ?_
          refine x_if_eq (tgt := 27) C dX7_isFrame_10 (by decide) (fun c10 => absurd c10 (by decide)) (fun c10 => ?_)
          refine x_aload_n C dX7_isFrame_13 rfl ?_
          refine x_iload_n C dX7_isFrame_14 rfl ?_
          refine x_iconst (v := 1) C dX7_isFrame_15 (by decide) ?_
          refine x_bipush (v := 15) C dX7_isFrame_16 (by decide) ?_
          refine x_sipush (v := 252) C dX7_isFrame_18 (by decide) ?_
          refine m_callF C Y hW E (b1) rfl md_X7_isByte wi_X7_isByte ws_X7_isByte wm_X7_211 dX7_isFrame_21 rfl (by decide) (by decide) rfl (by simp [Value.category]) ?_
          refine x_if_ne (tgt := 29) C dX7_isFrame_24 (by decide) (fun c24 => ?_) (fun c24 => absurd c24 (by decide))
          refine x_aload_n C dX7_isFrame_29 rfl ?_
          refine m_getA C Y 38 (by decide) (by decide) wf_X7_94 dX7_isFrame_30 ?_
          refine x_iconst (v := 1) C dX7_isFrame_33 (by decide) ?_
          refine m_ildN C Y 38 (1) (by decide) dX7_isFrame_34 (by simp only [nI_lit, nI_add, pk_mul]) (by simp only [m_len]; omega) ?_
          rw [l3]
          refine x_istore_nE (L' := [some _, some _, some _, none, none, none]) C dX7_isFrame_35 (by rw [hn]; decide) rfl ?_
          refine x_aload_n C dX7_isFrame_36 rfl ?_
          refine x_iload_n C dX7_isFrame_37 rfl ?_
          refine x_iconst (v := 2) C dX7_isFrame_38 (by decide) ?_
          refine x_iload_n C dX7_isFrame_39 rfl ?_
          refine x_iload_n C dX7_isFrame_40 rfl ?_
          refine m_callF C Y hW E (b2) rfl md_X7_isByte wi_X7_isByte ws_X7_isByte wm_X7_211 dX7_isFrame_41 rfl (by decide) (by decide) rfl (by simp [Value.category]) ?_
          refine x_if_eq (tgt := 60) C dX7_isFrame_44 (by decide) (fun c44 => absurd c44 (by decide)) (fun c44 => ?_)
          refine x_aload_n C dX7_isFrame_47 rfl ?_
          refine x_iload_n C dX7_isFrame_48 rfl ?_
          refine x_iconst (v := 3) C dX7_isFrame_49 (by decide) ?_
          refine x_bipush (v := 104) C dX7_isFrame_50 (by decide) ?_
          refine x_bipush (v := 104) C dX7_isFrame_52 (by decide) ?_
          refine m_callF C Y hW E (b3) rfl md_X7_isByte wi_X7_isByte ws_X7_isByte wm_X7_211 dX7_isFrame_54 rfl (by decide) (by decide) rfl (by simp [Value.category]) ?_
          refine x_if_ne (tgt := 62) C dX7_isFrame_57 (by decide) (fun c57 => ?_) (fun c57 => absurd c57 (by decide))
          exact fr_mid hW hn3 l1 l2 C Y E hn
        · rw [if_neg h3] at E
          have b3 := s_isB_f hW hn3 (by decide) h3
          refine x_aload_n C dX7_isFrame_0 rfl ?_
          refine x_iload_n C dX7_isFrame_1 rfl ?_
          refine x_iconst (v := 0) C dX7_isFrame_2 (by decide) ?_
          refine x_bipush (v := 104) C dX7_isFrame_3 (by decide) ?_
          refine x_bipush (v := 104) C dX7_isFrame_5 (by decide) ?_
          refine m_callF C Y hW E (b0) rfl md_X7_isByte wi_X7_isByte ws_X7_isByte wm_X7_211 dX7_isFrame_7 rfl (by decide) (by decide) rfl (by simp [Value.category]) ?_
          refine x_if_eq (tgt := 27) C dX7_isFrame_10 (by decide) (fun c10 => absurd c10 (by decide)) (fun c10 => ?_)
          refine x_aload_n C dX7_isFrame_13 rfl ?_
          refine x_iload_n C dX7_isFrame_14 rfl ?_
          refine x_iconst (v := 1) C dX7_isFrame_15 (by decide) ?_
          refine x_bipush (v := 15) C dX7_isFrame_16 (by decide) ?_
          refine x_sipush (v := 252) C dX7_isFrame_18 (by decide) ?_
          refine m_callF C Y hW E (b1) rfl md_X7_isByte wi_X7_isByte ws_X7_isByte wm_X7_211 dX7_isFrame_21 rfl (by decide) (by decide) rfl (by simp [Value.category]) ?_
          refine x_if_ne (tgt := 29) C dX7_isFrame_24 (by decide) (fun c24 => ?_) (fun c24 => absurd c24 (by decide))
          refine x_aload_n C dX7_isFrame_29 rfl ?_
          refine m_getA C Y 38 (by decide) (by decide) wf_X7_94 dX7_isFrame_30 ?_
          refine x_iconst (v := 1) C dX7_isFrame_33 (by decide) ?_
          refine m_ildN C Y 38 (1) (by decide) dX7_isFrame_34 (by simp only [nI_lit, nI_add, pk_mul]) (by simp only [m_len]; omega) ?_
          rw [l3]
          refine x_istore_nE (L' := [some _, some _, some _, none, none, none]) C dX7_isFrame_35 (by rw [hn]; decide) rfl ?_
          refine x_aload_n C dX7_isFrame_36 rfl ?_
          refine x_iload_n C dX7_isFrame_37 rfl ?_
          refine x_iconst (v := 2) C dX7_isFrame_38 (by decide) ?_
          refine x_iload_n C dX7_isFrame_39 rfl ?_
          refine x_iload_n C dX7_isFrame_40 rfl ?_
          refine m_callF C Y hW E (b2) rfl md_X7_isByte wi_X7_isByte ws_X7_isByte wm_X7_211 dX7_isFrame_41 rfl (by decide) (by decide) rfl (by simp [Value.category]) ?_
          refine x_if_eq (tgt := 60) C dX7_isFrame_44 (by decide) (fun c44 => absurd c44 (by decide)) (fun c44 => ?_)
          refine x_aload_n C dX7_isFrame_47 rfl ?_
          refine x_iload_n C dX7_isFrame_48 rfl ?_
          refine x_iconst (v := 3) C dX7_isFrame_49 (by decide) ?_
          refine x_bipush (v := 104) C dX7_isFrame_50 (by decide) ?_
          refine x_bipush (v := 104) C dX7_isFrame_52 (by decide) ?_
          refine m_callF C Y hW E (b3) rfl md_X7_isByte wi_X7_isByte ws_X7_isByte wm_X7_211 dX7_isFrame_54 rfl (by decide) (by decide) rfl (by simp [Value.category]) ?_
          refine x_if_ne (tgt := 62) C dX7_isFrame_57 (by decide) (fun c57 => absurd c57 (not_not_intro rfl)) (fun c57 => ?_)
          refine x_iconst (v := 0) C dX7_isFrame_60 (by decide) ?_
          refine m_zret C E dX7_isFrame_61 (by decide) ?_
          exact ⟨rfl, rfl⟩
      · rw [if_neg h2] at E
        have b2 := s_isB_f hW hn3 (by decide) h2
        rw [l3] at b2 E
        refine x_aload_n C dX7_isFrame_0 rfl ?_
        refine x_iload_n C dX7_isFrame_1 rfl ?_
        refine x_iconst (v := 0) C dX7_isFrame_2 (by decide) ?_
        refine x_bipush (v := 104) C dX7_isFrame_3 (by decide) ?_
        refine x_bipush (v := 104) C dX7_isFrame_5 (by decide) ?_
        refine m_callF C Y hW E (b0) rfl md_X7_isByte wi_X7_isByte ws_X7_isByte wm_X7_211 dX7_isFrame_7 rfl (by decide) (by decide) rfl (by simp [Value.category]) ?_
        refine x_if_eq (tgt := 27) C dX7_isFrame_10 (by decide) (fun c10 => absurd c10 (by decide)) (fun c10 => ?_)
        refine x_aload_n C dX7_isFrame_13 rfl ?_
        refine x_iload_n C dX7_isFrame_14 rfl ?_
        refine x_iconst (v := 1) C dX7_isFrame_15 (by decide) ?_
        refine x_bipush (v := 15) C dX7_isFrame_16 (by decide) ?_
        refine x_sipush (v := 252) C dX7_isFrame_18 (by decide) ?_
        refine m_callF C Y hW E (b1) rfl md_X7_isByte wi_X7_isByte ws_X7_isByte wm_X7_211 dX7_isFrame_21 rfl (by decide) (by decide) rfl (by simp [Value.category]) ?_
        refine x_if_ne (tgt := 29) C dX7_isFrame_24 (by decide) (fun c24 => ?_) (fun c24 => absurd c24 (by decide))
        refine x_aload_n C dX7_isFrame_29 rfl ?_
        refine m_getA C Y 38 (by decide) (by decide) wf_X7_94 dX7_isFrame_30 ?_
        refine x_iconst (v := 1) C dX7_isFrame_33 (by decide) ?_
        refine m_ildN C Y 38 (1) (by decide) dX7_isFrame_34 (by simp only [nI_lit, nI_add, pk_mul]) (by simp only [m_len]; omega) ?_
        rw [l3]
        refine x_istore_nE (L' := [some _, some _, some _, none, none, none]) C dX7_isFrame_35 (by rw [hn]; decide) rfl ?_
        refine x_aload_n C dX7_isFrame_36 rfl ?_
        refine x_iload_n C dX7_isFrame_37 rfl ?_
        refine x_iconst (v := 2) C dX7_isFrame_38 (by decide) ?_
        refine x_iload_n C dX7_isFrame_39 rfl ?_
        refine x_iload_n C dX7_isFrame_40 rfl ?_
        refine m_callF C Y hW E (b2) rfl md_X7_isByte wi_X7_isByte ws_X7_isByte wm_X7_211 dX7_isFrame_41 rfl (by decide) (by decide) rfl (by simp [Value.category]) ?_
        refine x_if_eq (tgt := 60) C dX7_isFrame_44 (by decide) (fun c44 => ?_) (fun c44 => absurd c44 (not_not_intro rfl))
        refine x_iconst (v := 0) C dX7_isFrame_60 (by decide) ?_
        refine m_zret C E dX7_isFrame_61 (by decide) ?_
        exact ⟨rfl, rfl⟩
    · rw [if_neg h1] at E
      have b1 := s_isB_f hW hn3 (by decide) h1
      refine x_aload_n C dX7_isFrame_0 rfl ?_
      refine x_iload_n C dX7_isFrame_1 rfl ?_
      refine x_iconst (v := 0) C dX7_isFrame_2 (by decide) ?_
      refine x_bipush (v := 104) C dX7_isFrame_3 (by decide) ?_
      refine x_bipush (v := 104) C dX7_isFrame_5 (by decide) ?_
      refine m_callF C Y hW E (b0) rfl md_X7_isByte wi_X7_isByte ws_X7_isByte wm_X7_211 dX7_isFrame_7 rfl (by decide) (by decide) rfl (by simp [Value.category]) ?_
      refine x_if_eq (tgt := 27) C dX7_isFrame_10 (by decide) (fun c10 => absurd c10 (by decide)) (fun c10 => ?_)
      refine x_aload_n C dX7_isFrame_13 rfl ?_
      refine x_iload_n C dX7_isFrame_14 rfl ?_
      refine x_iconst (v := 1) C dX7_isFrame_15 (by decide) ?_
      refine x_bipush (v := 15) C dX7_isFrame_16 (by decide) ?_
      refine x_sipush (v := 252) C dX7_isFrame_18 (by decide) ?_
      refine m_callF C Y hW E (b1) rfl md_X7_isByte wi_X7_isByte ws_X7_isByte wm_X7_211 dX7_isFrame_21 rfl (by decide) (by decide) rfl (by simp [Value.category]) ?_
      refine x_if_ne (tgt := 29) C dX7_isFrame_24 (by decide) (fun c24 => absurd c24 (not_not_intro rfl)) (fun c24 => ?_)
      refine x_iconst (v := 0) C dX7_isFrame_27 (by decide) ?_
      refine m_zret C E dX7_isFrame_28 (by decide) ?_
      exact ⟨rfl, rfl⟩
  · rw [if_neg h0] at E
    have b0 := s_isB_f hW hn3 (by decide) h0
    refine x_aload_n C dX7_isFrame_0 rfl ?_
    refine x_iload_n C dX7_isFrame_1 rfl ?_
    refine x_iconst (v := 0) C dX7_isFrame_2 (by decide) ?_
    refine x_bipush (v := 104) C dX7_isFrame_3 (by decide) ?_
    refine x_bipush (v := 104) C dX7_isFrame_5 (by decide) ?_
    refine m_callF C Y hW E (b0) rfl md_X7_isByte wi_X7_isByte ws_X7_isByte wm_X7_211 dX7_isFrame_7 rfl (by decide) (by decide) rfl (by simp [Value.category]) ?_
    refine x_if_eq (tgt := 27) C dX7_isFrame_10 (by decide) (fun c10 => ?_) (fun c10 => absurd c10 (not_not_intro rfl))
    refine x_iconst (v := 0) C dX7_isFrame_27 (by decide) ?_
    refine m_zret C E dX7_isFrame_28 (by decide) ?_
    exact ⟨rfl, rfl⟩
end Frame
