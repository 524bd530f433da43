section
/-! MeterBusModel: the bus. -/
abbrev f_cares (S : MS) (sel : Bool) (a : Int32) (k : Nat) : Prop := ¬ S.a 10 k = 0 ∧ (sel = true ∨ (a ≤ 250 ∧ S.a 11 k = a) ∨ (a = 253 ∧ ¬ S.a 13 k = 0) ∨ 254 ≤ a)
def f_does (S : MS) (isS sel : Bool) (c a : Int32) (k : Nat) : MS := if sel = true then f_sel S k else if isS = true then f_short S k c a else if c = 83 ∨ c = 115 then f_long S k else S
def f_step (S : MS) (isS sel : Bool) (c a : Int32) (k : Nat) : MS := if f_cares S sel a k then f_does S isS sel c a k else S
def f_run (S : MS) (isS sel : Bool) (c a : Int32) : Nat → MS
  | 0 => S
  | n + 1 => f_step (f_run S isS sel c a n) isS sel c a n
section Bus
variable {w : Wd} {M : MW} {S : MS}
theorem bus_body (hW : Wm w M) {isS sel : Bool} {c a : Int32} {k : Nat} (hk : k < 12) (h : WFm S k) {post : Option Value → MS → Prop} {z : Fx} (C : Cx z RX7 cX7_bus gw) (Y : Mty z M) (E : Ct z w gw yX7_bus none 3 (40 * 3) (PM M post)) (hn : z.nL = 7)
    (kk : ∀ v6 : Int32, X z 0 0 (MA M (f_step S isS sel c a k)) 256 [some (.ref M.o), some (.int (bI (isS = true))), some (.int c), some (.int a), some (.int (bI (sel = true))), some (.int (nI k)), some (.int v6)] []) (l6 : Option Value) :
    X z 0 0 (MA M S) 140 [some (.ref M.o), some (.int (bI (isS = true))), some (.int c), some (.int a), some (.int (bI (sel = true))), some (.int (nI k)), l6] [] := by
  have o1 : 250 < a ↔ ¬ a ≤ 250 := Int32.not_le.symm
  have o2 : a < 254 ↔ ¬ 254 ≤ a := Int32.not_le.symm
  have hs0 : bI (sel = true) = 0 ↔ ¬ sel = true := bI_0
  have hi0 : bI (isS = true) = 0 ↔ ¬ isS = true := bI_0
  have T204 : ∀ v6 : Int32, v6 = bI (f_cares S sel a k) → X z 0 0 (MA M S) 204 [some (.ref M.o), some (.int (bI (isS = true))), some (.int c), some (.int a), some (.int (bI (sel = true))), some (.int (nI k)), some (.int v6)] [] := by
    intro v6 e6
    by_cases hc : f_cares S sel a k
    · have e : f_step S isS sel c a k = f_does S isS sel c a k := if_pos hc
      rw [e] at kk
      rw [bI_t hc] at e6
      subst e6
      have kk := kk 1
      by_cases h1 : sel = true
      · have e : f_does S isS sel c a k = f_sel S k := if_pos h1
        rw [e] at kk
        refine x_iload C dX7_bus_204 rfl ?_
        refine x_if_eq (tgt := 256) C dX7_bus_206 (by decide) (fun c206 => absurd c206 (by decide)) (fun c206 => ?_)
        refine x_iload C dX7_bus_209 rfl ?_
        refine x_if_eq (tgt := 223) C dX7_bus_211 (by decide) (fun c211 => absurd c211 (fun q => hs0.mp q h1)) (fun c211 => ?_)
        refine x_aload_n C dX7_bus_214 rfl ?_
        refine x_iload C dX7_bus_215 rfl ?_
        refine m_callF C Y hW E (s_select hW k hk) rfl md_X7_select wi_X7_select ws_X7_select wm_X7_145 dX7_bus_217 rfl (by decide) (by decide) rfl (by simp [Value.category]) ?_
        refine x_goto (tgt := 256) C dX7_bus_220 (by decide) ?_
        exact kk
      · by_cases h2 : isS = true
        · have e : f_does S isS sel c a k = f_short S k c a := by unfold f_does; rw [if_neg h1, if_pos h2]
          rw [e] at kk
          refine x_iload C dX7_bus_204 rfl ?_
          refine x_if_eq (tgt := 256) C dX7_bus_206 (by decide) (fun c206 => absurd c206 (by decide)) (fun c206 => ?_)
          refine x_iload C dX7_bus_209 rfl ?_
          refine x_if_eq (tgt := 223) C dX7_bus_211 (by decide) (fun c211 => ?_) (fun c211 => absurd c211 (not_not_intro (hs0.mpr h1)))
          refine x_iload_n C dX7_bus_223 rfl ?_
          refine x_if_eq (tgt := 238) C dX7_bus_224 (by decide) (fun c224 => absurd c224 (fun q => hi0.mp q h2)) (fun c224 => ?_)
          refine x_aload_n C dX7_bus_227 rfl ?_
          refine x_iload C dX7_bus_228 rfl ?_
          refine x_iload_n C dX7_bus_230 rfl ?_
          refine x_iload_n C dX7_bus_231 rfl ?_
          refine m_callF C Y hW E (s_short hW k hk h c a) rfl md_X7_shortFrame wi_X7_shortFrame ws_X7_shortFrame wm_X7_149 dX7_bus_232 rfl (by decide) (by decide) rfl (by simp [Value.category]) ?_
          refine x_goto (tgt := 256) C dX7_bus_235 (by decide) ?_
          exact kk
        · by_cases h3 : c = 83 ∨ c = 115
          · have e : f_does S isS sel c a k = f_long S k := by unfold f_does; rw [if_neg h1, if_neg h2, if_pos h3]
            rw [e] at kk
            refine x_iload C dX7_bus_204 rfl ?_
            refine x_if_eq (tgt := 256) C dX7_bus_206 (by decide) (fun c206 => absurd c206 (by decide)) (fun c206 => ?_)
            refine x_iload C dX7_bus_209 rfl ?_
            refine x_if_eq (tgt := 223) C dX7_bus_211 (by decide) (fun c211 => ?_) (fun c211 => absurd c211 (not_not_intro (hs0.mpr h1)))
            refine x_iload_n C dX7_bus_223 rfl ?_
            refine x_if_eq (tgt := 238) C dX7_bus_224 (by decide) (fun c224 => ?_) (fun c224 => absurd c224 (not_not_intro (hi0.mpr h2)))
            refine x_iload_n C dX7_bus_238 rfl ?_
            refine x_bipush (v := 83) C dX7_bus_239 (by decide) ?_
            refine x_icmp_eq (tgt := 250) C dX7_bus_241 (by decide) (fun c241 => ?_) (fun c241 => ?_)
            · skip
              refine x_aload_n C dX7_bus_250 rfl ?_
              refine x_iload C dX7_bus_251 rfl ?_
              refine m_callF C Y hW E (s_longFrame hW k hk) rfl md_X7_longFrame wi_X7_longFrame ws_X7_longFrame wm_X7_153 dX7_bus_253 rfl (by decide) (by decide) rfl (by simp [Value.category]) ?_
              first | exact kk | exact absurd h3 (fun q => q.elim c241 c247)
            · skip
              refine x_iload_n C dX7_bus_244 rfl ?_
              refine x_bipush (v := 115) C dX7_bus_245 (by decide) ?_
              refine x_icmp_ne (tgt := 256) C dX7_bus_247 (by decide) (fun c247 => ?_) (fun c247 => ?_)
              · skip
                first | exact kk | exact absurd h3 (fun q => q.elim c241 c247)
              · skip
                refine x_aload_n C dX7_bus_250 rfl ?_
                refine x_iload C dX7_bus_251 rfl ?_
                refine m_callF C Y hW E (s_longFrame hW k hk) rfl md_X7_longFrame wi_X7_longFrame ws_X7_longFrame wm_X7_153 dX7_bus_253 rfl (by decide) (by decide) rfl (by simp [Value.category]) ?_
                first | exact kk | exact absurd h3 (fun q => q.elim c241 c247)
          · have e : f_does S isS sel c a k = S := by unfold f_does; rw [if_neg h1, if_neg h2, if_neg h3]
            rw [e] at kk
            refine x_iload C dX7_bus_204 rfl ?_
            refine x_if_eq (tgt := 256) C dX7_bus_206 (by decide) (fun c206 => absurd c206 (by decide)) (fun c206 => ?_)
            refine x_iload C dX7_bus_209 rfl ?_
            refine x_if_eq (tgt := 223) C dX7_bus_211 (by decide) (fun c211 => ?_) (fun c211 => absurd c211 (not_not_intro (hs0.mpr h1)))
            refine x_iload_n C dX7_bus_223 rfl ?_
            refine x_if_eq (tgt := 238) C dX7_bus_224 (by decide) (fun c224 => ?_) (fun c224 => absurd c224 (not_not_intro (hi0.mpr h2)))
            refine x_iload_n C dX7_bus_238 rfl ?_
            refine x_bipush (v := 83) C dX7_bus_239 (by decide) ?_
            refine x_icmp_eq (tgt := 250) C dX7_bus_241 (by decide) (fun c241 => absurd c241 (fun q => h3 (Or.inl q))) (fun c241 => ?_)
            refine x_iload_n C dX7_bus_244 rfl ?_
            refine x_bipush (v := 115) C dX7_bus_245 (by decide) ?_
            refine x_icmp_ne (tgt := 256) C dX7_bus_247 (by decide) (fun c247 => ?_) (fun c247 => absurd c247 (fun q => h3 (Or.inr q)))
            exact kk
    · have e : f_step S isS sel c a k = S := if_neg hc
      rw [e] at kk
      rw [bI_f hc] at e6
      subst e6
      have kk := kk 0
      refine x_iload C dX7_bus_204 rfl ?_
      refine x_if_eq (tgt := 256) C dX7_bus_206 (by decide) (fun c206 => ?_) (fun c206 => absurd c206 (fun q => q rfl))
      exact kk
  refine x_aload_n C dX7_bus_140 rfl ?_
  refine m_getA C Y 10 (by decide) (by decide) wf_X7_19 dX7_bus_141 ?_
  refine x_iload C dX7_bus_144 rfl ?_
  refine m_zldN C Y 10 (k) (by decide) dX7_bus_146 (by simp only [nI_lit, nI_add, pk_mul]) (by simp only [m_len]; omega) ?_
  refine x_if_eq (tgt := 201) C dX7_bus_147 (by decide) (fun c147 => ?_) (fun c147 => ?_)
  · skip
    refine x_iconst (v := 0) C dX7_bus_201 (by decide) ?_
    refine x_istoreE (L' := [some _, some _, some _, some _, some _, some _, some _]) C dX7_bus_202 (by rw [hn]; decide) rfl ?_
    refine T204 _ ?_; clear T204 kk C Y E; first | (refine bI_1 (p := f_cares S sel a k) ?_; grind) | (refine bI_00 (p := f_cares S sel a k) ?_; grind)
  · skip
    refine x_iload C dX7_bus_150 rfl ?_
    refine x_if_ne (tgt := 197) C dX7_bus_152 (by decide) (fun c152 => ?_) (fun c152 => ?_)
    · skip
      refine x_iconst (v := 1) C dX7_bus_197 (by decide) ?_
      refine x_goto (tgt := 202) C dX7_bus_198 (by decide) ?_
      refine x_istoreE (L' := [some _, some _, some _, some _, some _, some _, some _]) C dX7_bus_202 (by rw [hn]; decide) rfl ?_
      refine T204 _ ?_; clear T204 kk C Y E; first | (refine bI_1 (p := f_cares S sel a k) ?_; grind) | (refine bI_00 (p := f_cares S sel a k) ?_; grind)
    · skip
      refine x_iload_n C dX7_bus_155 rfl ?_
      refine x_sipush (v := 250) C dX7_bus_156 (by decide) ?_
      refine x_icmp_gt (tgt := 173) C dX7_bus_159 (by decide) (fun c159 => ?_) (fun c159 => ?_)
      · skip
        refine x_iload_n C dX7_bus_173 rfl ?_
        refine x_sipush (v := 253) C dX7_bus_174 (by decide) ?_
        refine x_icmp_ne (tgt := 190) C dX7_bus_177 (by decide) (fun c177 => ?_) (fun c177 => ?_)
        · skip
          refine x_iload_n C dX7_bus_190 rfl ?_
          refine x_sipush (v := 254) C dX7_bus_191 (by decide) ?_
          refine x_icmp_lt (tgt := 201) C dX7_bus_194 (by decide) (fun c194 => ?_) (fun c194 => ?_)
          · skip
            refine x_iconst (v := 0) C dX7_bus_201 (by decide) ?_
            refine x_istoreE (L' := [some _, some _, some _, some _, some _, some _, some _]) C dX7_bus_202 (by rw [hn]; decide) rfl ?_
            refine T204 _ ?_; clear T204 kk C Y E; first | (refine bI_1 (p := f_cares S sel a k) ?_; grind) | (refine bI_00 (p := f_cares S sel a k) ?_; grind)
          · skip
            refine x_iconst (v := 1) C dX7_bus_197 (by decide) ?_
            refine x_goto (tgt := 202) C dX7_bus_198 (by decide) ?_
            refine x_istoreE (L' := [some _, some _, some _, some _, some _, some _, some _]) C dX7_bus_202 (by rw [hn]; decide) rfl ?_
            refine T204 _ ?_; clear T204 kk C Y E; first | (refine bI_1 (p := f_cares S sel a k) ?_; grind) | (refine bI_00 (p := f_cares S sel a k) ?_; grind)
        · skip
          refine x_aload_n C dX7_bus_180 rfl ?_
          refine m_getA C Y 13 (by decide) (by decide) wf_X7_29 dX7_bus_181 ?_
          refine x_iload C dX7_bus_184 rfl ?_
          refine m_zldN C Y 13 (k) (by decide) dX7_bus_186 (by simp only [nI_lit, nI_add, pk_mul]) (by simp only [m_len]; omega) ?_
          refine x_if_ne (tgt := 197) C dX7_bus_187 (by decide) (fun c187 => ?_) (fun c187 => ?_)
          · skip
            refine x_iconst (v := 1) C dX7_bus_197 (by decide) ?_
            refine x_goto (tgt := 202) C dX7_bus_198 (by decide) ?_
            refine x_istoreE (L' := [some _, some _, some _, some _, some _, some _, some _]) C dX7_bus_202 (by rw [hn]; decide) rfl ?_
            refine T204 _ ?_; clear T204 kk C Y E; first | (refine bI_1 (p := f_cares S sel a k) ?_; grind) | (refine bI_00 (p := f_cares S sel a k) ?_; grind)
          · skip
            refine x_iload_n C dX7_bus_190 rfl ?_
            refine x_sipush (v := 254) C dX7_bus_191 (by decide) ?_
            refine x_icmp_lt (tgt := 201) C dX7_bus_194 (by decide) (fun c194 => ?_) (fun c194 => ?_)
            · skip
              refine x_iconst (v := 0) C dX7_bus_201 (by decide) ?_
              refine x_istoreE (L' := [some _, some _, some _, some _, some _, some _, some _]) C dX7_bus_202 (by rw [hn]; decide) rfl ?_
              refine T204 _ ?_; clear T204 kk C Y E; first | (refine bI_1 (p := f_cares S sel a k) ?_; grind) | (refine bI_00 (p := f_cares S sel a k) ?_; grind)
            · skip
              refine x_iconst (v := 1) C dX7_bus_197 (by decide) ?_
              refine x_goto (tgt := 202) C dX7_bus_198 (by decide) ?_
              refine x_istoreE (L' := [some _, some _, some _, some _, some _, some _, some _]) C dX7_bus_202 (by rw [hn]; decide) rfl ?_
              refine T204 _ ?_; clear T204 kk C Y E; first | (refine bI_1 (p := f_cares S sel a k) ?_; grind) | (refine bI_00 (p := f_cares S sel a k) ?_; grind)
      · skip
        refine x_aload_n C dX7_bus_162 rfl ?_
        refine m_getA C Y 11 (by decide) (by decide) wf_X7_23 dX7_bus_163 ?_
        refine x_iload C dX7_bus_166 rfl ?_
        refine m_ildN C Y 11 (k) (by decide) dX7_bus_168 (by simp only [nI_lit, nI_add, pk_mul]) (by simp only [m_len]; omega) ?_
        refine x_iload_n C dX7_bus_169 rfl ?_
        refine x_icmp_eq (tgt := 197) C dX7_bus_170 (by decide) (fun c170 => ?_) (fun c170 => ?_)
        · skip
          refine x_iconst (v := 1) C dX7_bus_197 (by decide) ?_
          refine x_goto (tgt := 202) C dX7_bus_198 (by decide) ?_
          refine x_istoreE (L' := [some _, some _, some _, some _, some _, some _, some _]) C dX7_bus_202 (by rw [hn]; decide) rfl ?_
          refine T204 _ ?_; clear T204 kk C Y E; first | (refine bI_1 (p := f_cares S sel a k) ?_; grind) | (refine bI_00 (p := f_cares S sel a k) ?_; grind)
        · skip
          refine x_iload_n C dX7_bus_173 rfl ?_
          refine x_sipush (v := 253) C dX7_bus_174 (by decide) ?_
          refine x_icmp_ne (tgt := 190) C dX7_bus_177 (by decide) (fun c177 => ?_) (fun c177 => ?_)
          · skip
            refine x_iload_n C dX7_bus_190 rfl ?_
            refine x_sipush (v := 254) C dX7_bus_191 (by decide) ?_
            refine x_icmp_lt (tgt := 201) C dX7_bus_194 (by decide) (fun c194 => ?_) (fun c194 => ?_)
            · skip
              refine x_iconst (v := 0) C dX7_bus_201 (by decide) ?_
              refine x_istoreE (L' := [some _, some _, some _, some _, some _, some _, some _]) C dX7_bus_202 (by rw [hn]; decide) rfl ?_
              refine T204 _ ?_; clear T204 kk C Y E; first | (refine bI_1 (p := f_cares S sel a k) ?_; grind) | (refine bI_00 (p := f_cares S sel a k) ?_; grind)
            · skip
              refine x_iconst (v := 1) C dX7_bus_197 (by decide) ?_
              refine x_goto (tgt := 202) C dX7_bus_198 (by decide) ?_
              refine x_istoreE (L' := [some _, some _, some _, some _, some _, some _, some _]) C dX7_bus_202 (by rw [hn]; decide) rfl ?_
              refine T204 _ ?_; clear T204 kk C Y E; first | (refine bI_1 (p := f_cares S sel a k) ?_; grind) | (refine bI_00 (p := f_cares S sel a k) ?_; grind)
          · skip
            refine x_aload_n C dX7_bus_180 rfl ?_
            refine m_getA C Y 13 (by decide) (by decide) wf_X7_29 dX7_bus_181 ?_
            refine x_iload C dX7_bus_184 rfl ?_
            refine m_zldN C Y 13 (k) (by decide) dX7_bus_186 (by simp only [nI_lit, nI_add, pk_mul]) (by simp only [m_len]; omega) ?_
            refine x_if_ne (tgt := 197) C dX7_bus_187 (by decide) (fun c187 => ?_) (fun c187 => ?_)
            · skip
              refine x_iconst (v := 1) C dX7_bus_197 (by decide) ?_
              refine x_goto (tgt := 202) C dX7_bus_198 (by decide) ?_
              refine x_istoreE (L' := [some _, some _, some _, some _, some _, some _, some _]) C dX7_bus_202 (by rw [hn]; decide) rfl ?_
              refine T204 _ ?_; clear T204 kk C Y E; first | (refine bI_1 (p := f_cares S sel a k) ?_; grind) | (refine bI_00 (p := f_cares S sel a k) ?_; grind)
            · skip
              refine x_iload_n C dX7_bus_190 rfl ?_
              refine x_sipush (v := 254) C dX7_bus_191 (by decide) ?_
              refine x_icmp_lt (tgt := 201) C dX7_bus_194 (by decide) (fun c194 => ?_) (fun c194 => ?_)
              · skip
                refine x_iconst (v := 0) C dX7_bus_201 (by decide) ?_
                refine x_istoreE (L' := [some _, some _, some _, some _, some _, some _, some _]) C dX7_bus_202 (by rw [hn]; decide) rfl ?_
                refine T204 _ ?_; clear T204 kk C Y E; first | (refine bI_1 (p := f_cares S sel a k) ?_; grind) | (refine bI_00 (p := f_cares S sel a k) ?_; grind)
              · skip
                refine x_iconst (v := 1) C dX7_bus_197 (by decide) ?_
                refine x_goto (tgt := 202) C dX7_bus_198 (by decide) ?_
                refine x_istoreE (L' := [some _, some _, some _, some _, some _, some _, some _]) C dX7_bus_202 (by rw [hn]; decide) rfl ?_
                refine T204 _ ?_; clear T204 kk C Y E; first | (refine bI_1 (p := f_cares S sel a k) ?_; grind) | (refine bI_00 (p := f_cares S sel a k) ?_; grind)
end Bus
end
section
/-! MeterBusModel: the bus, whole. -/
def WFa (S : MS) : Prop := ∀ j, j < 12 → WFm S j
theorem WFm.of {S S' : MS} {j : Nat} (h : WFm S j) (h1 : S'.a 15 j = S.a 15 j) (h2 : S'.a 14 j = S.a 14 j) (h3 : ∀ q, S'.a 17 q = S.a 17 q) : WFm S' j := by
  unfold WFm
  simp only [h1, h2, h3]
  exact h
theorem f_ack_a (S : MS) {q j : Nat} (h : q ≠ 5) : (f_ack S).a q j = S.a q j := by
  unfold f_ack
  rw [MS.si_a, MS.sa_a, MS.si_a, if_neg (fun e => h e.1)]
theorem WFm.ack {S : MS} {j : Nat} (h : WFm S j) : WFm (f_ack S) j := h.of (f_ack_a S (by decide)) (f_ack_a S (by decide)) (fun q => f_ack_a S (by decide))
theorem sa_ne {S : MS} {k i q j : Nat} {v : Int32} (h : q ≠ k) : (S.sa k i v).a q j = S.a q j := by rw [MS.sa_a, if_neg (fun e => h e.1)]
theorem WFm.sa {S : MS} {j k i : Nat} {v : Int32} (h : WFm S j) (h15 : 15 ≠ k) (h14 : 14 ≠ k) (h17 : 17 ≠ k) : WFm (S.sa k i v) j := h.of (sa_ne h15) (sa_ne h14) (fun q => sa_ne h17)
theorem WFm.forget {S : MS} {j k : Nat} (h : WFm S j) : WFm (f_forget S k) j := by
  have e17 : ∀ q, (f_forget S k).a 17 q = S.a 17 q := fun q => by unfold f_forget; rw [sa_ne (by decide), sa_ne (by decide)]
  by_cases hj : j = k
  · subst hj
    have e15 : (f_forget S j).a 15 j = -1 := by unfold f_forget; rw [sa_ne (by decide), MS.sa_a, if_pos ⟨rfl, rfl⟩]
    refine ⟨fun g => ?_, fun p hp => by rw [e17]; exact h.2 p hp⟩
    rw [e15] at g
    exact absurd g (by decide)
  · refine h.of ?_ ?_ e17
    · unfold f_forget; rw [sa_ne (by decide), MS.sa_a, if_neg (fun e => hj e.2)]
    · unfold f_forget; rw [MS.sa_a, if_neg (fun e => hj e.2), sa_ne (by decide)]
theorem WFm.sel {S : MS} {j k : Nat} (h : WFm S j) : WFm (f_sel S k) j := by
  unfold f_sel
  split
  · exact (h.sa (by decide) (by decide) (by decide)).ack
  · exact h.sa (by decide) (by decide) (by decide)
theorem WFm.lng {S : MS} {j k : Nat} (h : WFm S j) : WFm (f_long S k) j := by
  unfold f_long
  split
  · exact h.forget.ack
  · split
    · exact (h.sa (by decide) (by decide) (by decide)).ack
    · exact h
theorem WFm.asked {S : MS} {j k : Nat} {bit : Int32} (h : WFm S j) : WFm (f_asked S k bit) j := by
  have e17 : ∀ q, (f_asked S k bit).a 17 q = S.a 17 q := fun q => by unfold f_asked; rw [MS.si_a, sa_ne (by decide), sa_ne (by decide), sa_ne (by decide), MS.ans_ne (by decide)]
  have e14 : (f_asked S k bit).a 14 j = if j = k then nI (f_p S k bit) else S.a 14 j := by
    unfold f_asked
    rw [MS.si_a, sa_ne (by decide), sa_ne (by decide), MS.sa_a, MS.ans_ne (by decide)]
    simp
  by_cases hj : j = k
  · rw [if_pos hj] at e14
    exact ⟨fun g => ⟨f_p S k bit, f_p_lt S k bit, e14⟩, fun p hp => by rw [e17]; exact h.2 p hp⟩
  · rw [if_neg hj] at e14
    refine h.of ?_ e14 e17
    unfold f_asked
    rw [MS.si_a, sa_ne (by decide), MS.sa_a, if_neg (fun e => hj e.2), sa_ne (by decide), MS.ans_ne (by decide)]
theorem WFm.shrt {S : MS} {j k : Nat} {c a : Int32} (h : WFm S j) : WFm (f_short S k c a) j := by
  unfold f_short
  split
  · exact (h.forget.sa (by decide) (by decide) (by decide)).ack
  · split
    · exact h.asked
    · exact h
theorem WFm.step {S : MS} {j k : Nat} {isS sel : Bool} {c a : Int32} (h : WFm S j) : WFm (f_step S isS sel c a k) j := by
  unfold f_step f_does
  split
  · split
    · exact h.sel
    · split
      · exact h.shrt
      · split
        · exact h.lng
        · exact h
  · exact h
theorem WFa.run {S : MS} {isS sel : Bool} {c a : Int32} (h : WFa S) : ∀ n, WFa (f_run S isS sel c a n)
  | 0 => h
  | n + 1 => fun j hj => (WFa.run h n j hj).step
/-- what the bus does with the frame -/
def f_begin (S : MS) : MS := ((S.si 8 (S.i 8 + 1)).si 7 0).si 6 0
def f_end (S : MS) (a : Int32) : MS := (S.si 7 (if a = 255 then 0 else S.i 7)).si 9 (S.i 9 + if 1 < (if a = 255 then 0 else S.i 7) then 1 else 0)
abbrev f_selects (S : MS) : Prop := (S.a 3 4 = 83 ∨ S.a 3 4 = 115) ∧ S.a 3 6 = 82 ∧ S.a 3 1 = 11 ∧ S.a 3 5 = 253
def f_bus (S : MS) (n : Nat) : MS :=
  if f_isS S then f_end (f_run (f_begin S) true false (S.a 3 1) (S.a 3 2) 12) (S.a 3 2)
  else if f_isL S n then f_end (f_run (f_begin S) false (decide (f_selects S)) (S.a 3 4) (S.a 3 5) 12) (S.a 3 5)
  else f_begin S
section Bus
variable {w : Wd} {M : MW} {S : MS}
theorem bus_loop (hW : Wm w M) {isS sel : Bool} {c a : Int32} (h : WFa S) {z : Fx} (C : Cx z RX7 cX7_bus gw) (Y : Mty z M) (E : Ct z w gw yX7_bus none 3 (40 * 3) (PM M (fun q Q => q = none ∧ Q = f_end (f_run S isS sel c a 12) a))) (hn : z.nL = 7) :
    ∀ (t k : Nat) (l6 : Option Value), k + t = 12 → X z 0 0 (MA M (f_run S isS sel c a k)) 133 [some (.ref M.o), some (.int (bI (isS = true))), some (.int c), some (.int a), some (.int (bI (sel = true))), some (.int (nI k)), l6] [] := by
  intro t
  induction t with
  | zero =>
    intro k l6 hk
    obtain rfl : k = 12 := by omega
    generalize f_run S isS sel c a 12 = S1 at E ⊢
    refine x_iload C dX7_bus_133 rfl ?_
    refine x_bipush (v := 12) C dX7_bus_135 (by decide) ?_
    refine x_icmp_ge (tgt := 262) C dX7_bus_137 (by decide) (fun c137 => ?_) (fun c137 => absurd c137 (by decide))
    refine x_aload_n C dX7_bus_262 rfl ?_
    refine x_iload_n C dX7_bus_263 rfl ?_
    refine x_sipush (v := 255) C dX7_bus_264 (by decide) ?_
    refine x_icmp_ne (tgt := 274) C dX7_bus_267 (by decide) (fun c267 => ?_) (fun c267 => ?_)
    · skip
      refine x_aload_n C dX7_bus_274 rfl ?_
      refine m_get C Y 7 (by decide) (by decide) wf_X7_132 dX7_bus_275 ?_
      refine m_put C Y hW.2.1 7 (by decide) (by decide) rfl rfl rfl wf_X7_132 dX7_bus_278 ?_
      refine x_aload_n C dX7_bus_281 rfl ?_
      refine x_dup C dX7_bus_282 rfl ?_
      refine m_get C Y 9 (by decide) (by decide) wf_X7_156 dX7_bus_283 ?_
      refine x_aload_n C dX7_bus_286 rfl ?_
      refine m_get C Y 7 (by decide) (by decide) wf_X7_132 dX7_bus_287 ?_
      refine x_iconst (v := 1) C dX7_bus_290 (by decide) ?_
      refine x_icmp_le (tgt := 298) C dX7_bus_291 (by decide) (fun c291 => ?_) (fun c291 => ?_)
      · skip
        refine x_iconst (v := 0) C dX7_bus_298 (by decide) ?_
        refine x_iadd C dX7_bus_299 ?_
        refine m_put C Y hW.2.1 9 (by decide) (by decide) rfl rfl rfl wf_X7_156 dX7_bus_300 ?_
        refine m_vret C E dX7_bus_303 ?_
        refine ⟨rfl, ?_⟩; clear E C Y; unfold f_end; first | (simp_all [MS.si_i, Int32.not_le, Int32.not_lt]; done) | (simp_all [MS.si_i]; rw [if_neg (Int32.not_lt.mpr c291), Int32.add_zero])
      · skip
        refine x_iconst (v := 1) C dX7_bus_294 (by decide) ?_
        refine x_goto (tgt := 299) C dX7_bus_295 (by decide) ?_
        refine x_iadd C dX7_bus_299 ?_
        refine m_put C Y hW.2.1 9 (by decide) (by decide) rfl rfl rfl wf_X7_156 dX7_bus_300 ?_
        refine m_vret C E dX7_bus_303 ?_
        refine ⟨rfl, ?_⟩; clear E C Y; unfold f_end; first | (simp_all [MS.si_i, Int32.not_le, Int32.not_lt]; done) | (simp_all [MS.si_i]; rw [if_neg (Int32.not_lt.mpr c291), Int32.add_zero])
    · skip
      refine x_iconst (v := 0) C dX7_bus_270 (by decide) ?_
      refine x_goto (tgt := 278) C dX7_bus_271 (by decide) ?_
      refine m_put C Y hW.2.1 7 (by decide) (by decide) rfl rfl rfl wf_X7_132 dX7_bus_278 ?_
      refine x_aload_n C dX7_bus_281 rfl ?_
      refine x_dup C dX7_bus_282 rfl ?_
      refine m_get C Y 9 (by decide) (by decide) wf_X7_156 dX7_bus_283 ?_
      refine x_aload_n C dX7_bus_286 rfl ?_
      refine m_get C Y 7 (by decide) (by decide) wf_X7_132 dX7_bus_287 ?_
      refine x_iconst (v := 1) C dX7_bus_290 (by decide) ?_
      refine x_icmp_le (tgt := 298) C dX7_bus_291 (by decide) (fun c291 => ?_) (fun c291 => ?_)
      · skip
        refine x_iconst (v := 0) C dX7_bus_298 (by decide) ?_
        refine x_iadd C dX7_bus_299 ?_
        refine m_put C Y hW.2.1 9 (by decide) (by decide) rfl rfl rfl wf_X7_156 dX7_bus_300 ?_
        refine m_vret C E dX7_bus_303 ?_
        refine ⟨rfl, ?_⟩; clear E C Y; unfold f_end; first | (simp_all [MS.si_i, Int32.not_le, Int32.not_lt]; done) | (simp_all [MS.si_i]; rw [if_neg (Int32.not_lt.mpr c291), Int32.add_zero])
      · skip
        refine x_iconst (v := 1) C dX7_bus_294 (by decide) ?_
        refine x_goto (tgt := 299) C dX7_bus_295 (by decide) ?_
        refine x_iadd C dX7_bus_299 ?_
        refine m_put C Y hW.2.1 9 (by decide) (by decide) rfl rfl rfl wf_X7_156 dX7_bus_300 ?_
        refine m_vret C E dX7_bus_303 ?_
        refine ⟨rfl, ?_⟩; clear E C Y; unfold f_end; first | (simp_all [MS.si_i, Int32.not_le, Int32.not_lt]; done) | (simp_all [MS.si_i]; rw [if_neg (Int32.not_lt.mpr c291), Int32.add_zero])
  | succ t ih =>
    intro k l6 hk
    have ih2 := ih (k + 1)
    refine x_iload C dX7_bus_133 rfl ?_
    refine x_bipush (v := 12) C dX7_bus_135 (by decide) ?_
    refine x_icmp_ge (tgt := 262) C dX7_bus_137 (by decide) (fun c137 => absurd c137 (by rw [nI_lit]; exact nI_ge (show k < 12 by omega) (by decide))) (fun c137 => ?_)
    refine bus_body hW (show k < 12 by omega) (h.run k k (by omega)) C Y E hn (fun v6 => ?_) l6
    refine x_iincE (v := nI (k + 1)) (L' := [some _, some _, some _, some _, some _, some _, some _]) C dX7_bus_256 rfl (nI_1 k) (by rw [hn]; decide) rfl ?_
    refine x_goto (tgt := 133) C dX7_bus_259 (by decide) ?_
    exact ih2 _ (by omega)
theorem bg_a (S : MS) (q j : Nat) : (f_begin S).a q j = S.a q j := rfl
theorem bg_4 (S : MS) : (f_begin S).i 4 = S.i 4 := rfl
theorem WFa.bg {S : MS} (h : WFa S) : WFa (f_begin S) := fun j hj => (h j hj).of rfl rfl (fun _ => rfl)
theorem s_bus (hW : Wm w M) (n : Nat) (hs : S.i 4 = nI n) (hn3 : n ≤ 300) (h : WFa S) : TF w M yX7_bus cX7_bus 7 none 3 [] S none (f_bus S n) := by
  refine TM.intro hW rfl (Nat.le_of_ble_eq_true rfl) (fun z C Y E hn => ?_)
  have hb := h.bg
  have i0 : bI (f_isS (f_begin S)) = 0 ↔ ¬ f_isS (f_begin S) := bI_0
  have l0 : bI (f_isL (f_begin S) n) = 0 ↔ ¬ f_isL (f_begin S) n := bI_0
  by_cases h1 : f_isS S
  · have e : f_bus S n = f_end (f_run (f_begin S) true false (S.a 3 1) (S.a 3 2) 12) (S.a 3 2) := if_pos h1
    rw [e] at E
    have LP := bus_loop hW hb C Y E hn 12 0
    have h1b : f_isS (f_begin S) := h1
    refine x_aload_n C dX7_bus_0 rfl ?_
    refine x_dup C dX7_bus_1 rfl ?_
    refine m_get C Y 8 (by decide) (by decide) wf_X7_129 dX7_bus_2 ?_
    refine x_iconst (v := 1) C dX7_bus_5 (by decide) ?_
    refine x_iadd C dX7_bus_6 ?_
    refine m_put C Y hW.2.1 8 (by decide) (by decide) rfl rfl rfl wf_X7_129 dX7_bus_7 ?_
    refine x_aload_n C dX7_bus_10 rfl ?_
    refine x_iconst (v := 0) C dX7_bus_11 (by decide) ?_
    refine m_put C Y hW.2.1 7 (by decide) (by decide) rfl rfl rfl wf_X7_132 dX7_bus_12 ?_
    refine x_aload_n C dX7_bus_15 rfl ?_
    refine x_iconst (v := 0) C dX7_bus_16 (by decide) ?_
    refine m_put C Y hW.2.1 6 (by decide) (by decide) rfl rfl rfl wf_X7_135 dX7_bus_17 ?_
    change X z 0 0 (MA M (f_begin S)) 20 _ _
    refine x_aload_n C dX7_bus_20 rfl ?_
    refine m_callF C Y hW E (s_isShort hW) rfl md_X7_isShort wi_X7_isShort ws_X7_isShort wm_X7_138 dX7_bus_21 rfl (by decide) (by decide) rfl (by simp [Value.category]) ?_
    rw [bI_t h1b]
    refine x_istore_nE (L' := [some _, some _, none, none, none, none, none]) C dX7_bus_24 (by rw [hn]; decide) rfl ?_
    refine x_iload_n C dX7_bus_25 rfl ?_
    refine x_if_ne (tgt := 37) C dX7_bus_26 (by decide) (fun c26 => ?_) (fun c26 => absurd c26 (by decide))
    refine x_iload_n C dX7_bus_37 rfl ?_
    refine x_if_eq (tgt := 50) C dX7_bus_38 (by decide) (fun c38 => absurd c38 (by decide)) (fun c38 => ?_)
    refine x_aload_n C dX7_bus_41 rfl ?_
    refine m_getA C Y 3 (by decide) (by decide) wf_X7_13 dX7_bus_42 ?_
    refine x_iconst (v := 1) C dX7_bus_45 (by decide) ?_
    refine m_ildN C Y 3 (1) (by decide) dX7_bus_46 (by simp only [nI_lit, nI_add, pk_mul]) (by simp only [m_len]; omega) ?_
    refine x_goto (tgt := 56) C dX7_bus_47 (by decide) ?_
    refine x_istore_nE (L' := [some _, some _, some _, none, none, none, none]) C dX7_bus_56 (by rw [hn]; decide) rfl ?_
    refine x_iload_n C dX7_bus_57 rfl ?_
    refine x_if_eq (tgt := 70) C dX7_bus_58 (by decide) (fun c58 => absurd c58 (by decide)) (fun c58 => ?_)
    refine x_aload_n C dX7_bus_61 rfl ?_
    refine m_getA C Y 3 (by decide) (by decide) wf_X7_13 dX7_bus_62 ?_
    refine x_iconst (v := 2) C dX7_bus_65 (by decide) ?_
    refine m_ildN C Y 3 (2) (by decide) dX7_bus_66 (by simp only [nI_lit, nI_add, pk_mul]) (by simp only [m_len]; omega) ?_
    refine x_goto (tgt := 76) C dX7_bus_67 (by decide) ?_
    refine x_istore_nE (L' := [some _, some _, some _, some _, none, none, none]) C dX7_bus_76 (by rw [hn]; decide) rfl ?_
    refine x_iload_n C dX7_bus_77 rfl ?_
    refine x_if_ne (tgt := 127) C dX7_bus_78 (by decide) (fun c78 => ?_) (fun c78 => absurd c78 (by decide))
    refine x_iconst (v := 0) C dX7_bus_127 (by decide) ?_
    refine x_istoreE (L' := [some _, some _, some _, some _, some _, none, none]) C dX7_bus_128 (by rw [hn]; decide) rfl ?_
    refine x_iconst (v := 0) C dX7_bus_130 (by decide) ?_
    refine x_istoreE (L' := [some _, some _, some _, some _, some _, some _, none]) C dX7_bus_131 (by rw [hn]; decide) rfl ?_
    exact LP none rfl
  · by_cases h2 : f_isL S n
    · have e : f_bus S n = f_end (f_run (f_begin S) false (decide (f_selects S)) (S.a 3 4) (S.a 3 5) 12) (S.a 3 5) := by unfold f_bus; rw [if_neg h1, if_pos h2]
      rw [e] at E
      have LP := bus_loop hW hb C Y E hn 12 0 none rfl
      have h1b : ¬ f_isS (f_begin S) := h1
      have h2b : f_isL (f_begin S) n := h2
      have T128 : ∀ v : Int32, v = bI (decide (f_selects S) = true) → X z 0 0 (MA M (f_begin S)) 128 [some (.ref M.o), some (.int 0), some (.int (S.a 3 4)), some (.int (S.a 3 5)), none, none, none] [.int v] := by
        intro v ev
        subst ev
        refine x_istoreE (L' := [some _, some _, some _, some _, some _, none, none]) C dX7_bus_128 (by rw [hn]; decide) rfl ?_
        refine x_iconst (v := 0) C dX7_bus_130 (by decide) ?_
        refine x_istoreE (L' := [some _, some _, some _, some _, some _, some _, none]) C dX7_bus_131 (by rw [hn]; decide) rfl ?_
        exact LP
      refine x_aload_n C dX7_bus_0 rfl ?_
      refine x_dup C dX7_bus_1 rfl ?_
      refine m_get C Y 8 (by decide) (by decide) wf_X7_129 dX7_bus_2 ?_
      refine x_iconst (v := 1) C dX7_bus_5 (by decide) ?_
      refine x_iadd C dX7_bus_6 ?_
      refine m_put C Y hW.2.1 8 (by decide) (by decide) rfl rfl rfl wf_X7_129 dX7_bus_7 ?_
      refine x_aload_n C dX7_bus_10 rfl ?_
      refine x_iconst (v := 0) C dX7_bus_11 (by decide) ?_
      refine m_put C Y hW.2.1 7 (by decide) (by decide) rfl rfl rfl wf_X7_132 dX7_bus_12 ?_
      refine x_aload_n C dX7_bus_15 rfl ?_
      refine x_iconst (v := 0) C dX7_bus_16 (by decide) ?_
      refine m_put C Y hW.2.1 6 (by decide) (by decide) rfl rfl rfl wf_X7_135 dX7_bus_17 ?_
      change X z 0 0 (MA M (f_begin S)) 20 _ _
      refine x_aload_n C dX7_bus_20 rfl ?_
      refine m_callF C Y hW E (s_isShort hW) rfl md_X7_isShort wi_X7_isShort ws_X7_isShort wm_X7_138 dX7_bus_21 rfl (by decide) (by decide) rfl (by simp [Value.category]) ?_
      rw [bI_f h1b]
      refine x_istore_nE (L' := [some _, some _, none, none, none, none, none]) C dX7_bus_24 (by rw [hn]; decide) rfl ?_
      refine x_iload_n C dX7_bus_25 rfl ?_
      refine x_if_ne (tgt := 37) C dX7_bus_26 (by decide) (fun c26 => absurd c26 (fun q => q rfl)) (fun c26 => ?_)
      refine x_aload_n C dX7_bus_29 rfl ?_
      refine m_callF C Y hW E (s_isLong hW n hs hn3) rfl md_X7_isLong wi_X7_isLong ws_X7_isLong wm_X7_142 dX7_bus_30 rfl (by decide) (by decide) rfl (by simp [Value.category]) ?_
      rw [bI_t h2b]
      refine x_if_ne (tgt := 37) C dX7_bus_33 (by decide) (fun c33 => ?_) (fun c33 => absurd c33 (by decide))
      refine x_iload_n C dX7_bus_37 rfl ?_
      refine x_if_eq (tgt := 50) C dX7_bus_38 (by decide) (fun c38 => ?_) (fun c38 => absurd c38 (not_not_intro rfl))
      refine x_aload_n C dX7_bus_50 rfl ?_
      refine m_getA C Y 3 (by decide) (by decide) wf_X7_13 dX7_bus_51 ?_
      refine x_iconst (v := 4) C dX7_bus_54 (by decide) ?_
      refine m_ildN C Y 3 (4) (by decide) dX7_bus_55 (by simp only [nI_lit, nI_add, pk_mul]) (by simp only [m_len]; omega) ?_
      refine x_istore_nE (L' := [some _, some _, some _, none, none, none, none]) C dX7_bus_56 (by rw [hn]; decide) rfl ?_
      refine x_iload_n C dX7_bus_57 rfl ?_
      refine x_if_eq (tgt := 70) C dX7_bus_58 (by decide) (fun c58 => ?_) (fun c58 => absurd c58 (not_not_intro rfl))
      refine x_aload_n C dX7_bus_70 rfl ?_
      refine m_getA C Y 3 (by decide) (by decide) wf_X7_13 dX7_bus_71 ?_
      refine x_iconst (v := 5) C dX7_bus_74 (by decide) ?_
      refine m_ildN C Y 3 (5) (by decide) dX7_bus_75 (by simp only [nI_lit, nI_add, pk_mul]) (by simp only [m_len]; omega) ?_
      refine x_istore_nE (L' := [some _, some _, some _, some _, none, none, none]) C dX7_bus_76 (by rw [hn]; decide) rfl ?_
      refine x_iload_n C dX7_bus_77 rfl ?_
      refine x_if_ne (tgt := 127) C dX7_bus_78 (by decide) (fun c78 => absurd c78 (fun q => q rfl)) (fun c78 => ?_)
      refine x_iload_n C dX7_bus_81 rfl ?_
      refine x_bipush (v := 83) C dX7_bus_82 (by decide) ?_
      refine x_icmp_eq (tgt := 93) C dX7_bus_84 (by decide) (fun c84 => ?_) (fun c84 => ?_)
      · skip
        refine x_aload_n C dX7_bus_93 rfl ?_
        refine m_getA C Y 3 (by decide) (by decide) wf_X7_13 dX7_bus_94 ?_
        refine x_bipush (v := 6) C dX7_bus_97 (by decide) ?_
        refine m_ildN C Y 3 (6) (by decide) dX7_bus_99 (by simp only [nI_lit, nI_add, pk_mul]) (by simp only [m_len]; omega) ?_
        refine x_bipush (v := 82) C dX7_bus_100 (by decide) ?_
        refine x_icmp_ne (tgt := 127) C dX7_bus_102 (by decide) (fun c102 => ?_) (fun c102 => ?_)
        · skip
          refine x_iconst (v := 0) C dX7_bus_127 (by decide) ?_
          refine T128 _ ?_; clear T128 LP C Y E; first | (refine bI_1 (p := decide (f_selects S) = true) ?_; rw [decide_eq_true_eq]; simp only [bg_a] at *; grind) | (refine bI_00 (p := decide (f_selects S) = true) ?_; rw [decide_eq_true_eq]; simp only [bg_a] at *; grind)
        · skip
          refine x_aload_n C dX7_bus_105 rfl ?_
          refine m_getA C Y 3 (by decide) (by decide) wf_X7_13 dX7_bus_106 ?_
          refine x_iconst (v := 1) C dX7_bus_109 (by decide) ?_
          refine m_ildN C Y 3 (1) (by decide) dX7_bus_110 (by simp only [nI_lit, nI_add, pk_mul]) (by simp only [m_len]; omega) ?_
          refine x_bipush (v := 11) C dX7_bus_111 (by decide) ?_
          refine x_icmp_ne (tgt := 127) C dX7_bus_113 (by decide) (fun c113 => ?_) (fun c113 => ?_)
          · skip
            refine x_iconst (v := 0) C dX7_bus_127 (by decide) ?_
            refine T128 _ ?_; clear T128 LP C Y E; first | (refine bI_1 (p := decide (f_selects S) = true) ?_; rw [decide_eq_true_eq]; simp only [bg_a] at *; grind) | (refine bI_00 (p := decide (f_selects S) = true) ?_; rw [decide_eq_true_eq]; simp only [bg_a] at *; grind)
          · skip
            refine x_iload_n C dX7_bus_116 rfl ?_
            refine x_sipush (v := 253) C dX7_bus_117 (by decide) ?_
            refine x_icmp_ne (tgt := 127) C dX7_bus_120 (by decide) (fun c120 => ?_) (fun c120 => ?_)
            · skip
              refine x_iconst (v := 0) C dX7_bus_127 (by decide) ?_
              refine T128 _ ?_; clear T128 LP C Y E; first | (refine bI_1 (p := decide (f_selects S) = true) ?_; rw [decide_eq_true_eq]; simp only [bg_a] at *; grind) | (refine bI_00 (p := decide (f_selects S) = true) ?_; rw [decide_eq_true_eq]; simp only [bg_a] at *; grind)
            · skip
              refine x_iconst (v := 1) C dX7_bus_123 (by decide) ?_
              refine x_goto (tgt := 128) C dX7_bus_124 (by decide) ?_
              refine T128 _ ?_; clear T128 LP C Y E; first | (refine bI_1 (p := decide (f_selects S) = true) ?_; rw [decide_eq_true_eq]; simp only [bg_a] at *; grind) | (refine bI_00 (p := decide (f_selects S) = true) ?_; rw [decide_eq_true_eq]; simp only [bg_a] at *; grind)
      · skip
        refine x_iload_n C dX7_bus_87 rfl ?_
        refine x_bipush (v := 115) C dX7_bus_88 (by decide) ?_
        refine x_icmp_ne (tgt := 127) C dX7_bus_90 (by decide) (fun c90 => ?_) (fun c90 => ?_)
        · skip
          refine x_iconst (v := 0) C dX7_bus_127 (by decide) ?_
          refine T128 _ ?_; clear T128 LP C Y E; first | (refine bI_1 (p := decide (f_selects S) = true) ?_; rw [decide_eq_true_eq]; simp only [bg_a] at *; grind) | (refine bI_00 (p := decide (f_selects S) = true) ?_; rw [decide_eq_true_eq]; simp only [bg_a] at *; grind)
        · skip
          refine x_aload_n C dX7_bus_93 rfl ?_
          refine m_getA C Y 3 (by decide) (by decide) wf_X7_13 dX7_bus_94 ?_
          refine x_bipush (v := 6) C dX7_bus_97 (by decide) ?_
          refine m_ildN C Y 3 (6) (by decide) dX7_bus_99 (by simp only [nI_lit, nI_add, pk_mul]) (by simp only [m_len]; omega) ?_
          refine x_bipush (v := 82) C dX7_bus_100 (by decide) ?_
          refine x_icmp_ne (tgt := 127) C dX7_bus_102 (by decide) (fun c102 => ?_) (fun c102 => ?_)
          · skip
            refine x_iconst (v := 0) C dX7_bus_127 (by decide) ?_
            refine T128 _ ?_; clear T128 LP C Y E; first | (refine bI_1 (p := decide (f_selects S) = true) ?_; rw [decide_eq_true_eq]; simp only [bg_a] at *; grind) | (refine bI_00 (p := decide (f_selects S) = true) ?_; rw [decide_eq_true_eq]; simp only [bg_a] at *; grind)
          · skip
            refine x_aload_n C dX7_bus_105 rfl ?_
            refine m_getA C Y 3 (by decide) (by decide) wf_X7_13 dX7_bus_106 ?_
            refine x_iconst (v := 1) C dX7_bus_109 (by decide) ?_
            refine m_ildN C Y 3 (1) (by decide) dX7_bus_110 (by simp only [nI_lit, nI_add, pk_mul]) (by simp only [m_len]; omega) ?_
            refine x_bipush (v := 11) C dX7_bus_111 (by decide) ?_
            refine x_icmp_ne (tgt := 127) C dX7_bus_113 (by decide) (fun c113 => ?_) (fun c113 => ?_)
            · skip
              refine x_iconst (v := 0) C dX7_bus_127 (by decide) ?_
              refine T128 _ ?_; clear T128 LP C Y E; first | (refine bI_1 (p := decide (f_selects S) = true) ?_; rw [decide_eq_true_eq]; simp only [bg_a] at *; grind) | (refine bI_00 (p := decide (f_selects S) = true) ?_; rw [decide_eq_true_eq]; simp only [bg_a] at *; grind)
            · skip
              refine x_iload_n C dX7_bus_116 rfl ?_
              refine x_sipush (v := 253) C dX7_bus_117 (by decide) ?_
              refine x_icmp_ne (tgt := 127) C dX7_bus_120 (by decide) (fun c120 => ?_) (fun c120 => ?_)
              · skip
                refine x_iconst (v := 0) C dX7_bus_127 (by decide) ?_
                refine T128 _ ?_; clear T128 LP C Y E; first | (refine bI_1 (p := decide (f_selects S) = true) ?_; rw [decide_eq_true_eq]; simp only [bg_a] at *; grind) | (refine bI_00 (p := decide (f_selects S) = true) ?_; rw [decide_eq_true_eq]; simp only [bg_a] at *; grind)
              · skip
                refine x_iconst (v := 1) C dX7_bus_123 (by decide) ?_
                refine x_goto (tgt := 128) C dX7_bus_124 (by decide) ?_
                refine T128 _ ?_; clear T128 LP C Y E; first | (refine bI_1 (p := decide (f_selects S) = true) ?_; rw [decide_eq_true_eq]; simp only [bg_a] at *; grind) | (refine bI_00 (p := decide (f_selects S) = true) ?_; rw [decide_eq_true_eq]; simp only [bg_a] at *; grind)
    · have e : f_bus S n = f_begin S := by unfold f_bus; rw [if_neg h1, if_neg h2]
      rw [e] at E
      have h1b : ¬ f_isS (f_begin S) := h1
      have h2b : ¬ f_isL (f_begin S) n := h2
      refine x_aload_n C dX7_bus_0 rfl ?_
      refine x_dup C dX7_bus_1 rfl ?_
      refine m_get C Y 8 (by decide) (by decide) wf_X7_129 dX7_bus_2 ?_
      refine x_iconst (v := 1) C dX7_bus_5 (by decide) ?_
      refine x_iadd C dX7_bus_6 ?_
      refine m_put C Y hW.2.1 8 (by decide) (by decide) rfl rfl rfl wf_X7_129 dX7_bus_7 ?_
      refine x_aload_n C dX7_bus_10 rfl ?_
      refine x_iconst (v := 0) C dX7_bus_11 (by decide) ?_
      refine m_put C Y hW.2.1 7 (by decide) (by decide) rfl rfl rfl wf_X7_132 dX7_bus_12 ?_
      refine x_aload_n C dX7_bus_15 rfl ?_
      refine x_iconst (v := 0) C dX7_bus_16 (by decide) ?_
      refine m_put C Y hW.2.1 6 (by decide) (by decide) rfl rfl rfl wf_X7_135 dX7_bus_17 ?_
      change X z 0 0 (MA M (f_begin S)) 20 _ _
      refine x_aload_n C dX7_bus_20 rfl ?_
      refine m_callF C Y hW E (s_isShort hW) rfl md_X7_isShort wi_X7_isShort ws_X7_isShort wm_X7_138 dX7_bus_21 rfl (by decide) (by decide) rfl (by simp [Value.category]) ?_
      rw [bI_f h1b]
      refine x_istore_nE (L' := [some _, some _, none, none, none, none, none]) C dX7_bus_24 (by rw [hn]; decide) rfl ?_
      refine x_iload_n C dX7_bus_25 rfl ?_
      refine x_if_ne (tgt := 37) C dX7_bus_26 (by decide) (fun c26 => absurd c26 (fun q => q rfl)) (fun c26 => ?_)
      refine x_aload_n C dX7_bus_29 rfl ?_
      refine m_callF C Y hW E (s_isLong hW n hs hn3) rfl md_X7_isLong wi_X7_isLong ws_X7_isLong wm_X7_142 dX7_bus_30 rfl (by decide) (by decide) rfl (by simp [Value.category]) ?_
      rw [bI_f h2b]
      refine x_if_ne (tgt := 37) C dX7_bus_33 (by decide) (fun c33 => absurd c33 (fun q => q rfl)) (fun c33 => ?_)
      refine m_vret C E dX7_bus_36 ?_
      exact ⟨rfl, rfl⟩
end Bus
end
section
/-! MeterBusModel: frames put on the bus by the master; send. -/
theorem WFa.sa {S : MS} {k i : Nat} {v : Int32} (h : WFa S) (h15 : 15 ≠ k) (h14 : 14 ≠ k) (h17 : 17 ≠ k) : WFa (S.sa k i v) := fun j hj => (h j hj).sa h15 h14 h17
theorem WFa.si {S : MS} {k : Nat} {v : Int32} (h : WFa S) : WFa (S.si k v) := fun j hj => (h j hj).of rfl rfl (fun _ => rfl)
def f_putS0 (S : MS) (c : Int32) : MS := (((((S.sa 3 0 16).sa 3 1 c).sa 3 2 253).sa 3 3 ((c + 253) &&& 255)).sa 3 4 22).si 4 5
def f_putS (S : MS) (c : Int32) : MS := f_bus (f_putS0 S c) 5
def f_mcp (S : MS) : Nat → MS
  | 0 => S
  | n + 1 => (f_mcp S n).sa 3 (7 + n) (S.a 19 n)
def f_msum (S : MS) : Nat → Int32
  | 0 => 418
  | n + 1 => f_msum S n + S.a 19 n
def f_mhd (S : MS) : MS := ((((((S.sa 3 0 104).sa 3 1 11).sa 3 2 11).sa 3 3 104).sa 3 4 83).sa 3 5 253).sa 3 6 82
def f_putM0 (S : MS) : MS := (((f_mcp (f_mhd S) 8).sa 3 15 (f_msum (f_mhd S) 8 &&& 255)).sa 3 16 22).si 4 17
def f_putM (S : MS) : MS := f_bus (f_putM0 S) 17
theorem f_mcp_a (S : MS) (n : Nat) {q j : Nat} (h : q ≠ 3) : (f_mcp S n).a q j = S.a q j := by
  induction n with
  | zero => rfl
  | succ n ih => rw [f_mcp, sa_ne h, ih]
theorem WFa.mcp {S : MS} (h : WFa S) : ∀ n, WFa (f_mcp S n)
  | 0 => h
  | n + 1 => (h.mcp n).sa (by decide) (by decide) (by decide)
theorem WFa.mhd {S : MS} (h : WFa S) : WFa (f_mhd S) := ((((((h.sa (by decide) (by decide) (by decide)).sa (by decide) (by decide) (by decide)).sa (by decide) (by decide) (by decide)).sa (by decide) (by decide) (by decide)).sa (by decide) (by decide) (by decide)).sa (by decide) (by decide) (by decide)).sa (by decide) (by decide) (by decide)
theorem WFa.putM0 {S : MS} (h : WFa S) : WFa (f_putM0 S) := (((h.mhd.mcp 8).sa (by decide) (by decide) (by decide)).sa (by decide) (by decide) (by decide)).si
theorem WFa.putS0 {S : MS} {c : Int32} (h : WFa S) : WFa (f_putS0 S c) := (((((h.sa (by decide) (by decide) (by decide)).sa (by decide) (by decide) (by decide)).sa (by decide) (by decide) (by decide)).sa (by decide) (by decide) (by decide)).sa (by decide) (by decide) (by decide)).si
/-- n cells of array r copied to array q -/
def f_cp (S : MS) (q r : Nat) : Nat → MS
  | 0 => S
  | n + 1 => (f_cp S q r n).sa q n (S.a r n)
theorem f_cp_ne (S : MS) {q r : Nat} (n : Nat) {p j : Nat} (h : p ≠ q) : (f_cp S q r n).a p j = S.a p j := by
  induction n with
  | zero => rfl
  | succ n ih => rw [f_cp, sa_ne h, ih]
theorem f_cp_i (S : MS) {q r : Nat} (n k : Nat) : (f_cp S q r n).i k = S.i k := by
  induction n with
  | zero => rfl
  | succ n ih => rw [f_cp, MS.sa_i, ih]
theorem f_cp_eq (S : MS) {q r : Nat} (n j : Nat) : (f_cp S q r n).a q j = if j < n then S.a r j else S.a q j := by
  induction n with
  | zero => simp [f_cp]
  | succ n ih =>
    rw [f_cp, MS.sa_a, ih]
    by_cases h : j = n
    · subst h; simp
    · by_cases g : j < n
      · simp [h, g, Nat.lt_succ_of_lt g]
      · simp [h, g, show ¬ j < n + 1 by omega]
theorem WFa.cp {S : MS} {q r : Nat} (h : WFa S) (h15 : 15 ≠ q) (h14 : 14 ≠ q) (h17 : 17 ≠ q) : ∀ n, WFa (f_cp S q r n)
  | 0 => h
  | n + 1 => (h.cp h15 h14 h17 n).sa h15 h14 h17
section Put
variable {w : Wd} {M : MW} {S : MS}
theorem s_putShort (hW : Wm w M) (h : WFa S) (c : Int32) : TF w M yX7_putShort cX7_putShort 2 none 4 [.int c] S none (f_putS S c) := by
  refine TM.intro hW rfl (Nat.le_of_ble_eq_true rfl) (fun z C Y E hn => ?_)
  have hb := s_bus (S := f_putS0 S c) hW 5 rfl (by decide) h.putS0
  refine x_aload_n C dX7_putShort_0 rfl ?_
  refine m_getA C Y 3 (by decide) (by decide) wf_X7_13 dX7_putShort_1 ?_
  refine x_iconst (v := 0) C dX7_putShort_4 (by decide) ?_
  refine x_bipush (v := 16) C dX7_putShort_5 (by decide) ?_
  refine m_istN C Y hW.2.1 3 (0) (by decide) dX7_putShort_7 (by simp only [nI_lit, nI_add, pk_mul]) (by simp only [m_len]; omega) ?_
  refine x_aload_n C dX7_putShort_8 rfl ?_
  refine m_getA C Y 3 (by decide) (by decide) wf_X7_13 dX7_putShort_9 ?_
  refine x_iconst (v := 1) C dX7_putShort_12 (by decide) ?_
  refine x_iload_n C dX7_putShort_13 rfl ?_
  refine m_istN C Y hW.2.1 3 (1) (by decide) dX7_putShort_14 (by simp only [nI_lit, nI_add, pk_mul]) (by simp only [m_len]; omega) ?_
  refine x_aload_n C dX7_putShort_15 rfl ?_
  refine m_getA C Y 3 (by decide) (by decide) wf_X7_13 dX7_putShort_16 ?_
  refine x_iconst (v := 2) C dX7_putShort_19 (by decide) ?_
  refine x_sipush (v := 253) C dX7_putShort_20 (by decide) ?_
  refine m_istN C Y hW.2.1 3 (2) (by decide) dX7_putShort_23 (by simp only [nI_lit, nI_add, pk_mul]) (by simp only [m_len]; omega) ?_
  refine x_aload_n C dX7_putShort_24 rfl ?_
  refine m_getA C Y 3 (by decide) (by decide) wf_X7_13 dX7_putShort_25 ?_
  refine x_iconst (v := 3) C dX7_putShort_28 (by decide) ?_
  refine x_iload_n C dX7_putShort_29 rfl ?_
  refine x_sipush (v := 253) C dX7_putShort_30 (by decide) ?_
  refine x_iadd C dX7_putShort_33 ?_
  refine x_sipush (v := 255) C dX7_putShort_34 (by decide) ?_
  refine x_iand C dX7_putShort_37 ?_
  refine m_istN C Y hW.2.1 3 (3) (by decide) dX7_putShort_38 (by simp only [nI_lit, nI_add, pk_mul]) (by simp only [m_len]; omega) ?_
  refine x_aload_n C dX7_putShort_39 rfl ?_
  refine m_getA C Y 3 (by decide) (by decide) wf_X7_13 dX7_putShort_40 ?_
  refine x_iconst (v := 4) C dX7_putShort_43 (by decide) ?_
  refine x_bipush (v := 22) C dX7_putShort_44 (by decide) ?_
  refine m_istN C Y hW.2.1 3 (4) (by decide) dX7_putShort_46 (by simp only [nI_lit, nI_add, pk_mul]) (by simp only [m_len]; omega) ?_
  refine x_aload_n C dX7_putShort_47 rfl ?_
  refine x_iconst (v := 5) C dX7_putShort_48 (by decide) ?_
  refine m_put C Y hW.2.1 4 (by decide) (by decide) rfl rfl rfl wf_X7_126 dX7_putShort_49 ?_
  change X z 0 0 (MA M (f_putS0 S c)) 52 _ _
  refine x_aload_n C dX7_putShort_52 rfl ?_
  refine m_callF C Y hW E (hb) rfl md_X7_bus wi_X7_bus ws_X7_bus wm_X7_172 dX7_putShort_53 rfl (by decide) (by decide) rfl (by simp [Value.category]) ?_
  refine m_vret C E dX7_putShort_56 ?_
  exact ⟨rfl, rfl⟩
theorem s_putMask (hW : Wm w M) (h : WFa S) : TF w M yX7_putMask cX7_putMask 3 none 4 [] S none (f_putM S) := by
  refine TM.intro hW rfl (Nat.le_of_ble_eq_true rfl) (fun z C Y E hn => ?_)
  have hb := s_bus (S := f_putM0 S) hW 17 rfl (by decide) h.putM0
  have LP : ∀ (t b : Nat), b + t = 8 → X z 0 0 (MA M (f_mcp (f_mhd S) b)) 64 [some (.ref M.o), some (.int (f_msum (f_mhd S) b)), some (.int (nI b))] [] := by
    intro t
    induction t with
    | zero =>
      intro b hb8
      obtain rfl : b = 8 := by omega
      refine x_iload_n C dX7_putMask_64 rfl ?_
      refine x_bipush (v := 8) C dX7_putMask_65 (by decide) ?_
      refine x_icmp_ge (tgt := 100) C dX7_putMask_67 (by decide) (fun c67 => ?_) (fun c67 => absurd c67 (by decide))
      refine x_aload_n C dX7_putMask_100 rfl ?_
      refine m_getA C Y 3 (by decide) (by decide) wf_X7_13 dX7_putMask_101 ?_
      refine x_bipush (v := 15) C dX7_putMask_104 (by decide) ?_
      refine x_iload_n C dX7_putMask_106 rfl ?_
      refine x_sipush (v := 255) C dX7_putMask_107 (by decide) ?_
      refine x_iand C dX7_putMask_110 ?_
      refine m_istN C Y hW.2.1 3 (15) (by decide) dX7_putMask_111 (by simp only [nI_lit, nI_add, pk_mul]) (by simp only [m_len]; omega) ?_
      refine x_aload_n C dX7_putMask_112 rfl ?_
      refine m_getA C Y 3 (by decide) (by decide) wf_X7_13 dX7_putMask_113 ?_
      refine x_bipush (v := 16) C dX7_putMask_116 (by decide) ?_
      refine x_bipush (v := 22) C dX7_putMask_118 (by decide) ?_
      refine m_istN C Y hW.2.1 3 (16) (by decide) dX7_putMask_120 (by simp only [nI_lit, nI_add, pk_mul]) (by simp only [m_len]; omega) ?_
      refine x_aload_n C dX7_putMask_121 rfl ?_
      refine x_bipush (v := 17) C dX7_putMask_122 (by decide) ?_
      refine m_put C Y hW.2.1 4 (by decide) (by decide) rfl rfl rfl wf_X7_126 dX7_putMask_124 ?_
      change X z 0 0 (MA M (f_putM0 S)) 127 _ _
      refine x_aload_n C dX7_putMask_127 rfl ?_
      refine m_callF C Y hW E (hb) rfl md_X7_bus wi_X7_bus ws_X7_bus wm_X7_172 dX7_putMask_128 rfl (by decide) (by decide) rfl (by simp [Value.category]) ?_
      refine m_vret C E dX7_putMask_131 ?_
      exact ⟨rfl, rfl⟩
    | succ t ih =>
      intro b hb8
      have ih2 := ih (b + 1) (by omega)
      refine x_iload_n C dX7_putMask_64 rfl ?_
      refine x_bipush (v := 8) C dX7_putMask_65 (by decide) ?_
      refine x_icmp_ge (tgt := 100) C dX7_putMask_67 (by decide) (fun c67 => absurd c67 (by rw [nI_lit]; exact nI_ge (show b < 8 by omega) (by decide))) (fun c67 => ?_)
      refine x_aload_n C dX7_putMask_70 rfl ?_
      refine m_getA C Y 3 (by decide) (by decide) wf_X7_13 dX7_putMask_71 ?_
      refine x_bipush (v := 7) C dX7_putMask_74 (by decide) ?_
      refine x_iload_n C dX7_putMask_76 rfl ?_
      refine x_iadd C dX7_putMask_77 ?_
      refine x_aload_n C dX7_putMask_78 rfl ?_
      refine m_getA C Y 19 (by decide) (by decide) wf_X7_47 dX7_putMask_79 ?_
      refine x_iload_n C dX7_putMask_82 rfl ?_
      refine m_ildN C Y 19 (b) (by decide) dX7_putMask_83 (by simp only [nI_lit, nI_add, pk_mul]) (by simp only [m_len]; omega) ?_
      rw [f_mcp_a _ _ (by decide)]
      refine m_istN C Y hW.2.1 3 (7 + b) (by decide) dX7_putMask_84 (by simp only [nI_lit, nI_add, pk_mul]) (by simp only [m_len]; omega) ?_
      refine x_iload_n C dX7_putMask_85 rfl ?_
      refine x_aload_n C dX7_putMask_86 rfl ?_
      refine m_getA C Y 19 (by decide) (by decide) wf_X7_47 dX7_putMask_87 ?_
      refine x_iload_n C dX7_putMask_90 rfl ?_
      refine m_ildN C Y 19 (b) (by decide) dX7_putMask_91 (by simp only [nI_lit, nI_add, pk_mul]) (by simp only [m_len]; omega) ?_
      rw [sa_ne (by decide), f_mcp_a _ _ (by decide)]
      refine x_iadd C dX7_putMask_92 ?_
      refine x_istore_nE (L' := [some _, some _, some _]) C dX7_putMask_93 (by rw [hn]; decide) rfl ?_
      refine x_iincE (v := nI (b + 1)) (L' := [some _, some _, some _]) C dX7_putMask_94 rfl (nI_1 b) (by rw [hn]; decide) rfl ?_
      refine x_goto (tgt := 64) C dX7_putMask_97 (by decide) ?_
      exact ih2
  refine x_aload_n C dX7_putMask_0 rfl ?_
  refine m_getA C Y 3 (by decide) (by decide) wf_X7_13 dX7_putMask_1 ?_
  refine x_iconst (v := 0) C dX7_putMask_4 (by decide) ?_
  refine x_bipush (v := 104) C dX7_putMask_5 (by decide) ?_
  refine m_istN C Y hW.2.1 3 (0) (by decide) dX7_putMask_7 (by simp only [nI_lit, nI_add, pk_mul]) (by simp only [m_len]; omega) ?_
  refine x_aload_n C dX7_putMask_8 rfl ?_
  refine m_getA C Y 3 (by decide) (by decide) wf_X7_13 dX7_putMask_9 ?_
  refine x_iconst (v := 1) C dX7_putMask_12 (by decide) ?_
  refine x_bipush (v := 11) C dX7_putMask_13 (by decide) ?_
  refine m_istN C Y hW.2.1 3 (1) (by decide) dX7_putMask_15 (by simp only [nI_lit, nI_add, pk_mul]) (by simp only [m_len]; omega) ?_
  refine x_aload_n C dX7_putMask_16 rfl ?_
  refine m_getA C Y 3 (by decide) (by decide) wf_X7_13 dX7_putMask_17 ?_
  refine x_iconst (v := 2) C dX7_putMask_20 (by decide) ?_
  refine x_bipush (v := 11) C dX7_putMask_21 (by decide) ?_
  refine m_istN C Y hW.2.1 3 (2) (by decide) dX7_putMask_23 (by simp only [nI_lit, nI_add, pk_mul]) (by simp only [m_len]; omega) ?_
  refine x_aload_n C dX7_putMask_24 rfl ?_
  refine m_getA C Y 3 (by decide) (by decide) wf_X7_13 dX7_putMask_25 ?_
  refine x_iconst (v := 3) C dX7_putMask_28 (by decide) ?_
  refine x_bipush (v := 104) C dX7_putMask_29 (by decide) ?_
  refine m_istN C Y hW.2.1 3 (3) (by decide) dX7_putMask_31 (by simp only [nI_lit, nI_add, pk_mul]) (by simp only [m_len]; omega) ?_
  refine x_aload_n C dX7_putMask_32 rfl ?_
  refine m_getA C Y 3 (by decide) (by decide) wf_X7_13 dX7_putMask_33 ?_
  refine x_iconst (v := 4) C dX7_putMask_36 (by decide) ?_
  refine x_bipush (v := 83) C dX7_putMask_37 (by decide) ?_
  refine m_istN C Y hW.2.1 3 (4) (by decide) dX7_putMask_39 (by simp only [nI_lit, nI_add, pk_mul]) (by simp only [m_len]; omega) ?_
  refine x_aload_n C dX7_putMask_40 rfl ?_
  refine m_getA C Y 3 (by decide) (by decide) wf_X7_13 dX7_putMask_41 ?_
  refine x_iconst (v := 5) C dX7_putMask_44 (by decide) ?_
  refine x_sipush (v := 253) C dX7_putMask_45 (by decide) ?_
  refine m_istN C Y hW.2.1 3 (5) (by decide) dX7_putMask_48 (by simp only [nI_lit, nI_add, pk_mul]) (by simp only [m_len]; omega) ?_
  refine x_aload_n C dX7_putMask_49 rfl ?_
  refine m_getA C Y 3 (by decide) (by decide) wf_X7_13 dX7_putMask_50 ?_
  refine x_bipush (v := 6) C dX7_putMask_53 (by decide) ?_
  refine x_bipush (v := 82) C dX7_putMask_55 (by decide) ?_
  refine m_istN C Y hW.2.1 3 (6) (by decide) dX7_putMask_57 (by simp only [nI_lit, nI_add, pk_mul]) (by simp only [m_len]; omega) ?_
  refine x_sipush (v := 418) C dX7_putMask_58 (by decide) ?_
  refine x_istore_nE (L' := [some _, some _, none]) C dX7_putMask_61 (by rw [hn]; decide) rfl ?_
  refine x_iconst (v := 0) C dX7_putMask_62 (by decide) ?_
  refine x_istore_nE (L' := [some _, some _, some _]) C dX7_putMask_63 (by rw [hn]; decide) rfl ?_
  exact LP 8 0 rfl
end Put
end
section
/-! MeterBusModel: send, setPart, find. -/
def AO (S : MS) : Prop := ∃ m, m ≤ 300 ∧ S.i 6 = nI m
theorem f_tel_len (S : MS) (k p N : Nat) : (f_tel S k p N).length = 21 + N + if f_more S k p then 1 else 0 := by
  unfold f_tel
  rw [List.length_append, List.length_append, f_body_len]
  simp; omega
theorem AO.ack (S : MS) : AO (f_ack S) := ⟨1, by decide, rfl⟩
theorem AO.asked {S : MS} {k : Nat} {bit : Int32} (h : WFm S k) : AO (f_asked S k bit) := by
  refine ⟨(f_tel S k (f_p S k bit) (f_N S k (f_p S k bit))).length, ?_, rfl⟩
  have := (h.N (f_p_lt S k bit)).1
  rw [f_tel_len]
  split <;> omega
theorem AO.step {S : MS} {k : Nat} {isS sel : Bool} {c a : Int32} (g : AO S) (h : WFm S k) : AO (f_step S isS sel c a k) := by
  unfold f_step f_does
  split
  · split
    · unfold f_sel
      split
      · exact AO.ack _
      · exact g
    · split
      · unfold f_short
        split
        · exact AO.ack _
        · split
          · exact AO.asked h
          · exact g
      · split
        · unfold f_long
          split
          · exact AO.ack _
          · split
            · exact AO.ack _
            · exact g
        · exact g
  · exact g
theorem AO.run {S : MS} {isS sel : Bool} {c a : Int32} (g : AO S) (h : WFa S) : ∀ n, n ≤ 12 → AO (f_run S isS sel c a n)
  | 0, _ => g
  | n + 1, hn => (AO.run g h n (by omega)).step (h.run n n (by omega))
theorem AO.fin {S : MS} {a : Int32} (g : AO S) : AO (f_end S a) := g
theorem WFa.fin {S : MS} {a : Int32} (g : WFa S) : WFa (f_end S a) := fun j hj => (g j hj).of rfl rfl (fun _ => rfl)
theorem AO.bus {S : MS} (h : WFa S) (n : Nat) : AO (f_bus S n) := by
  have g0 : AO (f_begin S) := ⟨0, by decide, rfl⟩
  unfold f_bus
  split
  · exact AO.fin (AO.run g0 h.bg 12 (by decide))
  · split
    · exact AO.fin (AO.run g0 h.bg 12 (by decide))
    · exact g0
def f_m (S : MS) : Nat := (S.i 6).toNatClampNeg
theorem AO.m {S : MS} (g : AO S) : f_m S ≤ 300 ∧ S.i 6 = nI (f_m S) := by
  obtain ⟨m, h1, h2⟩ := g
  unfold f_m
  rw [h2, nI_clamp (by omega)]
  exact ⟨h1, rfl⟩
theorem WFa.bus {S : MS} (h : WFa S) (n : Nat) : WFa (f_bus S n) := by
  unfold f_bus
  split
  · exact (h.bg.run 12).fin
  · split
    · exact (h.bg.run 12).fin
    · exact h.bg
def f_send0 (S : MS) (n : Nat) : MS := f_bus ((f_cp (S.si 0 0) 3 1 n).si 4 (nI n)) n
def f_send (S : MS) (n : Nat) : MS := if (f_send0 S n).i 7 = 1 then (f_cp ((f_send0 S n).si 2 0) 1 5 (f_m (f_send0 S n))).si 2 (nI (f_m (f_send0 S n))) else (f_send0 S n).si 2 0
def f_sendR (S : MS) (n : Nat) : Int32 := if (f_send0 S n).i 7 = 1 then nI (f_m (f_send0 S n)) else if (f_send0 S n).i 7 = 0 then 0 else -2
section Send
variable {w : Wd} {M : MW} {S : MS}
theorem s_send (hW : Wm w M) (h : WFa S) (n : Nat) (hs : S.i 2 = nI n) (hn3 : n ≤ 300) : TF w M yX7_send cX7_send 2 (some .int) 4 [] S (some (.int (f_sendR S n))) (f_send S n) := by
  refine TM.intro hW rfl (Nat.le_of_ble_eq_true rfl) (fun z C Y E hn => ?_)
  have hw1 : WFa ((f_cp (S.si 0 0) 3 1 n).si 4 (nI n)) := (h.si.cp (by decide) (by decide) (by decide) n).si
  have hb := s_bus (S := (f_cp (S.si 0 0) 3 1 n).si 4 (nI n)) hW n rfl hn3 hw1
  obtain ⟨am1, am2⟩ := (AO.bus hw1 n).m
  have e2 : ∀ b, (f_cp (S.si 0 0) 3 1 b).i 2 = nI n := fun b => by rw [f_cp_i]; exact hs
  have T45 : X z 0 0 (MA M (f_send0 S n)) 45 [some (.ref M.o), some (.int (nI n))] [] := by
    have am : f_m (f_send0 S n) ≤ 300 ∧ (f_send0 S n).i 6 = nI (f_m (f_send0 S n)) := ⟨am1, am2⟩
    unfold f_send f_sendR at E
    generalize f_send0 S n = S2 at am E ⊢
    obtain ⟨am1, am2⟩ := am
    generalize hm : f_m S2 = m at am1 am2 E ⊢
    by_cases h1 : S2.i 7 = 1
    · rw [if_pos h1, if_pos h1] at E
      have e6 : ∀ b, (f_cp (S2.si 2 0) 1 5 b).i 6 = nI m := fun b => by rw [f_cp_i]; exact am2
      have LQ : ∀ (t b : Nat), b + t = m → X z 0 0 (MA M (f_cp (S2.si 2 0) 1 5 b)) 74 [some (.ref M.o), some (.int (nI b))] [] := by
        intro t
        induction t with
        | zero =>
          intro b hbm
          obtain rfl : b = m := by omega
          refine x_iload_n C dX7_send_74 rfl ?_
          refine x_aload_n C dX7_send_75 rfl ?_
          refine m_get C Y 6 (by decide) (by decide) wf_X7_135 dX7_send_76 ?_
          rw [e6]
          refine x_icmp_ge (tgt := 100) C dX7_send_79 (by decide) (fun c79 => ?_) (fun c79 => absurd c79 (not_not_intro (Int32.le_refl _)))
          refine x_aload_n C dX7_send_100 rfl ?_
          refine x_aload_n C dX7_send_101 rfl ?_
          refine m_get C Y 6 (by decide) (by decide) wf_X7_135 dX7_send_102 ?_
          rw [e6]
          refine m_put C Y hW.2.1 2 (by decide) (by decide) rfl rfl rfl wf_X7_104 dX7_send_105 ?_
          refine x_aload_n C dX7_send_108 rfl ?_
          refine m_get C Y 2 (by decide) (by decide) wf_X7_104 dX7_send_109 ?_
          refine m_iret C E dX7_send_112 ?_
          exact ⟨rfl, rfl⟩
        | succ t ih =>
          intro b hbm
          have ih2 := ih (b + 1) (by omega)
          refine x_iload_n C dX7_send_74 rfl ?_
          refine x_aload_n C dX7_send_75 rfl ?_
          refine m_get C Y 6 (by decide) (by decide) wf_X7_135 dX7_send_76 ?_
          rw [e6]
          refine x_icmp_ge (tgt := 100) C dX7_send_79 (by decide) (fun c79 => absurd c79 (nI_ge (show b < m by omega) (by omega))) (fun c79 => ?_)
          refine x_aload_n C dX7_send_82 rfl ?_
          refine m_getA C Y 1 (by decide) (by decide) wf_X7_7 dX7_send_83 ?_
          refine x_iload_n C dX7_send_86 rfl ?_
          refine x_aload_n C dX7_send_87 rfl ?_
          refine m_getA C Y 5 (by decide) (by decide) wf_X7_16 dX7_send_88 ?_
          refine x_iload_n C dX7_send_91 rfl ?_
          refine m_ildN C Y 5 (b) (by decide) dX7_send_92 (by simp only [nI_lit, nI_add, pk_mul]) (by simp only [m_len]; omega) ?_
          rw [f_cp_ne _ _ (by decide)]
          refine m_istN C Y hW.2.1 1 (b) (by decide) dX7_send_93 (by simp only [nI_lit, nI_add, pk_mul]) (by simp only [m_len]; omega) ?_
          refine x_iincE (v := nI (b + 1)) (L' := [some _, some _]) C dX7_send_94 rfl (nI_1 b) (by rw [hn]; decide) rfl ?_
          refine x_goto (tgt := 74) C dX7_send_97 (by decide) ?_
          exact ih2
      refine x_aload_n C dX7_send_45 rfl ?_
      refine x_iconst (v := 0) C dX7_send_46 (by decide) ?_
      refine m_put C Y hW.2.1 2 (by decide) (by decide) rfl rfl rfl wf_X7_104 dX7_send_47 ?_
      refine x_aload_n C dX7_send_50 rfl ?_
      refine m_get C Y 7 (by decide) (by decide) wf_X7_132 dX7_send_51 ?_
      refine x_iconst (v := 1) C dX7_send_54 (by decide) ?_
      refine x_icmp_eq (tgt := 72) C dX7_send_55 (by decide) (fun c55 => ?_) (fun c55 => absurd c55 (not_not_intro h1))
      refine x_iconst (v := 0) C dX7_send_72 (by decide) ?_
      refine x_istore_nE (L' := [some _, some _]) C dX7_send_73 (by rw [hn]; decide) rfl ?_
      exact LQ m 0 (by omega)
    · rw [if_neg h1, if_neg h1] at E
      refine x_aload_n C dX7_send_45 rfl ?_
      refine x_iconst (v := 0) C dX7_send_46 (by decide) ?_
      refine m_put C Y hW.2.1 2 (by decide) (by decide) rfl rfl rfl wf_X7_104 dX7_send_47 ?_
      refine x_aload_n C dX7_send_50 rfl ?_
      refine m_get C Y 7 (by decide) (by decide) wf_X7_132 dX7_send_51 ?_
      refine x_iconst (v := 1) C dX7_send_54 (by decide) ?_
      refine x_icmp_eq (tgt := 72) C dX7_send_55 (by decide) (fun c55 => absurd c55 (fun q => h1 q)) (fun c55 => ?_)
      refine x_aload_n C dX7_send_58 rfl ?_
      refine m_get C Y 7 (by decide) (by decide) wf_X7_132 dX7_send_59 ?_
      refine x_if_ne (tgt := 69) C dX7_send_62 (by decide) (fun c62 => ?_) (fun c62 => ?_)
      · skip
        refine x_bipush (v := (-2)) C dX7_send_69 (by decide) ?_
        refine m_iret C E dX7_send_71 ?_
        first | exact ⟨congrArg (fun t => some (Value.int t)) (if_neg c62).symm, rfl⟩ | exact ⟨congrArg (fun t => some (Value.int t)) (if_pos c62).symm, rfl⟩
      · skip
        refine x_iconst (v := 0) C dX7_send_65 (by decide) ?_
        refine x_goto (tgt := 71) C dX7_send_66 (by decide) ?_
        refine m_iret C E dX7_send_71 ?_
        first | exact ⟨congrArg (fun t => some (Value.int t)) (if_neg c62).symm, rfl⟩ | exact ⟨congrArg (fun t => some (Value.int t)) (if_pos c62).symm, rfl⟩
  have LP : ∀ (t b : Nat), b + t = n → X z 0 0 (MA M (f_cp (S.si 0 0) 3 1 b)) 7 [some (.ref M.o), some (.int (nI b))] [] := by
    intro t
    induction t with
    | zero =>
      intro b hbn
      obtain rfl : b = n := by omega
      refine x_iload_n C dX7_send_7 rfl ?_
      refine x_aload_n C dX7_send_8 rfl ?_
      refine m_get C Y 2 (by decide) (by decide) wf_X7_104 dX7_send_9 ?_
      rw [e2]
      refine x_icmp_ge (tgt := 33) C dX7_send_12 (by decide) (fun c12 => ?_) (fun c12 => absurd c12 (not_not_intro (Int32.le_refl _)))
      refine x_aload_n C dX7_send_33 rfl ?_
      refine x_aload_n C dX7_send_34 rfl ?_
      refine m_get C Y 2 (by decide) (by decide) wf_X7_104 dX7_send_35 ?_
      rw [e2]
      refine m_put C Y hW.2.1 4 (by decide) (by decide) rfl rfl rfl wf_X7_126 dX7_send_38 ?_
      refine x_aload_n C dX7_send_41 rfl ?_
      refine m_callF C Y hW E (hb) rfl md_X7_bus wi_X7_bus ws_X7_bus wm_X7_172 dX7_send_42 rfl (by decide) (by decide) rfl (by simp [Value.category]) ?_
      exact T45
    | succ t ih =>
      intro b hbn
      have ih2 := ih (b + 1) (by omega)
      refine x_iload_n C dX7_send_7 rfl ?_
      refine x_aload_n C dX7_send_8 rfl ?_
      refine m_get C Y 2 (by decide) (by decide) wf_X7_104 dX7_send_9 ?_
      rw [e2]
      refine x_icmp_ge (tgt := 33) C dX7_send_12 (by decide) (fun c12 => absurd c12 (nI_ge (show b < n by omega) (by omega))) (fun c12 => ?_)
      refine x_aload_n C dX7_send_15 rfl ?_
      refine m_getA C Y 3 (by decide) (by decide) wf_X7_13 dX7_send_16 ?_
      refine x_iload_n C dX7_send_19 rfl ?_
      refine x_aload_n C dX7_send_20 rfl ?_
      refine m_getA C Y 1 (by decide) (by decide) wf_X7_7 dX7_send_21 ?_
      refine x_iload_n C dX7_send_24 rfl ?_
      refine m_ildN C Y 1 (b) (by decide) dX7_send_25 (by simp only [nI_lit, nI_add, pk_mul]) (by simp only [m_len]; omega) ?_
      rw [f_cp_ne _ _ (by decide)]
      refine m_istN C Y hW.2.1 3 (b) (by decide) dX7_send_26 (by simp only [nI_lit, nI_add, pk_mul]) (by simp only [m_len]; omega) ?_
      refine x_iincE (v := nI (b + 1)) (L' := [some _, some _]) C dX7_send_27 rfl (nI_1 b) (by rw [hn]; decide) rfl ?_
      refine x_goto (tgt := 7) C dX7_send_30 (by decide) ?_
      exact ih2
  refine x_aload_n C dX7_send_0 rfl ?_
  refine x_iconst (v := 0) C dX7_send_1 (by decide) ?_
  refine m_put C Y hW.2.1 0 (by decide) (by decide) rfl rfl rfl wf_X7_97 dX7_send_2 ?_
  refine x_iconst (v := 0) C dX7_send_5 (by decide) ?_
  refine x_istore_nE (L' := [some _, some _]) C dX7_send_6 (by rw [hn]; decide) rfl ?_
  exact LP n 0 (by omega)
end Send
end
section
/-! MeterBusModel: setPart, find. -/
def f_d (v : Int32) : Int32 := if v < 0 then 15 else v
def f_part (S : MS) (n : Nat) (v : Int32) : MS :=
  if 7 < n then S.sa 19 (n - 4) (if v < 0 then 255 else v)
  else S.sa 19 (3 - n / 2) (if n % 2 = 0 then (S.a 19 (3 - n / 2) &&& 15) ||| (f_d v <<< ((4 : Int32) &&& 31)) else (S.a 19 (3 - n / 2) &&& 240) ||| f_d v)
section Part
variable {w : Wd} {M : MW} {S : MS}
theorem s_setPart (hW : Wm w M) (n : Nat) (hn12 : n < 12) (v : Int32) : TF w M yX7_setPart cX7_setPart 5 none 0 [.int (nI n), .int v] S none (f_part S n v) := by
  refine TM.intro hW rfl (Nat.le_of_ble_eq_true rfl) (fun z C Y E hn => ?_)
  have i7 : nI n ≤ 7 ↔ ¬ 7 < n := by rw [show (7 : Int32) = nI 7 from rfl, nI_leI (by omega) (by omega)]; omega
  by_cases h7 : 7 < n
  · have e : f_part S n v = S.sa 19 (n - 4) (if v < 0 then 255 else v) := if_pos h7
    rw [e] at E
    refine x_iload_n C dX7_setPart_0 rfl ?_
    refine x_bipush (v := 7) C dX7_setPart_1 (by decide) ?_
    refine x_icmp_le (tgt := 26) C dX7_setPart_3 (by decide) (fun c3 => absurd c3 (fun q => i7.mp q h7)) (fun c3 => ?_)
    refine x_aload_n C dX7_setPart_6 rfl ?_
    refine m_getA C Y 19 (by decide) (by decide) wf_X7_47 dX7_setPart_7 ?_
    refine x_iload_n C dX7_setPart_10 rfl ?_
    refine x_iconst (v := 4) C dX7_setPart_11 (by decide) ?_
    refine x_isub C dX7_setPart_12 ?_
    refine x_iload_n C dX7_setPart_13 rfl ?_
    refine x_if_ge (tgt := 23) C dX7_setPart_14 (by decide) (fun c14 => ?_) (fun c14 => ?_)
    · skip
      refine x_iload_n C dX7_setPart_23 rfl ?_
      refine m_istN C Y hW.2.1 19 (n - 4) (by decide) dX7_setPart_24 (by rw [show (4 : Int32) = nI 4 from rfl, pk_sub (by omega)]) (by simp only [m_len]; omega) ?_
      refine m_vret C E dX7_setPart_25 ?_
      first | exact ⟨rfl, congrArg (fun t => S.sa 19 (n - 4) t) (if_neg (Int32.not_lt.mpr c14)).symm⟩ | exact ⟨rfl, congrArg (fun t => S.sa 19 (n - 4) t) (if_pos (Int32.not_le.mp c14)).symm⟩
    · skip
      refine x_sipush (v := 255) C dX7_setPart_17 (by decide) ?_
      refine x_goto (tgt := 24) C dX7_setPart_20 (by decide) ?_
      refine m_istN C Y hW.2.1 19 (n - 4) (by decide) dX7_setPart_24 (by rw [show (4 : Int32) = nI 4 from rfl, pk_sub (by omega)]) (by simp only [m_len]; omega) ?_
      refine m_vret C E dX7_setPart_25 ?_
      first | exact ⟨rfl, congrArg (fun t => S.sa 19 (n - 4) t) (if_neg (Int32.not_lt.mpr c14)).symm⟩ | exact ⟨rfl, congrArg (fun t => S.sa 19 (n - 4) t) (if_pos (Int32.not_le.mp c14)).symm⟩
  · have e : f_part S n v = S.sa 19 (3 - n / 2) (if n % 2 = 0 then (S.a 19 (3 - n / 2) &&& 15) ||| (f_d v <<< ((4 : Int32) &&& 31)) else (S.a 19 (3 - n / 2) &&& 240) ||| f_d v) := if_neg h7
    rw [e] at E
    have eb : (3 : Int32) - nI n / 2 = nI (3 - n / 2) := by rw [show (2 : Int32) = nI 2 from rfl, show (3 : Int32) = nI 3 from rfl, pk_div (by omega) (by decide) (by decide), pk_sub (by omega)]
    have er : nI n - nI n / 2 * 2 = nI (n % 2) := by rw [show (2 : Int32) = nI 2 from rfl, pk_rem (by omega) (by decide) (by decide)]
    have er0 : nI (n % 2) = 0 ↔ n % 2 = 0 := by rw [show (0 : Int32) = nI 0 from rfl, nI_eq (by omega) (by omega)]
    have T42 : ∀ d : Int32, d = f_d v → X z 0 0 (MA M S) 42 [some (.ref M.o), some (.int (nI n)), some (.int v), some (.int (nI (3 - n / 2))), none] [.int d] := by
      intro d ed
      subst ed
      refine x_istoreE (L' := [some _, some _, some _, some _, some _]) C dX7_setPart_42 (by rw [hn]; decide) rfl ?_
      refine x_aload_n C dX7_setPart_44 rfl ?_
      refine m_getA C Y 19 (by decide) (by decide) wf_X7_47 dX7_setPart_45 ?_
      refine x_iload_n C dX7_setPart_48 rfl ?_
      refine x_iload_n C dX7_setPart_49 rfl ?_
      refine x_iconst (v := 2) C dX7_setPart_50 (by decide) ?_
      refine x_irem C dX7_setPart_51 (by decide) ?_
      rw [er]
      refine x_if_ne (tgt := 72) C dX7_setPart_52 (by decide) (fun c52 => ?_) (fun c52 => ?_)
      · skip
        refine x_aload_n C dX7_setPart_72 rfl ?_
        refine m_getA C Y 19 (by decide) (by decide) wf_X7_47 dX7_setPart_73 ?_
        refine x_iload_n C dX7_setPart_76 rfl ?_
        refine m_ildN C Y 19 (3 - n / 2) (by decide) dX7_setPart_77 rfl (by simp only [m_len]; omega) ?_
        refine x_sipush (v := 240) C dX7_setPart_78 (by decide) ?_
        refine x_iand C dX7_setPart_81 ?_
        refine x_iload C dX7_setPart_82 rfl ?_
        refine x_ior C dX7_setPart_84 ?_
        refine m_istN C Y hW.2.1 19 (3 - n / 2) (by decide) dX7_setPart_85 rfl (by simp only [m_len]; omega) ?_
        refine m_vret C E dX7_setPart_86 ?_
        first | exact ⟨rfl, congrArg (fun t => S.sa 19 (3 - n / 2) t) (if_pos (er0.mp c52)).symm⟩ | exact ⟨rfl, congrArg (fun t => S.sa 19 (3 - n / 2) t) (if_neg (fun q => c52 (er0.mpr q))).symm⟩
      · skip
        refine x_aload_n C dX7_setPart_55 rfl ?_
        refine m_getA C Y 19 (by decide) (by decide) wf_X7_47 dX7_setPart_56 ?_
        refine x_iload_n C dX7_setPart_59 rfl ?_
        refine m_ildN C Y 19 (3 - n / 2) (by decide) dX7_setPart_60 rfl (by simp only [m_len]; omega) ?_
        refine x_bipush (v := 15) C dX7_setPart_61 (by decide) ?_
        refine x_iand C dX7_setPart_63 ?_
        refine x_iload C dX7_setPart_64 rfl ?_
        refine x_iconst (v := 4) C dX7_setPart_66 (by decide) ?_
        refine x_ishl C dX7_setPart_67 ?_
        refine x_ior C dX7_setPart_68 ?_
        refine x_goto (tgt := 85) C dX7_setPart_69 (by decide) ?_
        refine m_istN C Y hW.2.1 19 (3 - n / 2) (by decide) dX7_setPart_85 rfl (by simp only [m_len]; omega) ?_
        refine m_vret C E dX7_setPart_86 ?_
        first | exact ⟨rfl, congrArg (fun t => S.sa 19 (3 - n / 2) t) (if_pos (er0.mp c52)).symm⟩ | exact ⟨rfl, congrArg (fun t => S.sa 19 (3 - n / 2) t) (if_neg (fun q => c52 (er0.mpr q))).symm⟩
    refine x_iload_n C dX7_setPart_0 rfl ?_
    refine x_bipush (v := 7) C dX7_setPart_1 (by decide) ?_
    refine x_icmp_le (tgt := 26) C dX7_setPart_3 (by decide) (fun c3 => ?_) (fun c3 => absurd c3 (not_not_intro (i7.mpr h7)))
    refine x_iconst (v := 3) C dX7_setPart_26 (by decide) ?_
    refine x_iload_n C dX7_setPart_27 rfl ?_
    refine x_iconst (v := 2) C dX7_setPart_28 (by decide) ?_
    refine x_idiv C dX7_setPart_29 (by decide) ?_
    refine x_isub C dX7_setPart_30 ?_
    rw [eb]
    refine x_istore_nE (L' := [some _, some _, some _, some _, none]) C dX7_setPart_31 (by rw [hn]; decide) rfl ?_
    refine x_iload_n C dX7_setPart_32 rfl ?_
    refine x_if_ge (tgt := 41) C dX7_setPart_33 (by decide) (fun c33 => ?_) (fun c33 => ?_)
    · skip
      refine x_iload_n C dX7_setPart_41 rfl ?_
      first | exact T42 _ (if_neg (Int32.not_lt.mpr c33)).symm | exact T42 _ (if_pos (Int32.not_le.mp c33)).symm
    · skip
      refine x_bipush (v := 15) C dX7_setPart_36 (by decide) ?_
      refine x_goto (tgt := 42) C dX7_setPart_38 (by decide) ?_
      first | exact T42 _ (if_neg (Int32.not_lt.mpr c33)).symm | exact T42 _ (if_pos (Int32.not_le.mp c33)).symm
end Part
def f_find0 (S : MS) : MS := f_putS (f_putM (f_putS S 64)) 91
def f_fcp (S : MS) (f : Nat) : Nat → MS
  | 0 => S
  | n + 1 => (f_fcp S f n).sa 21 (8 * f + n) (S.a 5 (7 + n))
theorem f_fcp_a (S : MS) (f n : Nat) {q j : Nat} (h : q ≠ 21) : (f_fcp S f n).a q j = S.a q j := by
  induction n with
  | zero => rfl
  | succ n ih => rw [f_fcp, sa_ne h, ih]
theorem f_fcp_i (S : MS) (f n k : Nat) : (f_fcp S f n).i k = S.i k := by
  induction n with
  | zero => rfl
  | succ n ih => rw [f_fcp, MS.sa_i, ih]
def f_find (S : MS) (f : Nat) : MS := if (f_find0 S).i 7 = 1 then (f_fcp (f_find0 S) f 8).si 20 (nI (f + 1)) else f_find0 S
theorem WFa.putS {S : MS} {c : Int32} (h : WFa S) : WFa (f_putS S c) := h.putS0.bus 5
theorem WFa.putM {S : MS} (h : WFa S) : WFa (f_putM S) := h.putM0.bus 17
section Find
variable {w : Wd} {M : MW} {S : MS}
theorem s_find (hW : Wm w M) (h : WFa S) (f : Nat) (hf : f < 100) (e20 : (f_find0 S).i 20 = nI f) : TF w M yX7_find cX7_find 2 none 5 [] S none (f_find S f) := by
  refine TM.intro hW rfl (Nat.le_of_ble_eq_true rfl) (fun z C Y E hn => ?_)
  have h1 := s_putShort (S := S) hW h 64
  have h2 := s_putMask (S := f_putS S 64) hW h.putS
  have h3 := s_putShort (S := f_putM (f_putS S 64)) hW h.putS.putM 91
  have T16 : X z 0 0 (MA M (f_find0 S)) 16 [some (.ref M.o), none] [] := by
    unfold f_find at E
    generalize f_find0 S = S2 at E e20 ⊢
    by_cases g : S2.i 7 = 1
    · rw [if_pos g] at E
      have ei : ∀ b, (f_fcp S2 f b).i 20 = nI f := fun b => by rw [f_fcp_i]; exact e20
      have LP : ∀ (t b : Nat), b + t = 8 → X z 0 0 (MA M (f_fcp S2 f b)) 26 [some (.ref M.o), some (.int (nI b))] [] := by
        intro t
        induction t with
        | zero =>
          intro b hb
          obtain rfl : b = 8 := by omega
          refine x_iload_n C dX7_find_26 rfl ?_
          refine x_bipush (v := 8) C dX7_find_27 (by decide) ?_
          refine x_icmp_ge (tgt := 61) C dX7_find_29 (by decide) (fun c29 => ?_) (fun c29 => absurd c29 (by decide))
          refine x_aload_n C dX7_find_61 rfl ?_
          refine x_dup C dX7_find_62 rfl ?_
          refine m_get C Y 20 (by decide) (by decide) wf_X7_175 dX7_find_63 ?_
          rw [ei]
          refine x_iconst (v := 1) C dX7_find_66 (by decide) ?_
          refine x_iadd C dX7_find_67 ?_
          rw [nI_1]
          refine m_put C Y hW.2.1 20 (by decide) (by decide) rfl rfl rfl wf_X7_175 dX7_find_68 ?_
          refine m_vret C E dX7_find_71 ?_
          exact ⟨rfl, rfl⟩
        | succ t ih =>
          intro b hb
          have ih2 := ih (b + 1) (by omega)
          refine x_iload_n C dX7_find_26 rfl ?_
          refine x_bipush (v := 8) C dX7_find_27 (by decide) ?_
          refine x_icmp_ge (tgt := 61) C dX7_find_29 (by decide) (fun c29 => absurd c29 (by rw [nI_lit]; exact nI_ge (show b < 8 by omega) (by decide))) (fun c29 => ?_)
          refine x_aload_n C dX7_find_32 rfl ?_
          refine m_getA C Y 21 (by decide) (by decide) wf_X7_50 dX7_find_33 ?_
          refine x_bipush (v := 8) C dX7_find_36 (by decide) ?_
          refine x_aload_n C dX7_find_38 rfl ?_
          refine m_get C Y 20 (by decide) (by decide) wf_X7_175 dX7_find_39 ?_
          rw [ei]
          refine x_imul C dX7_find_42 ?_
          refine x_iload_n C dX7_find_43 rfl ?_
          refine x_iadd C dX7_find_44 ?_
          refine x_aload_n C dX7_find_45 rfl ?_
          refine m_getA C Y 5 (by decide) (by decide) wf_X7_16 dX7_find_46 ?_
          refine x_bipush (v := 7) C dX7_find_49 (by decide) ?_
          refine x_iload_n C dX7_find_51 rfl ?_
          refine x_iadd C dX7_find_52 ?_
          refine m_ildN C Y 5 (7 + b) (by decide) dX7_find_53 (by simp only [nI_lit, nI_add, pk_mul]) (by simp only [m_len]; omega) ?_
          rw [f_fcp_a _ _ _ (by decide)]
          refine m_istN C Y hW.2.1 21 (8 * f + b) (by decide) dX7_find_54 (by simp only [nI_lit, nI_add, pk_mul]) (by simp only [m_len]; omega) ?_
          refine x_iincE (v := nI (b + 1)) (L' := [some _, some _]) C dX7_find_55 rfl (nI_1 b) (by rw [hn]; decide) rfl ?_
          refine x_goto (tgt := 26) C dX7_find_58 (by decide) ?_
          exact ih2
      refine x_aload_n C dX7_find_16 rfl ?_
      refine m_get C Y 7 (by decide) (by decide) wf_X7_132 dX7_find_17 ?_
      refine x_iconst (v := 1) C dX7_find_20 (by decide) ?_
      refine x_icmp_ne (tgt := 71) C dX7_find_21 (by decide) (fun c21 => absurd c21 (not_not_intro g)) (fun c21 => ?_)
      refine x_iconst (v := 0) C dX7_find_24 (by decide) ?_
      refine x_istore_nE (L' := [some _, some _]) C dX7_find_25 (by rw [hn]; decide) rfl ?_
      exact LP 8 0 rfl
    · rw [if_neg g] at E
      refine x_aload_n C dX7_find_16 rfl ?_
      refine m_get C Y 7 (by decide) (by decide) wf_X7_132 dX7_find_17 ?_
      refine x_iconst (v := 1) C dX7_find_20 (by decide) ?_
      refine x_icmp_ne (tgt := 71) C dX7_find_21 (by decide) (fun c21 => ?_) (fun c21 => absurd c21 (fun q => g q))
      refine m_vret C E dX7_find_71 ?_
      exact ⟨rfl, rfl⟩
  refine x_aload_n C dX7_find_0 rfl ?_
  refine x_bipush (v := 64) C dX7_find_1 (by decide) ?_
  refine m_callF C Y hW E (h1) rfl md_X7_putShort wi_X7_putShort ws_X7_putShort wm_X7_187 dX7_find_3 rfl (by decide) (by decide) rfl (by simp [Value.category]) ?_
  refine x_aload_n C dX7_find_6 rfl ?_
  refine m_callF C Y hW E (h2) rfl md_X7_putMask wi_X7_putMask ws_X7_putMask wm_X7_178 dX7_find_7 rfl (by decide) (by decide) rfl (by simp [Value.category]) ?_
  refine x_aload_n C dX7_find_10 rfl ?_
  refine x_bipush (v := 91) C dX7_find_11 (by decide) ?_
  refine m_callF C Y hW E (h3) rfl md_X7_putShort wi_X7_putShort ws_X7_putShort wm_X7_187 dX7_find_13 rfl (by decide) (by decide) rfl (by simp [Value.category]) ?_
  exact T16
end Find
end
section
/-! MeterBusModel: search. -/
theorem f_ack_i (S : MS) {q : Nat} (h6 : q ≠ 6) (h7 : q ≠ 7) : (f_ack S).i q = S.i q := by
  unfold f_ack
  rw [MS.si_i, if_neg h6, MS.sa_i, MS.si_i, if_neg h7]
theorem f_asked_i (S : MS) (k : Nat) (bit : Int32) {q : Nat} (h6 : q ≠ 6) (h7 : q ≠ 7) : (f_asked S k bit).i q = S.i q := by
  unfold f_asked
  rw [MS.si_i, if_neg h7, MS.sa_i, MS.sa_i, MS.sa_i, MS.ans_i, if_neg h6]
theorem f_step_i (S : MS) (isS sel : Bool) (c a : Int32) (k : Nat) {q : Nat} (h6 : q ≠ 6) (h7 : q ≠ 7) : (f_step S isS sel c a k).i q = S.i q := by
  unfold f_step f_does
  split
  · split
    · unfold f_sel
      split
      · rw [f_ack_i _ h6 h7, MS.sa_i]
      · rfl
    · split
      · unfold f_short
        split
        · rw [f_ack_i _ h6 h7, MS.sa_i]; rfl
        · split
          · rw [f_asked_i _ _ _ h6 h7]
          · rfl
      · split
        · unfold f_long
          split
          · rw [f_ack_i _ h6 h7]; rfl
          · split
            · rw [f_ack_i _ h6 h7]; rfl
            · rfl
        · rfl
  · rfl
theorem f_run_i (S : MS) (isS sel : Bool) (c a : Int32) {q : Nat} (h6 : q ≠ 6) (h7 : q ≠ 7) : ∀ n, (f_run S isS sel c a n).i q = S.i q
  | 0 => rfl
  | n + 1 => by rw [f_run, f_step_i _ _ _ _ _ _ h6 h7, f_run_i S isS sel c a h6 h7 n]
theorem f_end_i (S : MS) (a : Int32) {q : Nat} (h7 : q ≠ 7) (h9 : q ≠ 9) : (f_end S a).i q = S.i q := by
  unfold f_end
  rw [MS.si_i, if_neg h9, MS.si_i, if_neg h7]
theorem f_bus_i (S : MS) (n : Nat) {q : Nat} (h6 : q ≠ 6) (h7 : q ≠ 7) (h8 : q ≠ 8) (h9 : q ≠ 9) : (f_bus S n).i q = S.i q := by
  have e : (f_begin S).i q = S.i q := by unfold f_begin; rw [MS.si_i, if_neg h6, MS.si_i, if_neg h7, MS.si_i, if_neg h8]
  unfold f_bus
  split
  · rw [f_end_i _ _ h7 h9, f_run_i _ _ _ _ _ h6 h7, e]
  · split
    · rw [f_end_i _ _ h7 h9, f_run_i _ _ _ _ _ h6 h7, e]
    · exact e
theorem f_mcp_i (S : MS) (n q : Nat) : (f_mcp S n).i q = S.i q := by
  induction n with
  | zero => rfl
  | succ n ih => rw [f_mcp, MS.sa_i, ih]
theorem f_putM_i (S : MS) {q : Nat} (h4 : q ≠ 4) (h6 : q ≠ 6) (h7 : q ≠ 7) (h8 : q ≠ 8) (h9 : q ≠ 9) : (f_putM S).i q = S.i q := by
  unfold f_putM
  rw [f_bus_i _ _ h6 h7 h8 h9]
  unfold f_putM0
  rw [MS.si_i, if_neg h4, MS.sa_i, MS.sa_i, f_mcp_i]
  rfl
theorem f_putS_i (S : MS) (c : Int32) {q : Nat} (h4 : q ≠ 4) (h6 : q ≠ 6) (h7 : q ≠ 7) (h8 : q ≠ 8) (h9 : q ≠ 9) : (f_putS S c).i q = S.i q := by
  unfold f_putS
  rw [f_bus_i _ _ h6 h7 h8 h9]
  unfold f_putS0
  rw [MS.si_i, if_neg h4]
  rfl
theorem f_find0_i (S : MS) {q : Nat} (h4 : q ≠ 4) (h6 : q ≠ 6) (h7 : q ≠ 7) (h8 : q ≠ 8) (h9 : q ≠ 9) : (f_find0 S).i q = S.i q := by
  unfold f_find0
  rw [f_putS_i _ _ h4 h6 h7 h8 h9, f_putM_i _ h4 h6 h7 h8 h9, f_putS_i _ _ h4 h6 h7 h8 h9]
theorem WFa.part {S : MS} {n : Nat} {v : Int32} (h : WFa S) : WFa (f_part S n v) := by
  unfold f_part
  split
  · exact h.sa (by decide) (by decide) (by decide)
  · exact h.sa (by decide) (by decide) (by decide)
theorem WFa.fcp {S : MS} {f : Nat} (h : WFa S) : ∀ n, WFa (f_fcp S f n)
  | 0 => h
  | n + 1 => (h.fcp n).sa (by decide) (by decide) (by decide)
theorem WFa.find {S : MS} {f : Nat} (h : WFa S) : WFa (f_find S f) := by
  have h0 : WFa (f_find0 S) := h.putS.putM.putS
  unfold f_find
  split
  · exact (h0.fcp 8).si
  · exact h0
def f_lim (n : Nat) : Int32 := if n < 8 then 10 else 255
/-- back to the last part that has another value -/
def f_back : Nat → MS → MS × Nat × Bool
  | 0, S => (S, 0, false)
  | n + 1, S => if S.a 22 n + 1 < f_lim n then (f_part (S.sa 22 n (S.a 22 n + 1)) n (S.a 22 n + 1), n + 1, true) else f_back n (f_part (S.sa 22 n (S.a 22 n + 1)) n (-1))
theorem WFa.back : ∀ (n : Nat) {S : MS}, WFa S → WFa (f_back n S).1
  | 0, _, h => h
  | n + 1, S, h => by
    unfold f_back
    split
    · exact (h.sa (by decide) (by decide) (by decide)).part
    · exact WFa.back n (h.sa (by decide) (by decide) (by decide)).part
theorem f_back_le : ∀ (n : Nat) (S : MS), (f_back n S).2.1 ≤ n
  | 0, _ => Nat.le_refl 0
  | n + 1, S => by
    unfold f_back
    split
    · exact Nat.le_refl _
    · exact Nat.le_succ_of_le (f_back_le n _)
theorem f_back_pos : ∀ (n : Nat) (S : MS), (f_back n S).2.2 = true → 1 ≤ (f_back n S).2.1
  | 0, _ => fun h => nomatch h
  | n + 1, S => by
    unfold f_back
    split
    · intro _; exact Nat.succ_le_succ (Nat.zero_le _)
    · exact f_back_pos n _
def f_c (S : MS) : Nat := (S.i 20).toNatClampNeg
def f_cOK (S : MS) : Bool := decide (f_c S < 100) && decide (S.i 20 = nI (f_c S))
def f_one (S : MS) : MS := if S.i 7 = 1 then f_find S (f_c S) else S
/-- the loop of the search: none where it would not end in time, or leave its rows -/
def f_sr : Nat → MS → Nat → Option MS
  | 0, _, _ => none
  | t + 1, S, n =>
    if 1 < (f_putM S).i 7 then (if n < 12 then f_sr t (f_part ((f_putM S).sa 22 n 0) n 0) (n + 1) else none)
    else if f_cOK (f_putM S) = true then (if (f_back n (f_one (f_putM S))).2.2 = true then f_sr t (f_back n (f_one (f_putM S))).1 (f_back n (f_one (f_putM S))).2.1 else some (f_back n (f_one (f_putM S))).1)
    else none
section Search
variable {w : Wd} {M : MW} {S : MS}
/-- the way back, from pc 86 -/
theorem sr_back (hW : Wm w M) {post : Option Value → MS → Prop} {z : Fx} (C : Cx z RX7 cX7_search gw) (Y : Mty z M) (E : Ct z w gw yX7_search (some .int) 6 (40 * 6) (PM M post)) (hn : z.nL = 3) :
    ∀ (n : Nat) (S : MS), n ≤ 12 → ((f_back n S).2.2 = true → X z 0 0 (MA M (f_back n S).1) 37 [some (.ref M.o), some (.int (nI (f_back n S).2.1)), some (.int 1)] []) → ((f_back n S).2.2 = false → X z 0 0 (MA M (f_back n S).1) 37 [some (.ref M.o), some (.int (nI (f_back n S).2.1)), some (.int 0)] []) →
    X z 0 0 (MA M S) 86 [some (.ref M.o), some (.int (nI n)), some (.int 0)] [] := by
  intro n
  induction n with
  | zero =>
    intro S _ _ k0
    have k0 := k0 rfl
    refine x_iload_n C dX7_search_86 rfl ?_
    refine x_if_le (tgt := 37) C dX7_search_87 (by decide) (fun c87 => ?_) (fun c87 => absurd c87 (not_not_intro (by decide)))
    exact k0
  | succ n ih =>
    intro S hn12 k1 k0
    have i8 : 8 ≤ nI n ↔ ¬ n < 8 := by rw [show (8 : Int32) = nI 8 from rfl, nI_leI (by omega) (by omega)]; omega
    have T127 : ∀ lim : Int32, lim = f_lim n → X z 0 0 (MA M (S.sa 22 n (S.a 22 n + 1))) 127 [some (.ref M.o), some (.int (nI n)), some (.int 0)] [.int lim, .int (S.a 22 n + 1)] := by
      intro lim el
      subst el
      have hp := fun v => s_setPart (S := S.sa 22 n (S.a 22 n + 1)) hW n (by omega) v
      by_cases hm : S.a 22 n + 1 < f_lim n
      · have e : f_back (n + 1) S = (f_part (S.sa 22 n (S.a 22 n + 1)) n (S.a 22 n + 1), n + 1, true) := by rw [f_back, if_pos hm]
        rw [e] at k1
        have k1 := k1 rfl
        refine x_icmp_ge (tgt := 134) C dX7_search_127 (by decide) (fun c127 => absurd c127 (Int32.not_le.mpr hm)) (fun c127 => ?_)
        refine x_iconst (v := 1) C dX7_search_130 (by decide) ?_
        refine x_goto (tgt := 135) C dX7_search_131 (by decide) ?_
        refine x_istore_nE (L' := [some _, some _, some _]) C dX7_search_135 (by rw [hn]; decide) rfl ?_
        refine x_aload_n C dX7_search_136 rfl ?_
        refine x_iload_n C dX7_search_137 rfl ?_
        refine x_iload_n C dX7_search_138 rfl ?_
        refine x_if_eq (tgt := 151) C dX7_search_139 (by decide) (fun c139 => absurd c139 (by decide)) (fun c139 => ?_)
        refine x_aload_n C dX7_search_142 rfl ?_
        refine m_getA C Y 22 (by decide) (by decide) wf_X7_53 dX7_search_143 ?_
        refine x_iload_n C dX7_search_146 rfl ?_
        refine m_ildN C Y 22 (n) (by decide) dX7_search_147 (by simp only [nI_lit, nI_add, pk_mul]) (by simp only [m_len]; omega) ?_
        rw [MS.sa_a, if_pos ⟨rfl, rfl⟩]
        refine x_goto (tgt := 152) C dX7_search_148 (by decide) ?_
        refine m_callF C Y hW E (hp _) rfl md_X7_setPart wi_X7_setPart ws_X7_setPart wm_X7_181 dX7_search_152 rfl (by decide) (by decide) rfl (by simp [Value.category]) ?_
        refine x_iload_n C dX7_search_155 rfl ?_
        refine x_iload_n C dX7_search_156 rfl ?_
        refine x_if_eq (tgt := 164) C dX7_search_157 (by decide) (fun c157 => absurd c157 (by decide)) (fun c157 => ?_)
        refine x_iconst (v := 1) C dX7_search_160 (by decide) ?_
        refine x_goto (tgt := 165) C dX7_search_161 (by decide) ?_
        refine x_iadd C dX7_search_165 ?_
        rw [nI_1]
        refine x_istore_nE (L' := [some _, some _, some _]) C dX7_search_166 (by rw [hn]; decide) rfl ?_
        refine x_goto (tgt := 86) C dX7_search_167 (by decide) ?_
        refine x_iload_n C dX7_search_86 rfl ?_
        refine x_if_le (tgt := 37) C dX7_search_87 (by decide) (fun c87 => absurd c87 (fun q => absurd q (nI_nle (Nat.succ_pos n) (by omega)))) (fun c87 => ?_)
        refine x_iload_n C dX7_search_90 rfl ?_
        refine x_if_ne (tgt := 37) C dX7_search_91 (by decide) (fun c91 => ?_) (fun c91 => absurd c91 (by decide))
        exact k1
      · have e : f_back (n + 1) S = f_back n (f_part (S.sa 22 n (S.a 22 n + 1)) n (-1)) := by rw [f_back, if_neg hm]
        rw [e] at k1 k0
        have ih2 := ih _ (by omega) k1 k0
        refine x_icmp_ge (tgt := 134) C dX7_search_127 (by decide) (fun c127 => ?_) (fun c127 => absurd c127 (not_not_intro (Int32.not_lt.mp hm)))
        refine x_iconst (v := 0) C dX7_search_134 (by decide) ?_
        refine x_istore_nE (L' := [some _, some _, some _]) C dX7_search_135 (by rw [hn]; decide) rfl ?_
        refine x_aload_n C dX7_search_136 rfl ?_
        refine x_iload_n C dX7_search_137 rfl ?_
        refine x_iload_n C dX7_search_138 rfl ?_
        refine x_if_eq (tgt := 151) C dX7_search_139 (by decide) (fun c139 => ?_) (fun c139 => absurd c139 (not_not_intro rfl))
        refine x_iconst (v := (-1)) C dX7_search_151 (by decide) ?_
        refine m_callF C Y hW E (hp _) rfl md_X7_setPart wi_X7_setPart ws_X7_setPart wm_X7_181 dX7_search_152 rfl (by decide) (by decide) rfl (by simp [Value.category]) ?_
        refine x_iload_n C dX7_search_155 rfl ?_
        refine x_iload_n C dX7_search_156 rfl ?_
        refine x_if_eq (tgt := 164) C dX7_search_157 (by decide) (fun c157 => ?_) (fun c157 => absurd c157 (not_not_intro rfl))
        refine x_iconst (v := 0) C dX7_search_164 (by decide) ?_
        refine x_iadd C dX7_search_165 ?_
        rw [Int32.add_zero]
        refine x_istore_nE (L' := [some _, some _, some _]) C dX7_search_166 (by rw [hn]; decide) rfl ?_
        refine x_goto (tgt := 86) C dX7_search_167 (by decide) ?_
        exact ih2
    refine x_iload_n C dX7_search_86 rfl ?_
    refine x_if_le (tgt := 37) C dX7_search_87 (by decide) (fun c87 => absurd c87 (nI_nle (Nat.succ_pos n) (by omega))) (fun c87 => ?_)
    refine x_iload_n C dX7_search_90 rfl ?_
    refine x_if_ne (tgt := 37) C dX7_search_91 (by decide) (fun c91 => absurd c91 (fun q => q rfl)) (fun c91 => ?_)
    refine x_iincE (v := nI n) (L' := [some _, some _, some _]) C dX7_search_94 rfl (pk_m1 n) (by rw [hn]; decide) rfl ?_
    refine x_aload_n C dX7_search_97 rfl ?_
    refine m_getA C Y 22 (by decide) (by decide) wf_X7_53 dX7_search_98 ?_
    refine x_iload_n C dX7_search_101 rfl ?_
    refine x_dup2 C dX7_search_102 rfl rfl ?_
    refine m_ildN C Y 22 (n) (by decide) dX7_search_103 (by simp only [nI_lit, nI_add, pk_mul]) (by simp only [m_len]; omega) ?_
    refine x_iconst (v := 1) C dX7_search_104 (by decide) ?_
    refine x_iadd C dX7_search_105 ?_
    refine m_istN C Y hW.2.1 22 (n) (by decide) dX7_search_106 (by simp only [nI_lit, nI_add, pk_mul]) (by simp only [m_len]; omega) ?_
    refine x_aload_n C dX7_search_107 rfl ?_
    refine m_getA C Y 22 (by decide) (by decide) wf_X7_53 dX7_search_108 ?_
    refine x_iload_n C dX7_search_111 rfl ?_
    refine m_ildN C Y 22 (n) (by decide) dX7_search_112 (by simp only [nI_lit, nI_add, pk_mul]) (by simp only [m_len]; omega) ?_
    rw [MS.sa_a, if_pos ⟨rfl, rfl⟩]
    refine x_iload_n C dX7_search_113 rfl ?_
    refine x_bipush (v := 8) C dX7_search_114 (by decide) ?_
    refine x_icmp_ge (tgt := 124) C dX7_search_116 (by decide) (fun c116 => ?_) (fun c116 => ?_)
    · skip
      refine x_sipush (v := 255) C dX7_search_124 (by decide) ?_
      first | exact T127 _ (if_neg (i8.mp c116)).symm | exact T127 _ (if_pos (Classical.not_not.mp (fun q => c116 (i8.mpr q)))).symm
    · skip
      refine x_bipush (v := 10) C dX7_search_119 (by decide) ?_
      refine x_goto (tgt := 127) C dX7_search_121 (by decide) ?_
      first | exact T127 _ (if_neg (i8.mp c116)).symm | exact T127 _ (if_pos (Classical.not_not.mp (fun q => c116 (i8.mpr q)))).symm
theorem f_cOK_of {S : MS} (h : f_cOK S = true) : f_c S < 100 ∧ S.i 20 = nI (f_c S) := by
  simpa [f_cOK] using h
theorem WFa.one {S : MS} (h : WFa S) : WFa (f_one S) := by
  unfold f_one
  split
  · exact h.find
  · exact h
theorem sr_loop (hW : Wm w M) {S' : MS} {z : Fx} (C : Cx z RX7 cX7_search gw) (Y : Mty z M) (E : Ct z w gw yX7_search (some .int) 6 (40 * 6) (PM M (fun q Q => q = some (.int (S'.i 20)) ∧ Q = S'))) (hn : z.nL = 3) :
    ∀ (t : Nat) (S : MS) (n : Nat), WFa S → n ≤ 12 → f_sr t S n = some S' → X z 0 0 (MA M S) 37 [some (.ref M.o), some (.int (nI n)), some (.int 1)] [] := by
  intro t
  induction t with
  | zero => intro S n _ _ e; exact absurd e (by unfold f_sr; exact fun q => nomatch q)
  | succ t ih =>
    intro S n h hn12 e
    have hm := s_putMask (S := S) hW h
    have hw := h.putM
    rw [f_sr] at e
    have T45 : X z 0 0 (MA M (f_putM S)) 45 [some (.ref M.o), some (.int (nI n)), some (.int 1)] [] := by
      generalize f_putM S = S1 at e hw ⊢
      by_cases h1 : 1 < S1.i 7
      · rw [if_pos h1] at e
        by_cases h2 : n < 12
        · rw [if_pos h2] at e
          have ih2 := ih _ _ ((hw.sa (by decide) (by decide) (by decide)).part) (by omega) e
          have hp := s_setPart (S := S1.sa 22 n 0) hW n h2 0
          refine x_aload_n C dX7_search_45 rfl ?_
          refine m_get C Y 7 (by decide) (by decide) wf_X7_132 dX7_search_46 ?_
          refine x_iconst (v := 1) C dX7_search_49 (by decide) ?_
          refine x_icmp_le (tgt := 72) C dX7_search_50 (by decide) (fun c50 => absurd c50 (Int32.not_le.mpr h1)) (fun c50 => ?_)
          refine x_aload_n C dX7_search_53 rfl ?_
          refine m_getA C Y 22 (by decide) (by decide) wf_X7_53 dX7_search_54 ?_
          refine x_iload_n C dX7_search_57 rfl ?_
          refine x_iconst (v := 0) C dX7_search_58 (by decide) ?_
          refine m_istN C Y hW.2.1 22 (n) (by decide) dX7_search_59 (by simp only [nI_lit, nI_add, pk_mul]) (by simp only [m_len]; omega) ?_
          refine x_aload_n C dX7_search_60 rfl ?_
          refine x_iload_n C dX7_search_61 rfl ?_
          refine x_iconst (v := 0) C dX7_search_62 (by decide) ?_
          refine m_callF C Y hW E (hp) rfl md_X7_setPart wi_X7_setPart ws_X7_setPart wm_X7_181 dX7_search_63 rfl (by decide) (by decide) rfl (by simp [Value.category]) ?_
          refine x_iincE (v := nI (n + 1)) (L' := [some _, some _, some _]) C dX7_search_66 rfl (nI_1 n) (by rw [hn]; decide) rfl ?_
          refine x_goto (tgt := 37) C dX7_search_69 (by decide) ?_
          exact ih2
        · rw [if_neg h2] at e
          exact nomatch e
      · rw [if_neg h1] at e
        by_cases h2 : f_cOK S1 = true
        · rw [if_pos h2] at e
          have T84 : X z 0 0 (MA M (f_one S1)) 84 [some (.ref M.o), some (.int (nI n)), some (.int 1)] [] := by
            have hw1 := hw.one
            generalize f_one S1 = S2 at e hw1 ⊢
            refine x_iconst (v := 0) C dX7_search_84 (by decide) ?_
            refine x_istore_nE (L' := [some _, some _, some _]) C dX7_search_85 (by rw [hn]; decide) rfl ?_
            refine sr_back hW C Y E hn n S2 hn12 (fun g => ?_) (fun g => ?_)
            · rw [if_pos g] at e
              exact ih _ _ (WFa.back n hw1) (Nat.le_trans (f_back_le n S2) hn12) e
            · rw [if_neg (by rw [g]; decide)] at e
              obtain rfl := Option.some.inj e
              refine x_iload_n C dX7_search_37 rfl ?_
              refine x_if_eq (tgt := 170) C dX7_search_38 (by decide) (fun c38 => ?_) (fun c38 => absurd c38 (not_not_intro rfl))
              refine x_aload_n C dX7_search_170 rfl ?_
              refine m_get C Y 20 (by decide) (by decide) wf_X7_175 dX7_search_171 ?_
              refine m_iret C E dX7_search_174 ?_
              exact ⟨rfl, rfl⟩
          by_cases h3 : S1.i 7 = 1
          · have eo : f_one S1 = f_find S1 (f_c S1) := if_pos h3
            rw [eo] at T84
            obtain ⟨k1, k2⟩ := f_cOK_of h2
            have hfd := s_find (S := S1) hW hw (f_c S1) k1 (by rw [f_find0_i _ (by decide) (by decide) (by decide) (by decide) (by decide)]; exact k2)
            refine x_aload_n C dX7_search_45 rfl ?_
            refine m_get C Y 7 (by decide) (by decide) wf_X7_132 dX7_search_46 ?_
            refine x_iconst (v := 1) C dX7_search_49 (by decide) ?_
            refine x_icmp_le (tgt := 72) C dX7_search_50 (by decide) (fun c50 => ?_) (fun c50 => absurd c50 (not_not_intro (Int32.not_lt.mp h1)))
            refine x_aload_n C dX7_search_72 rfl ?_
            refine m_get C Y 7 (by decide) (by decide) wf_X7_132 dX7_search_73 ?_
            refine x_iconst (v := 1) C dX7_search_76 (by decide) ?_
            refine x_icmp_ne (tgt := 84) C dX7_search_77 (by decide) (fun c77 => absurd c77 (not_not_intro h3)) (fun c77 => ?_)
            refine x_aload_n C dX7_search_80 rfl ?_
            refine m_callF C Y hW E (hfd) rfl md_X7_find wi_X7_find ws_X7_find wm_X7_184 dX7_search_81 rfl (by decide) (by decide) rfl (by simp [Value.category]) ?_
            exact T84
          · have eo : f_one S1 = S1 := if_neg h3
            rw [eo] at T84
            refine x_aload_n C dX7_search_45 rfl ?_
            refine m_get C Y 7 (by decide) (by decide) wf_X7_132 dX7_search_46 ?_
            refine x_iconst (v := 1) C dX7_search_49 (by decide) ?_
            refine x_icmp_le (tgt := 72) C dX7_search_50 (by decide) (fun c50 => ?_) (fun c50 => absurd c50 (not_not_intro (Int32.not_lt.mp h1)))
            refine x_aload_n C dX7_search_72 rfl ?_
            refine m_get C Y 7 (by decide) (by decide) wf_X7_132 dX7_search_73 ?_
            refine x_iconst (v := 1) C dX7_search_76 (by decide) ?_
            refine x_icmp_ne (tgt := 84) C dX7_search_77 (by decide) (fun c77 => ?_) (fun c77 => absurd c77 (fun q => h3 q))
            exact T84
        · rw [if_neg h2] at e
          exact nomatch e
    refine x_iload_n C dX7_search_37 rfl ?_
    refine x_if_eq (tgt := 170) C dX7_search_38 (by decide) (fun c38 => absurd c38 (by decide)) (fun c38 => ?_)
    refine x_aload_n C dX7_search_41 rfl ?_
    refine m_callF C Y hW E (hm) rfl md_X7_putMask wi_X7_putMask ws_X7_putMask wm_X7_178 dX7_search_42 rfl (by decide) (by decide) rfl (by simp [Value.category]) ?_
    exact T45
def f_ff (S : MS) : Nat → MS
  | 0 => S
  | n + 1 => (f_ff S n).sa 19 n 255
def f_sr0 (S : MS) : MS := f_ff ((S.si 0 0).si 20 0) 8
theorem WFa.ff {S : MS} (h : WFa S) : ∀ n, WFa (f_ff S n)
  | 0 => h
  | n + 1 => (h.ff n).sa (by decide) (by decide) (by decide)
theorem s_search (hW : Wm w M) (h : WFa S) (t : Nat) (S' : MS) (e : f_sr t (f_sr0 S) 0 = some S') : TF w M yX7_search cX7_search 3 (some .int) 6 [] S (some (.int (S'.i 20))) S' := by
  refine TM.intro hW rfl (Nat.le_of_ble_eq_true rfl) (fun z C Y E hn => ?_)
  have LS := sr_loop hW C Y E hn t (f_sr0 S) 0 (h.si.si.ff 8) (by decide) e
  have LP : ∀ (t b : Nat), b + t = 8 → X z 0 0 (MA M (f_ff ((S.si 0 0).si 20 0) b)) 12 [some (.ref M.o), some (.int (nI b)), none] [] := by
    intro t
    induction t with
    | zero =>
      intro b hb
      obtain rfl : b = 8 := by omega
      refine x_iload_n C dX7_search_12 rfl ?_
      refine x_bipush (v := 8) C dX7_search_13 (by decide) ?_
      refine x_icmp_ge (tgt := 33) C dX7_search_15 (by decide) (fun c15 => ?_) (fun c15 => absurd c15 (by decide))
      refine x_iconst (v := 0) C dX7_search_33 (by decide) ?_
      refine x_istore_nE (L' := [some _, some _, none]) C dX7_search_34 (by rw [hn]; decide) rfl ?_
      refine x_iconst (v := 1) C dX7_search_35 (by decide) ?_
      refine x_istore_nE (L' := [some _, some _, some _]) C dX7_search_36 (by rw [hn]; decide) rfl ?_
      exact LS
    | succ t ih =>
      intro b hb
      have ih2 := ih (b + 1) (by omega)
      refine x_iload_n C dX7_search_12 rfl ?_
      refine x_bipush (v := 8) C dX7_search_13 (by decide) ?_
      refine x_icmp_ge (tgt := 33) C dX7_search_15 (by decide) (fun c15 => absurd c15 (by rw [nI_lit]; exact nI_ge (show b < 8 by omega) (by decide))) (fun c15 => ?_)
      refine x_aload_n C dX7_search_18 rfl ?_
      refine m_getA C Y 19 (by decide) (by decide) wf_X7_47 dX7_search_19 ?_
      refine x_iload_n C dX7_search_22 rfl ?_
      refine x_sipush (v := 255) C dX7_search_23 (by decide) ?_
      refine m_istN C Y hW.2.1 19 (b) (by decide) dX7_search_26 (by simp only [nI_lit, nI_add, pk_mul]) (by simp only [m_len]; omega) ?_
      refine x_iincE (v := nI (b + 1)) (L' := [some _, some _, none]) C dX7_search_27 rfl (nI_1 b) (by rw [hn]; decide) rfl ?_
      refine x_goto (tgt := 12) C dX7_search_30 (by decide) ?_
      exact ih2
  refine x_aload_n C dX7_search_0 rfl ?_
  refine x_iconst (v := 0) C dX7_search_1 (by decide) ?_
  refine m_put C Y hW.2.1 0 (by decide) (by decide) rfl rfl rfl wf_X7_97 dX7_search_2 ?_
  refine x_aload_n C dX7_search_5 rfl ?_
  refine x_iconst (v := 0) C dX7_search_6 (by decide) ?_
  refine m_put C Y hW.2.1 20 (by decide) (by decide) rfl rfl rfl wf_X7_175 dX7_search_7 ?_
  refine x_iconst (v := 0) C dX7_search_10 (by decide) ?_
  refine x_istore_nE (L' := [some _, some _, none]) C dX7_search_11 (by rw [hn]; decide) rfl ?_
  exact LP 8 0 rfl
end Search
end
