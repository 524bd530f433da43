/-! MeterBusModel: the bus. -/
abbrev f_cares (S : MS) (sel : Bool) (a : Int32) (k : Nat) : Prop := ¬ S.a 10 k = 0 ∧ (sel = true ∨ (a ≤ 250 ∧ S.a 11 k = a) ∨ (a = 253 ∧ ¬ S.a 13 k = 0) ∨ 254 ≤ a)
def f_does (S : MS) (isS sel : Bool) (c a : Int32) (k : Nat) : MS := if sel = true then f_sel S k else if isS = true then f_short S k c a else if c = 83 ∨ c = 115 then f_long S k else S
def f_step (S : MS) (isS sel : Bool) (c a : Int32) (k : Nat) : MS := if f_cares S sel a k then f_does S isS sel c a k else S
def f_run (S : MS) (isS sel : Bool) (c a : Int32) : Nat → MS
  | 0 => S
  | n + 1 => f_step (f_run S isS sel c a n) isS sel c a n
section Bus
variable {w : Wd} {M : MW} {S : MS}
theorem bus_body (hW : Wm w M) {isS sel : Bool} {c a : Int32} {k : Nat} (hk : k < 12) (h : WFm S k) {post : Option Value → MS → Prop} {z : Fx} (C : Cx z RX7 cX7_bus gw) (Y : Mty z M) (E : Ct z w gw yX7_bus none 3 (40 * 3) (PM M post)) (hn : z.nL = 7)
    (kk : ∀ v6 : Int32, X z 0 0 (MA M (f_step S isS sel c a k)) 256 [some (.ref M.o), some (.int (bI (isS = true))), some (.int c), some (.int a), some (.int (bI (sel = true))), some (.int (nI k)), some (.int v6)] []) (l6 : Option Value) :
    X z 0 0 (MA M S) 140 [some (.ref M.o), some (.int (bI (isS = true))), some (.int c), some (.int a), some (.int (bI (sel = true))), some (.int (nI k)), l6] [] := by
  have o1 : 250 < a ↔ ¬ a ≤ 250 := Int32.not_le.symm
  have o2 : a < 254 ↔ ¬ 254 ≤ a := Int32.not_le.symm
  have hs0 : bI (sel = true) = 0 ↔ ¬ sel = true := bI_0
  have hi0 : bI (isS = true) = 0 ↔ ¬ isS = true := bI_0
  have T204 : ∀ v6 : Int32, v6 = bI (f_cares S sel a k) → X z 0 0 (MA M S) 204 [some (.ref M.o), some (.int (bI (isS = true))), some (.int c), some (.int a), some (.int (bI (sel = true))), some (.int (nI k)), some (.int v6)] [] := by
    intro v6 e6
    by_cases hc : f_cares S sel a k
    · have e : f_step S isS sel c a k = f_does S isS sel c a k := if_pos hc
      rw [e] at kk
      rw [bI_t hc] at e6
      subst e6
      have kk := kk 1
      by_cases h1 : sel = true
      · have e : f_does S isS sel c a k = f_sel S k := if_pos h1
        rw [e] at kk
        refine x_iload C dX7_bus_204 rfl ?_
        refine x_if_eq (tgt := 256) C dX7_bus_206 (by decide) (fun c206 => absurd c206 (by decide)) (fun c206 => ?_)
        refine x_iload C dX7_bus_209 rfl ?_
        refine x_if_eq (tgt := 223) C dX7_bus_211 (by decide) (fun c211 => absurd c211 (fun q => hs0.mp q h1)) (fun c211 => ?_)
        refine x_aload_n C dX7_bus_214 rfl ?_
        refine x_iload C dX7_bus_215 rfl ?_
        refine m_callF C Y hW E (s_select hW k hk) rfl md_X7_select wi_X7_select ws_X7_select wm_X7_145 dX7_bus_217 rfl (by decide) (by decide) rfl (by simp [Value.category]) ?_
        refine x_goto (tgt := 256) C dX7_bus_220 (by decide) ?_
        exact kk
      · by_cases h2 : isS = true
        · have e : f_does S isS sel c a k = f_short S k c a := by unfold f_does; rw [if_neg h1, if_pos h2]
          rw [e] at kk
          refine x_iload C dX7_bus_204 rfl ?_
          refine x_if_eq (tgt := 256) C dX7_bus_206 (by decide) (fun c206 => absurd c206 (by decide)) (fun c206 => ?_)
          refine x_iload C dX7_bus_209 rfl ?_
          refine x_if_eq (tgt := 223) C dX7_bus_211 (by decide) (fun c211 => ?_) (fun c211 => absurd c211 (not_not_intro (hs0.mpr h1)))
          refine x_iload_n C dX7_bus_223 rfl ?_
          refine x_if_eq (tgt := 238) C dX7_bus_224 (by decide) (fun c224 => absurd c224 (fun q => hi0.mp q h2)) (fun c224 => ?_)
          refine x_aload_n C dX7_bus_227 rfl ?_
          refine x_iload C dX7_bus_228 rfl ?_
          refine x_iload_n C dX7_bus_230 rfl ?_
          refine x_iload_n C dX7_bus_231 rfl ?_
          refine m_callF C Y hW E (s_short hW k hk h c a) rfl md_X7_shortFrame wi_X7_shortFrame ws_X7_shortFrame wm_X7_149 dX7_bus_232 rfl (by decide) (by decide) rfl (by simp [Value.category]) ?_
          refine x_goto (tgt := 256) C dX7_bus_235 (by decide) ?_
          exact kk
        · by_cases h3 : c = 83 ∨ c = 115
          · have e : f_does S isS sel c a k = f_long S k := by unfold f_does; rw [if_neg h1, if_neg h2, if_pos h3]
            rw [e] at kk
            refine x_iload C dX7_bus_204 rfl ?_
            refine x_if_eq (tgt := 256) C dX7_bus_206 (by decide) (fun c206 => absurd c206 (by decide)) (fun c206 => ?_)
            refine x_iload C dX7_bus_209 rfl ?_
            refine x_if_eq (tgt := 223) C dX7_bus_211 (by decide) (fun c211 => ?_) (fun c211 => absurd c211 (not_not_intro (hs0.mpr h1)))
            refine x_iload_n C dX7_bus_223 rfl ?_
            refine x_if_eq (tgt := 238) C dX7_bus_224 (by decide) (fun c224 => ?_) (fun c224 => absurd c224 (not_not_intro (hi0.mpr h2)))
            refine x_iload_n C dX7_bus_238 rfl ?_
            refine x_bipush (v := 83) C dX7_bus_239 (by decide) ?_
            refine x_icmp_eq (tgt := 250) C dX7_bus_241 (by decide) (fun c241 => ?_) (fun c241 => ?_)
            · skip
              refine x_aload_n C dX7_bus_250 rfl ?_
              refine x_iload C dX7_bus_251 rfl ?_
              refine m_callF C Y hW E (s_longFrame hW k hk) rfl md_X7_longFrame wi_X7_longFrame ws_X7_longFrame wm_X7_153 dX7_bus_253 rfl (by decide) (by decide) rfl (by simp [Value.category]) ?_
              first | exact kk | exact absurd h3 (fun q => q.elim c241 c247)
            · skip
              refine x_iload_n C dX7_bus_244 rfl ?_
              refine x_bipush (v := 115) C dX7_bus_245 (by decide) ?_
              refine x_icmp_ne (tgt := 256) C dX7_bus_247 (by decide) (fun c247 => ?_) (fun c247 => ?_)
              · skip
                first | exact kk | exact absurd h3 (fun q => q.elim c241 c247)
              · skip
                refine x_aload_n C dX7_bus_250 rfl ?_
                refine x_iload C dX7_bus_251 rfl ?_
                refine m_callF C Y hW E (s_longFrame hW k hk) rfl md_X7_longFrame wi_X7_longFrame ws_X7_longFrame wm_X7_153 dX7_bus_253 rfl (by decide) (by decide) rfl (by simp [Value.category]) ?_
                first | exact kk | exact absurd h3 (fun q => q.elim c241 c247)
          · have e : f_does S isS sel c a k = S := by unfold f_does; rw [if_neg h1, if_neg h2, if_neg h3]
            rw [e] at kk
            refine x_iload C dX7_bus_204 rfl ?_
            refine x_if_eq (tgt := 256) C dX7_bus_206 (by decide) (fun c206 => absurd c206 (by decide)) (fun c206 => ?_)
            refine x_iload C dX7_bus_209 rfl ?_
            refine x_if_eq (tgt := 223) C dX7_bus_211 (by decide) (fun c211 => ?_) (fun c211 => absurd c211 (not_not_intro (hs0.mpr h1)))
            refine x_iload_n C dX7_bus_223 rfl ?_
            refine x_if_eq (tgt := 238) C dX7_bus_224 (by decide) (fun c224 => ?_) (fun c224 => absurd c224 (not_not_intro (hi0.mpr h2)))
            refine x_iload_n C dX7_bus_238 rfl ?_
            refine x_bipush (v := 83) C dX7_bus_239 (by decide) ?_
            refine x_icmp_eq (tgt := 250) C dX7_bus_241 (by decide) (fun c241 => absurd c241 (fun q => h3 (Or.inl q))) (fun c241 => ?_)
            refine x_iload_n C dX7_bus_244 rfl ?_
            refine x_bipush (v := 115) C dX7_bus_245 (by decide) ?_
            refine x_icmp_ne (tgt := 256) C dX7_bus_247 (by decide) (fun c247 => ?_) (fun c247 => absurd c247 (fun q => h3 (Or.inr q)))
            exact kk
    · have e : f_step S isS sel c a k = S := if_neg hc
      rw [e] at kk
      rw [bI_f hc] at e6
      subst e6
      have kk := kk 0
      refine x_iload C dX7_bus_204 rfl ?_
      refine x_if_eq (tgt := 256) C dX7_bus_206 (by decide) (fun c206 => ?_) (fun c206 => absurd c206 (fun q => q rfl))
      exact kk
  refine x_aload_n C dX7_bus_140 rfl ?_
  refine m_getA C Y 10 (by decide) (by decide) wf_X7_19 dX7_bus_141 ?_
  refine x_iload C dX7_bus_144 rfl ?_
  refine m_zldN C Y 10 (k) (by decide) dX7_bus_146 (by simp only [nI_lit, nI_add, pk_mul]) (by simp only [m_len]; omega) ?_
  refine x_if_eq (tgt := 201) C dX7_bus_147 (by decide) (fun c147 => ?_) (fun c147 => ?_)
  · skip
    refine x_iconst (v := 0) C dX7_bus_201 (by decide) ?_
    refine x_istoreE (L' := [some _, some _, some _, some _, some _, some _, some _]) C dX7_bus_202 (by rw [hn]; decide) rfl ?_
    refine T204 _ ?_; clear T204 kk C Y E; first | (refine bI_1 (p := f_cares S sel a k) ?_; grind) | (refine bI_00 (p := f_cares S sel a k) ?_; grind)
  · skip
    refine x_iload C dX7_bus_150 rfl ?_
    refine x_if_ne (tgt := 197) C dX7_bus_152 (by decide) (fun c152 => ?_) (fun c152 => ?_)
    · skip
      refine x_iconst (v := 1) C dX7_bus_197 (by decide) ?_
      refine x_goto (tgt := 202) C dX7_bus_198 (by decide) ?_
      refine x_istoreE (L' := [some _, some _, some _, some _, some _, some _, some _]) C dX7_bus_202 (by rw [hn]; decide) rfl ?_
      refine T204 _ ?_; clear T204 kk C Y E; first | (refine bI_1 (p := f_cares S sel a k) ?_; grind) | (refine bI_00 (p := f_cares S sel a k) ?_; grind)
    · skip
      refine x_iload_n C dX7_bus_155 rfl ?_
      refine x_sipush (v := 250) C dX7_bus_156 (by decide) ?_
      refine x_icmp_gt (tgt := 173) C dX7_bus_159 (by decide) (fun c159 => ?_) (fun c159 => ?_)
      · skip
        refine x_iload_n C dX7_bus_173 rfl ?_
        refine x_sipush (v := 253) C dX7_bus_174 (by decide) ?_
        refine x_icmp_ne (tgt := 190) C dX7_bus_177 (by decide) (fun c177 => ?_) (fun c177 => ?_)
        · skip
          refine x_iload_n C dX7_bus_190 rfl ?_
          refine x_sipush (v := 254) C dX7_bus_191 (by decide) ?_
          refine x_icmp_lt (tgt := 201) C dX7_bus_194 (by decide) (fun c194 => ?_) (fun c194 => ?_)
          · skip
            refine x_iconst (v := 0) C dX7_bus_201 (by decide) ?_
            refine x_istoreE (L' := [some _, some _, some _, some _, some _, some _, some _]) C dX7_bus_202 (by rw [hn]; decide) rfl ?_
            refine T204 _ ?_; clear T204 kk C Y E; first | (refine bI_1 (p := f_cares S sel a k) ?_; grind) | (refine bI_00 (p := f_cares S sel a k) ?_; grind)
          · skip
            refine x_iconst (v := 1) C dX7_bus_197 (by decide) ?_
            refine x_goto (tgt := 202) C dX7_bus_198 (by decide) ?_
            refine x_istoreE (L' := [some _, some _, some _, some _, some _, some _, some _]) C dX7_bus_202 (by rw [hn]; decide) rfl ?_
            refine T204 _ ?_; clear T204 kk C Y E; first | (refine bI_1 (p := f_cares S sel a k) ?_; grind) | (refine bI_00 (p := f_cares S sel a k) ?_; grind)
        · skip
          refine x_aload_n C dX7_bus_180 rfl ?_
          refine m_getA C Y 13 (by decide) (by decide) wf_X7_29 dX7_bus_181 ?_
          refine x_iload C dX7_bus_184 rfl ?_
          refine m_zldN C Y 13 (k) (by decide) dX7_bus_186 (by simp only [nI_lit, nI_add, pk_mul]) (by simp only [m_len]; omega) ?_
          refine x_if_ne (tgt := 197) C dX7_bus_187 (by decide) (fun c187 => ?_) (fun c187 => ?_)
          · skip
            refine x_iconst (v := 1) C dX7_bus_197 (by decide) ?_
            refine x_goto (tgt := 202) C dX7_bus_198 (by decide) ?_
            refine x_istoreE (L' := [some _, some _, some _, some _, some _, some _, some _]) C dX7_bus_202 (by rw [hn]; decide) rfl ?_
            refine T204 _ ?_; clear T204 kk C Y E; first | (refine bI_1 (p := f_cares S sel a k) ?_; grind) | (refine bI_00 (p := f_cares S sel a k) ?_; grind)
          · skip
            refine x_iload_n C dX7_bus_190 rfl ?_
            refine x_sipush (v := 254) C dX7_bus_191 (by decide) ?_
            refine x_icmp_lt (tgt := 201) C dX7_bus_194 (by decide) (fun c194 => ?_) (fun c194 => ?_)
            · skip
              refine x_iconst (v := 0) C dX7_bus_201 (by decide) ?_
              refine x_istoreE (L' := [some _, some _, some _, some _, some _, some _, some _]) C dX7_bus_202 (by rw [hn]; decide) rfl ?_
              refine T204 _ ?_; clear T204 kk C Y E; first | (refine bI_1 (p := f_cares S sel a k) ?_; grind) | (refine bI_00 (p := f_cares S sel a k) ?_; grind)
            · skip
              refine x_iconst (v := 1) C dX7_bus_197 (by decide) ?_
              refine x_goto (tgt := 202) C dX7_bus_198 (by decide) ?_
              refine x_istoreE (L' := [some _, some _, some _, some _, some _, some _, some _]) C dX7_bus_202 (by rw [hn]; decide) rfl ?_
              refine T204 _ ?_; clear T204 kk C Y E; first | (refine bI_1 (p := f_cares S sel a k) ?_; grind) | (refine bI_00 (p := f_cares S sel a k) ?_; grind)
      · skip
        refine x_aload_n C dX7_bus_162 rfl ?_
        refine m_getA C Y 11 (by decide) (by decide) wf_X7_23 dX7_bus_163 ?_
        refine x_iload C dX7_bus_166 rfl ?_
        refine m_ildN C Y 11 (k) (by decide) dX7_bus_168 (by simp only [nI_lit, nI_add, pk_mul]) (by simp only [m_len]; omega) ?_
        refine x_iload_n C dX7_bus_169 rfl ?_
        refine x_icmp_eq (tgt := 197) C dX7_bus_170 (by decide) (fun c170 => ?_) (fun c170 => ?_)
        · skip
          refine x_iconst (v := 1) C dX7_bus_197 (by decide) ?_
          refine x_goto (tgt := 202) C dX7_bus_198 (by decide) ?_
          refine x_istoreE (L' := [some _, some _, some _, some _, some _, some _, some _]) C dX7_bus_202 (by rw [hn]; decide) rfl ?_
          refine T204 _ ?_; clear T204 kk C Y E; first | (refine bI_1 (p := f_cares S sel a k) ?_; grind) | (refine bI_00 (p := f_cares S sel a k) ?_; grind)
        · skip
          refine x_iload_n C dX7_bus_173 rfl ?_
          refine x_sipush (v := 253) C dX7_bus_174 (by decide) ?_
          refine x_icmp_ne (tgt := 190) C dX7_bus_177 (by decide) (fun c177 => ?_) (fun c177 => ?_)
          · skip
            refine x_iload_n C dX7_bus_190 rfl ?_
            refine x_sipush (v := 254) C dX7_bus_191 (by decide) ?_
            refine x_icmp_lt (tgt := 201) C dX7_bus_194 (by decide) (fun c194 => ?_) (fun c194 => ?_)
            · skip
              refine x_iconst (v := 0) C dX7_bus_201 (by decide) ?_
              refine x_istoreE (L' := [some _, some _, some _, some _, some _, some _, some _]) C dX7_bus_202 (by rw [hn]; decide) rfl ?_
              refine T204 _ ?_; clear T204 kk C Y E; first | (refine bI_1 (p := f_cares S sel a k) ?_; grind) | (refine bI_00 (p := f_cares S sel a k) ?_; grind)
            · skip
              refine x_iconst (v := 1) C dX7_bus_197 (by decide) ?_
              refine x_goto (tgt := 202) C dX7_bus_198 (by decide) ?_
              refine x_istoreE (L' := [some _, some _, some _, some _, some _, some _, some _]) C dX7_bus_202 (by rw [hn]; decide) rfl ?_
              refine T204 _ ?_; clear T204 kk C Y E; first | (refine bI_1 (p := f_cares S sel a k) ?_; grind) | (refine bI_00 (p := f_cares S sel a k) ?_; grind)
          · skip
            refine x_aload_n C dX7_bus_180 rfl ?_
            refine m_getA C Y 13 (by decide) (by decide) wf_X7_29 dX7_bus_181 ?_
            refine x_iload C dX7_bus_184 rfl ?_
            refine m_zldN C Y 13 (k) (by decide) dX7_bus_186 (by simp only [nI_lit, nI_add, pk_mul]) (by simp only [m_len]; omega) ?_
            refine x_if_ne (tgt := 197) C dX7_bus_187 (by decide) (fun c187 => ?_) (fun c187 => ?_)
            · skip
              refine x_iconst (v := 1) C dX7_bus_197 (by decide) ?_
              refine x_goto (tgt := 202) C dX7_bus_198 (by decide) ?_
              refine x_istoreE (L' := [some _, some _, some _, some _, some _, some _, some _]) C dX7_bus_202 (by rw [hn]; decide) rfl ?_
              refine T204 _ ?_; clear T204 kk C Y E; first | (refine bI_1 (p := f_cares S sel a k) ?_; grind) | (refine bI_00 (p := f_cares S sel a k) ?_; grind)
            · skip
              refine x_iload_n C dX7_bus_190 rfl ?_
              refine x_sipush (v := 254) C dX7_bus_191 (by decide) ?_
              refine x_icmp_lt (tgt := 201) C dX7_bus_194 (by decide) (fun c194 => ?_) (fun c194 => ?_)
              · skip
                refine x_iconst (v := 0) C dX7_bus_201 (by decide) ?_
                refine x_istoreE (L' := [some _, some _, some _, some _, some _, some _, some _]) C dX7_bus_202 (by rw [hn]; decide) rfl ?_
                refine T204 _ ?_; clear T204 kk C Y E; first | (refine bI_1 (p := f_cares S sel a k) ?_; grind) | (refine bI_00 (p := f_cares S sel a k) ?_; grind)
              · skip
                refine x_iconst (v := 1) C dX7_bus_197 (by decide) ?_
                refine x_goto (tgt := 202) C dX7_bus_198 (by decide) ?_
                refine x_istoreE (L' := [some _, some _, some _, some _, some _, some _, some _]) C dX7_bus_202 (by rw [hn]; decide) rfl ?_
                refine T204 _ ?_; clear T204 kk C Y E; first | (refine bI_1 (p := f_cares S sel a k) ?_; grind) | (refine bI_00 (p := f_cares S sel a k) ?_; grind)
end Bus
