/-! MeterBusModel: values whose size stands in a byte of their own. -/
abbrev f_vok (V : Nat) : Prop := V < 202 ∨ (208 ≤ V ∧ V ≤ 217) ∨ (224 ≤ V ∧ V ≤ 232)
def f_vn (V : Nat) : Nat := if V < 192 then V else if V < 202 then V - 192 else if V < 218 then V - 208 else V - 224
def f_v3 (S1 : MS) (a r tx V : Nat) : MS :=
  if V < 192 then f_text (S1.sw 24 r (nI V).toInt64) r tx (a + 1) V
  else if V < 224 then (f_digS S1 (a + 1) (f_vn V) false).sw 24 r (if V < 208 then f_dig S1 (a + 1) (f_vn V) false else -(f_dig S1 (a + 1) (f_vn V) false))
  else (S1.si 40 (nI (a + 1 + f_vn V))).sw 24 r (f_whole S1 (a + 1) (f_vn V))
def f_valD (S : MS) (a e r tx V : Nat) : MS :=
  if a < e then (if f_vok V then (if a + 1 + f_vn V ≤ e then f_v3 (S.si 40 (nI (a + 1))) a r tx V else f_bl (S.si 40 (nI (a + 1))) 4 (nI e)) else f_bl (S.si 40 (nI (a + 1))) 8 (nI a))
  else f_bl S 4 (nI e)
section ValD
variable {w : Wd} {M : MW} {S : MS}
/-- the value itself, from pc 249 -/
theorem val249 (hW : Wm w M) (a r tx V : Nat) (hV : V < 256) (hok : f_vok V) (ha : S.i 40 = nI (a + 1)) (ham : a + 1 + f_vn V ≤ 300) (hr : S.i 23 = nI r) (hr1 : r < 100) (ht : S.i 34 = nI tx) (ht1 : tx + f_vn V ≤ 26000) {z : Fx} (l4 l5 : Option Value) (C : Cx z RX7 cX7_value gw) (Y : Mty z M) (E : Ct z w gw yX7_value none 2 (40 * 2) (PM M (fun q Q => q = none ∧ Q = f_v3 S a r tx V))) (hn : z.nL = 8) :
    X z 0 0 (MA M S) 249 [some (.ref M.o), some (.int (nI 13)), some (.int (nI (f_vn V))), some (.int (nI V)), l4, l5, none, none] [] := by
  have k192 : 192 ≤ nI V ↔ ¬ V < 192 := by rw [show (192 : Int32) = nI 192 from rfl, nI_leI (by omega) (by omega)]; omega
  have k224 : 224 ≤ nI V ↔ ¬ V < 224 := by rw [show (224 : Int32) = nI 224 from rfl, nI_leI (by omega) (by omega)]; omega
  have k208 : 208 ≤ nI V ↔ ¬ V < 208 := by rw [show (208 : Int32) = nI 208 from rfl, nI_leI (by omega) (by omega)]; omega
  unfold f_v3 at E
  by_cases h1 : V < 192
  · rw [if_pos h1] at E
    have ev : f_vn V = V := if_pos h1
    rw [ev] at ham ht1 ⊢
    have hx := s_textTo (S := S.sw 24 r (nI V).toInt64) hW r tx (a + 1) V hr hr1 ht ht1 ha ham
    refine x_iload_n C dX7_value_249 rfl ?_
    refine x_sipush (v := 192) C dX7_value_250 (by decide) ?_
    refine x_icmp_ge (tgt := 275) C dX7_value_253 (by decide) (fun c253 => absurd c253 (fun q => k192.mp q h1)) (fun c253 => ?_)
    refine x_aload_n C dX7_value_256 rfl ?_
    refine m_getA C Y 24 (by decide) (by decide) wf_X7_56 dX7_value_257 ?_
    refine x_aload_n C dX7_value_260 rfl ?_
    refine m_get C Y 23 (by decide) (by decide) wf_X7_190 dX7_value_261 ?_
    refine x_iload_n C dX7_value_264 rfl ?_
    refine x_i2l C dX7_value_265 ?_
    refine m_lstN C Y hW.2.1 24 (r) (by decide) dX7_value_266 hr (by simp only [m_len]; omega) ?_
    refine x_aload_n C dX7_value_267 rfl ?_
    refine x_iload_n C dX7_value_268 rfl ?_
    refine m_callF C Y hW E (hx) rfl md_X7_textTo wi_X7_textTo ws_X7_textTo wm_X7_231 dX7_value_269 rfl (by decide) (by decide) rfl (by simp [Value.category]) ?_
    refine x_goto (tgt := 331) C dX7_value_272 (by decide) ?_
    refine m_vret C E dX7_value_331 ?_
    exact ⟨rfl, rfl⟩
  · rw [if_neg h1] at E
    by_cases h2 : V < 224
    · rw [if_pos h2] at E
      have hvn : f_vn V ≤ 10 := by unfold f_vn; rw [if_neg h1]; split <;> (try split) <;> omega
      have hd := s_digits (S := S) hW (a + 1) (f_vn V) false ha hvn ham
      rw [bI_f (p := false = true) (by decide)] at hd
      have h23 : (f_digS S (a + 1) (f_vn V) false).i 23 = nI r := by
        unfold f_digS
        rw [MS.si_i, if_neg (by decide), f_dg_i _ _ _ _ _ (by decide) (by decide)]
        exact hr
      refine x_iload_n C dX7_value_249 rfl ?_
      refine x_sipush (v := 192) C dX7_value_250 (by decide) ?_
      refine x_icmp_ge (tgt := 275) C dX7_value_253 (by decide) (fun c253 => ?_) (fun c253 => absurd c253 (not_not_intro (k192.mpr h1)))
      refine x_iload_n C dX7_value_275 rfl ?_
      refine x_sipush (v := 224) C dX7_value_276 (by decide) ?_
      refine x_icmp_ge (tgt := 317) C dX7_value_279 (by decide) (fun c279 => absurd c279 (fun q => k224.mp q h2)) (fun c279 => ?_)
      refine x_aload_n C dX7_value_282 rfl ?_
      refine x_iload_n C dX7_value_283 rfl ?_
      refine x_iconst (v := 0) C dX7_value_284 (by decide) ?_
      refine m_callF C Y hW E (hd) rfl md_X7_digits wi_X7_digits ws_X7_digits wm_X7_250 dX7_value_285 rfl (by decide) (by decide) rfl (by simp [Value.category]) ?_
      refine x_lstoreE (L' := [some _, some _, some _, some _, _, _, some _, none]) C dX7_value_288 (by rw [hn]; decide) rfl ?_
      refine x_aload_n C dX7_value_290 rfl ?_
      refine m_getA C Y 24 (by decide) (by decide) wf_X7_56 dX7_value_291 ?_
      refine x_aload_n C dX7_value_294 rfl ?_
      refine m_get C Y 23 (by decide) (by decide) wf_X7_190 dX7_value_295 ?_
      refine x_iload_n C dX7_value_298 rfl ?_
      refine x_sipush (v := 208) C dX7_value_299 (by decide) ?_
      refine x_icmp_ge (tgt := 310) C dX7_value_302 (by decide) (fun c302 => ?_) (fun c302 => ?_)
      · skip
        refine x_lload C dX7_value_310 rfl ?_
        refine x_lneg C dX7_value_312 ?_
        refine m_lstN C Y hW.2.1 24 (r) (by decide) dX7_value_313 h23 (by simp only [m_len]; omega) ?_
        refine x_goto (tgt := 331) C dX7_value_314 (by decide) ?_
        refine m_vret C E dX7_value_331 ?_
        first | exact ⟨rfl, congrArg (fun t => (f_digS S (a + 1) (f_vn V) false).sw 24 r t) (if_neg (k208.mp c302)).symm⟩ | exact ⟨rfl, congrArg (fun t => (f_digS S (a + 1) (f_vn V) false).sw 24 r t) (if_pos (Classical.not_not.mp (fun q => c302 (k208.mpr q)))).symm⟩
      · skip
        refine x_lload C dX7_value_305 rfl ?_
        refine x_goto (tgt := 313) C dX7_value_307 (by decide) ?_
        refine m_lstN C Y hW.2.1 24 (r) (by decide) dX7_value_313 h23 (by simp only [m_len]; omega) ?_
        refine x_goto (tgt := 331) C dX7_value_314 (by decide) ?_
        refine m_vret C E dX7_value_331 ?_
        first | exact ⟨rfl, congrArg (fun t => (f_digS S (a + 1) (f_vn V) false).sw 24 r t) (if_neg (k208.mp c302)).symm⟩ | exact ⟨rfl, congrArg (fun t => (f_digS S (a + 1) (f_vn V) false).sw 24 r t) (if_pos (Classical.not_not.mp (fun q => c302 (k208.mpr q)))).symm⟩
    · rw [if_neg h2] at E
      have hvn : f_vn V ≤ 8 := by
        unfold f_vn
        rcases hok with q | q | q
        · omega
        · omega
        · rw [if_neg h1, if_neg (by omega), if_neg (by omega)]; omega
      have hw := s_whole (S := S) hW (a + 1) (f_vn V) ha hvn ham
      refine x_iload_n C dX7_value_249 rfl ?_
      refine x_sipush (v := 192) C dX7_value_250 (by decide) ?_
      refine x_icmp_ge (tgt := 275) C dX7_value_253 (by decide) (fun c253 => ?_) (fun c253 => absurd c253 (not_not_intro (k192.mpr h1)))
      refine x_iload_n C dX7_value_275 rfl ?_
      refine x_sipush (v := 224) C dX7_value_276 (by decide) ?_
      refine x_icmp_ge (tgt := 317) C dX7_value_279 (by decide) (fun c279 => ?_) (fun c279 => absurd c279 (not_not_intro (k224.mpr h2)))
      refine x_aload_n C dX7_value_317 rfl ?_
      refine m_getA C Y 24 (by decide) (by decide) wf_X7_56 dX7_value_318 ?_
      refine x_aload_n C dX7_value_321 rfl ?_
      refine m_get C Y 23 (by decide) (by decide) wf_X7_190 dX7_value_322 ?_
      refine x_aload_n C dX7_value_325 rfl ?_
      refine x_iload_n C dX7_value_326 rfl ?_
      refine m_callF C Y hW E (hw) rfl md_X7_whole wi_X7_whole ws_X7_whole wm_X7_246 dX7_value_327 rfl (by decide) (by decide) rfl (by simp [Value.category]) ?_
      refine m_lstN C Y hW.2.1 24 (r) (by decide) dX7_value_330 hr (by simp only [m_len]; omega) ?_
      refine m_vret C E dX7_value_331 ?_
      exact ⟨rfl, rfl⟩
/-- behind the byte, from pc 129 -/
theorem val129 (hW : Wm w M) (a e r tx V : Nat) (hV : V < 256) (ha : S.i 40 = nI (a + 1)) (he : S.i 39 = nI e) (he3 : e ≤ 300) (hae : a + 1 ≤ e) (hr : S.i 23 = nI r) (hr1 : r < 100) (ht : S.i 34 = nI tx) (ht1 : tx + f_vn V ≤ 26000) {z : Fx} (C : Cx z RX7 cX7_value gw) (Y : Mty z M) (hn : z.nL = 8)
    (E : Ct z w gw yX7_value none 2 (40 * 2) (PM M (fun q Q => q = none ∧ Q = if f_vok V then (if a + 1 + f_vn V ≤ e then f_v3 S a r tx V else f_bl S 4 (nI e)) else f_bl S 8 (nI a)))) :
    X z 0 0 (MA M S) 129 [some (.ref M.o), some (.int (nI 13)), some (.int (-1)), some (.int (nI V)), none, none, none, none] [] := by
  have k202 : nI V < 202 ↔ V < 202 := by rw [show (202 : Int32) = nI 202 from rfl, nI_ltI (by omega) (by omega)]
  have kd : (208 ≤ nI V ∧ nI V ≤ 217) ↔ (208 ≤ V ∧ V ≤ 217) := by rw [show (208 : Int32) = nI 208 from rfl, show (217 : Int32) = nI 217 from rfl, nI_leI (by omega) (by omega), nI_leI (by omega) (by omega)]
  have kz : (224 ≤ nI V ∧ nI V ≤ 232) ↔ (224 ≤ V ∧ V ≤ 232) := by rw [show (224 : Int32) = nI 224 from rfl, show (232 : Int32) = nI 232 from rfl, nI_leI (by omega) (by omega), nI_leI (by omega) (by omega)]
  have k192 : 192 ≤ nI V ↔ ¬ V < 192 := by rw [show (192 : Int32) = nI 192 from rfl, nI_leI (by omega) (by omega)]; omega
  have g202 : 202 ≤ nI V ↔ ¬ V < 202 := by rw [show (202 : Int32) = nI 202 from rfl, nI_leI (by omega) (by omega)]; omega
  have g218 : 218 ≤ nI V ↔ ¬ V < 218 := by rw [show (218 : Int32) = nI 218 from rfl, nI_leI (by omega) (by omega)]; omega
  have T177 : ∀ x : Int32, x = bI (f_vok V) → X z 0 0 (MA M S) 177 [some (.ref M.o), some (.int (nI 13)), some (.int (-1)), some (.int (nI V)), some (.int (nI a)), some (.int x), none, none] [] := by
    intro x ex
    by_cases h1 : f_vok V
    · rw [bI_t h1] at ex
      subst ex
      rw [if_pos h1] at E
      have T239 : ∀ y : Int32, y = nI (f_vn V) → X z 0 0 (MA M S) 239 [some (.ref M.o), some (.int (nI 13)), some (.int (-1)), some (.int (nI V)), some (.int (nI a)), some (.int 1), none, none] [.int y] := by
        intro y ey
        subst ey
        by_cases h2 : a + 1 + f_vn V ≤ e
        · rw [if_pos h2] at E
          have hh := s_has_t (S := S) hW (a + 1) e (f_vn V) ha he he3 h2
          have T := val249 hW a r tx V hV h1 ha (by omega) hr hr1 ht ht1 (some (.int (nI a))) (some (.int 1)) C Y E hn
          refine x_istore_nE (L' := [some _, some _, some _, some _, some _, some _, none, none]) C dX7_value_239 (by rw [hn]; decide) rfl ?_
          refine x_aload_n C dX7_value_240 rfl ?_
          refine x_iload_n C dX7_value_241 rfl ?_
          refine m_callF C Y hW E (hh) rfl md_X7_has wi_X7_has ws_X7_has wm_X7_243 dX7_value_242 rfl (by decide) (by decide) rfl (by simp [Value.category]) ?_
          refine x_if_ne (tgt := 249) C dX7_value_245 (by decide) (fun c245 => ?_) (fun c245 => absurd c245 (by decide))
          exact T
        · rw [if_neg h2] at E
          have hh := s_has_f (S := S) hW (a + 1) e (f_vn V) ha he he3 hae (by unfold f_vn; split <;> (try split) <;> (try split) <;> omega) h2
          refine x_istore_nE (L' := [some _, some _, some _, some _, some _, some _, none, none]) C dX7_value_239 (by rw [hn]; decide) rfl ?_
          refine x_aload_n C dX7_value_240 rfl ?_
          refine x_iload_n C dX7_value_241 rfl ?_
          refine m_callF C Y hW E (hh) rfl md_X7_has wi_X7_has ws_X7_has wm_X7_243 dX7_value_242 rfl (by decide) (by decide) rfl (by simp [Value.category]) ?_
          refine x_if_ne (tgt := 249) C dX7_value_245 (by decide) (fun c245 => absurd c245 (not_not_intro rfl)) (fun c245 => ?_)
          refine m_vret C E dX7_value_248 ?_
          exact ⟨rfl, rfl⟩
      have e1 : V < 192 → nI V = nI (f_vn V) := fun q => by unfold f_vn; rw [if_pos q]
      have e2 : ¬ V < 192 → V < 202 → nI V - 192 = nI (f_vn V) := fun q q2 => by unfold f_vn; rw [if_neg q, if_pos q2, show (192 : Int32) = nI 192 from rfl, pk_sub (by omega)]
      have e3 : ¬ V < 192 → ¬ V < 202 → V < 218 → nI V - 208 = nI (f_vn V) := fun q q2 q3 => by
        unfold f_vn
        rw [if_neg q, if_neg q2, if_pos q3, show (208 : Int32) = nI 208 from rfl, pk_sub (by rcases h1 with r | r | r <;> omega)]
      have e4 : ¬ V < 192 → ¬ V < 202 → ¬ V < 218 → nI V - 224 = nI (f_vn V) := fun q q2 q3 => by
        unfold f_vn
        rw [if_neg q, if_neg q2, if_neg q3, show (224 : Int32) = nI 224 from rfl, pk_sub (by rcases h1 with r | r | r <;> omega)]
      refine x_iload C dX7_value_177 rfl ?_
      refine x_if_ne (tgt := 193) C dX7_value_179 (by decide) (fun c179 => ?_) (fun c179 => absurd c179 (by decide))
      refine x_iload_n C dX7_value_193 rfl ?_
      refine x_sipush (v := 192) C dX7_value_194 (by decide) ?_
      refine x_icmp_ge (tgt := 204) C dX7_value_197 (by decide) (fun c197 => ?_) (fun c197 => ?_)
      · skip
        refine x_iload_n C dX7_value_204 rfl ?_
        refine x_sipush (v := 202) C dX7_value_205 (by decide) ?_
        refine x_icmp_ge (tgt := 219) C dX7_value_208 (by decide) (fun c208 => ?_) (fun c208 => ?_)
        · skip
          refine x_iload_n C dX7_value_219 rfl ?_
          refine x_sipush (v := 218) C dX7_value_220 (by decide) ?_
          refine x_icmp_ge (tgt := 234) C dX7_value_223 (by decide) (fun c223 => ?_) (fun c223 => ?_)
          · skip
            refine x_iload_n C dX7_value_234 rfl ?_
            refine x_sipush (v := 224) C dX7_value_235 (by decide) ?_
            refine x_isub C dX7_value_238 ?_
            first | exact T239 _ (e1 (Classical.not_not.mp (fun q => c197 (k192.mpr q)))) | exact T239 _ (e2 (k192.mp c197) (Classical.not_not.mp (fun q => c208 (g202.mpr q)))) | exact T239 _ (e3 (k192.mp c197) (g202.mp c208) (Classical.not_not.mp (fun q => c223 (g218.mpr q)))) | exact T239 _ (e4 (k192.mp c197) (g202.mp c208) (g218.mp c223))
          · skip
            refine x_iload_n C dX7_value_226 rfl ?_
            refine x_sipush (v := 208) C dX7_value_227 (by decide) ?_
            refine x_isub C dX7_value_230 ?_
            refine x_goto (tgt := 239) C dX7_value_231 (by decide) ?_
            first | exact T239 _ (e1 (Classical.not_not.mp (fun q => c197 (k192.mpr q)))) | exact T239 _ (e2 (k192.mp c197) (Classical.not_not.mp (fun q => c208 (g202.mpr q)))) | exact T239 _ (e3 (k192.mp c197) (g202.mp c208) (Classical.not_not.mp (fun q => c223 (g218.mpr q)))) | exact T239 _ (e4 (k192.mp c197) (g202.mp c208) (g218.mp c223))
        · skip
          refine x_iload_n C dX7_value_211 rfl ?_
          refine x_sipush (v := 192) C dX7_value_212 (by decide) ?_
          refine x_isub C dX7_value_215 ?_
          refine x_goto (tgt := 239) C dX7_value_216 (by decide) ?_
          first | exact T239 _ (e1 (Classical.not_not.mp (fun q => c197 (k192.mpr q)))) | exact T239 _ (e2 (k192.mp c197) (Classical.not_not.mp (fun q => c208 (g202.mpr q)))) | exact T239 _ (e3 (k192.mp c197) (g202.mp c208) (Classical.not_not.mp (fun q => c223 (g218.mpr q)))) | exact T239 _ (e4 (k192.mp c197) (g202.mp c208) (g218.mp c223))
      · skip
        refine x_iload_n C dX7_value_200 rfl ?_
        refine x_goto (tgt := 239) C dX7_value_201 (by decide) ?_
        first | exact T239 _ (e1 (Classical.not_not.mp (fun q => c197 (k192.mpr q)))) | exact T239 _ (e2 (k192.mp c197) (Classical.not_not.mp (fun q => c208 (g202.mpr q)))) | exact T239 _ (e3 (k192.mp c197) (g202.mp c208) (Classical.not_not.mp (fun q => c223 (g218.mpr q)))) | exact T239 _ (e4 (k192.mp c197) (g202.mp c208) (g218.mp c223))
    · rw [bI_f h1] at ex
      subst ex
      rw [if_neg h1] at E
      refine x_iload C dX7_value_177 rfl ?_
      refine x_if_ne (tgt := 193) C dX7_value_179 (by decide) (fun c179 => absurd c179 (not_not_intro rfl)) (fun c179 => ?_)
      refine x_aload_n C dX7_value_182 rfl ?_
      refine x_bipush (v := 8) C dX7_value_183 (by decide) ?_
      refine x_iload C dX7_value_185 rfl ?_
      refine m_callF C Y hW E (s_blame hW _ _) rfl md_X7_blame wi_X7_blame ws_X7_blame wm_X7_207 dX7_value_187 rfl (by decide) (by decide) rfl (by simp [Value.category]) ?_
      refine x_istoreE (L' := [some _, some _, some _, some _, some _, some _, some _, none]) C dX7_value_190 (by rw [hn]; decide) rfl ?_
      refine m_vret C E dX7_value_192 ?_
      exact ⟨rfl, rfl⟩
  refine x_aload_n C dX7_value_129 rfl ?_
  refine m_get C Y 40 (by decide) (by decide) wf_X7_221 dX7_value_130 ?_
  refine x_iconst (v := 1) C dX7_value_133 (by decide) ?_
  refine x_isub C dX7_value_134 ?_
  rw [ha, nI_pred]
  refine x_istoreE (L' := [some _, some _, some _, some _, some _, none, none, none]) C dX7_value_135 (by rw [hn]; decide) rfl ?_
  refine x_iload_n C dX7_value_137 rfl ?_
  refine x_sipush (v := 202) C dX7_value_138 (by decide) ?_
  refine x_icmp_lt (tgt := 170) C dX7_value_141 (by decide) (fun c141 => ?_) (fun c141 => ?_)
  · skip
    refine x_iconst (v := 1) C dX7_value_170 (by decide) ?_
    refine x_goto (tgt := 175) C dX7_value_171 (by decide) ?_
    refine x_istoreE (L' := [some _, some _, some _, some _, some _, some _, none, none]) C dX7_value_175 (by rw [hn]; decide) rfl ?_
    first | exact T177 _ (bI_1 (Or.inl (k202.mp c141))) | exact T177 _ (bI_1 (Or.inr (Or.inl (kd.mp (bI_0n.mp c154))))) | exact T177 _ (bI_00 (fun q => q.elim (fun r => c141 (k202.mpr r)) (fun r => r.elim (fun t => c154 (fun u => bI_0.mp u (kd.mpr t))) (fun t => bI_0.mp c167 (kz.mpr t))))) | exact T177 _ (bI_00 (fun q => q.elim (fun r => c141 (k202.mpr r)) (fun r => r.elim (fun t => bI_0.mp c154 (kd.mpr t)) (fun t => bI_0.mp c167 (kz.mpr t))))) | exact T177 _ (bI_1 (Or.inr (Or.inr (kz.mp (bI_0n.mp c167)))))
  · skip
    refine x_iload_n C dX7_value_144 rfl ?_
    refine x_sipush (v := 208) C dX7_value_145 (by decide) ?_
    refine x_sipush (v := 217) C dX7_value_148 (by decide) ?_
    refine m_callSF C hW E (s_in _ _ _) md_X7_in wt_X7_in wm_X7_100 dX7_value_151 rfl (by decide) (by decide) rfl (by simp [Value.category]) ?_
    refine x_if_ne (tgt := 170) C dX7_value_154 (by decide) (fun c154 => ?_) (fun c154 => ?_)
    · skip
      refine x_iconst (v := 1) C dX7_value_170 (by decide) ?_
      refine x_goto (tgt := 175) C dX7_value_171 (by decide) ?_
      refine x_istoreE (L' := [some _, some _, some _, some _, some _, some _, none, none]) C dX7_value_175 (by rw [hn]; decide) rfl ?_
      first | exact T177 _ (bI_1 (Or.inl (k202.mp c141))) | exact T177 _ (bI_1 (Or.inr (Or.inl (kd.mp (bI_0n.mp c154))))) | exact T177 _ (bI_00 (fun q => q.elim (fun r => c141 (k202.mpr r)) (fun r => r.elim (fun t => c154 (fun u => bI_0.mp u (kd.mpr t))) (fun t => bI_0.mp c167 (kz.mpr t))))) | exact T177 _ (bI_00 (fun q => q.elim (fun r => c141 (k202.mpr r)) (fun r => r.elim (fun t => bI_0.mp c154 (kd.mpr t)) (fun t => bI_0.mp c167 (kz.mpr t))))) | exact T177 _ (bI_1 (Or.inr (Or.inr (kz.mp (bI_0n.mp c167)))))
    · skip
      refine x_iload_n C dX7_value_157 rfl ?_
      refine x_sipush (v := 224) C dX7_value_158 (by decide) ?_
      refine x_sipush (v := 232) C dX7_value_161 (by decide) ?_
      refine m_callSF C hW E (s_in _ _ _) md_X7_in wt_X7_in wm_X7_100 dX7_value_164 rfl (by decide) (by decide) rfl (by simp [Value.category]) ?_
      refine x_if_eq (tgt := 174) C dX7_value_167 (by decide) (fun c167 => ?_) (fun c167 => ?_)
      · skip
        refine x_iconst (v := 0) C dX7_value_174 (by decide) ?_
        refine x_istoreE (L' := [some _, some _, some _, some _, some _, some _, none, none]) C dX7_value_175 (by rw [hn]; decide) rfl ?_
        first | exact T177 _ (bI_1 (Or.inl (k202.mp c141))) | exact T177 _ (bI_1 (Or.inr (Or.inl (kd.mp (bI_0n.mp c154))))) | exact T177 _ (bI_00 (fun q => q.elim (fun r => c141 (k202.mpr r)) (fun r => r.elim (fun t => c154 (fun u => bI_0.mp u (kd.mpr t))) (fun t => bI_0.mp c167 (kz.mpr t))))) | exact T177 _ (bI_00 (fun q => q.elim (fun r => c141 (k202.mpr r)) (fun r => r.elim (fun t => bI_0.mp c154 (kd.mpr t)) (fun t => bI_0.mp c167 (kz.mpr t))))) | exact T177 _ (bI_1 (Or.inr (Or.inr (kz.mp (bI_0n.mp c167)))))
      · skip
        refine x_iconst (v := 1) C dX7_value_170 (by decide) ?_
        refine x_goto (tgt := 175) C dX7_value_171 (by decide) ?_
        refine x_istoreE (L' := [some _, some _, some _, some _, some _, some _, none, none]) C dX7_value_175 (by rw [hn]; decide) rfl ?_
        first | exact T177 _ (bI_1 (Or.inl (k202.mp c141))) | exact T177 _ (bI_1 (Or.inr (Or.inl (kd.mp (bI_0n.mp c154))))) | exact T177 _ (bI_00 (fun q => q.elim (fun r => c141 (k202.mpr r)) (fun r => r.elim (fun t => c154 (fun u => bI_0.mp u (kd.mpr t))) (fun t => bI_0.mp c167 (kz.mpr t))))) | exact T177 _ (bI_00 (fun q => q.elim (fun r => c141 (k202.mpr r)) (fun r => r.elim (fun t => bI_0.mp c154 (kd.mpr t)) (fun t => bI_0.mp c167 (kz.mpr t))))) | exact T177 _ (bI_1 (Or.inr (Or.inr (kz.mp (bI_0n.mp c167)))))
theorem s_val_13 (hW : Wm w M) (a e r tx V : Nat) (ha : S.i 40 = nI a) (he : S.i 39 = nI e) (he3 : e ≤ 300) (hae : a ≤ e) (hr : S.i 23 = nI r) (hr1 : r < 100) (ht : S.i 34 = nI tx) (ht1 : tx + 300 ≤ 26000) (h41 : S.i 41 = 0) (hV : a < e → V < 256 ∧ S.a 38 a = nI V) : TF w M yX7_value cX7_value 8 none 2 [.int (nI 13)] S none (f_valD S a e r tx V) := by
  refine TM.intro hW rfl (Nat.le_of_ble_eq_true rfl) (fun z C Y E hn => ?_)
  unfold f_valD at E
  by_cases h1 : a < e
  · rw [if_pos h1] at E
    obtain ⟨v1, v2⟩ := hV h1
    have hx := s_next (S := S) hW a e ha he he3 h1
    rw [v2] at hx
    have hvl : f_vn V ≤ 300 := by unfold f_vn; split <;> (try split) <;> (try split) <;> omega
    have f0 : (S.si 40 (nI (a + 1))).i 41 ≤ 0 := by rw [MS.si_i, if_neg (by decide), h41]; decide
    have T := val129 (S := S.si 40 (nI (a + 1))) hW a e r tx V v1 rfl he he3 (by omega) hr hr1 ht (by omega) C Y hn E
    refine x_iload_n C dX7_value_0 rfl ?_
    refine x_if_ne (tgt := 8) C dX7_value_1 (by decide) (fun c1 => ?_) (fun c1 => absurd c1 (by decide))
    refine x_iload_n C dX7_value_8 rfl ?_
    refine x_iconst (v := 5) C dX7_value_9 (by decide) ?_
    refine x_icmp_ge (tgt := 17) C dX7_value_10 (by decide) (fun c10 => ?_) (fun c10 => absurd c10 (not_not_intro (by decide)))
    refine x_iload_n C dX7_value_17 rfl ?_
    refine x_iconst (v := 5) C dX7_value_18 (by decide) ?_
    refine x_icmp_ne (tgt := 26) C dX7_value_19 (by decide) (fun c19 => ?_) (fun c19 => absurd c19 (by decide))
    refine x_iload_n C dX7_value_26 rfl ?_
    refine x_bipush (v := 6) C dX7_value_27 (by decide) ?_
    refine x_icmp_ne (tgt := 37) C dX7_value_29 (by decide) (fun c29 => ?_) (fun c29 => absurd c29 (by decide))
    refine x_iload_n C dX7_value_37 rfl ?_
    refine x_bipush (v := 7) C dX7_value_38 (by decide) ?_
    refine x_icmp_ne (tgt := 48) C dX7_value_40 (by decide) (fun c40 => ?_) (fun c40 => absurd c40 (by decide))
    refine x_iload_n C dX7_value_48 rfl ?_
    refine x_bipush (v := 13) C dX7_value_49 (by decide) ?_
    refine x_icmp_ge (tgt := 61) C dX7_value_51 (by decide) (fun c51 => ?_) (fun c51 => absurd c51 (not_not_intro (by decide)))
    refine x_iload_n C dX7_value_61 rfl ?_
    refine x_bipush (v := 14) C dX7_value_62 (by decide) ?_
    refine x_icmp_ne (tgt := 72) C dX7_value_64 (by decide) (fun c64 => ?_) (fun c64 => absurd c64 (by decide))
    refine x_iconst (v := (-1)) C dX7_value_72 (by decide) ?_
    refine x_istore_nE (L' := [some _, some _, some _, none, none, none, none, none]) C dX7_value_73 (by rw [hn]; decide) rfl ?_
    refine x_iload_n C dX7_value_74 rfl ?_
    refine x_if_lt (tgt := 116) C dX7_value_75 (by decide) (fun c75 => ?_) (fun c75 => absurd c75 (not_not_intro (by decide)))
    refine x_aload_n C dX7_value_116 rfl ?_
    refine m_callF C Y hW E (hx) rfl md_X7_next wi_X7_next ws_X7_next wm_X7_227 dX7_value_117 rfl (by decide) (by decide) rfl (by simp [Value.category]) ?_
    refine x_istore_nE (L' := [some _, some _, some _, some _, none, none, none, none]) C dX7_value_120 (by rw [hn]; decide) rfl ?_
    refine x_aload_n C dX7_value_121 rfl ?_
    refine m_get C Y 41 (by decide) (by decide) wf_X7_204 dX7_value_122 ?_
    refine x_if_le (tgt := 129) C dX7_value_125 (by decide) (fun c125 => ?_) (fun c125 => absurd c125 (not_not_intro f0))
    exact T
  · rw [if_neg h1] at E
    have hx := s_next_e (S := S) hW a e ha he (by omega) (by omega)
    have f4 : ¬ (f_bl S 4 (nI e)).i 41 ≤ 0 := by unfold f_bl; rw [if_pos h41, MS.si_i, if_neg (by decide), MS.si_i, if_pos rfl]; decide
    refine x_iload_n C dX7_value_0 rfl ?_
    refine x_if_ne (tgt := 8) C dX7_value_1 (by decide) (fun c1 => ?_) (fun c1 => absurd c1 (by decide))
    refine x_iload_n C dX7_value_8 rfl ?_
    refine x_iconst (v := 5) C dX7_value_9 (by decide) ?_
    refine x_icmp_ge (tgt := 17) C dX7_value_10 (by decide) (fun c10 => ?_) (fun c10 => absurd c10 (not_not_intro (by decide)))
    refine x_iload_n C dX7_value_17 rfl ?_
    refine x_iconst (v := 5) C dX7_value_18 (by decide) ?_
    refine x_icmp_ne (tgt := 26) C dX7_value_19 (by decide) (fun c19 => ?_) (fun c19 => absurd c19 (by decide))
    refine x_iload_n C dX7_value_26 rfl ?_
    refine x_bipush (v := 6) C dX7_value_27 (by decide) ?_
    refine x_icmp_ne (tgt := 37) C dX7_value_29 (by decide) (fun c29 => ?_) (fun c29 => absurd c29 (by decide))
    refine x_iload_n C dX7_value_37 rfl ?_
    refine x_bipush (v := 7) C dX7_value_38 (by decide) ?_
    refine x_icmp_ne (tgt := 48) C dX7_value_40 (by decide) (fun c40 => ?_) (fun c40 => absurd c40 (by decide))
    refine x_iload_n C dX7_value_48 rfl ?_
    refine x_bipush (v := 13) C dX7_value_49 (by decide) ?_
    refine x_icmp_ge (tgt := 61) C dX7_value_51 (by decide) (fun c51 => ?_) (fun c51 => absurd c51 (not_not_intro (by decide)))
    refine x_iload_n C dX7_value_61 rfl ?_
    refine x_bipush (v := 14) C dX7_value_62 (by decide) ?_
    refine x_icmp_ne (tgt := 72) C dX7_value_64 (by decide) (fun c64 => ?_) (fun c64 => absurd c64 (by decide))
    refine x_iconst (v := (-1)) C dX7_value_72 (by decide) ?_
    refine x_istore_nE (L' := [some _, some _, some _, none, none, none, none, none]) C dX7_value_73 (by rw [hn]; decide) rfl ?_
    refine x_iload_n C dX7_value_74 rfl ?_
    refine x_if_lt (tgt := 116) C dX7_value_75 (by decide) (fun c75 => ?_) (fun c75 => absurd c75 (not_not_intro (by decide)))
    refine x_aload_n C dX7_value_116 rfl ?_
    refine m_callF C Y hW E (hx) rfl md_X7_next wi_X7_next ws_X7_next wm_X7_227 dX7_value_117 rfl (by decide) (by decide) rfl (by simp [Value.category]) ?_
    refine x_istore_nE (L' := [some _, some _, some _, some _, none, none, none, none]) C dX7_value_120 (by rw [hn]; decide) rfl ?_
    refine x_aload_n C dX7_value_121 rfl ?_
    refine m_get C Y 41 (by decide) (by decide) wf_X7_204 dX7_value_122 ?_
    refine x_if_le (tgt := 129) C dX7_value_125 (by decide) (fun c125 => absurd c125 f4) (fun c125 => ?_)
    refine m_vret C E dX7_value_128 ?_
    exact ⟨rfl, rfl⟩
end ValD
