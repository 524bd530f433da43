/-! MeterBusModel: a record: the loops over its extensions. -/
def f_at (S : MS) : Nat := (S.i 40).toNatClampNeg
def f_e (S : MS) : Nat := (S.i 39).toNatClampNeg
def WFp (S : MS) : Prop := S.i 40 = nI (f_at S) ∧ S.i 39 = nI (f_e S) ∧ f_at S ≤ f_e S ∧ f_e S ≤ 300
theorem WFp.of {S : MS} {a e : Nat} (h1 : S.i 40 = nI a) (h2 : S.i 39 = nI e) (h3 : a ≤ e) (h4 : e ≤ 300) : WFp S ∧ f_at S = a ∧ f_e S = e := by
  have e1 : f_at S = a := by unfold f_at; rw [h1, nI_clamp (by omega)]
  have e2 : f_e S = e := by unfold f_e; rw [h2, nI_clamp (by omega)]
  exact ⟨⟨by rw [e1]; exact h1, by rw [e2]; exact h2, by omega, by omega⟩, e1, e2⟩
theorem WFp.same {S S' : MS} (h : WFp S) (h1 : S'.i 40 = S.i 40) (h2 : S'.i 39 = S.i 39) : WFp S' := (WFp.of (h1.trans h.1) (h2.trans h.2.1) h.2.2.1 h.2.2.2).1
def f_nx (S : MS) : Int32 × MS := if f_at S < f_e S then (S.a 38 (f_at S), S.si 40 (nI (f_at S + 1))) else (0, f_bl S 4 (nI (f_e S)))
theorem WFp.nx {S : MS} (h : WFp S) : WFp (f_nx S).2 := by
  unfold f_nx
  split
  · exact (WFp.of (S := S.si 40 (nI (f_at S + 1))) rfl (show (S.si 40 (nI (f_at S + 1))).i 39 = nI (f_e S) from h.2.1) (by omega) h.2.2.2).1
  · exact h.same (f_bl_i _ _ _ (by decide) (by decide)) (f_bl_i _ _ _ (by decide) (by decide))
theorem f_nx_i (S : MS) {q : Nat} (h40 : q ≠ 40) (h41 : q ≠ 41) (h36 : q ≠ 36) : (f_nx S).2.i q = S.i q := by
  unfold f_nx
  split
  · show (S.si 40 _).i q = S.i q
    rw [MS.si_i, if_neg h40]
  · exact f_bl_i _ _ _ h41 h36
theorem f_nx_a (S : MS) (q j : Nat) : (f_nx S).2.a q j = S.a q j := by
  unfold f_nx
  split
  · rfl
  · exact f_bl_a _ _ _ _ _
def f_df1 (S : MS) (r : Nat) (b : Int32) (i : Nat) : MS :=
  ((S.sw 27 r (S.w 27 r ||| ((b.toInt64 &&& 15) <<< (((1 : Int32) + 4 * nI i).toInt64 &&& 63)))).sa 28 r (S.a 28 r ||| (((b >>> ((4 : Int32) &&& 31)) &&& 3) <<< (((2 : Int32) * nI i) &&& 31)))).sa 29 r (S.a 29 r ||| (((b >>> ((6 : Int32) &&& 31)) &&& 1) <<< (nI i &&& 31)))
def f_d2 (S : MS) (i : Nat) : MS := if i = 10 ∧ S.i 41 = 0 then f_bl S 5 (S.i 40 - 1) else S
def f_d3 (S : MS) (r : Nat) (b : Int32) (i : Nat) : MS := if i < 10 then f_df1 S r b i else S
def f_dl (r : Nat) : Nat → MS → Int32 → Nat → MS
  | 0, S, _, _ => S
  | t + 1, S, b, i => if 127 < b ∧ S.i 41 = 0 then f_dl r t (f_d3 (f_d2 (f_nx S).2 i) r (f_nx S).1 i) (f_nx S).1 (i + 1) else S
theorem f_d2_i (S : MS) (i : Nat) {q : Nat} (h41 : q ≠ 41) (h36 : q ≠ 36) : (f_d2 S i).i q = S.i q := by
  unfold f_d2
  split
  · exact f_bl_i _ _ _ h41 h36
  · rfl
theorem f_d3_i (S : MS) (r : Nat) (b : Int32) (i q : Nat) : (f_d3 S r b i).i q = S.i q := by
  unfold f_d3
  split
  · rfl
  · rfl
def f_v2 (S : MS) (i : Nat) : MS := if i = 11 ∧ S.i 41 = 0 then f_bl S 6 (S.i 40 - 1) else S
def f_v4 (S : MS) (r : Nat) (b : Int32) (i : Nat) : MS := if i < 11 ∧ S.i 41 = 0 then (S.sa 31 (11 * r + i) b).sa 30 r (S.a 30 r + 1) else S
def f_vl (r : Nat) : Nat → MS → Int32 → Nat → MS
  | 0, S, _, _ => S
  | t + 1, S, b, i => if 127 < b ∧ S.i 41 = 0 then f_vl r t (f_v4 (f_v2 (f_nx S).2 i) r (f_nx S).1 i) (f_nx S).1 (i + 1) else S
theorem f_v2_i (S : MS) (i : Nat) {q : Nat} (h41 : q ≠ 41) (h36 : q ≠ 36) : (f_v2 S i).i q = S.i q := by
  unfold f_v2
  split
  · exact f_bl_i _ _ _ h41 h36
  · rfl
theorem f_v4_i (S : MS) (r : Nat) (b : Int32) (i q : Nat) : (f_v4 S r b i).i q = S.i q := by
  unfold f_v4
  split
  · rfl
  · rfl
section Ext
variable {w : Wd} {M : MW} {S : MS} {z : Fx} {post : Option Value → MS → Prop}
theorem s_nx (hW : Wm w M) (h : WFp S) : TF w M yX7_next cX7_next 1 (some .int) 1 [] S (some (.int (f_nx S).1)) (f_nx S).2 := by
  unfold f_nx
  by_cases g : f_at S < f_e S
  · rw [if_pos g]
    exact s_next hW _ _ h.1 h.2.1 h.2.2.2 g
  · rw [if_neg g]
    exact s_next_e hW _ _ h.1 h.2.1 (by have := h.2.2; omega) (by omega)
/-- the loop over the DIFEs, from pc 238 -/
theorem rc1 (hW : Wm w M) (C : Cx z RX7 cX7_oneRecord gw) (Y : Mty z M) (E : Ct z w gw yX7_oneRecord none 3 (40 * 3) (PM M post)) (hn : z.nL = 7) (r : Nat) (hr1 : r < 100) (fv dv cv : Int32) (R : MS)
    (kk : ∀ l4 l5 l6 : Option Value, X z 0 0 (MA M R) 369 [some (.ref M.o), some (.int fv), some (.int dv), some (.int cv), l4, l5, l6] []) :
    ∀ (t : Nat) (S : MS) (b : Int32) (i : Nat) (l6 : Option Value), i + t = 12 → WFp S → S.i 23 = nI r → (i ≤ 10 ∨ ¬ S.i 41 = 0) → f_dl r t S b i = R → X z 0 0 (MA M S) 238 [some (.ref M.o), some (.int fv), some (.int dv), some (.int cv), some (.int b), some (.int (nI i)), l6] [] := by
  intro t
  induction t with
  | zero =>
    intro S b i l6 hi hp hr hv e
    have e : S = R := e
    subst e
    have h41 : ¬ S.i 41 = 0 := hv.elim (fun q => absurd q (by omega)) id
    refine x_iload C dX7_oneRecord_238 rfl ?_
    refine x_bipush (v := 127) C dX7_oneRecord_240 (by decide) ?_
    refine x_icmp_le (tgt := 369) C dX7_oneRecord_242 (by decide) (fun c242 => ?_) (fun c242 => ?_)
    · skip
      exact kk _ _ _
    · skip
      refine x_aload_n C dX7_oneRecord_245 rfl ?_
      refine m_get C Y 41 (by decide) (by decide) wf_X7_204 dX7_oneRecord_246 ?_
      refine x_if_ne (tgt := 369) C dX7_oneRecord_249 (by decide) (fun c249 => ?_) (fun c249 => absurd c249 (fun q => h41 q))
      exact kk _ _ _
  | succ t ih =>
    intro S b i l6 hi hp hr hv e
    have c127 : b ≤ 127 ↔ ¬ 127 < b := Int32.not_lt.symm
    by_cases h1 : 127 < b ∧ S.i 41 = 0
    · rw [f_dl, if_pos h1] at e
      have hi10 : i ≤ 10 := hv.elim id (fun q => absurd h1.2 q)
      have hx := s_nx hW hp
      have hp1 := hp.nx
      have hr2 : (f_nx S).2.i 23 = nI r := (f_nx_i S (by decide) (by decide) (by decide)).trans hr
      have k10 : nI i = 10 ↔ i = 10 := by rw [show (10 : Int32) = nI 10 from rfl, nI_eq (by omega) (by omega)]
      have g10 : 10 ≤ nI i ↔ ¬ i < 10 := by rw [show (10 : Int32) = nI 10 from rfl, nI_leI (by omega) (by omega)]; omega
      have hf1 : i = 10 → ¬ (f_d2 (f_nx S).2 i).i 41 = 0 := by
        intro hi2
        unfold f_d2
        by_cases q : (f_nx S).2.i 41 = 0
        · rw [if_pos ⟨hi2, q⟩]; unfold f_bl; rw [if_pos q, MS.si_i, if_neg (by decide), MS.si_i, if_pos rfl]; decide
        · rw [if_neg (fun u => q u.2)]; exact q
      generalize f_nx S = nx at e hx hp1 hr2 hf1
      obtain ⟨b1, S1⟩ := nx
      have T285 : ∀ l6 : Option Value, X z 0 0 (MA M (f_d2 S1 i)) 285 [some (.ref M.o), some (.int fv), some (.int dv), some (.int cv), some (.int b1), some (.int (nI i)), l6] [] := by
        intro l6
        have hp2 : WFp (f_d2 S1 i) := hp1.same (f_d2_i _ _ (by decide) (by decide)) (f_d2_i _ _ (by decide) (by decide))
        have hr3 : (f_d2 S1 i).i 23 = nI r := (f_d2_i _ _ (by decide) (by decide)).trans hr2
        dsimp only at e hf1
        generalize f_d2 S1 i = S2 at e hp2 hr3 hf1 ⊢
        have ih2 := ih (f_d3 S2 r b1 i) b1 (i + 1) l6 (by omega) (hp2.same (f_d3_i _ _ _ _ _) (f_d3_i _ _ _ _ _)) ((f_d3_i _ _ _ _ _).trans hr3) (by
          rcases Nat.lt_or_ge i 10 with q | q
          · left; omega
          · right; rw [f_d3_i]; exact hf1 (by omega)) e
        unfold f_d3 at ih2
        by_cases h10 : i < 10
        · rw [if_pos h10] at ih2
          refine x_iload C dX7_oneRecord_285 rfl ?_
          refine x_bipush (v := 10) C dX7_oneRecord_287 (by decide) ?_
          refine x_icmp_ge (tgt := 363) C dX7_oneRecord_289 (by decide) (fun c289 => absurd c289 (fun q => g10.mp q h10)) (fun c289 => ?_)
          refine x_aload_n C dX7_oneRecord_292 rfl ?_
          refine m_getA C Y 27 (by decide) (by decide) wf_X7_66 dX7_oneRecord_293 ?_
          refine x_aload_n C dX7_oneRecord_296 rfl ?_
          refine m_get C Y 23 (by decide) (by decide) wf_X7_190 dX7_oneRecord_297 ?_
          refine x_dup2 C dX7_oneRecord_300 rfl rfl ?_
          refine m_lldN C Y 27 (r) (by decide) dX7_oneRecord_301 hr3 (by simp only [m_len]; omega) ?_
          refine x_iload C dX7_oneRecord_302 rfl ?_
          refine x_i2l C dX7_oneRecord_304 ?_
          refine x_ldc2 C wk_X7_234 dX7_oneRecord_305 ?_
          refine x_land C dX7_oneRecord_308 ?_
          refine x_iconst (v := 1) C dX7_oneRecord_309 (by decide) ?_
          refine x_iconst (v := 4) C dX7_oneRecord_310 (by decide) ?_
          refine x_iload C dX7_oneRecord_311 rfl ?_
          refine x_imul C dX7_oneRecord_313 ?_
          refine x_iadd C dX7_oneRecord_314 ?_
          refine x_lshl C dX7_oneRecord_315 ?_
          refine x_lor C dX7_oneRecord_316 ?_
          refine m_lstN C Y hW.2.1 27 (r) (by decide) dX7_oneRecord_317 hr3 (by simp only [m_len]; omega) ?_
          refine x_aload_n C dX7_oneRecord_318 rfl ?_
          refine m_getA C Y 28 (by decide) (by decide) wf_X7_69 dX7_oneRecord_319 ?_
          refine x_aload_n C dX7_oneRecord_322 rfl ?_
          refine m_get C Y 23 (by decide) (by decide) wf_X7_190 dX7_oneRecord_323 ?_
          refine x_dup2 C dX7_oneRecord_326 rfl rfl ?_
          refine m_ildN C Y 28 (r) (by decide) dX7_oneRecord_327 hr3 (by simp only [m_len]; omega) ?_
          refine x_iload C dX7_oneRecord_328 rfl ?_
          refine x_iconst (v := 4) C dX7_oneRecord_330 (by decide) ?_
          refine x_ishr C dX7_oneRecord_331 ?_
          refine x_iconst (v := 3) C dX7_oneRecord_332 (by decide) ?_
          refine x_iand C dX7_oneRecord_333 ?_
          refine x_iconst (v := 2) C dX7_oneRecord_334 (by decide) ?_
          refine x_iload C dX7_oneRecord_335 rfl ?_
          refine x_imul C dX7_oneRecord_337 ?_
          refine x_ishl C dX7_oneRecord_338 ?_
          refine x_ior C dX7_oneRecord_339 ?_
          refine m_istN C Y hW.2.1 28 (r) (by decide) dX7_oneRecord_340 hr3 (by simp only [m_len]; omega) ?_
          refine x_aload_n C dX7_oneRecord_341 rfl ?_
          refine m_getA C Y 29 (by decide) (by decide) wf_X7_72 dX7_oneRecord_342 ?_
          refine x_aload_n C dX7_oneRecord_345 rfl ?_
          refine m_get C Y 23 (by decide) (by decide) wf_X7_190 dX7_oneRecord_346 ?_
          refine x_dup2 C dX7_oneRecord_349 rfl rfl ?_
          refine m_ildN C Y 29 (r) (by decide) dX7_oneRecord_350 hr3 (by simp only [m_len]; omega) ?_
          refine x_iload C dX7_oneRecord_351 rfl ?_
          refine x_bipush (v := 6) C dX7_oneRecord_353 (by decide) ?_
          refine x_ishr C dX7_oneRecord_355 ?_
          refine x_iconst (v := 1) C dX7_oneRecord_356 (by decide) ?_
          refine x_iand C dX7_oneRecord_357 ?_
          refine x_iload C dX7_oneRecord_358 rfl ?_
          refine x_ishl C dX7_oneRecord_360 ?_
          refine x_ior C dX7_oneRecord_361 ?_
          refine m_istN C Y hW.2.1 29 (r) (by decide) dX7_oneRecord_362 hr3 (by simp only [m_len]; omega) ?_
          refine x_iincE (v := nI (i + 1)) (L' := [some _, some _, some _, some _, some _, some _, _]) C dX7_oneRecord_363 rfl (nI_1 i) (by rw [hn]; decide) rfl ?_
          refine x_goto (tgt := 238) C dX7_oneRecord_366 (by decide) ?_
          exact ih2
        · rw [if_neg h10] at ih2
          refine x_iload C dX7_oneRecord_285 rfl ?_
          refine x_bipush (v := 10) C dX7_oneRecord_287 (by decide) ?_
          refine x_icmp_ge (tgt := 363) C dX7_oneRecord_289 (by decide) (fun c289 => ?_) (fun c289 => absurd c289 (not_not_intro (g10.mpr h10)))
          refine x_iincE (v := nI (i + 1)) (L' := [some _, some _, some _, some _, some _, some _, _]) C dX7_oneRecord_363 rfl (nI_1 i) (by rw [hn]; decide) rfl ?_
          refine x_goto (tgt := 238) C dX7_oneRecord_366 (by decide) ?_
          exact ih2
      unfold f_d2 at T285
      refine x_iload C dX7_oneRecord_238 rfl ?_
      refine x_bipush (v := 127) C dX7_oneRecord_240 (by decide) ?_
      refine x_icmp_le (tgt := 369) C dX7_oneRecord_242 (by decide) (fun c242 => absurd c242 (fun q => c127.mp q h1.1)) (fun c242 => ?_)
      refine x_aload_n C dX7_oneRecord_245 rfl ?_
      refine m_get C Y 41 (by decide) (by decide) wf_X7_204 dX7_oneRecord_246 ?_
      refine x_if_ne (tgt := 369) C dX7_oneRecord_249 (by decide) (fun c249 => absurd c249 (not_not_intro h1.2)) (fun c249 => ?_)
      refine x_aload_n C dX7_oneRecord_252 rfl ?_
      refine m_callF C Y hW E (hx) rfl md_X7_next wi_X7_next ws_X7_next wm_X7_227 dX7_oneRecord_253 rfl (by decide) (by decide) rfl (by simp [Value.category]) ?_
      refine x_istoreE (L' := [some _, some _, some _, some _, some _, some _, _]) C dX7_oneRecord_256 (by rw [hn]; decide) rfl ?_
      refine x_iload C dX7_oneRecord_258 rfl ?_
      refine x_bipush (v := 10) C dX7_oneRecord_260 (by decide) ?_
      refine x_icmp_ne (tgt := 285) C dX7_oneRecord_262 (by decide) (fun c262 => ?_) (fun c262 => ?_)
      · skip
        first | (rw [if_pos ⟨k10.mp c262, c269⟩] at T285; exact T285 _) | (rw [if_neg (fun q => c262 (k10.mpr q.1))] at T285; exact T285 _) | (rw [if_neg (fun q => c269 q.2)] at T285; exact T285 _)
      · skip
        refine x_aload_n C dX7_oneRecord_265 rfl ?_
        refine m_get C Y 41 (by decide) (by decide) wf_X7_204 dX7_oneRecord_266 ?_
        refine x_if_ne (tgt := 285) C dX7_oneRecord_269 (by decide) (fun c269 => ?_) (fun c269 => ?_)
        · skip
          first | (rw [if_pos ⟨k10.mp c262, c269⟩] at T285; exact T285 _) | (rw [if_neg (fun q => c262 (k10.mpr q.1))] at T285; exact T285 _) | (rw [if_neg (fun q => c269 q.2)] at T285; exact T285 _)
        · skip
          refine x_aload_n C dX7_oneRecord_272 rfl ?_
          refine x_iconst (v := 5) C dX7_oneRecord_273 (by decide) ?_
          refine x_aload_n C dX7_oneRecord_274 rfl ?_
          refine m_get C Y 40 (by decide) (by decide) wf_X7_221 dX7_oneRecord_275 ?_
          refine x_iconst (v := 1) C dX7_oneRecord_278 (by decide) ?_
          refine x_isub C dX7_oneRecord_279 ?_
          refine m_callF C Y hW E (s_blame hW _ _) rfl md_X7_blame wi_X7_blame ws_X7_blame wm_X7_207 dX7_oneRecord_280 rfl (by decide) (by decide) rfl (by simp [Value.category]) ?_
          refine x_istoreE (L' := [some _, some _, some _, some _, some _, some _, some _]) C dX7_oneRecord_283 (by rw [hn]; decide) rfl ?_
          first | (rw [if_pos ⟨k10.mp c262, c269⟩] at T285; exact T285 _) | (rw [if_neg (fun q => c262 (k10.mpr q.1))] at T285; exact T285 _) | (rw [if_neg (fun q => c269 q.2)] at T285; exact T285 _)
    · rw [f_dl, if_neg h1] at e
      subst e
      refine x_iload C dX7_oneRecord_238 rfl ?_
      refine x_bipush (v := 127) C dX7_oneRecord_240 (by decide) ?_
      refine x_icmp_le (tgt := 369) C dX7_oneRecord_242 (by decide) (fun c242 => ?_) (fun c242 => ?_)
      · skip
        exact kk _ _ _
      · skip
        refine x_aload_n C dX7_oneRecord_245 rfl ?_
        refine m_get C Y 41 (by decide) (by decide) wf_X7_204 dX7_oneRecord_246 ?_
        refine x_if_ne (tgt := 369) C dX7_oneRecord_249 (by decide) (fun c249 => ?_) (fun c249 => ?_)
        · skip
          exact kk _ _ _
        · skip
          exact absurd ⟨Classical.not_not.mp (fun q => c242 (c127.mpr q)), c249⟩ h1
end Ext
