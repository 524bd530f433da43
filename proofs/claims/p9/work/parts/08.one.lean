section
/-! MeterBusModel: oneRecord. -/
theorem f_d3_38 (S : MS) (r : Nat) (b : Int32) (i j : Nat) : (f_d3 S r b i).a 38 j = S.a 38 j := by
  unfold f_d3
  split
  · unfold f_df1; rw [sa_ne (by decide), sa_ne (by decide), MS.sw_a]
  · rfl
theorem f_d2_a (S : MS) (i q j : Nat) : (f_d2 S i).a q j = S.a q j := by
  unfold f_d2
  split
  · exact f_bl_a _ _ _ _ _
  · rfl
theorem f_v2_a (S : MS) (i q j : Nat) : (f_v2 S i).a q j = S.a q j := by
  unfold f_v2
  split
  · exact f_bl_a _ _ _ _ _
  · rfl
theorem f_v4_38 (S : MS) (r : Nat) (b : Int32) (i j : Nat) : (f_v4 S r b i).a 38 j = S.a 38 j := by
  unfold f_v4
  split
  · rw [sa_ne (by decide), sa_ne (by decide)]
  · rfl
theorem f_dl_38 (r : Nat) : ∀ (t : Nat) (S : MS) (b : Int32) (i j : Nat), (f_dl r t S b i).a 38 j = S.a 38 j
  | 0, _, _, _, _ => rfl
  | t + 1, S, b, i, j => by
    rw [f_dl]
    split
    · rw [f_dl_38 r t, f_d3_38, f_d2_a, f_nx_a]
    · rfl
theorem f_vl_38 (r : Nat) : ∀ (t : Nat) (S : MS) (b : Int32) (i j : Nat), (f_vl r t S b i).a 38 j = S.a 38 j
  | 0, _, _, _, _ => rfl
  | t + 1, S, b, i, j => by
    rw [f_vl]
    split
    · rw [f_vl_38 r t, f_v4_38, f_v2_a, f_nx_a]
    · rfl
theorem f_dl_i (r : Nat) {q : Nat} (h40 : q ≠ 40) (h41 : q ≠ 41) (h36 : q ≠ 36) : ∀ (t : Nat) (S : MS) (b : Int32) (i : Nat), (f_dl r t S b i).i q = S.i q
  | 0, _, _, _ => rfl
  | t + 1, S, b, i => by
    rw [f_dl]
    split
    · rw [f_dl_i r h40 h41 h36 t, f_d3_i, f_d2_i _ _ h41 h36, f_nx_i _ h40 h41 h36]
    · rfl
theorem f_vl_i (r : Nat) {q : Nat} (h40 : q ≠ 40) (h41 : q ≠ 41) (h36 : q ≠ 36) : ∀ (t : Nat) (S : MS) (b : Int32) (i : Nat), (f_vl r t S b i).i q = S.i q
  | 0, _, _, _ => rfl
  | t + 1, S, b, i => by
    rw [f_vl]
    split
    · rw [f_vl_i r h40 h41 h36 t, f_v4_i, f_v2_i _ _ h41 h36, f_nx_i _ h40 h41 h36]
    · rfl
theorem WFp.dl {r : Nat} : ∀ (t : Nat) {S : MS} (b : Int32) (i : Nat), WFp S → WFp (f_dl r t S b i)
  | 0, _, _, _, h => h
  | t + 1, S, b, i, h => by
    rw [f_dl]
    split
    · exact WFp.dl t _ _ ((h.nx.same (f_d2_i _ _ (by decide) (by decide)) (f_d2_i _ _ (by decide) (by decide))).same (f_d3_i _ _ _ _ _) (f_d3_i _ _ _ _ _))
    · exact h
theorem WFp.vl {r : Nat} : ∀ (t : Nat) {S : MS} (b : Int32) (i : Nat), WFp S → WFp (f_vl r t S b i)
  | 0, _, _, _, h => h
  | t + 1, S, b, i, h => by
    rw [f_vl]
    split
    · exact WFp.vl t _ _ ((h.nx.same (f_v2_i _ _ (by decide) (by decide)) (f_v2_i _ _ (by decide) (by decide))).same (f_v4_i _ _ _ _ _) (f_v4_i _ _ _ _ _))
    · exact h
theorem WFd.same {S S' : MS} (h : WFd S) (e : ∀ j, S'.a 38 j = S.a 38 j) : WFd S' := fun j hj => by rw [e]; exact h j hj
/-- the record's first fields -/
def f_rec0 (S : MS) (r : Nat) (D : Int32) : MS :=
  ((((((S.sa 25 r (D &&& 15)).sa 26 r ((D >>> ((4 : Int32) &&& 31)) &&& 3)).sw 27 r ((D >>> ((6 : Int32) &&& 31)) &&& 1).toInt64).sa 28 r 0).sa 29 r 0).sa 30 r 0).sa 33 r 0
def f_own (S : MS) (r tx a e : Nat) : MS := (f_text (S.sw 24 r (nI (e - a)).toInt64) r tx a (e - a)).si 23 (nI (r + 1))
def f_ends (S : MS) (cc r : Nat) : MS := if S.i 41 = 0 then (f_value S cc).si 23 ((f_value S cc).i 23 + if (f_value S cc).i 41 = 0 then 1 else 0) else S
/-- a record, at a, behind its DIF D -/
def f_rcd (S : MS) : MS :=
  let a := f_at S
  let D := S.a 38 a
  let S1 := S.si 40 (nI (a + 1))
  if D = 47 then S1
  else if D = 31 then (if a + 1 < f_e S then f_bl (S1.si 37 1) 4 (nI (a + 1)) else S1.si 37 1)
  else if D &&& 15 = 8 ∨ (D &&& 15 = 15 ∧ ¬ D = 15) then f_bl S1 9 (nI a)
  else if f_r S = 100 then f_bl S1 10 (nI a)
  else if D &&& 15 = 15 then f_own (f_rec0 S1 (f_r S) D) (f_r S) (f_tx S) (a + 1) (f_e S)
  else f_ends (f_vl (f_r S) 13 (f_dl (f_r S) 12 (f_rec0 S1 (f_r S) D) D 0) 128 0) (D &&& 15).toNatClampNeg (f_r S)
theorem x_MA {M : MW} {S S' : MS} {z : Fx} {kc ks pc : Nat} {L : List (Option Value)} {st : List Value} (e : S = S') (k : X z kc ks (MA M S') pc L st) : X z kc ks (MA M S) pc L st := by subst e; exact k
section One
variable {w : Wd} {M : MW} {S : MS} {z : Fx}
/-- behind the extensions, from pc 475 -/
theorem rc_end (hW : Wm w M) (cc r : Nat) (hc : cc < 15) (hc8 : cc ≠ 8) (hp : WFp S) (hd : WFd S) (hr : S.i 23 = nI r) (hr1 : r < 100) (tx : Nat) (ht : S.i 34 = nI tx) (ht1 : tx + 300 ≤ 26000) (fv dv : Int32) (l4 l5 l6 : Option Value) (C : Cx z RX7 cX7_oneRecord gw) (Y : Mty z M) (E : Ct z w gw yX7_oneRecord none 3 (40 * 3) (PM M (fun q Q => q = none ∧ Q = f_ends S cc r))) (hn : z.nL = 7) :
    X z 0 0 (MA M S) 475 [some (.ref M.o), some (.int fv), some (.int dv), some (.int (nI cc)), l4, l5, l6] [] := by
  have er : f_r S = r := by unfold f_r; rw [hr, nI_clamp (by omega)]
  have et : f_tx S = tx := by unfold f_tx; rw [ht, nI_clamp (by omega)]
  unfold f_ends at E
  by_cases h1 : S.i 41 = 0
  · rw [if_pos h1] at E
    have hv := s_value (S := S) hW cc hc hc8 hp hd (by rw [er]; exact hr) (by omega) (by rw [et]; exact ht) (by omega) h1
    generalize f_value S cc = S4 at E hv
    refine x_aload_n C dX7_oneRecord_475 rfl ?_
    refine m_get C Y 41 (by decide) (by decide) wf_X7_204 dX7_oneRecord_476 ?_
    refine x_if_ne (tgt := 487) C dX7_oneRecord_479 (by decide) (fun c479 => absurd c479 (not_not_intro h1)) (fun c479 => ?_)
    refine x_aload_n C dX7_oneRecord_482 rfl ?_
    refine x_iload_n C dX7_oneRecord_483 rfl ?_
    refine m_callF C Y hW E (hv) rfl md_X7_value wi_X7_value ws_X7_value wm_X7_236 dX7_oneRecord_484 rfl (by decide) (by decide) rfl (by simp [Value.category]) ?_
    refine x_aload_n C dX7_oneRecord_487 rfl ?_
    refine x_dup C dX7_oneRecord_488 rfl ?_
    refine m_get C Y 23 (by decide) (by decide) wf_X7_190 dX7_oneRecord_489 ?_
    refine x_aload_n C dX7_oneRecord_492 rfl ?_
    refine m_get C Y 41 (by decide) (by decide) wf_X7_204 dX7_oneRecord_493 ?_
    refine x_if_ne (tgt := 503) C dX7_oneRecord_496 (by decide) (fun c496 => ?_) (fun c496 => ?_)
    · skip
      refine x_iconst (v := 0) C dX7_oneRecord_503 (by decide) ?_
      refine x_iadd C dX7_oneRecord_504 ?_
      refine m_put C Y hW.2.1 23 (by decide) (by decide) rfl rfl rfl wf_X7_190 dX7_oneRecord_505 ?_
      refine m_vret C E dX7_oneRecord_508 ?_
      first | exact ⟨rfl, congrArg (fun t => S4.si 23 (S4.i 23 + t)) (if_pos c496).symm⟩ | exact ⟨rfl, congrArg (fun t => S4.si 23 (S4.i 23 + t)) (if_neg c496).symm⟩
    · skip
      refine x_iconst (v := 1) C dX7_oneRecord_499 (by decide) ?_
      refine x_goto (tgt := 504) C dX7_oneRecord_500 (by decide) ?_
      refine x_iadd C dX7_oneRecord_504 ?_
      refine m_put C Y hW.2.1 23 (by decide) (by decide) rfl rfl rfl wf_X7_190 dX7_oneRecord_505 ?_
      refine m_vret C E dX7_oneRecord_508 ?_
      first | exact ⟨rfl, congrArg (fun t => S4.si 23 (S4.i 23 + t)) (if_pos c496).symm⟩ | exact ⟨rfl, congrArg (fun t => S4.si 23 (S4.i 23 + t)) (if_neg c496).symm⟩
  · rw [if_neg h1] at E
    have e23 : S.si 23 (S.i 23 + 0) = S := by
      rw [Int32.add_zero]
      refine MS.ext (fun q => ?_) (fun _ _ => rfl) (fun _ _ => rfl)
      rw [MS.si_i]
      split
      · rename_i g; rw [g]
      · rfl
    refine x_aload_n C dX7_oneRecord_475 rfl ?_
    refine m_get C Y 41 (by decide) (by decide) wf_X7_204 dX7_oneRecord_476 ?_
    refine x_if_ne (tgt := 487) C dX7_oneRecord_479 (by decide) (fun c479 => ?_) (fun c479 => absurd c479 (fun q => h1 q))
    refine x_aload_n C dX7_oneRecord_487 rfl ?_
    refine x_dup C dX7_oneRecord_488 rfl ?_
    refine m_get C Y 23 (by decide) (by decide) wf_X7_190 dX7_oneRecord_489 ?_
    refine x_aload_n C dX7_oneRecord_492 rfl ?_
    refine m_get C Y 41 (by decide) (by decide) wf_X7_204 dX7_oneRecord_493 ?_
    refine x_if_ne (tgt := 503) C dX7_oneRecord_496 (by decide) (fun c496 => ?_) (fun c496 => absurd c496 (fun q => h1 q))
    refine x_iconst (v := 0) C dX7_oneRecord_503 (by decide) ?_
    refine x_iadd C dX7_oneRecord_504 ?_
    refine m_put C Y hW.2.1 23 (by decide) (by decide) rfl rfl rfl wf_X7_190 dX7_oneRecord_505 ?_
    refine m_vret C E dX7_oneRecord_508 ?_
    exact ⟨rfl, e23⟩
theorem rc183 (hW : Wm w M) {S2 : MS} (a e r tx d : Nat) (hd : d < 256) (he3 : e ≤ 300) (hlt : a < e) (hr99 : r < 100) (ht2 : tx + 300 ≤ 26000) (hc8 : d % 16 ≠ 8) (gp : WFp S2) (gd : WFd S2) (g40 : S2.i 40 = nI (a + 1)) (g39 : S2.i 39 = nI e) (g23 : S2.i 23 = nI r) (g34 : S2.i 34 = nI tx) (gf : S2.i 41 = 0) (C : Cx z RX7 cX7_oneRecord gw) (Y : Mty z M)
    (E : Ct z w gw yX7_oneRecord none 3 (40 * 3) (PM M (fun q Q => q = none ∧ Q = if nI (d % 16) = 15 then f_own S2 r tx (a + 1) e else f_ends (f_vl r 13 (f_dl r 12 S2 (nI d) 0) 128 0) (d % 16) r))) (hn : z.nL = 7) :
    X z 0 0 (MA M S2) 183 [some (.ref M.o), some (.int (nI a)), some (.int (nI d)), some (.int (nI (d % 16))), none, none, none] [] := by
  have c15 : nI (d % 16) = 15 ↔ d % 16 = 15 := by rw [show (15 : Int32) = nI 15 from rfl, nI_eq (by omega) (by omega)]
  by_cases h5 : nI (d % 16) = 15
  · rw [if_pos h5] at E
    unfold f_own at E
    have esub : nI (e) - nI (a + 1) = nI (e - (a + 1)) := pk_sub (by omega)
    have hx2 := s_textTo (S := S2.sw 24 (r) (nI (e - (a + 1))).toInt64) hW (r) (tx) (a + 1) (e - (a + 1)) g23 hr99 g34 (by omega) g40 (by omega)
    have g23b : (f_text (S2.sw 24 (r) (nI (e - (a + 1))).toInt64) (r) (tx) (a + 1) (e - (a + 1))).i 23 = nI (r) := by
      unfold f_text
      have : ∀ k (Q : MS), Q.i 23 = nI (r) → (f_txl Q (tx) (a + 1) k).i 23 = nI (r) := by
        intro k Q hQ
        induction k with
        | zero => exact hQ
        | succ k ih => rw [f_txl, MS.si_i, if_neg (by decide), MS.si_i, if_neg (by decide), MS.sa_i]; exact ih
      exact this _ _ g23
    refine x_iload_n C dX7_oneRecord_183 rfl ?_
    refine x_bipush (v := 15) C dX7_oneRecord_184 (by decide) ?_
    refine x_icmp_ne (tgt := 232) C dX7_oneRecord_186 (by decide) (fun c186 => absurd c186 (not_not_intro h5)) (fun c186 => ?_)
    refine x_aload_n C dX7_oneRecord_189 rfl ?_
    refine m_getA C Y 24 (by decide) (by decide) wf_X7_56 dX7_oneRecord_190 ?_
    refine x_aload_n C dX7_oneRecord_193 rfl ?_
    refine m_get C Y 23 (by decide) (by decide) wf_X7_190 dX7_oneRecord_194 ?_
    refine x_aload_n C dX7_oneRecord_197 rfl ?_
    refine m_get C Y 39 (by decide) (by decide) wf_X7_215 dX7_oneRecord_198 ?_
    refine x_aload_n C dX7_oneRecord_201 rfl ?_
    refine m_get C Y 40 (by decide) (by decide) wf_X7_221 dX7_oneRecord_202 ?_
    rw [g39, g40]
    refine x_isub C dX7_oneRecord_205 ?_
    rw [esub]
    refine x_i2l C dX7_oneRecord_206 ?_
    refine m_lstN C Y hW.2.1 24 (r) (by decide) dX7_oneRecord_207 g23 (by simp only [m_len]; omega) ?_
    refine x_aload_n C dX7_oneRecord_208 rfl ?_
    refine x_aload_n C dX7_oneRecord_209 rfl ?_
    refine m_get C Y 39 (by decide) (by decide) wf_X7_215 dX7_oneRecord_210 ?_
    refine x_aload_n C dX7_oneRecord_213 rfl ?_
    refine m_get C Y 40 (by decide) (by decide) wf_X7_221 dX7_oneRecord_214 ?_
    rw [MS.sw_i, MS.sw_i, g39, g40]
    refine x_isub C dX7_oneRecord_217 ?_
    rw [esub]
    refine m_callF C Y hW E (hx2) rfl md_X7_textTo wi_X7_textTo ws_X7_textTo wm_X7_231 dX7_oneRecord_218 rfl (by decide) (by decide) rfl (by simp [Value.category]) ?_
    refine x_aload_n C dX7_oneRecord_221 rfl ?_
    refine x_dup C dX7_oneRecord_222 rfl ?_
    refine m_get C Y 23 (by decide) (by decide) wf_X7_190 dX7_oneRecord_223 ?_
    rw [g23b]
    refine x_iconst (v := 1) C dX7_oneRecord_226 (by decide) ?_
    refine x_iadd C dX7_oneRecord_227 ?_
    rw [nI_1]
    refine m_put C Y hW.2.1 23 (by decide) (by decide) rfl rfl rfl wf_X7_190 dX7_oneRecord_228 ?_
    refine m_vret C E dX7_oneRecord_231 ?_
    exact ⟨rfl, rfl⟩
  · rw [if_neg h5] at E
    have hc15 : d % 16 ≠ 15 := fun q => h5 (c15.mpr q)
    have gpd := WFp.dl (r := r) 12 (nI d) 0 gp
    have gid : (f_dl (r) 12 S2 (nI d) 0).i 23 = nI (r) := (f_dl_i _ (by decide) (by decide) (by decide) _ _ _ _).trans g23
    have gtd : (f_dl (r) 12 S2 (nI d) 0).i 34 = nI (tx) := (f_dl_i _ (by decide) (by decide) (by decide) _ _ _ _).trans g34
    have gdd : WFd (f_dl (r) 12 S2 (nI d) 0) := gd.same (fun j => f_dl_38 _ _ _ _ _ _)
    have T369 : ∀ l4 l5 l6 : Option Value, X z 0 0 (MA M (f_dl (r) 12 S2 (nI d) 0)) 369 [some (.ref M.o), some (.int (nI (a))), some (.int (nI d)), some (.int (nI (d % 16))), l4, l5, l6] [] := by
      intro l4 l5 l6
      generalize f_dl (r) 12 S2 (nI d) 0 = S3 at E gpd gid gtd gdd ⊢
      have gpv := WFp.vl (r := r) 13 128 0 gpd
      have giv : (f_vl (r) 13 S3 128 0).i 23 = nI (r) := (f_vl_i _ (by decide) (by decide) (by decide) _ _ _ _).trans gid
      have gtv : (f_vl (r) 13 S3 128 0).i 34 = nI (tx) := (f_vl_i _ (by decide) (by decide) (by decide) _ _ _ _).trans gtd
      have gdv : WFd (f_vl (r) 13 S3 128 0) := gdd.same (fun j => f_vl_38 _ _ _ _ _ _)
      have T475 := fun l4 l5 l6 => rc_end (S := f_vl (r) 13 S3 128 0) hW (d % 16) (r) (by omega) hc8 gpv gdv giv hr99 (tx) gtv ht2 (nI (a)) (nI d) l4 l5 l6 C Y E hn
      refine x_sipush (v := 128) C dX7_oneRecord_369 (by decide) ?_
      refine x_istoreE (L' := [some _, some _, some _, some _, some _, _, _]) C dX7_oneRecord_372 (by rw [hn]; decide) rfl ?_
      refine x_iconst (v := 0) C dX7_oneRecord_374 (by decide) ?_
      refine x_istoreE (L' := [some _, some _, some _, some _, some _, some _, _]) C dX7_oneRecord_375 (by rw [hn]; decide) rfl ?_
      exact rc2 hW C Y E hn (r) hr99 _ _ _ _ T475 13 S3 128 0 _ rfl gpd gid (Or.inl (by decide)) rfl
    refine x_iload_n C dX7_oneRecord_183 rfl ?_
    refine x_bipush (v := 15) C dX7_oneRecord_184 (by decide) ?_
    refine x_icmp_ne (tgt := 232) C dX7_oneRecord_186 (by decide) (fun c186 => ?_) (fun c186 => absurd c186 (fun q => h5 q))
    refine x_iload_n C dX7_oneRecord_232 rfl ?_
    refine x_istoreE (L' := [some _, some _, some _, some _, some _, none, none]) C dX7_oneRecord_233 (by rw [hn]; decide) rfl ?_
    refine x_iconst (v := 0) C dX7_oneRecord_235 (by decide) ?_
    refine x_istoreE (L' := [some _, some _, some _, some _, some _, some _, none]) C dX7_oneRecord_236 (by rw [hn]; decide) rfl ?_
    exact rc1 hW C Y E hn (r) hr99 _ _ _ _ T369 12 S2 (nI d) 0 _ rfl gp g23 (Or.inl (by decide)) rfl
theorem s_oneRecord (hW : Wm w M) (hp : WFp S) (hd : WFd S) (hlt : f_at S < f_e S) (hr : S.i 23 = nI (f_r S)) (hr1 : f_r S ≤ 100) (ht : S.i 34 = nI (f_tx S)) (ht1 : f_r S < 100 → f_tx S + 300 ≤ 26000) (h41 : S.i 41 = 0) : TF w M yX7_oneRecord cX7_oneRecord 7 none 3 [] S none (f_rcd S) := by
  refine TM.intro hW rfl (Nat.le_of_ble_eq_true rfl) (fun z C Y E hn => ?_)
  have he3 := hp.2.2.2
  have hx := s_next (S := S) hW (f_at S) (f_e S) hp.1 hp.2.1 he3 hlt
  obtain ⟨d1, d2⟩ := hd.b (j := f_at S) (by omega)
  unfold f_rcd at E
  dsimp only at E
  generalize hD : S.a 38 (f_at S) = D at hx E d1 d2
  generalize hn0 : D.toNatClampNeg = d at d1 d2
  subst d2
  have ec : nI d &&& 15 = nI (d % 16) := pk_andN (by omega) 4 rfl
  have q47 : nI d = 47 ↔ d = 47 := by rw [show (47 : Int32) = nI 47 from rfl, nI_eq (by omega) (by omega)]
  by_cases h1 : nI d = 47
  · rw [if_pos h1] at E
    refine x_aload_n C dX7_oneRecord_0 rfl ?_
    refine m_get C Y 40 (by decide) (by decide) wf_X7_221 dX7_oneRecord_1 ?_
    refine x_istore_nE (L' := [some _, some _, none, none, none, none, none]) C dX7_oneRecord_4 (by rw [hn]; decide) rfl ?_
    refine x_aload_n C dX7_oneRecord_5 rfl ?_
    refine m_callF C Y hW E (hx) rfl md_X7_next wi_X7_next ws_X7_next wm_X7_227 dX7_oneRecord_6 rfl (by decide) (by decide) rfl (by simp [Value.category]) ?_
    refine x_istore_nE (L' := [some _, some _, some _, none, none, none, none]) C dX7_oneRecord_9 (by rw [hn]; decide) rfl ?_
    refine x_iload_n C dX7_oneRecord_10 rfl ?_
    refine x_bipush (v := 15) C dX7_oneRecord_11 (by decide) ?_
    refine x_iand C dX7_oneRecord_13 ?_
    refine x_istore_nE (L' := [some _, some _, some _, some _, none, none, none]) C dX7_oneRecord_14 (by rw [hn]; decide) rfl ?_
    refine x_iload_n C dX7_oneRecord_15 rfl ?_
    refine x_bipush (v := 47) C dX7_oneRecord_16 (by decide) ?_
    refine x_icmp_ne (tgt := 22) C dX7_oneRecord_18 (by decide) (fun c18 => absurd c18 (not_not_intro h1)) (fun c18 => ?_)
    refine m_vret C E dX7_oneRecord_21 ?_
    exact ⟨rfl, rfl⟩
  · rw [if_neg h1] at E
    by_cases h2 : nI d = 31
    · rw [if_pos h2] at E
      have cl : nI (f_e S) ≤ nI (f_at S + 1) ↔ ¬ f_at S + 1 < f_e S := by rw [nI_leI (by omega) (by omega)]; omega
      by_cases h3 : f_at S + 1 < f_e S
      · rw [if_pos h3] at E
        refine x_aload_n C dX7_oneRecord_0 rfl ?_
        refine m_get C Y 40 (by decide) (by decide) wf_X7_221 dX7_oneRecord_1 ?_
        refine x_istore_nE (L' := [some _, some _, none, none, none, none, none]) C dX7_oneRecord_4 (by rw [hn]; decide) rfl ?_
        refine x_aload_n C dX7_oneRecord_5 rfl ?_
        refine m_callF C Y hW E (hx) rfl md_X7_next wi_X7_next ws_X7_next wm_X7_227 dX7_oneRecord_6 rfl (by decide) (by decide) rfl (by simp [Value.category]) ?_
        refine x_istore_nE (L' := [some _, some _, some _, none, none, none, none]) C dX7_oneRecord_9 (by rw [hn]; decide) rfl ?_
        refine x_iload_n C dX7_oneRecord_10 rfl ?_
        refine x_bipush (v := 15) C dX7_oneRecord_11 (by decide) ?_
        refine x_iand C dX7_oneRecord_13 ?_
        refine x_istore_nE (L' := [some _, some _, some _, some _, none, none, none]) C dX7_oneRecord_14 (by rw [hn]; decide) rfl ?_
        refine x_iload_n C dX7_oneRecord_15 rfl ?_
        refine x_bipush (v := 47) C dX7_oneRecord_16 (by decide) ?_
        refine x_icmp_ne (tgt := 22) C dX7_oneRecord_18 (by decide) (fun c18 => ?_) (fun c18 => absurd c18 (fun q => h1 q))
        refine x_iload_n C dX7_oneRecord_22 rfl ?_
        refine x_bipush (v := 31) C dX7_oneRecord_23 (by decide) ?_
        refine x_icmp_ne (tgt := 56) C dX7_oneRecord_25 (by decide) (fun c25 => absurd c25 (not_not_intro h2)) (fun c25 => ?_)
        refine x_aload_n C dX7_oneRecord_28 rfl ?_
        refine x_iconst (v := 1) C dX7_oneRecord_29 (by decide) ?_
        refine m_put C Y hW.2.1 37 (by decide) (by decide) rfl (by decide) (by decide) wf_X7_200 dX7_oneRecord_30 ?_
        refine x_aload_n C dX7_oneRecord_33 rfl ?_
        refine m_get C Y 40 (by decide) (by decide) wf_X7_221 dX7_oneRecord_34 ?_
        refine x_aload_n C dX7_oneRecord_37 rfl ?_
        refine m_get C Y 39 (by decide) (by decide) wf_X7_215 dX7_oneRecord_38 ?_
        rw [show ((S.si 40 (nI (f_at S + 1))).si 37 1).i 40 = nI (f_at S + 1) from rfl, show ((S.si 40 (nI (f_at S + 1))).si 37 1).i 39 = nI (f_e S) from hp.2.1]
        refine x_icmp_ge (tgt := 55) C dX7_oneRecord_41 (by decide) (fun c41 => absurd c41 (fun q => cl.mp q h3)) (fun c41 => ?_)
        refine x_aload_n C dX7_oneRecord_44 rfl ?_
        refine x_iconst (v := 4) C dX7_oneRecord_45 (by decide) ?_
        refine x_aload_n C dX7_oneRecord_46 rfl ?_
        refine m_get C Y 40 (by decide) (by decide) wf_X7_221 dX7_oneRecord_47 ?_
        rw [show ((S.si 40 (nI (f_at S + 1))).si 37 1).i 40 = nI (f_at S + 1) from rfl]
        refine m_callF C Y hW E (s_blame hW _ _) rfl md_X7_blame wi_X7_blame ws_X7_blame wm_X7_207 dX7_oneRecord_50 rfl (by decide) (by decide) rfl (by simp [Value.category]) ?_
        refine x_istoreE (L' := [some _, some _, some _, some _, some _, none, none]) C dX7_oneRecord_53 (by rw [hn]; decide) rfl ?_
        refine m_vret C E dX7_oneRecord_55 ?_
        exact ⟨rfl, rfl⟩
      · rw [if_neg h3] at E
        refine x_aload_n C dX7_oneRecord_0 rfl ?_
        refine m_get C Y 40 (by decide) (by decide) wf_X7_221 dX7_oneRecord_1 ?_
        refine x_istore_nE (L' := [some _, some _, none, none, none, none, none]) C dX7_oneRecord_4 (by rw [hn]; decide) rfl ?_
        refine x_aload_n C dX7_oneRecord_5 rfl ?_
        refine m_callF C Y hW E (hx) rfl md_X7_next wi_X7_next ws_X7_next wm_X7_227 dX7_oneRecord_6 rfl (by decide) (by decide) rfl (by simp [Value.category]) ?_
        refine x_istore_nE (L' := [some _, some _, some _, none, none, none, none]) C dX7_oneRecord_9 (by rw [hn]; decide) rfl ?_
        refine x_iload_n C dX7_oneRecord_10 rfl ?_
        refine x_bipush (v := 15) C dX7_oneRecord_11 (by decide) ?_
        refine x_iand C dX7_oneRecord_13 ?_
        refine x_istore_nE (L' := [some _, some _, some _, some _, none, none, none]) C dX7_oneRecord_14 (by rw [hn]; decide) rfl ?_
        refine x_iload_n C dX7_oneRecord_15 rfl ?_
        refine x_bipush (v := 47) C dX7_oneRecord_16 (by decide) ?_
        refine x_icmp_ne (tgt := 22) C dX7_oneRecord_18 (by decide) (fun c18 => ?_) (fun c18 => absurd c18 (fun q => h1 q))
        refine x_iload_n C dX7_oneRecord_22 rfl ?_
        refine x_bipush (v := 31) C dX7_oneRecord_23 (by decide) ?_
        refine x_icmp_ne (tgt := 56) C dX7_oneRecord_25 (by decide) (fun c25 => absurd c25 (not_not_intro h2)) (fun c25 => ?_)
        refine x_aload_n C dX7_oneRecord_28 rfl ?_
        refine x_iconst (v := 1) C dX7_oneRecord_29 (by decide) ?_
        refine m_put C Y hW.2.1 37 (by decide) (by decide) rfl (by decide) (by decide) wf_X7_200 dX7_oneRecord_30 ?_
        refine x_aload_n C dX7_oneRecord_33 rfl ?_
        refine m_get C Y 40 (by decide) (by decide) wf_X7_221 dX7_oneRecord_34 ?_
        refine x_aload_n C dX7_oneRecord_37 rfl ?_
        refine m_get C Y 39 (by decide) (by decide) wf_X7_215 dX7_oneRecord_38 ?_
        rw [show ((S.si 40 (nI (f_at S + 1))).si 37 1).i 40 = nI (f_at S + 1) from rfl, show ((S.si 40 (nI (f_at S + 1))).si 37 1).i 39 = nI (f_e S) from hp.2.1]
        refine x_icmp_ge (tgt := 55) C dX7_oneRecord_41 (by decide) (fun c41 => ?_) (fun c41 => absurd c41 (not_not_intro (cl.mpr h3)))
        refine m_vret C E dX7_oneRecord_55 ?_
        exact ⟨rfl, rfl⟩
    · rw [if_neg h2] at E
      have T56 : X z 0 0 (MA M (S.si 40 (nI (f_at S + 1)))) 56 [some (.ref M.o), some (.int (nI (f_at S))), some (.int (nI d)), some (.int (nI (d % 16))), none, none, none] [] := by
        rw [ec] at E
        have c8 : nI (d % 16) = 8 ↔ d % 16 = 8 := by rw [show (8 : Int32) = nI 8 from rfl, nI_eq (by omega) (by omega)]
        have c15 : nI (d % 16) = 15 ↔ d % 16 = 15 := by rw [show (15 : Int32) = nI 15 from rfl, nI_eq (by omega) (by omega)]
        have r100 : nI (f_r S) = 100 ↔ f_r S = 100 := by rw [show (100 : Int32) = nI 100 from rfl, nI_eq (by omega) (by omega)]
        have hS23 : (S.si 40 (nI (f_at S + 1))).i 23 = nI (f_r S) := hr
        by_cases h3 : nI (d % 16) = 8 ∨ (nI (d % 16) = 15 ∧ ¬ nI d = 15)
        · rw [if_pos h3] at E
          refine x_iload_n C dX7_oneRecord_56 rfl ?_
          refine x_bipush (v := 8) C dX7_oneRecord_57 (by decide) ?_
          refine x_icmp_eq (tgt := 74) C dX7_oneRecord_59 (by decide) (fun c59 => ?_) (fun c59 => ?_)
          · skip
            refine x_aload_n C dX7_oneRecord_74 rfl ?_
            refine x_bipush (v := 9) C dX7_oneRecord_75 (by decide) ?_
            refine x_iload_n C dX7_oneRecord_77 rfl ?_
            refine m_callF C Y hW E (s_blame hW _ _) rfl md_X7_blame wi_X7_blame ws_X7_blame wm_X7_207 dX7_oneRecord_78 rfl (by decide) (by decide) rfl (by simp [Value.category]) ?_
            refine x_istoreE (L' := [some _, some _, some _, some _, some _, none, none]) C dX7_oneRecord_81 (by rw [hn]; decide) rfl ?_
            refine m_vret C E dX7_oneRecord_83 ?_
            exact ⟨rfl, rfl⟩
          · skip
            refine x_iload_n C dX7_oneRecord_62 rfl ?_
            refine x_bipush (v := 15) C dX7_oneRecord_63 (by decide) ?_
            refine x_icmp_ne (tgt := 84) C dX7_oneRecord_65 (by decide) (fun c65 => ?_) (fun c65 => ?_)
            · skip
              first | exact absurd h3 (fun q => q.elim c59 (fun r => c65 r.1)) | exact absurd h3 (fun q => q.elim c59 (fun r => r.2 c71))
            · skip
              refine x_iload_n C dX7_oneRecord_68 rfl ?_
              refine x_bipush (v := 15) C dX7_oneRecord_69 (by decide) ?_
              refine x_icmp_eq (tgt := 84) C dX7_oneRecord_71 (by decide) (fun c71 => ?_) (fun c71 => ?_)
              · skip
                first | exact absurd h3 (fun q => q.elim c59 (fun r => c65 r.1)) | exact absurd h3 (fun q => q.elim c59 (fun r => r.2 c71))
              · skip
                refine x_aload_n C dX7_oneRecord_74 rfl ?_
                refine x_bipush (v := 9) C dX7_oneRecord_75 (by decide) ?_
                refine x_iload_n C dX7_oneRecord_77 rfl ?_
                refine m_callF C Y hW E (s_blame hW _ _) rfl md_X7_blame wi_X7_blame ws_X7_blame wm_X7_207 dX7_oneRecord_78 rfl (by decide) (by decide) rfl (by simp [Value.category]) ?_
                refine x_istoreE (L' := [some _, some _, some _, some _, some _, none, none]) C dX7_oneRecord_81 (by rw [hn]; decide) rfl ?_
                refine m_vret C E dX7_oneRecord_83 ?_
                exact ⟨rfl, rfl⟩
        · rw [if_neg h3] at E
          have T84 : X z 0 0 (MA M (S.si 40 (nI (f_at S + 1)))) 84 [some (.ref M.o), some (.int (nI (f_at S))), some (.int (nI d)), some (.int (nI (d % 16))), none, none, none] [] := by
            by_cases h4 : f_r S = 100
            · rw [if_pos h4] at E
              refine x_aload_n C dX7_oneRecord_84 rfl ?_
              refine m_get C Y 23 (by decide) (by decide) wf_X7_190 dX7_oneRecord_85 ?_
              refine x_bipush (v := 100) C dX7_oneRecord_88 (by decide) ?_
              rw [hS23]
              refine x_icmp_ne (tgt := 103) C dX7_oneRecord_90 (by decide) (fun c90 => absurd c90 (not_not_intro (r100.mpr h4))) (fun c90 => ?_)
              refine x_aload_n C dX7_oneRecord_93 rfl ?_
              refine x_bipush (v := 10) C dX7_oneRecord_94 (by decide) ?_
              refine x_iload_n C dX7_oneRecord_96 rfl ?_
              refine m_callF C Y hW E (s_blame hW _ _) rfl md_X7_blame wi_X7_blame ws_X7_blame wm_X7_207 dX7_oneRecord_97 rfl (by decide) (by decide) rfl (by simp [Value.category]) ?_
              refine x_istoreE (L' := [some _, some _, some _, some _, some _, none, none]) C dX7_oneRecord_100 (by rw [hn]; decide) rfl ?_
              refine m_vret C E dX7_oneRecord_102 ?_
              exact ⟨rfl, rfl⟩
            · rw [if_neg h4] at E
              have hr99 : f_r S < 100 := by omega
              have T183 : X z 0 0 (MA M (f_rec0 (S.si 40 (nI (f_at S + 1))) (f_r S) (nI d))) 183 [some (.ref M.o), some (.int (nI (f_at S))), some (.int (nI d)), some (.int (nI (d % 16))), none, none, none] [] := by
                have g40 : (f_rec0 (S.si 40 (nI (f_at S + 1))) (f_r S) (nI d)).i 40 = nI (f_at S + 1) := rfl
                have g39 : (f_rec0 (S.si 40 (nI (f_at S + 1))) (f_r S) (nI d)).i 39 = nI (f_e S) := hp.2.1
                have g23 : (f_rec0 (S.si 40 (nI (f_at S + 1))) (f_r S) (nI d)).i 23 = nI (f_r S) := hr
                have g34 : (f_rec0 (S.si 40 (nI (f_at S + 1))) (f_r S) (nI d)).i 34 = nI (f_tx S) := ht
                have g38 : ∀ j, (f_rec0 (S.si 40 (nI (f_at S + 1))) (f_r S) (nI d)).a 38 j = S.a 38 j := fun j => by
                  unfold f_rec0
                  rw [sa_ne (by decide), sa_ne (by decide), sa_ne (by decide), sa_ne (by decide), MS.sw_a, sa_ne (by decide), sa_ne (by decide)]
                  rfl
                have gp := (WFp.of g40 g39 (by omega) he3).1
                have gd := hd.same g38
                have gf : (f_rec0 (S.si 40 (nI (f_at S + 1))) (f_r S) (nI d)).i 41 = 0 := h41
                have e5 : (nI (d % 16)).toNatClampNeg = d % 16 := nI_clamp (by omega)
                rw [e5] at E
                exact rc183 hW (f_at S) (f_e S) (f_r S) (f_tx S) d d1 he3 hlt hr99 (ht1 hr99) (fun q => h3 (Or.inl (c8.mpr q))) gp gd g40 g39 g23 g34 gf C Y E hn
              refine x_aload_n C dX7_oneRecord_84 rfl ?_
              refine m_get C Y 23 (by decide) (by decide) wf_X7_190 dX7_oneRecord_85 ?_
              refine x_bipush (v := 100) C dX7_oneRecord_88 (by decide) ?_
              rw [hS23]
              refine x_icmp_ne (tgt := 103) C dX7_oneRecord_90 (by decide) (fun c90 => ?_) (fun c90 => absurd c90 (fun q => h4 (r100.mp q)))
              refine x_aload_n C dX7_oneRecord_103 rfl ?_
              refine m_getA C Y 25 (by decide) (by decide) wf_X7_60 dX7_oneRecord_104 ?_
              refine x_aload_n C dX7_oneRecord_107 rfl ?_
              refine m_get C Y 23 (by decide) (by decide) wf_X7_190 dX7_oneRecord_108 ?_
              refine x_iload_n C dX7_oneRecord_111 rfl ?_
              refine m_istN C Y hW.2.1 25 (f_r S) (by decide) dX7_oneRecord_112 hr (by simp only [m_len]; omega) ?_
              refine x_aload_n C dX7_oneRecord_113 rfl ?_
              refine m_getA C Y 26 (by decide) (by decide) wf_X7_63 dX7_oneRecord_114 ?_
              refine x_aload_n C dX7_oneRecord_117 rfl ?_
              refine m_get C Y 23 (by decide) (by decide) wf_X7_190 dX7_oneRecord_118 ?_
              refine x_iload_n C dX7_oneRecord_121 rfl ?_
              refine x_iconst (v := 4) C dX7_oneRecord_122 (by decide) ?_
              refine x_ishr C dX7_oneRecord_123 ?_
              refine x_iconst (v := 3) C dX7_oneRecord_124 (by decide) ?_
              refine x_iand C dX7_oneRecord_125 ?_
              refine m_istN C Y hW.2.1 26 (f_r S) (by decide) dX7_oneRecord_126 hr (by simp only [m_len]; omega) ?_
              refine x_aload_n C dX7_oneRecord_127 rfl ?_
              refine m_getA C Y 27 (by decide) (by decide) wf_X7_66 dX7_oneRecord_128 ?_
              refine x_aload_n C dX7_oneRecord_131 rfl ?_
              refine m_get C Y 23 (by decide) (by decide) wf_X7_190 dX7_oneRecord_132 ?_
              refine x_iload_n C dX7_oneRecord_135 rfl ?_
              refine x_bipush (v := 6) C dX7_oneRecord_136 (by decide) ?_
              refine x_ishr C dX7_oneRecord_138 ?_
              refine x_iconst (v := 1) C dX7_oneRecord_139 (by decide) ?_
              refine x_iand C dX7_oneRecord_140 ?_
              refine x_i2l C dX7_oneRecord_141 ?_
              refine m_lstN C Y hW.2.1 27 (f_r S) (by decide) dX7_oneRecord_142 hr (by simp only [m_len]; omega) ?_
              refine x_aload_n C dX7_oneRecord_143 rfl ?_
              refine m_getA C Y 28 (by decide) (by decide) wf_X7_69 dX7_oneRecord_144 ?_
              refine x_aload_n C dX7_oneRecord_147 rfl ?_
              refine m_get C Y 23 (by decide) (by decide) wf_X7_190 dX7_oneRecord_148 ?_
              refine x_iconst (v := 0) C dX7_oneRecord_151 (by decide) ?_
              refine m_istN C Y hW.2.1 28 (f_r S) (by decide) dX7_oneRecord_152 hr (by simp only [m_len]; omega) ?_
              refine x_aload_n C dX7_oneRecord_153 rfl ?_
              refine m_getA C Y 29 (by decide) (by decide) wf_X7_72 dX7_oneRecord_154 ?_
              refine x_aload_n C dX7_oneRecord_157 rfl ?_
              refine m_get C Y 23 (by decide) (by decide) wf_X7_190 dX7_oneRecord_158 ?_
              refine x_iconst (v := 0) C dX7_oneRecord_161 (by decide) ?_
              refine m_istN C Y hW.2.1 29 (f_r S) (by decide) dX7_oneRecord_162 hr (by simp only [m_len]; omega) ?_
              refine x_aload_n C dX7_oneRecord_163 rfl ?_
              refine m_getA C Y 30 (by decide) (by decide) wf_X7_75 dX7_oneRecord_164 ?_
              refine x_aload_n C dX7_oneRecord_167 rfl ?_
              refine m_get C Y 23 (by decide) (by decide) wf_X7_190 dX7_oneRecord_168 ?_
              refine x_iconst (v := 0) C dX7_oneRecord_171 (by decide) ?_
              refine m_istN C Y hW.2.1 30 (f_r S) (by decide) dX7_oneRecord_172 hr (by simp only [m_len]; omega) ?_
              refine x_aload_n C dX7_oneRecord_173 rfl ?_
              refine m_getA C Y 33 (by decide) (by decide) wf_X7_84 dX7_oneRecord_174 ?_
              refine x_aload_n C dX7_oneRecord_177 rfl ?_
              refine m_get C Y 23 (by decide) (by decide) wf_X7_190 dX7_oneRecord_178 ?_
              refine x_iconst (v := 0) C dX7_oneRecord_181 (by decide) ?_
              refine m_istN C Y hW.2.1 33 (f_r S) (by decide) dX7_oneRecord_182 hr (by simp only [m_len]; omega) ?_
              exact x_MA (by unfold f_rec0; rw [ec]) T183
          refine x_iload_n C dX7_oneRecord_56 rfl ?_
          refine x_bipush (v := 8) C dX7_oneRecord_57 (by decide) ?_
          refine x_icmp_eq (tgt := 74) C dX7_oneRecord_59 (by decide) (fun c59 => ?_) (fun c59 => ?_)
          · skip
            first | exact absurd (Or.inl c59) h3 | exact absurd (Or.inr ⟨c65, c71⟩) h3
          · skip
            refine x_iload_n C dX7_oneRecord_62 rfl ?_
            refine x_bipush (v := 15) C dX7_oneRecord_63 (by decide) ?_
            refine x_icmp_ne (tgt := 84) C dX7_oneRecord_65 (by decide) (fun c65 => ?_) (fun c65 => ?_)
            · skip
              exact T84
            · skip
              refine x_iload_n C dX7_oneRecord_68 rfl ?_
              refine x_bipush (v := 15) C dX7_oneRecord_69 (by decide) ?_
              refine x_icmp_eq (tgt := 84) C dX7_oneRecord_71 (by decide) (fun c71 => ?_) (fun c71 => ?_)
              · skip
                exact T84
              · skip
                first | exact absurd (Or.inl c59) h3 | exact absurd (Or.inr ⟨c65, c71⟩) h3
      refine x_aload_n C dX7_oneRecord_0 rfl ?_
      refine m_get C Y 40 (by decide) (by decide) wf_X7_221 dX7_oneRecord_1 ?_
      rw [hp.1]
      refine x_istore_nE (L' := [some _, some _, none, none, none, none, none]) C dX7_oneRecord_4 (by rw [hn]; decide) rfl ?_
      refine x_aload_n C dX7_oneRecord_5 rfl ?_
      refine m_callF C Y hW E (hx) rfl md_X7_next wi_X7_next ws_X7_next wm_X7_227 dX7_oneRecord_6 rfl (by decide) (by decide) rfl (by simp [Value.category]) ?_
      refine x_istore_nE (L' := [some _, some _, some _, none, none, none, none]) C dX7_oneRecord_9 (by rw [hn]; decide) rfl ?_
      refine x_iload_n C dX7_oneRecord_10 rfl ?_
      refine x_bipush (v := 15) C dX7_oneRecord_11 (by decide) ?_
      refine x_iand C dX7_oneRecord_13 ?_
      rw [ec]
      refine x_istore_nE (L' := [some _, some _, some _, some _, none, none, none]) C dX7_oneRecord_14 (by rw [hn]; decide) rfl ?_
      refine x_iload_n C dX7_oneRecord_15 rfl ?_
      refine x_bipush (v := 47) C dX7_oneRecord_16 (by decide) ?_
      refine x_icmp_ne (tgt := 22) C dX7_oneRecord_18 (by decide) (fun c18 => ?_) (fun c18 => absurd c18 (fun q => h1 q))
      refine x_iload_n C dX7_oneRecord_22 rfl ?_
      refine x_bipush (v := 31) C dX7_oneRecord_23 (by decide) ?_
      refine x_icmp_ne (tgt := 56) C dX7_oneRecord_25 (by decide) (fun c25 => ?_) (fun c25 => absurd c25 (fun q => h2 q))
      exact T56
end One
end
section
/-! MeterBusModel: record, text. -/
def f_record (S : MS) (j x : Nat) : Int64 := if x = 0 then S.w 24 j else if x = 1 then (S.a 25 j).toInt64 else if x = 2 then (S.a 26 j).toInt64 else if x = 3 then S.w 27 j else if x = 4 then (S.a 28 j).toInt64 else if x = 5 then (S.a 29 j).toInt64 else if x = 6 then (S.a 30 j).toInt64 else (S.a 31 (11 * j + x - 7)).toInt64
abbrev q_rec (S : MS) (i : Int32) : Prop := 0 ≤ i ∧ i ≤ S.i 23 - 1
abbrev q_record (S : MS) (i x : Int32) : Prop := q_rec S i ∧ ¬ x < 0 ∧ x < 7 + S.a 30 i.toNatClampNeg
abbrev q_text (S : MS) (i t : Int32) : Prop := q_rec S i ∧ (0 ≤ t ∧ t ≤ S.a 33 i.toNatClampNeg - 1)
section RecordS
variable {w : Wd} {M : MW} {S : MS} {z : Fx}
theorem rd_0 (hW : Wm w M) (C : Cx z RX7 cX7_record gw) (Y : Mty z M) (hn : z.nL = 4) (j nv : Nat) (hj : j < 100) (hv : nv ≤ 11) (hxv : 0 < 7 + nv) (v3 : Int32)
    (E : Ct z w gw yX7_record (some .long) 1 (40 * 1) (PM M (fun q Q => q = some (.long (f_record S j 0)) ∧ Q = S.si 0 0))) : X z 0 0 (MA M (S.si 0 0)) 50 [some (.ref M.o), some (.int (nI j)), some (.int (nI 0)), some (.int v3)] [] := by
  skip
  skip
  refine x_iload_n C dX7_record_50 rfl ?_
  refine x_tblIn (tgt := 92) (off := 41) C dX7_record_51 (by decide) (by decide) (by decide) (by decide) ?_
  refine x_aload_n C dX7_record_92 rfl ?_
  refine m_getA C Y 24 (by decide) (by decide) wf_X7_56 dX7_record_93 ?_
  refine x_iload_n C dX7_record_96 rfl ?_
  refine m_lldN C Y 24 (j) (by decide) dX7_record_97 (by simp only [nI_lit, nI_add, pk_mul]) (by simp only [m_len]; omega) ?_
  refine m_lret C E dX7_record_98 ?_
  exact ⟨rfl, rfl⟩
theorem rd_1 (hW : Wm w M) (C : Cx z RX7 cX7_record gw) (Y : Mty z M) (hn : z.nL = 4) (j nv : Nat) (hj : j < 100) (hv : nv ≤ 11) (hxv : 1 < 7 + nv) (v3 : Int32)
    (E : Ct z w gw yX7_record (some .long) 1 (40 * 1) (PM M (fun q Q => q = some (.long (f_record S j 1)) ∧ Q = S.si 0 0))) : X z 0 0 (MA M (S.si 0 0)) 50 [some (.ref M.o), some (.int (nI j)), some (.int (nI 1)), some (.int v3)] [] := by
  skip
  skip
  refine x_iload_n C dX7_record_50 rfl ?_
  refine x_tblIn (tgt := 99) (off := 48) C dX7_record_51 (by decide) (by decide) (by decide) (by decide) ?_
  refine x_aload_n C dX7_record_99 rfl ?_
  refine m_getA C Y 25 (by decide) (by decide) wf_X7_60 dX7_record_100 ?_
  refine x_iload_n C dX7_record_103 rfl ?_
  refine m_ildN C Y 25 (j) (by decide) dX7_record_104 (by simp only [nI_lit, nI_add, pk_mul]) (by simp only [m_len]; omega) ?_
  refine x_i2l C dX7_record_105 ?_
  refine m_lret C E dX7_record_106 ?_
  exact ⟨rfl, rfl⟩
theorem rd_2 (hW : Wm w M) (C : Cx z RX7 cX7_record gw) (Y : Mty z M) (hn : z.nL = 4) (j nv : Nat) (hj : j < 100) (hv : nv ≤ 11) (hxv : 2 < 7 + nv) (v3 : Int32)
    (E : Ct z w gw yX7_record (some .long) 1 (40 * 1) (PM M (fun q Q => q = some (.long (f_record S j 2)) ∧ Q = S.si 0 0))) : X z 0 0 (MA M (S.si 0 0)) 50 [some (.ref M.o), some (.int (nI j)), some (.int (nI 2)), some (.int v3)] [] := by
  skip
  skip
  refine x_iload_n C dX7_record_50 rfl ?_
  refine x_tblIn (tgt := 107) (off := 56) C dX7_record_51 (by decide) (by decide) (by decide) (by decide) ?_
  refine x_aload_n C dX7_record_107 rfl ?_
  refine m_getA C Y 26 (by decide) (by decide) wf_X7_63 dX7_record_108 ?_
  refine x_iload_n C dX7_record_111 rfl ?_
  refine m_ildN C Y 26 (j) (by decide) dX7_record_112 (by simp only [nI_lit, nI_add, pk_mul]) (by simp only [m_len]; omega) ?_
  refine x_i2l C dX7_record_113 ?_
  refine m_lret C E dX7_record_114 ?_
  exact ⟨rfl, rfl⟩
theorem rd_3 (hW : Wm w M) (C : Cx z RX7 cX7_record gw) (Y : Mty z M) (hn : z.nL = 4) (j nv : Nat) (hj : j < 100) (hv : nv ≤ 11) (hxv : 3 < 7 + nv) (v3 : Int32)
    (E : Ct z w gw yX7_record (some .long) 1 (40 * 1) (PM M (fun q Q => q = some (.long (f_record S j 3)) ∧ Q = S.si 0 0))) : X z 0 0 (MA M (S.si 0 0)) 50 [some (.ref M.o), some (.int (nI j)), some (.int (nI 3)), some (.int v3)] [] := by
  skip
  skip
  refine x_iload_n C dX7_record_50 rfl ?_
  refine x_tblIn (tgt := 115) (off := 64) C dX7_record_51 (by decide) (by decide) (by decide) (by decide) ?_
  refine x_aload_n C dX7_record_115 rfl ?_
  refine m_getA C Y 27 (by decide) (by decide) wf_X7_66 dX7_record_116 ?_
  refine x_iload_n C dX7_record_119 rfl ?_
  refine m_lldN C Y 27 (j) (by decide) dX7_record_120 (by simp only [nI_lit, nI_add, pk_mul]) (by simp only [m_len]; omega) ?_
  refine m_lret C E dX7_record_121 ?_
  exact ⟨rfl, rfl⟩
theorem rd_4 (hW : Wm w M) (C : Cx z RX7 cX7_record gw) (Y : Mty z M) (hn : z.nL = 4) (j nv : Nat) (hj : j < 100) (hv : nv ≤ 11) (hxv : 4 < 7 + nv) (v3 : Int32)
    (E : Ct z w gw yX7_record (some .long) 1 (40 * 1) (PM M (fun q Q => q = some (.long (f_record S j 4)) ∧ Q = S.si 0 0))) : X z 0 0 (MA M (S.si 0 0)) 50 [some (.ref M.o), some (.int (nI j)), some (.int (nI 4)), some (.int v3)] [] := by
  skip
  skip
  refine x_iload_n C dX7_record_50 rfl ?_
  refine x_tblIn (tgt := 122) (off := 71) C dX7_record_51 (by decide) (by decide) (by decide) (by decide) ?_
  refine x_aload_n C dX7_record_122 rfl ?_
  refine m_getA C Y 28 (by decide) (by decide) wf_X7_69 dX7_record_123 ?_
  refine x_iload_n C dX7_record_126 rfl ?_
  refine m_ildN C Y 28 (j) (by decide) dX7_record_127 (by simp only [nI_lit, nI_add, pk_mul]) (by simp only [m_len]; omega) ?_
  refine x_i2l C dX7_record_128 ?_
  refine m_lret C E dX7_record_129 ?_
  exact ⟨rfl, rfl⟩
theorem rd_5 (hW : Wm w M) (C : Cx z RX7 cX7_record gw) (Y : Mty z M) (hn : z.nL = 4) (j nv : Nat) (hj : j < 100) (hv : nv ≤ 11) (hxv : 5 < 7 + nv) (v3 : Int32)
    (E : Ct z w gw yX7_record (some .long) 1 (40 * 1) (PM M (fun q Q => q = some (.long (f_record S j 5)) ∧ Q = S.si 0 0))) : X z 0 0 (MA M (S.si 0 0)) 50 [some (.ref M.o), some (.int (nI j)), some (.int (nI 5)), some (.int v3)] [] := by
  skip
  skip
  refine x_iload_n C dX7_record_50 rfl ?_
  refine x_tblIn (tgt := 130) (off := 79) C dX7_record_51 (by decide) (by decide) (by decide) (by decide) ?_
  refine x_aload_n C dX7_record_130 rfl ?_
  refine m_getA C Y 29 (by decide) (by decide) wf_X7_72 dX7_record_131 ?_
  refine x_iload_n C dX7_record_134 rfl ?_
  refine m_ildN C Y 29 (j) (by decide) dX7_record_135 (by simp only [nI_lit, nI_add, pk_mul]) (by simp only [m_len]; omega) ?_
  refine x_i2l C dX7_record_136 ?_
  refine m_lret C E dX7_record_137 ?_
  exact ⟨rfl, rfl⟩
theorem rd_6 (hW : Wm w M) (C : Cx z RX7 cX7_record gw) (Y : Mty z M) (hn : z.nL = 4) (j nv : Nat) (hj : j < 100) (hv : nv ≤ 11) (hxv : 6 < 7 + nv) (v3 : Int32)
    (E : Ct z w gw yX7_record (some .long) 1 (40 * 1) (PM M (fun q Q => q = some (.long (f_record S j 6)) ∧ Q = S.si 0 0))) : X z 0 0 (MA M (S.si 0 0)) 50 [some (.ref M.o), some (.int (nI j)), some (.int (nI 6)), some (.int v3)] [] := by
  skip
  skip
  refine x_iload_n C dX7_record_50 rfl ?_
  refine x_tblIn (tgt := 138) (off := 87) C dX7_record_51 (by decide) (by decide) (by decide) (by decide) ?_
  refine x_aload_n C dX7_record_138 rfl ?_
  refine m_getA C Y 30 (by decide) (by decide) wf_X7_75 dX7_record_139 ?_
  refine x_iload_n C dX7_record_142 rfl ?_
  refine m_ildN C Y 30 (j) (by decide) dX7_record_143 (by simp only [nI_lit, nI_add, pk_mul]) (by simp only [m_len]; omega) ?_
  refine x_i2l C dX7_record_144 ?_
  refine m_lret C E dX7_record_145 ?_
  exact ⟨rfl, rfl⟩
theorem rd_7 (hW : Wm w M) (C : Cx z RX7 cX7_record gw) (Y : Mty z M) (hn : z.nL = 4) (j nv : Nat) (hj : j < 100) (hv : nv ≤ 11) (x : Nat) (hx7 : 7 ≤ x) (hxv : x < 7 + nv) (v3 : Int32)
    (E : Ct z w gw yX7_record (some .long) 1 (40 * 1) (PM M (fun q Q => q = some (.long (f_record S j x)) ∧ Q = S.si 0 0))) : X z 0 0 (MA M (S.si 0 0)) 50 [some (.ref M.o), some (.int (nI j)), some (.int (nI x)), some (.int v3)] [] := by
  unfold f_record at E
  rw [if_neg (by omega), if_neg (by omega), if_neg (by omega), if_neg (by omega), if_neg (by omega), if_neg (by omega), if_neg (by omega)] at E
  refine x_iload_n C dX7_record_50 rfl ?_
  refine x_tblOut (tgt := 146) C dX7_record_51 (Or.inr (by rw [nI_toInt (by omega)]; omega)) (by decide) ?_
  refine x_aload_n C dX7_record_146 rfl ?_
  refine m_getA C Y 31 (by decide) (by decide) wf_X7_78 dX7_record_147 ?_
  refine x_bipush (v := 11) C dX7_record_150 (by decide) ?_
  refine x_iload_n C dX7_record_152 rfl ?_
  refine x_imul C dX7_record_153 ?_
  refine x_iload_n C dX7_record_154 rfl ?_
  refine x_iadd C dX7_record_155 ?_
  refine x_bipush (v := 7) C dX7_record_156 (by decide) ?_
  refine x_isub C dX7_record_158 ?_
  refine m_ildN C Y 31 (11 * j + x - 7) (by decide) dX7_record_159 (by simp only [nI_lit, nI_add, pk_mul]; exact pk_sub (by omega)) (by simp only [m_len]; omega) ?_
  refine x_i2l C dX7_record_160 ?_
  refine m_lret C E dX7_record_161 ?_
  exact ⟨rfl, rfl⟩
/-- from the entry to the call of fails -/
theorem rd_head (hW : Wm w M) {post : Option Value → MS → Prop} (r : Nat) (hr : S.i 23 = nI r) (hr1 : r ≤ 100) (i x : Int32) (C : Cx z RX7 cX7_record gw) (Y : Mty z M) (E : Ct z w gw yX7_record (some .long) 1 (40 * 1) (PM M post)) (hn : z.nL = 4)
    (kk : X z 0 0 (MA M S) 39 [some (.ref M.o), some (.int i), some (.int x), some (.int (bI (q_record S i x)))] []) : X z 0 0 (MA M S) 0 [some (.ref M.o), some (.int i), some (.int x), none] [] := by
  have T38 : ∀ v v3 : Int32, v = bI (q_record S i x) → X z 0 0 (MA M S) 38 [some (.ref M.o), some (.int i), some (.int x), some (.int v3)] [.int v] := by
    intro v v3 ev
    subst ev
    refine x_istore_nE (L' := [some _, some _, some _, some _]) C dX7_record_38 (by rw [hn]; decide) rfl ?_
    exact kk
  have cx : 7 + S.a 30 i.toNatClampNeg ≤ x ↔ ¬ x < 7 + S.a 30 i.toNatClampNeg := Int32.not_lt.symm
  refine x_iload_n C dX7_record_0 rfl ?_
  refine x_iconst (v := 0) C dX7_record_1 (by decide) ?_
  refine x_aload_n C dX7_record_2 rfl ?_
  refine m_get C Y 23 (by decide) (by decide) wf_X7_190 dX7_record_3 ?_
  refine x_iconst (v := 1) C dX7_record_6 (by decide) ?_
  refine x_isub C dX7_record_7 ?_
  refine m_callSF C hW E (s_in _ _ _) md_X7_in wt_X7_in wm_X7_100 dX7_record_8 rfl (by decide) (by decide) rfl (by simp [Value.category]) ?_
  refine x_istore_nE (L' := [some _, some _, some _, some _]) C dX7_record_11 (by rw [hn]; decide) rfl ?_
  refine x_iload_n C dX7_record_12 rfl ?_
  refine x_if_eq (tgt := 37) C dX7_record_13 (by decide) (fun c13 => ?_) (fun c13 => ?_)
  · skip
    refine x_iconst (v := 0) C dX7_record_37 (by decide) ?_
    first | exact T38 _ _ (bI_00 (fun q => bI_0.mp c13 q.1)) | exact T38 _ _ (bI_00 (fun q => q.2.1 c17)) | exact T38 _ _ (bI_00 (fun q => cx.mp c30 q.2.2)) | exact T38 _ _ (bI_1 ⟨bI_0n.mp c13, c17, Classical.not_not.mp (fun q => c30 (cx.mpr q))⟩)
  · skip
    refine x_iload_n C dX7_record_16 rfl ?_
    refine x_if_lt (tgt := 37) C dX7_record_17 (by decide) (fun c17 => ?_) (fun c17 => ?_)
    · skip
      refine x_iconst (v := 0) C dX7_record_37 (by decide) ?_
      first | exact T38 _ _ (bI_00 (fun q => bI_0.mp c13 q.1)) | exact T38 _ _ (bI_00 (fun q => q.2.1 c17)) | exact T38 _ _ (bI_00 (fun q => cx.mp c30 q.2.2)) | exact T38 _ _ (bI_1 ⟨bI_0n.mp c13, c17, Classical.not_not.mp (fun q => c30 (cx.mpr q))⟩)
    · skip
      refine x_iload_n C dX7_record_20 rfl ?_
      refine x_bipush (v := 7) C dX7_record_21 (by decide) ?_
      refine x_aload_n C dX7_record_23 rfl ?_
      refine m_getA C Y 30 (by decide) (by decide) wf_X7_75 dX7_record_24 ?_
      refine x_iload_n C dX7_record_27 rfl ?_
      refine m_ild C Y 30 (by decide) dX7_record_28 (in_vp hr hr1 (by decide) (bI_0n.mp c13)) ?_
      refine x_iadd C dX7_record_29 ?_
      refine x_icmp_ge (tgt := 37) C dX7_record_30 (by decide) (fun c30 => ?_) (fun c30 => ?_)
      · skip
        refine x_iconst (v := 0) C dX7_record_37 (by decide) ?_
        first | exact T38 _ _ (bI_00 (fun q => bI_0.mp c13 q.1)) | exact T38 _ _ (bI_00 (fun q => q.2.1 c17)) | exact T38 _ _ (bI_00 (fun q => cx.mp c30 q.2.2)) | exact T38 _ _ (bI_1 ⟨bI_0n.mp c13, c17, Classical.not_not.mp (fun q => c30 (cx.mpr q))⟩)
      · skip
        refine x_iconst (v := 1) C dX7_record_33 (by decide) ?_
        refine x_goto (tgt := 38) C dX7_record_34 (by decide) ?_
        first | exact T38 _ _ (bI_00 (fun q => bI_0.mp c13 q.1)) | exact T38 _ _ (bI_00 (fun q => q.2.1 c17)) | exact T38 _ _ (bI_00 (fun q => cx.mp c30 q.2.2)) | exact T38 _ _ (bI_1 ⟨bI_0n.mp c13, c17, Classical.not_not.mp (fun q => c30 (cx.mpr q))⟩)
theorem s_record_x (hW : Wm w M) (r : Nat) (hr : S.i 23 = nI r) (hr1 : r ≤ 100) (i x : Int32) (hp : ¬ q_record S i x) : TF w M yX7_record cX7_record 4 (some .long) 1 [.int i, .int x] S (some (.long 0)) (S.si 0 1) := by
  refine TM.intro hW rfl (Nat.le_of_ble_eq_true rfl) (fun z C Y E hn => ?_)
  have hf := s_fails1 (S := S) hW (q_record S i x)
  rw [bI_t (p := ¬ q_record S i x) hp] at hf
  refine rd_head hW r hr hr1 i x C Y E hn ?_
  refine x_aload_n C dX7_record_39 rfl ?_
  refine x_iload_n C dX7_record_40 rfl ?_
  refine x_iconst (v := 1) C dX7_record_41 (by decide) ?_
  refine m_callF C Y hW E (hf) rfl md_X7_fails wi_X7_fails ws_X7_fails wm_X7_107 dX7_record_42 rfl (by decide) (by decide) rfl (by simp [Value.category]) ?_
  refine x_if_eq (tgt := 50) C dX7_record_45 (by decide) (fun c45 => absurd c45 (by decide)) (fun c45 => ?_)
  refine x_lconst (v := 0) C dX7_record_48 (by decide) ?_
  refine m_lret C E dX7_record_49 ?_
  exact ⟨rfl, rfl⟩
theorem s_record_t (hW : Wm w M) (r j x nv : Nat) (hr : S.i 23 = nI r) (hr1 : r ≤ 100) (hj : j < r) (hv : S.a 30 j = nI nv) (hv1 : nv ≤ 11) (hx : x < 7 + nv) : TF w M yX7_record cX7_record 4 (some .long) 1 [.int (nI j), .int (nI x)] S (some (.long (f_record S j x))) (S.si 0 0) := by
  refine TM.intro hW rfl (Nat.le_of_ble_eq_true rfl) (fun z C Y E hn => ?_)
  have hp : q_record S (nI j) (nI x) := by
    refine ⟨⟨nI_pos' (by omega), ?_⟩, nI_pos (by omega), ?_⟩
    · rw [hr, show (1 : Int32) = nI 1 from rfl, pk_sub (by omega)]; exact nI_le (by omega) (by omega)
    · rw [nI_clamp (by omega), hv, show (7 : Int32) = nI 7 from rfl, nI_add]; exact nI_lt hx (by omega)
  have hf := s_fails1 (S := S) hW (q_record S (nI j) (nI x))
  rw [bI_f (p := ¬ q_record S (nI j) (nI x)) (not_not_intro hp)] at hf
  refine rd_head hW r hr hr1 _ _ C Y E hn ?_
  have T50 : ∀ v3 : Int32, X z 0 0 (MA M (S.si 0 0)) 50 [some (.ref M.o), some (.int (nI j)), some (.int (nI x)), some (.int v3)] [] := by
    intro v3
    match x, hx, E with
    | 0, hx, E => exact rd_0 hW C Y hn j nv (by omega) hv1 hx v3 E
    | 1, hx, E => exact rd_1 hW C Y hn j nv (by omega) hv1 hx v3 E
    | 2, hx, E => exact rd_2 hW C Y hn j nv (by omega) hv1 hx v3 E
    | 3, hx, E => exact rd_3 hW C Y hn j nv (by omega) hv1 hx v3 E
    | 4, hx, E => exact rd_4 hW C Y hn j nv (by omega) hv1 hx v3 E
    | 5, hx, E => exact rd_5 hW C Y hn j nv (by omega) hv1 hx v3 E
    | 6, hx, E => exact rd_6 hW C Y hn j nv (by omega) hv1 hx v3 E
    | x + 7, hx, E => exact rd_7 hW C Y hn j nv (by omega) hv1 (x + 7) (by omega) hx v3 E
  refine x_aload_n C dX7_record_39 rfl ?_
  refine x_iload_n C dX7_record_40 rfl ?_
  refine x_iconst (v := 1) C dX7_record_41 (by decide) ?_
  refine m_callF C Y hW E (hf) rfl md_X7_fails wi_X7_fails ws_X7_fails wm_X7_107 dX7_record_42 rfl (by decide) (by decide) rfl (by simp [Value.category]) ?_
  refine x_if_eq (tgt := 50) C dX7_record_45 (by decide) (fun c45 => ?_) (fun c45 => absurd c45 (not_not_intro rfl))
  exact T50 _
theorem tx_head (hW : Wm w M) {post : Option Value → MS → Prop} (r : Nat) (hr : S.i 23 = nI r) (hr1 : r ≤ 100) (i x : Int32) (C : Cx z RX7 cX7_text gw) (Y : Mty z M) (E : Ct z w gw yX7_text (some .int) 1 (40 * 1) (PM M post)) (hn : z.nL = 4)
    (kk : X z 0 0 (MA M S) 38 [some (.ref M.o), some (.int i), some (.int x), some (.int (bI (q_text S i x)))] []) : X z 0 0 (MA M S) 0 [some (.ref M.o), some (.int i), some (.int x), none] [] := by
  have T37 : ∀ v v3 : Int32, v = bI (q_text S i x) → X z 0 0 (MA M S) 37 [some (.ref M.o), some (.int i), some (.int x), some (.int v3)] [.int v] := by
    intro v v3 ev
    subst ev
    refine x_istore_nE (L' := [some _, some _, some _, some _]) C dX7_text_37 (by rw [hn]; decide) rfl ?_
    exact kk
  refine x_iload_n C dX7_text_0 rfl ?_
  refine x_iconst (v := 0) C dX7_text_1 (by decide) ?_
  refine x_aload_n C dX7_text_2 rfl ?_
  refine m_get C Y 23 (by decide) (by decide) wf_X7_190 dX7_text_3 ?_
  refine x_iconst (v := 1) C dX7_text_6 (by decide) ?_
  refine x_isub C dX7_text_7 ?_
  refine m_callSF C hW E (s_in _ _ _) md_X7_in wt_X7_in wm_X7_100 dX7_text_8 rfl (by decide) (by decide) rfl (by simp [Value.category]) ?_
  refine x_istore_nE (L' := [some _, some _, some _, some _]) C dX7_text_11 (by rw [hn]; decide) rfl ?_
  refine x_iload_n C dX7_text_12 rfl ?_
  refine x_if_eq (tgt := 36) C dX7_text_13 (by decide) (fun c13 => ?_) (fun c13 => ?_)
  · skip
    refine x_iconst (v := 0) C dX7_text_36 (by decide) ?_
    first | exact T37 _ _ (bI_00 (fun q => bI_0.mp c13 q.1)) | exact T37 _ _ (bI_00 (fun q => bI_0.mp c29 q.2)) | exact T37 _ _ (bI_1 ⟨bI_0n.mp c13, bI_0n.mp c29⟩)
  · skip
    refine x_iload_n C dX7_text_16 rfl ?_
    refine x_iconst (v := 0) C dX7_text_17 (by decide) ?_
    refine x_aload_n C dX7_text_18 rfl ?_
    refine m_getA C Y 33 (by decide) (by decide) wf_X7_84 dX7_text_19 ?_
    refine x_iload_n C dX7_text_22 rfl ?_
    refine m_ild C Y 33 (by decide) dX7_text_23 (in_vp hr hr1 (by decide) (bI_0n.mp c13)) ?_
    refine x_iconst (v := 1) C dX7_text_24 (by decide) ?_
    refine x_isub C dX7_text_25 ?_
    refine m_callSF C hW E (s_in _ _ _) md_X7_in wt_X7_in wm_X7_100 dX7_text_26 rfl (by decide) (by decide) rfl (by simp [Value.category]) ?_
    refine x_if_eq (tgt := 36) C dX7_text_29 (by decide) (fun c29 => ?_) (fun c29 => ?_)
    · skip
      refine x_iconst (v := 0) C dX7_text_36 (by decide) ?_
      first | exact T37 _ _ (bI_00 (fun q => bI_0.mp c13 q.1)) | exact T37 _ _ (bI_00 (fun q => bI_0.mp c29 q.2)) | exact T37 _ _ (bI_1 ⟨bI_0n.mp c13, bI_0n.mp c29⟩)
    · skip
      refine x_iconst (v := 1) C dX7_text_32 (by decide) ?_
      refine x_goto (tgt := 37) C dX7_text_33 (by decide) ?_
      first | exact T37 _ _ (bI_00 (fun q => bI_0.mp c13 q.1)) | exact T37 _ _ (bI_00 (fun q => bI_0.mp c29 q.2)) | exact T37 _ _ (bI_1 ⟨bI_0n.mp c13, bI_0n.mp c29⟩)
theorem s_text_x (hW : Wm w M) (r : Nat) (hr : S.i 23 = nI r) (hr1 : r ≤ 100) (i x : Int32) (hp : ¬ q_text S i x) : TF w M yX7_text cX7_text 4 (some .int) 1 [.int i, .int x] S (some (.int 0)) (S.si 0 1) := by
  refine TM.intro hW rfl (Nat.le_of_ble_eq_true rfl) (fun z C Y E hn => ?_)
  have hf := s_fails1 (S := S) hW (q_text S i x)
  rw [bI_f hp, bI_t (p := ¬ q_text S i x) hp] at hf
  refine tx_head hW r hr hr1 i x C Y E hn ?_
  rw [bI_f hp]
  refine x_aload_n C dX7_text_38 rfl ?_
  refine x_iload_n C dX7_text_39 rfl ?_
  refine x_iconst (v := 1) C dX7_text_40 (by decide) ?_
  refine m_callF C Y hW E (hf) rfl md_X7_fails wi_X7_fails ws_X7_fails wm_X7_107 dX7_text_41 rfl (by decide) (by decide) rfl (by simp [Value.category]) ?_
  refine x_if_eq (tgt := 51) C dX7_text_44 (by decide) (fun c44 => absurd c44 (by decide)) (fun c44 => ?_)
  refine x_iconst (v := 0) C dX7_text_47 (by decide) ?_
  refine x_goto (tgt := 64) C dX7_text_48 (by decide) ?_
  refine m_iret C E dX7_text_64 ?_
  exact ⟨rfl, rfl⟩
theorem s_text_t (hW : Wm w M) (r j t n o : Nat) (hr : S.i 23 = nI r) (hr1 : r ≤ 100) (hj : j < r) (hv : S.a 33 j = nI n) (hn3 : n ≤ 300) (ht : t < n) (ho : S.a 32 j = nI o) (ho1 : o + n ≤ 26000) : TF w M yX7_text cX7_text 4 (some .int) 1 [.int (nI j), .int (nI t)] S (some (.int (S.a 35 (o + t)))) (S.si 0 0) := by
  refine TM.intro hW rfl (Nat.le_of_ble_eq_true rfl) (fun z C Y E hn => ?_)
  have hp : q_text S (nI j) (nI t) := by
    refine ⟨⟨nI_pos' (by omega), ?_⟩, nI_pos' (by omega), ?_⟩
    · rw [hr, show (1 : Int32) = nI 1 from rfl, pk_sub (by omega)]; exact nI_le (by omega) (by omega)
    · rw [nI_clamp (by omega), hv, show (1 : Int32) = nI 1 from rfl, pk_sub (by omega)]; exact nI_le (by omega) (by omega)
  have hf := s_fails1 (S := S) hW (q_text S (nI j) (nI t))
  rw [bI_t hp, bI_f (p := ¬ q_text S (nI j) (nI t)) (not_not_intro hp)] at hf
  refine tx_head hW r hr hr1 _ _ C Y E hn ?_
  rw [bI_t hp]
  refine x_aload_n C dX7_text_38 rfl ?_
  refine x_iload_n C dX7_text_39 rfl ?_
  refine x_iconst (v := 1) C dX7_text_40 (by decide) ?_
  refine m_callF C Y hW E (hf) rfl md_X7_fails wi_X7_fails ws_X7_fails wm_X7_107 dX7_text_41 rfl (by decide) (by decide) rfl (by simp [Value.category]) ?_
  refine x_if_eq (tgt := 51) C dX7_text_44 (by decide) (fun c44 => ?_) (fun c44 => absurd c44 (not_not_intro rfl))
  refine x_aload_n C dX7_text_51 rfl ?_
  refine m_getA C Y 35 (by decide) (by decide) wf_X7_87 dX7_text_52 ?_
  refine x_aload_n C dX7_text_55 rfl ?_
  refine m_getA C Y 32 (by decide) (by decide) wf_X7_81 dX7_text_56 ?_
  refine x_iload_n C dX7_text_59 rfl ?_
  refine m_ildN C Y 32 (j) (by decide) dX7_text_60 (by simp only [nI_lit, nI_add, pk_mul]) (by simp only [m_len]; omega) ?_
  rw [MS.si_a, ho]
  refine x_iload_n C dX7_text_61 rfl ?_
  refine x_iadd C dX7_text_62 ?_
  refine m_ildN C Y 35 (o + t) (by decide) dX7_text_63 (by simp only [nI_lit, nI_add, pk_mul]) (by simp only [m_len]; omega) ?_
  refine m_iret C E dX7_text_64 ?_
  exact ⟨rfl, rfl⟩
end RecordS
end
section
/-! MeterBusModel: what a record leaves of the numbers. -/
def GR (S : MS) (e r tx a : Nat) : Prop := S.i 40 = nI a ∧ S.i 39 = nI e ∧ a ≤ e ∧ S.i 23 = nI r ∧ S.i 34 = nI tx
theorem GR.same {S S' : MS} {e r tx a : Nat} (h : GR S e r tx a) (h40 : S'.i 40 = S.i 40) (h39 : S'.i 39 = S.i 39) (h23 : S'.i 23 = S.i 23) (h34 : S'.i 34 = S.i 34) : GR S' e r tx a := ⟨h40.trans h.1, h39.trans h.2.1, h.2.2.1, h23.trans h.2.2.2.1, h34.trans h.2.2.2.2⟩
theorem GR.bl {S : MS} {e r tx a : Nat} {x y : Int32} (h : GR S e r tx a) : GR (f_bl S x y) e r tx a := h.same (f_bl_i _ _ _ (by decide) (by decide)) (f_bl_i _ _ _ (by decide) (by decide)) (f_bl_i _ _ _ (by decide) (by decide)) (f_bl_i _ _ _ (by decide) (by decide))
theorem GR.at {S : MS} {e r tx a : Nat} (h : GR S e r tx a) (he : e ≤ 300) : f_at S = a ∧ f_e S = e ∧ WFp S := by
  have := WFp.of h.1 h.2.1 h.2.2.1 he
  exact ⟨this.2.1, this.2.2, this.1⟩
theorem GR.r {S : MS} {e r tx a : Nat} (h : GR S e r tx a) (hr : r ≤ 100) : f_r S = r := by unfold f_r; rw [h.2.2.2.1, nI_clamp (by omega)]
theorem GR.tx {S : MS} {e r tx a : Nat} (h : GR S e r tx a) (ht : tx ≤ 26000) : f_tx S = tx := by unfold f_tx; rw [h.2.2.2.2, nI_clamp (by omega)]
theorem GR.mv {S S' : MS} {e r tx a a' : Nat} (h : GR S e r tx a) (h40 : S'.i 40 = nI a') (ha : a' ≤ e) (h39 : S'.i 39 = S.i 39) (h23 : S'.i 23 = S.i 23) (h34 : S'.i 34 = S.i 34) : GR S' e r tx a' := ⟨h40, h39.trans h.2.1, ha, h23.trans h.2.2.2.1, h34.trans h.2.2.2.2⟩
theorem f_txl_i (S : MS) (tx a : Nat) {q : Nat} (h34 : q ≠ 34) (h40 : q ≠ 40) : ∀ k, (f_txl S tx a k).i q = S.i q
  | 0 => rfl
  | k + 1 => by rw [f_txl, MS.si_i, if_neg h40, MS.si_i, if_neg h34, MS.sa_i, f_txl_i S tx a h34 h40 k]
theorem GR.text {S : MS} {e r tx a n r0 : Nat} (h : GR S e r tx a) (hn : a + n ≤ e) : GR (f_text S r0 tx a n) e r (tx + n) (a + n) ∧ (f_text S r0 tx a n).i 41 = S.i 41 ∧ ∀ j, (f_text S r0 tx a n).a 38 j = S.a 38 j := by
  unfold f_text
  refine ⟨⟨f_txl_40 _ _ _ _ h.1, (f_txl_i _ _ _ (by decide) (by decide) _).trans h.2.1, hn, (f_txl_i _ _ _ (by decide) (by decide) _).trans h.2.2.2.1, f_txl_34 _ _ _ _ h.2.2.2.2⟩, f_txl_i _ _ _ (by decide) (by decide) _, fun j => ?_⟩
  rw [f_txl_38, sa_ne (by decide), sa_ne (by decide)]
theorem GR.dig {S : MS} {e r tx a n : Nat} {sg : Bool} (h : GR S e r tx a) (hn : a + n ≤ e) : GR (f_digS S a n sg) e r tx (a + n) := by
  unfold f_digS
  exact h.mv rfl hn (by rw [MS.si_i, if_neg (by decide), f_dg_i _ _ _ _ _ (by decide) (by decide)]) (by rw [MS.si_i, if_neg (by decide), f_dg_i _ _ _ _ _ (by decide) (by decide)]) (by rw [MS.si_i, if_neg (by decide), f_dg_i _ _ _ _ _ (by decide) (by decide)])
theorem f_digS_a (S : MS) (a n : Nat) (sg : Bool) (q j : Nat) : (f_digS S a n sg).a q j = S.a q j := f_dg_a S a n _ n q j
/-- what is left behind a value -/
def VR (S S' : MS) (e r tx a : Nat) : Prop := (∃ a' tx', GR S' e r tx' a' ∧ a ≤ a' ∧ tx' ≤ tx + 240 ∧ (S'.i 41 = 0 ∨ tx' = tx)) ∧ ∀ j, S'.a 38 j = S.a 38 j
theorem VR.bl {S : MS} {e r tx a : Nat} {x y : Int32} (h : GR S e r tx a) : VR S (f_bl S x y) e r tx a := ⟨⟨a, tx, h.bl, Nat.le_refl _, by omega, Or.inr rfl⟩, fun j => f_bl_a _ _ _ _ _⟩
theorem VR.valN {S : MS} {e r tx a r0 cc n : Nat} (h : GR S e r tx a) : VR S (f_valN S a e r0 cc n) e r tx a := by
  unfold f_valN
  split
  · rename_i hn
    split
    · exact ⟨⟨a + n, tx, h.mv rfl hn rfl rfl rfl, by omega, by omega, Or.inr rfl⟩, fun j => rfl⟩
    · exact ⟨⟨a + n, tx, (h.dig hn).same rfl rfl rfl rfl, by omega, by omega, Or.inr rfl⟩, fun j => by rw [MS.sw_a, f_digS_a]⟩
  · exact VR.bl h
theorem VR.valD {S : MS} {e r tx a V r0 : Nat} (h : GR S e r tx a) (h41 : S.i 41 = 0) (he : e ≤ 256) : VR S (f_valD S a e r0 tx V) e r tx a := by
  unfold f_valD
  split
  · rename_i h1
    have h2 : GR (S.si 40 (nI (a + 1))) e r tx (a + 1) := h.mv rfl (by omega) rfl rfl rfl
    have hb : ∀ x y, VR S (f_bl (S.si 40 (nI (a + 1))) x y) e r tx a := fun x y => ⟨⟨a + 1, tx, h2.bl, by omega, by omega, Or.inr rfl⟩, fun j => (f_bl_a _ _ _ _ _).trans rfl⟩
    split
    · split
      · rename_i h3 h4
        unfold f_v3
        split
        · rename_i h5
          have ev : f_vn V = V := if_pos h5
          rw [ev] at h4
          have h6 : GR ((S.si 40 (nI (a + 1))).sw 24 r0 (nI V).toInt64) e r tx (a + 1) := h2
          obtain ⟨g1, g2, g3⟩ := h6.text (r0 := r0) h4
          exact ⟨⟨a + 1 + V, tx + V, g1, by omega, by omega, Or.inl (g2.trans h41)⟩, fun j => (g3 j).trans rfl⟩
        · split
          · exact ⟨⟨a + 1 + f_vn V, tx, (h2.dig h4).same rfl rfl rfl rfl, by omega, by omega, Or.inr rfl⟩, fun j => by rw [MS.sw_a, f_digS_a]; rfl⟩
          · exact ⟨⟨a + 1 + f_vn V, tx, h2.mv rfl h4 rfl rfl rfl, by omega, by omega, Or.inr rfl⟩, fun j => rfl⟩
      · exact hb _ _
    · exact hb _ _
  · exact VR.bl h
theorem VR.value {S : MS} {e r tx a cc : Nat} (h : GR S e r tx a) (h41 : S.i 41 = 0) (he : e ≤ 256) (hr : r ≤ 100) (ht : tx ≤ 26000) : VR S (f_value S cc) e r tx a := by
  obtain ⟨e1, e2, -⟩ := h.at (by omega)
  unfold f_value
  rw [e1, e2, h.r hr, h.tx ht]
  split
  · exact VR.valD h h41 he
  · exact VR.valN h
/-- what is left behind a record -/
def RR (S S' : MS) (e r tx a : Nat) : Prop := (∃ a' r' tx', GR S' e r' tx' a' ∧ a < a' ∧ r' ≤ 100 ∧ tx' ≤ 240 * r') ∧ ∀ j, S'.a 38 j = S.a 38 j
theorem GR.dl {S : MS} {e r tx a r0 : Nat} (t : Nat) (b : Int32) (i : Nat) (h : GR S e r tx a) (he : e ≤ 300) : ∃ a', a ≤ a' ∧ GR (f_dl r0 t S b i) e r tx a' := by
  induction t generalizing S b i a with
  | zero => exact ⟨a, Nat.le_refl _, h⟩
  | succ t ih =>
    rw [f_dl]
    split
    · obtain ⟨e1, e2, -⟩ := h.at he
      have hx : ∃ a', a ≤ a' ∧ GR (f_nx S).2 e r tx a' := by
        unfold f_nx
        rw [e1, e2]
        split
        · exact ⟨a + 1, by omega, h.mv rfl (by omega) rfl rfl rfl⟩
        · exact ⟨a, Nat.le_refl _, h.bl⟩
      obtain ⟨a1, h1, h2⟩ := hx
      have h3 : GR (f_d2 (f_nx S).2 i) e r tx a1 := h2.same (f_d2_i _ _ (by decide) (by decide)) (f_d2_i _ _ (by decide) (by decide)) (f_d2_i _ _ (by decide) (by decide)) (f_d2_i _ _ (by decide) (by decide))
      obtain ⟨a2, h4, h5⟩ := ih (f_nx S).1 (i + 1) (h3.same (f_d3_i _ r0 (f_nx S).1 i 40) (f_d3_i _ _ _ _ _) (f_d3_i _ _ _ _ _) (f_d3_i _ _ _ _ _))
      exact ⟨a2, by omega, h5⟩
    · exact ⟨a, Nat.le_refl _, h⟩
theorem GR.vl {S : MS} {e r tx a r0 : Nat} (t : Nat) (b : Int32) (i : Nat) (h : GR S e r tx a) (he : e ≤ 300) : ∃ a', a ≤ a' ∧ GR (f_vl r0 t S b i) e r tx a' := by
  induction t generalizing S b i a with
  | zero => exact ⟨a, Nat.le_refl _, h⟩
  | succ t ih =>
    rw [f_vl]
    split
    · obtain ⟨e1, e2, -⟩ := h.at he
      have hx : ∃ a', a ≤ a' ∧ GR (f_nx S).2 e r tx a' := by
        unfold f_nx
        rw [e1, e2]
        split
        · exact ⟨a + 1, by omega, h.mv rfl (by omega) rfl rfl rfl⟩
        · exact ⟨a, Nat.le_refl _, h.bl⟩
      obtain ⟨a1, h1, h2⟩ := hx
      have h3 : GR (f_v2 (f_nx S).2 i) e r tx a1 := h2.same (f_v2_i _ _ (by decide) (by decide)) (f_v2_i _ _ (by decide) (by decide)) (f_v2_i _ _ (by decide) (by decide)) (f_v2_i _ _ (by decide) (by decide))
      obtain ⟨a2, h4, h5⟩ := ih (f_nx S).1 (i + 1) (h3.same (f_v4_i _ r0 (f_nx S).1 i 40) (f_v4_i _ _ _ _ _) (f_v4_i _ _ _ _ _) (f_v4_i _ _ _ _ _))
      exact ⟨a2, by omega, h5⟩
    · exact ⟨a, Nat.le_refl _, h⟩
theorem RR.own {S S2 : MS} {e r tx a : Nat} (g : GR S2 e r tx (a + 1)) (g38 : ∀ j, S2.a 38 j = S.a 38 j) (he : e ≤ 256) (ha : 19 ≤ a) (hlt : a < e) (hr : r < 100) (ht : tx ≤ 240 * r) : RR S (f_own S2 r tx (a + 1) e) e r tx a := by
  unfold f_own
  obtain ⟨g1, g2, g3⟩ := GR.text (r0 := r) (n := e - (a + 1)) (show GR (S2.sw 24 r (nI (e - (a + 1))).toInt64) e r tx (a + 1) from g.same rfl rfl rfl rfl) (by omega)
  refine ⟨⟨a + 1 + (e - (a + 1)), r + 1, tx + (e - (a + 1)), ⟨g1.1, g1.2.1, g1.2.2.1, rfl, g1.2.2.2.2⟩, by omega, by omega, by omega⟩, fun j => ?_⟩
  rw [MS.si_a, g3, MS.sw_a]
  exact g38 j
theorem RR.ends {S S3 : MS} {e r tx a a2 cc : Nat} (k4 : GR S3 e r tx a2) (k5 : ∀ j, S3.a 38 j = S.a 38 j) (ha2 : a < a2) (he : e ≤ 256) (hr : r < 100) (ht : tx ≤ 240 * r) : RR S (f_ends S3 cc r) e r tx a := by
  unfold f_ends
  split
  · rename_i g41
    obtain ⟨⟨a3, tx3, m1, m2, m3, m4⟩, m5⟩ := VR.value (cc := cc) k4 g41 he (by omega) (by omega)
    generalize f_value S3 cc = S4 at m1 m4 m5 ⊢
    by_cases g5 : S4.i 41 = 0
    · rw [if_pos g5]
      exact ⟨⟨a3, r + 1, tx3, ⟨m1.1, m1.2.1, m1.2.2.1, by rw [MS.si_i, if_pos rfl, m1.2.2.2.1]; exact nI_1 r, m1.2.2.2.2⟩, by omega, by omega, by omega⟩, fun j => (m5 j).trans (k5 j)⟩
    · rw [if_neg g5]
      have : tx3 = tx := m4.elim (fun q => absurd q g5) id
      subst this
      exact ⟨⟨a3, r, tx3, ⟨m1.1, m1.2.1, m1.2.2.1, by rw [MS.si_i, if_pos rfl, m1.2.2.2.1, Int32.add_zero], m1.2.2.2.2⟩, by omega, by omega, ht⟩, fun j => (m5 j).trans (k5 j)⟩
  · exact ⟨⟨a2, r, tx, k4, ha2, by omega, ht⟩, k5⟩
theorem RR.ext {S S2 : MS} {e r tx a cc : Nat} {D : Int32} (g : GR S2 e r tx (a + 1)) (g38 : ∀ j, S2.a 38 j = S.a 38 j) (he : e ≤ 256) (hr : r < 100) (ht : tx ≤ 240 * r) : RR S (f_ends (f_vl r 13 (f_dl r 12 S2 D 0) 128 0) cc r) e r tx a := by
  obtain ⟨a1, k1, k2⟩ := GR.dl (r0 := r) 12 D 0 g (by omega)
  have k3 : ∀ j, (f_dl r 12 S2 D 0).a 38 j = S.a 38 j := fun j => (f_dl_38 _ _ _ _ _ _).trans (g38 j)
  generalize f_dl r 12 S2 D 0 = S3 at k2 k3 ⊢
  obtain ⟨a2, k4, k5⟩ := GR.vl (r0 := r) 13 128 0 k2 (by omega)
  exact RR.ends k5 (fun j => (f_vl_38 _ _ _ _ _ _).trans (k3 j)) (by omega) he hr ht
theorem RR.rcd {S : MS} {e r tx a : Nat} (h : GR S e r tx a) (h41 : S.i 41 = 0) (he : e ≤ 256) (ha : 19 ≤ a) (hlt : a < e) (hr : r ≤ 100) (ht : tx ≤ 240 * r) : RR S (f_rcd S) e r tx a := by
  obtain ⟨e1, e2, -⟩ := h.at (by omega)
  have h2 : GR (S.si 40 (nI (a + 1))) e r tx (a + 1) := h.mv rfl (by omega) rfl rfl rfl
  have hk : ∀ S' : MS, GR S' e r tx (a + 1) → (∀ j, S'.a 38 j = S.a 38 j) → RR S S' e r tx a := fun S' g1 g2 => ⟨⟨a + 1, r, tx, g1, by omega, hr, ht⟩, g2⟩
  unfold f_rcd
  dsimp only
  rw [e1, e2, h.r hr, h.tx (by omega)]
  split
  · exact hk _ h2 (fun _ => rfl)
  · split
    · have h3 : GR ((S.si 40 (nI (a + 1))).si 37 1) e r tx (a + 1) := h2.same rfl rfl rfl rfl
      split
      · exact hk _ h3.bl (fun j => (f_bl_a _ _ _ _ _).trans rfl)
      · exact hk _ h3 (fun _ => rfl)
    · split
      · exact hk _ h2.bl (fun j => (f_bl_a _ _ _ _ _).trans rfl)
      · split
        · exact hk _ h2.bl (fun j => (f_bl_a _ _ _ _ _).trans rfl)
        · rename_i h100
          have h4 : ∀ D, GR (f_rec0 (S.si 40 (nI (a + 1))) r D) e r tx (a + 1) := fun D => h2.same rfl rfl rfl rfl
          have h5 : ∀ D j, (f_rec0 (S.si 40 (nI (a + 1))) r D).a 38 j = S.a 38 j := fun D j => by
            unfold f_rec0
            rw [sa_ne (by decide), sa_ne (by decide), sa_ne (by decide), sa_ne (by decide), MS.sw_a, sa_ne (by decide), sa_ne (by decide)]
            rfl
          split
          · exact RR.own (h4 (S.a 38 a)) (h5 (S.a 38 a)) he ha hlt (by omega) ht
          · exact RR.ext (h4 (S.a 38 a)) (h5 (S.a 38 a)) he (by omega) ht
end
section
/-! MeterBusModel: decodeAll, decode. -/
def f_rl : Nat → MS → MS
  | 0, S => S
  | t + 1, S => if S.i 41 = 0 ∧ f_at S < f_e S then f_rl t (f_rcd S) else S
def f_da0 (S : MS) (q n : Nat) : MS := f_cp (((S.si 41 0).si 36 (-1)).si 37 0) 38 q n
def f_da1 (S : MS) (q n : Nat) : MS := if (f_fr (f_da0 S q n) n).1 = true then f_rl 300 ((f_fr (f_da0 S q n) n).2.si 40 19) else (f_fr (f_da0 S q n) n).2
def f_da (S : MS) (q n : Nat) : MS := if 0 < (f_da1 S q n).i 41 then ((f_da1 S q n).si 23 (S.i 23)).si 34 (S.i 34) else f_da1 S q n
section All
variable {w : Wd} {M : MW} {S : MS} {z : Fx} {post : Option Value → MS → Prop}
/-- the loop over the records, from pc 62 -/
theorem da_loop (hW : Wm w M) (C : Cx z RX7 cX7_decodeAll gw) (Y : Mty z M) (E : Ct z w gw yX7_decodeAll (some .int) 4 (40 * 4) (PM M post)) (hn : z.nL = 5) (L : List (Option Value)) (h0 : L[0]? = some (some (.ref M.o))) (R : MS) (kk : X z 0 0 (MA M R) 87 L []) (e : Nat) (he : e ≤ 256) :
    ∀ (t : Nat) (S : MS) (r tx a : Nat), WFd S → GR S e r tx a → 19 ≤ a → r ≤ 100 → tx ≤ 240 * r → e < a + t → f_rl t S = R → X z 0 0 (MA M S) 62 L [] := by
  intro t
  induction t with
  | zero => intro S r tx a _ g _ _ _ h; exact absurd g.2.2.1 (by omega)
  | succ t ih =>
    intro S r tx a hd g ha hr ht hlt hR
    obtain ⟨e1, e2, hp⟩ := g.at (by omega)
    have c40 : nI e ≤ nI a ↔ ¬ a < e := by have := g.2.2.1; rw [nI_leI (by omega) (by omega)]; omega
    rw [f_rl, e1, e2] at hR
    by_cases h1 : S.i 41 = 0 ∧ a < e
    · rw [if_pos h1] at hR
      have ho := s_oneRecord hW hp hd (by omega) (by rw [g.r hr]; exact g.2.2.2.1) (by rw [g.r hr]; exact hr) (by rw [g.tx (by omega)]; exact g.2.2.2.2) (by rw [g.r hr, g.tx (by omega)]; omega) h1.1
      obtain ⟨⟨a1, r1, tx1, g1, g2, g3, g4⟩, g5⟩ := RR.rcd g h1.1 he ha h1.2 hr ht
      have ih2 := ih (f_rcd S) r1 tx1 a1 (hd.same g5) g1 (by omega) g3 g4 (by omega) hR
      refine x_aload_n C dX7_decodeAll_62 h0 ?_
      refine m_get C Y 41 (by decide) (by decide) wf_X7_204 dX7_decodeAll_63 ?_
      refine x_if_ne (tgt := 87) C dX7_decodeAll_66 (by decide) (fun c66 => absurd c66 (not_not_intro h1.1)) (fun c66 => ?_)
      refine x_aload_n C dX7_decodeAll_69 h0 ?_
      refine m_get C Y 40 (by decide) (by decide) wf_X7_221 dX7_decodeAll_70 ?_
      refine x_aload_n C dX7_decodeAll_73 h0 ?_
      refine m_get C Y 39 (by decide) (by decide) wf_X7_215 dX7_decodeAll_74 ?_
      rw [g.1, g.2.1]
      refine x_icmp_ge (tgt := 87) C dX7_decodeAll_77 (by decide) (fun c77 => absurd c77 (fun q => c40.mp q h1.2)) (fun c77 => ?_)
      refine x_aload_n C dX7_decodeAll_80 h0 ?_
      refine m_callF C Y hW E (ho) rfl md_X7_oneRecord wi_X7_oneRecord ws_X7_oneRecord wm_X7_224 dX7_decodeAll_81 rfl (by decide) (by decide) rfl (by simp [Value.category]) ?_
      refine x_goto (tgt := 62) C dX7_decodeAll_84 (by decide) ?_
      exact ih2
    · rw [if_neg h1] at hR
      subst hR
      refine x_aload_n C dX7_decodeAll_62 h0 ?_
      refine m_get C Y 41 (by decide) (by decide) wf_X7_204 dX7_decodeAll_63 ?_
      refine x_if_ne (tgt := 87) C dX7_decodeAll_66 (by decide) (fun c66 => ?_) (fun c66 => ?_)
      · skip
        exact kk
      · skip
        refine x_aload_n C dX7_decodeAll_69 h0 ?_
        refine m_get C Y 40 (by decide) (by decide) wf_X7_221 dX7_decodeAll_70 ?_
        refine x_aload_n C dX7_decodeAll_73 h0 ?_
        refine m_get C Y 39 (by decide) (by decide) wf_X7_215 dX7_decodeAll_74 ?_
        rw [g.1, g.2.1]
        refine x_icmp_ge (tgt := 87) C dX7_decodeAll_77 (by decide) (fun c77 => ?_) (fun c77 => ?_)
        · skip
          exact kk
        · skip
          exact absurd ⟨c66, Classical.not_not.mp (fun q => c77 (c40.mpr q))⟩ h1
theorem f_bl_41 {S : MS} {x y : Int32} (h : S.i 41 = 0) : (f_bl S x y).i 41 = x := by unfold f_bl; rw [if_pos h, MS.si_i, if_neg (by decide), MS.si_i, if_pos rfl]
theorem f_ids_t (L : Nat) : ∀ (t k : Nat), (f_ids S L t k).1 = true → (f_ids S L t k).2 = S.si 39 (nI (L + 4))
  | 0, _, _ => rfl
  | t + 1, k, h => by
    unfold f_ids at h ⊢
    split at h
    · exact nomatch h
    · rename_i g
      rw [if_neg g]
      exact f_ids_t L t (k + 1) h
theorem f_fr_t {n : Nat} (h : (f_fr S n).1 = true) : ∃ L, 15 ≤ L ∧ L ≤ 252 ∧ n = L + 6 ∧ (f_fr S n).2 = S.si 39 (nI (L + 4)) := by
  unfold f_fr at h ⊢
  split at h
  · rename_i h0
    rw [if_pos h0]
    split at h
    · rename_i h1
      rw [if_pos h1]
      obtain ⟨l1, l2, l3⟩ := f_L_of h1
      split at h
      · rename_i h2
        rw [if_pos h2]
        split at h
        · rename_i h3
          rw [if_pos h3]
          unfold f_fr2 at h ⊢
          split at h
          · rename_i h4
            rw [if_pos h4]
            split at h
            · rename_i h5
              rw [if_pos h5]
              split at h
              · rename_i h6
                rw [if_pos h6]
                split at h
                · rename_i h7
                  rw [if_pos h7]
                  unfold f_fr3 at h ⊢
                  split at h
                  · rename_i h8
                    rw [if_pos h8]
                    exact ⟨f_L S, l1, l2, h4, f_ids_t (f_L S) 4 7 h⟩
                  · exact nomatch h
                · exact nomatch h
              · exact nomatch h
            · exact nomatch h
          · exact nomatch h
        · exact nomatch h
      · exact nomatch h
    · exact nomatch h
  · exact nomatch h
theorem s_decodeAll (hW : Wm w M) (q n r tx : Nat) (hq : m_kd q = 1) (hq3 : m_len q = 300) (hq38 : q ≠ 38) (hn3 : n ≤ 300) (hd : WFd S) (hb : ∀ j, j < n → ∃ b, b < 256 ∧ S.a q j = nI b) (hr : S.i 23 = nI r) (hr1 : r ≤ 100) (ht : S.i 34 = nI tx) (ht1 : tx ≤ 240 * r) : TF w M yX7_decodeAll cX7_decodeAll 5 (some .int) 4 [.ref (M.ad q), .int (nI n)] S (some (.int ((f_da1 S q n).i 41))) (f_da S q n) := by
  refine TM.intro hW rfl (Nat.le_of_ble_eq_true rfl) (fun z C Y E hn => ?_)
  generalize hS0 : ((S.si 41 0).si 36 (-1)).si 37 0 = S0
  have hdq : ∀ j, S0.a q j = S.a q j := fun j => by rw [← hS0]; rfl
  have hd0 : WFd (f_da0 S q n) := by
    intro j hj
    unfold f_da0
    rw [hS0, f_cp_eq]
    split
    · rename_i g; rw [hdq]; exact hb j g
    · rw [← hS0]; exact hd j hj
  have i23 : (f_da0 S q n).i 23 = nI r := by unfold f_da0; rw [f_cp_i]; exact hr
  have i34 : (f_da0 S q n).i 34 = nI tx := by unfold f_da0; rw [f_cp_i]; exact ht
  have T87 : X z 0 0 (MA M (f_da1 S q n)) 87 [some (.ref M.o), some (.ref (M.ad q)), some (.int (nI n)), some (.int (nI r)), some (.int (nI tx))] [] := by
    unfold f_da at E
    rw [hr, ht] at E
    generalize f_da1 S q n = S3 at E ⊢
    by_cases h1 : 0 < S3.i 41
    · rw [if_pos h1] at E
      refine x_aload_n C dX7_decodeAll_87 rfl ?_
      refine m_get C Y 41 (by decide) (by decide) wf_X7_204 dX7_decodeAll_88 ?_
      refine x_if_le (tgt := 105) C dX7_decodeAll_91 (by decide) (fun c91 => absurd c91 (Int32.not_le.mpr h1)) (fun c91 => ?_)
      refine x_aload_n C dX7_decodeAll_94 rfl ?_
      refine x_iload_n C dX7_decodeAll_95 rfl ?_
      refine m_put C Y hW.2.1 23 (by decide) (by decide) rfl rfl rfl wf_X7_190 dX7_decodeAll_96 ?_
      refine x_aload_n C dX7_decodeAll_99 rfl ?_
      refine x_iload C dX7_decodeAll_100 rfl ?_
      refine m_put C Y hW.2.1 34 (by decide) (by decide) rfl rfl rfl wf_X7_193 dX7_decodeAll_102 ?_
      refine x_aload_n C dX7_decodeAll_105 rfl ?_
      refine m_get C Y 41 (by decide) (by decide) wf_X7_204 dX7_decodeAll_106 ?_
      refine m_iret C E dX7_decodeAll_109 ?_
      exact ⟨rfl, rfl⟩
    · rw [if_neg h1] at E
      refine x_aload_n C dX7_decodeAll_87 rfl ?_
      refine m_get C Y 41 (by decide) (by decide) wf_X7_204 dX7_decodeAll_88 ?_
      refine x_if_le (tgt := 105) C dX7_decodeAll_91 (by decide) (fun c91 => ?_) (fun c91 => absurd c91 (not_not_intro (Int32.not_lt.mp h1)))
      refine x_aload_n C dX7_decodeAll_105 rfl ?_
      refine m_get C Y 41 (by decide) (by decide) wf_X7_204 dX7_decodeAll_106 ?_
      refine m_iret C E dX7_decodeAll_109 ?_
      exact ⟨rfl, rfl⟩
  have T37 : X z 0 0 (MA M (f_da0 S q n)) 37 [some (.ref M.o), some (.ref (M.ad q)), some (.int (nI n)), some (.int (nI n)), none] [] := by
    unfold f_da1 at T87
    generalize f_da0 S q n = S1 at T87 hd0 i23 i34 ⊢
    have hf := s_isFrame (S := S1) hW n hn3
    by_cases h1 : (f_fr S1 n).1 = true
    · rw [if_pos h1] at T87
      obtain ⟨L, l1, l2, l3, l4⟩ := f_fr_t h1
      rw [bI_t h1, l4] at hf
      rw [l4] at T87
      have g : GR ((S1.si 39 (nI (L + 4))).si 40 19) (L + 4) r tx 19 := ⟨rfl, rfl, by omega, i23, i34⟩
      have LP := da_loop hW C Y E hn _ rfl _ T87 (L + 4) (by omega) 300 ((S1.si 39 (nI (L + 4))).si 40 19) r tx 19 (hd0.same (fun _ => rfl)) g (by decide) hr1 ht1 (by omega) rfl
      refine x_aload_n C dX7_decodeAll_37 rfl ?_
      refine m_get C Y 23 (by decide) (by decide) wf_X7_190 dX7_decodeAll_38 ?_
      rw [i23]
      refine x_istore_nE (L' := [some _, some _, some _, some _, none]) C dX7_decodeAll_41 (by rw [hn]; decide) rfl ?_
      refine x_aload_n C dX7_decodeAll_42 rfl ?_
      refine m_get C Y 34 (by decide) (by decide) wf_X7_193 dX7_decodeAll_43 ?_
      rw [i34]
      refine x_istoreE (L' := [some _, some _, some _, some _, some _]) C dX7_decodeAll_46 (by rw [hn]; decide) rfl ?_
      refine x_aload_n C dX7_decodeAll_48 rfl ?_
      refine x_iload_n C dX7_decodeAll_49 rfl ?_
      refine m_callF C Y hW E (hf) rfl md_X7_isFrame wi_X7_isFrame ws_X7_isFrame wm_X7_218 dX7_decodeAll_50 rfl (by decide) (by decide) rfl (by simp [Value.category]) ?_
      refine x_if_eq (tgt := 87) C dX7_decodeAll_53 (by decide) (fun c53 => absurd c53 (by decide)) (fun c53 => ?_)
      refine x_aload_n C dX7_decodeAll_56 rfl ?_
      refine x_bipush (v := 19) C dX7_decodeAll_57 (by decide) ?_
      refine m_put C Y hW.2.1 40 (by decide) (by decide) rfl rfl rfl wf_X7_221 dX7_decodeAll_59 ?_
      exact LP
    · rw [if_neg h1] at T87
      rw [bI_f h1] at hf
      refine x_aload_n C dX7_decodeAll_37 rfl ?_
      refine m_get C Y 23 (by decide) (by decide) wf_X7_190 dX7_decodeAll_38 ?_
      rw [i23]
      refine x_istore_nE (L' := [some _, some _, some _, some _, none]) C dX7_decodeAll_41 (by rw [hn]; decide) rfl ?_
      refine x_aload_n C dX7_decodeAll_42 rfl ?_
      refine m_get C Y 34 (by decide) (by decide) wf_X7_193 dX7_decodeAll_43 ?_
      rw [i34]
      refine x_istoreE (L' := [some _, some _, some _, some _, some _]) C dX7_decodeAll_46 (by rw [hn]; decide) rfl ?_
      refine x_aload_n C dX7_decodeAll_48 rfl ?_
      refine x_iload_n C dX7_decodeAll_49 rfl ?_
      refine m_callF C Y hW E (hf) rfl md_X7_isFrame wi_X7_isFrame ws_X7_isFrame wm_X7_218 dX7_decodeAll_50 rfl (by decide) (by decide) rfl (by simp [Value.category]) ?_
      refine x_if_eq (tgt := 87) C dX7_decodeAll_53 (by decide) (fun c53 => ?_) (fun c53 => absurd c53 (not_not_intro rfl))
      exact T87
  have LC : ∀ (t b : Nat), b + t = n → X z 0 0 (MA M (f_cp S0 38 q b)) 17 [some (.ref M.o), some (.ref (M.ad q)), some (.int (nI n)), some (.int (nI b)), none] [] := by
    intro t
    induction t with
    | zero =>
      intro b hb
      obtain rfl : b = n := by omega
      unfold f_da0 at T37
      rw [hS0] at T37
      refine x_iload_n C dX7_decodeAll_17 rfl ?_
      refine x_iload_n C dX7_decodeAll_18 rfl ?_
      refine x_icmp_ge (tgt := 37) C dX7_decodeAll_19 (by decide) (fun c19 => ?_) (fun c19 => absurd c19 (not_not_intro (Int32.le_refl _)))
      exact T37
    | succ t ih =>
      intro b hb
      have ih2 := ih (b + 1) (by omega)
      refine x_iload_n C dX7_decodeAll_17 rfl ?_
      refine x_iload_n C dX7_decodeAll_18 rfl ?_
      refine x_icmp_ge (tgt := 37) C dX7_decodeAll_19 (by decide) (fun c19 => absurd c19 (nI_ge (show b < n by omega) (by omega))) (fun c19 => ?_)
      refine x_aload_n C dX7_decodeAll_22 rfl ?_
      refine m_getA C Y 38 (by decide) (by decide) wf_X7_94 dX7_decodeAll_23 ?_
      refine x_iload_n C dX7_decodeAll_26 rfl ?_
      refine x_aload_n C dX7_decodeAll_27 rfl ?_
      refine x_iload_n C dX7_decodeAll_28 rfl ?_
      refine m_ildN C Y q (b) hq dX7_decodeAll_29 (by simp only [nI_lit, nI_add, pk_mul]) (by rw [hq3]; omega) ?_
      rw [f_cp_ne _ _ hq38]
      refine m_istN C Y hW.2.1 38 (b) (by decide) dX7_decodeAll_30 (by simp only [nI_lit, nI_add, pk_mul]) (by simp only [m_len]; omega) ?_
      refine x_iincE (v := nI (b + 1)) (L' := [some _, some _, some _, some _, none]) C dX7_decodeAll_31 rfl (nI_1 b) (by rw [hn]; decide) rfl ?_
      refine x_goto (tgt := 17) C dX7_decodeAll_34 (by decide) ?_
      exact ih2
  refine x_aload_n C dX7_decodeAll_0 rfl ?_
  refine x_iconst (v := 0) C dX7_decodeAll_1 (by decide) ?_
  refine m_put C Y hW.2.1 41 (by decide) (by decide) rfl rfl rfl wf_X7_204 dX7_decodeAll_2 ?_
  refine x_aload_n C dX7_decodeAll_5 rfl ?_
  refine x_iconst (v := (-1)) C dX7_decodeAll_6 (by decide) ?_
  refine m_put C Y hW.2.1 36 (by decide) (by decide) rfl rfl rfl wf_X7_90 dX7_decodeAll_7 ?_
  refine x_aload_n C dX7_decodeAll_10 rfl ?_
  refine x_iconst (v := 0) C dX7_decodeAll_11 (by decide) ?_
  refine m_put C Y hW.2.1 37 (by decide) (by decide) rfl (by decide) (by decide) wf_X7_200 dX7_decodeAll_12 ?_
  refine x_iconst (v := 0) C dX7_decodeAll_15 (by decide) ?_
  refine x_istore_nE (L' := [some _, some _, some _, some _, none]) C dX7_decodeAll_16 (by rw [hn]; decide) rfl ?_
  rw [hS0]; exact LC n 0 (by omega)
def f_decode (S : MS) (n : Nat) : MS := f_da (S.si 0 0) 1 n
theorem s_decode (hW : Wm w M) (n r tx : Nat) (h2 : S.i 2 = nI n) (hn3 : n ≤ 300) (hd : WFd S) (hb : ∀ j, j < n → ∃ b, b < 256 ∧ S.a 1 j = nI b) (hr : S.i 23 = nI r) (hr1 : r ≤ 100) (ht : S.i 34 = nI tx) (ht1 : tx ≤ 240 * r) : TF w M yX7_decode cX7_decode 2 (some .int) 5 [] S (some (.int (if 0 < (f_da1 (S.si 0 0) 1 n).i 41 then -(f_da1 (S.si 0 0) 1 n).i 41 else (f_decode S n).i 23))) (f_decode S n) := by
  refine TM.intro hW rfl (Nat.le_of_ble_eq_true rfl) (fun z C Y E hn => ?_)
  have hx := s_decodeAll (S := S.si 0 0) hW 1 n r tx rfl rfl (by decide) hn3 hd hb hr hr1 ht ht1
  unfold f_decode at E
  generalize f_da (S.si 0 0) 1 n = S2 at E hx
  generalize (f_da1 (S.si 0 0) 1 n).i 41 = v at E hx
  refine x_aload_n C dX7_decode_0 rfl ?_
  refine x_iconst (v := 0) C dX7_decode_1 (by decide) ?_
  refine m_put C Y hW.2.1 0 (by decide) (by decide) rfl rfl rfl wf_X7_97 dX7_decode_2 ?_
  refine x_aload_n C dX7_decode_5 rfl ?_
  refine x_aload_n C dX7_decode_6 rfl ?_
  refine m_getA C Y 1 (by decide) (by decide) wf_X7_7 dX7_decode_7 ?_
  refine x_aload_n C dX7_decode_10 rfl ?_
  refine m_get C Y 2 (by decide) (by decide) wf_X7_104 dX7_decode_11 ?_
  rw [show (S.si 0 0).i 2 = nI n from h2]
  refine m_callF C Y hW E (hx) rfl md_X7_decodeAll wi_X7_decodeAll ws_X7_decodeAll wm_X7_196 dX7_decode_14 rfl (by decide) (by decide) rfl (by simp [Value.category]) ?_
  refine x_istore_nE (L' := [some _, some _]) C dX7_decode_17 (by rw [hn]; decide) rfl ?_
  refine x_iload_n C dX7_decode_18 rfl ?_
  refine x_if_le (tgt := 27) C dX7_decode_19 (by decide) (fun c19 => ?_) (fun c19 => ?_)
  · skip
    refine x_aload_n C dX7_decode_27 rfl ?_
    refine m_get C Y 23 (by decide) (by decide) wf_X7_190 dX7_decode_28 ?_
    refine m_iret C E dX7_decode_31 ?_
    first | exact ⟨congrArg (fun t => some (Value.int t)) (if_neg (Int32.not_lt.mpr c19)).symm, rfl⟩ | exact ⟨congrArg (fun t => some (Value.int t)) (if_pos (Int32.not_le.mp c19)).symm, rfl⟩
  · skip
    refine x_iload_n C dX7_decode_22 rfl ?_
    refine x_ineg C dX7_decode_23 ?_
    refine x_goto (tgt := 31) C dX7_decode_24 (by decide) ?_
    refine m_iret C E dX7_decode_31 ?_
    first | exact ⟨congrArg (fun t => some (Value.int t)) (if_neg (Int32.not_lt.mpr c19)).symm, rfl⟩ | exact ⟨congrArg (fun t => some (Value.int t)) (if_pos (Int32.not_le.mp c19)).symm, rfl⟩
end All
end
section
/-! MeterBusModel: readOut, over any invariant I that its steps keep. -/
def f_rm (S : MS) (k : Nat) : Nat → MS
  | 0 => S
  | n + 1 => (f_rm S k n).sa 19 n (S.a 21 (8 * k + n))
theorem f_rm_a (S : MS) (k n : Nat) {q j : Nat} (h : q ≠ 19) : (f_rm S k n).a q j = S.a q j := by
  induction n with
  | zero => rfl
  | succ n ih => rw [f_rm, sa_ne h, ih]
def f_roC (q : Nat) : Int32 := if q % 2 = 0 then 123 else 91
def f_ro : Nat → Nat → MS → Int32 × MS
  | 0, _, S => (S.i 23, S)
  | t + 1, q, S =>
    if (f_putS S (f_roC q)).i 7 = 1 then
      (if 0 < (f_da1 (f_putS S (f_roC q)) 5 (f_m (f_putS S (f_roC q)))).i 41 then (-2 - (f_da1 (f_putS S (f_roC q)) 5 (f_m (f_putS S (f_roC q)))).i 41, ((f_da (f_putS S (f_roC q)) 5 (f_m (f_putS S (f_roC q)))).si 23 0).si 34 0)
       else if (f_da (f_putS S (f_roC q)) 5 (f_m (f_putS S (f_roC q)))).i 37 = 0 then ((f_da (f_putS S (f_roC q)) 5 (f_m (f_putS S (f_roC q)))).i 23, f_da (f_putS S (f_roC q)) 5 (f_m (f_putS S (f_roC q))))
       else f_ro t (q + 1) (f_da (f_putS S (f_roC q)) 5 (f_m (f_putS S (f_roC q)))))
    else (-1, ((f_putS S (f_roC q)).si 23 0).si 34 0)
def f_ro0 (S : MS) (k : Nat) : MS := f_putM (f_rm ((((S.si 0 0).si 23 0).si 34 0).si 36 (-1)) k 8)
def f_readOut (S : MS) (k : Nat) : Int32 × MS := if (f_ro0 S k).i 7 = 1 then f_ro 10 0 (f_putM (f_putS (f_ro0 S k) 64)) else (-1, f_ro0 S k)
/-- what an invariant must give for reading out -/
def IR (I : MS → Prop) : Prop := (∀ S, I S → WFa S ∧ WFd S ∧ ∃ r tx, S.i 23 = nI r ∧ r ≤ 100 ∧ S.i 34 = nI tx ∧ tx ≤ 240 * r) ∧ (∀ S c, I S → (∃ b : Nat, b < 256 ∧ c = nI b) → I (f_putS S c)) ∧ (∀ S, I S → I (f_putM S)) ∧ (∀ S n, I S → n ≤ 300 → I (f_da S 5 n)) ∧ ∀ S j, I S → ∃ b, b < 256 ∧ S.a 5 j = nI b
section ReadOut
variable {w : Wd} {M : MW} {S : MS} {z : Fx}
theorem s_readOut_f (hW : Wm w M) (k : Int32) (hp : ¬ ((0 : Int32) ≤ k ∧ k ≤ S.i 20 - 1)) : TF w M yX7_readOut cX7_readOut 4 (some .int) 5 [.int k] S (some (.int 0)) (S.si 0 1) := by
  refine TM.intro hW rfl (Nat.le_of_ble_eq_true rfl) (fun z C Y E hn => ?_)
  have hf := s_fails1 (S := S) hW ((0 : Int32) ≤ k ∧ k ≤ S.i 20 - 1)
  rw [bI_t hp] at hf
  refine x_aload_n C dX7_readOut_0 rfl ?_
  refine x_iload_n C dX7_readOut_1 rfl ?_
  refine x_iconst (v := 0) C dX7_readOut_2 (by decide) ?_
  refine x_aload_n C dX7_readOut_3 rfl ?_
  refine m_get C Y 20 (by decide) (by decide) wf_X7_175 dX7_readOut_4 ?_
  refine x_iconst (v := 1) C dX7_readOut_7 (by decide) ?_
  refine x_isub C dX7_readOut_8 ?_
  refine m_callSF C hW E (s_in _ _ _) md_X7_in wt_X7_in wm_X7_100 dX7_readOut_9 rfl (by decide) (by decide) rfl (by simp [Value.category]) ?_
  refine x_iconst (v := 1) C dX7_readOut_12 (by decide) ?_
  refine m_callF C Y hW E (hf) rfl md_X7_fails wi_X7_fails ws_X7_fails wm_X7_107 dX7_readOut_13 rfl (by decide) (by decide) rfl (by simp [Value.category]) ?_
  refine x_if_eq (tgt := 21) C dX7_readOut_16 (by decide) (fun c16 => absurd c16 (by decide)) (fun c16 => ?_)
  refine x_iconst (v := 0) C dX7_readOut_19 (by decide) ?_
  refine m_iret C E dX7_readOut_20 ?_
  exact ⟨rfl, rfl⟩
theorem ro_loop (hW : Wm w M) {I : MS → Prop} (hI : IR I) (k : Nat) {R : Int32 × MS} (C : Cx z RX7 cX7_readOut gw) (Y : Mty z M) (E : Ct z w gw yX7_readOut (some .int) 5 (40 * 5) (PM M (fun q Q => q = some (.int R.1) ∧ Q = R.2))) (hn : z.nL = 4) :
    ∀ (t q : Nat) (S : MS) (l3 : Option Value), q + t = 10 → I S → f_ro t q S = R → X z 0 0 (MA M S) 93 [some (.ref M.o), some (.int (nI k)), some (.int (nI q)), l3] [] := by
  intro t
  induction t with
  | zero =>
    intro q S l3 hq hS e
    obtain rfl : q = 10 := by omega
    subst e
    refine x_iload_n C dX7_readOut_93 rfl ?_
    refine x_bipush (v := 10) C dX7_readOut_94 (by decide) ?_
    refine x_icmp_ge (tgt := 186) C dX7_readOut_96 (by decide) (fun c96 => ?_) (fun c96 => absurd c96 (by decide))
    refine x_aload_n C dX7_readOut_186 rfl ?_
    refine m_get C Y 23 (by decide) (by decide) wf_X7_190 dX7_readOut_187 ?_
    refine m_iret C E dX7_readOut_190 ?_
    exact ⟨rfl, rfl⟩
  | succ t ih =>
    intro q S l3 hq hS e
    rw [f_ro] at e
    have hw := hI.1 S hS
    have hs := s_putShort (S := S) hW hw.1 (f_roC q)
    have hS1 := hI.2.1 S (f_roC q) hS (by unfold f_roC; split; exact ⟨123, by decide, rfl⟩; exact ⟨91, by decide, rfl⟩)
    obtain ⟨m1, m2⟩ := (AO.bus (S := f_putS0 S (f_roC q)) hw.1.putS0 5).m
    have m1 : f_m (f_putS S (f_roC q)) ≤ 300 := m1
    have m2 : (f_putS S (f_roC q)).i 6 = nI (f_m (f_putS S (f_roC q))) := m2
    have er : nI q - nI q / 2 * 2 = nI (q % 2) := by rw [show (2 : Int32) = nI 2 from rfl, pk_rem (by omega) (by decide) (by decide)]
    have er0 : nI (q % 2) = 0 ↔ q % 2 = 0 := by rw [show (0 : Int32) = nI 0 from rfl, nI_eq (by omega) (by omega)]
    have T113 : ∀ cv : Int32, cv = f_roC q → X z 0 0 (MA M S) 113 [some (.ref M.o), some (.int (nI k)), some (.int (nI q)), l3] [.int cv, .ref M.o] := by
      intro cv ec
      subst ec
      have T116 : X z 0 0 (MA M (f_putS S (f_roC q))) 116 [some (.ref M.o), some (.int (nI k)), some (.int (nI q)), l3] [] := by
        generalize f_putS S (f_roC q) = S1 at e hS1 m1 m2 ⊢
        generalize f_m S1 = n at e m1 m2
        by_cases h1 : S1.i 7 = 1
        · rw [if_pos h1] at e
          obtain ⟨w1, w2, r, tx, w3, w4, w5, w6⟩ := hI.1 S1 hS1
          have hd := s_decodeAll (S := S1) hW 5 n r tx rfl rfl (by decide) m1 w2 (fun j _ => hI.2.2.2.2 S1 j hS1) w3 w4 w5 w6
          have hS2 := hI.2.2.2.1 S1 n hS1 m1
          generalize f_da S1 5 n = S2 at e hd hS2
          generalize (f_da1 S1 5 n).i 41 = v at e hd
          by_cases h2 : 0 < v
          · rw [if_pos h2] at e
            subst e
            refine x_aload_n C dX7_readOut_116 rfl ?_
            refine m_get C Y 7 (by decide) (by decide) wf_X7_132 dX7_readOut_117 ?_
            refine x_iconst (v := 1) C dX7_readOut_120 (by decide) ?_
            refine x_icmp_eq (tgt := 136) C dX7_readOut_121 (by decide) (fun c121 => ?_) (fun c121 => absurd c121 (not_not_intro h1))
            refine x_aload_n C dX7_readOut_136 rfl ?_
            refine x_aload_n C dX7_readOut_137 rfl ?_
            refine m_getA C Y 5 (by decide) (by decide) wf_X7_16 dX7_readOut_138 ?_
            refine x_aload_n C dX7_readOut_141 rfl ?_
            refine m_get C Y 6 (by decide) (by decide) wf_X7_135 dX7_readOut_142 ?_
            rw [m2]
            refine m_callF C Y hW E (hd) rfl md_X7_decodeAll wi_X7_decodeAll ws_X7_decodeAll wm_X7_196 dX7_readOut_145 rfl (by decide) (by decide) rfl (by simp [Value.category]) ?_
            refine x_istore_nE (L' := [some _, some _, some _, some _]) C dX7_readOut_148 (by rw [hn]; decide) rfl ?_
            refine x_iload_n C dX7_readOut_149 rfl ?_
            refine x_if_le (tgt := 168) C dX7_readOut_150 (by decide) (fun c150 => absurd c150 (Int32.not_le.mpr h2)) (fun c150 => ?_)
            refine x_aload_n C dX7_readOut_153 rfl ?_
            refine x_iconst (v := 0) C dX7_readOut_154 (by decide) ?_
            refine m_put C Y hW.2.1 23 (by decide) (by decide) rfl rfl rfl wf_X7_190 dX7_readOut_155 ?_
            refine x_aload_n C dX7_readOut_158 rfl ?_
            refine x_iconst (v := 0) C dX7_readOut_159 (by decide) ?_
            refine m_put C Y hW.2.1 34 (by decide) (by decide) rfl rfl rfl wf_X7_193 dX7_readOut_160 ?_
            refine x_bipush (v := (-2)) C dX7_readOut_163 (by decide) ?_
            refine x_iload_n C dX7_readOut_165 rfl ?_
            refine x_isub C dX7_readOut_166 ?_
            refine m_iret C E dX7_readOut_167 ?_
            exact ⟨rfl, rfl⟩
          · rw [if_neg h2] at e
            by_cases h3 : S2.i 37 = 0
            · rw [if_pos h3] at e
              subst e
              refine x_aload_n C dX7_readOut_116 rfl ?_
              refine m_get C Y 7 (by decide) (by decide) wf_X7_132 dX7_readOut_117 ?_
              refine x_iconst (v := 1) C dX7_readOut_120 (by decide) ?_
              refine x_icmp_eq (tgt := 136) C dX7_readOut_121 (by decide) (fun c121 => ?_) (fun c121 => absurd c121 (not_not_intro h1))
              refine x_aload_n C dX7_readOut_136 rfl ?_
              refine x_aload_n C dX7_readOut_137 rfl ?_
              refine m_getA C Y 5 (by decide) (by decide) wf_X7_16 dX7_readOut_138 ?_
              refine x_aload_n C dX7_readOut_141 rfl ?_
              refine m_get C Y 6 (by decide) (by decide) wf_X7_135 dX7_readOut_142 ?_
              rw [m2]
              refine m_callF C Y hW E (hd) rfl md_X7_decodeAll wi_X7_decodeAll ws_X7_decodeAll wm_X7_196 dX7_readOut_145 rfl (by decide) (by decide) rfl (by simp [Value.category]) ?_
              refine x_istore_nE (L' := [some _, some _, some _, some _]) C dX7_readOut_148 (by rw [hn]; decide) rfl ?_
              refine x_iload_n C dX7_readOut_149 rfl ?_
              refine x_if_le (tgt := 168) C dX7_readOut_150 (by decide) (fun c150 => ?_) (fun c150 => absurd c150 (not_not_intro (Int32.not_lt.mp h2)))
              refine x_aload_n C dX7_readOut_168 rfl ?_
              refine m_get C Y 37 (by decide) (by decide) wf_X7_200 dX7_readOut_169 ?_
              refine x_if_ne (tgt := 180) C dX7_readOut_172 (by decide) (fun c172 => absurd c172 (not_not_intro h3)) (fun c172 => ?_)
              refine x_aload_n C dX7_readOut_175 rfl ?_
              refine m_get C Y 23 (by decide) (by decide) wf_X7_190 dX7_readOut_176 ?_
              refine m_iret C E dX7_readOut_179 ?_
              exact ⟨rfl, rfl⟩
            · rw [if_neg h3] at e
              have ih2 := ih (q + 1) S2 (some (.int v)) (by omega) hS2 e
              refine x_aload_n C dX7_readOut_116 rfl ?_
              refine m_get C Y 7 (by decide) (by decide) wf_X7_132 dX7_readOut_117 ?_
              refine x_iconst (v := 1) C dX7_readOut_120 (by decide) ?_
              refine x_icmp_eq (tgt := 136) C dX7_readOut_121 (by decide) (fun c121 => ?_) (fun c121 => absurd c121 (not_not_intro h1))
              refine x_aload_n C dX7_readOut_136 rfl ?_
              refine x_aload_n C dX7_readOut_137 rfl ?_
              refine m_getA C Y 5 (by decide) (by decide) wf_X7_16 dX7_readOut_138 ?_
              refine x_aload_n C dX7_readOut_141 rfl ?_
              refine m_get C Y 6 (by decide) (by decide) wf_X7_135 dX7_readOut_142 ?_
              rw [m2]
              refine m_callF C Y hW E (hd) rfl md_X7_decodeAll wi_X7_decodeAll ws_X7_decodeAll wm_X7_196 dX7_readOut_145 rfl (by decide) (by decide) rfl (by simp [Value.category]) ?_
              refine x_istore_nE (L' := [some _, some _, some _, some _]) C dX7_readOut_148 (by rw [hn]; decide) rfl ?_
              refine x_iload_n C dX7_readOut_149 rfl ?_
              refine x_if_le (tgt := 168) C dX7_readOut_150 (by decide) (fun c150 => ?_) (fun c150 => absurd c150 (not_not_intro (Int32.not_lt.mp h2)))
              refine x_aload_n C dX7_readOut_168 rfl ?_
              refine m_get C Y 37 (by decide) (by decide) wf_X7_200 dX7_readOut_169 ?_
              refine x_if_ne (tgt := 180) C dX7_readOut_172 (by decide) (fun c172 => ?_) (fun c172 => absurd c172 (fun q => h3 q))
              refine x_iincE (v := nI (q + 1)) (L' := [some _, some _, some _, some _]) C dX7_readOut_180 rfl (nI_1 q) (by rw [hn]; decide) rfl ?_
              refine x_goto (tgt := 93) C dX7_readOut_183 (by decide) ?_
              exact ih2
        · rw [if_neg h1] at e
          subst e
          refine x_aload_n C dX7_readOut_116 rfl ?_
          refine m_get C Y 7 (by decide) (by decide) wf_X7_132 dX7_readOut_117 ?_
          refine x_iconst (v := 1) C dX7_readOut_120 (by decide) ?_
          refine x_icmp_eq (tgt := 136) C dX7_readOut_121 (by decide) (fun c121 => absurd c121 (fun q => h1 q)) (fun c121 => ?_)
          refine x_aload_n C dX7_readOut_124 rfl ?_
          refine x_iconst (v := 0) C dX7_readOut_125 (by decide) ?_
          refine m_put C Y hW.2.1 23 (by decide) (by decide) rfl rfl rfl wf_X7_190 dX7_readOut_126 ?_
          refine x_aload_n C dX7_readOut_129 rfl ?_
          refine x_iconst (v := 0) C dX7_readOut_130 (by decide) ?_
          refine m_put C Y hW.2.1 34 (by decide) (by decide) rfl rfl rfl wf_X7_193 dX7_readOut_131 ?_
          refine x_iconst (v := (-1)) C dX7_readOut_134 (by decide) ?_
          refine m_iret C E dX7_readOut_135 ?_
          exact ⟨rfl, rfl⟩
      refine m_callF C Y hW E (hs) rfl md_X7_putShort wi_X7_putShort ws_X7_putShort wm_X7_187 dX7_readOut_113 rfl (by decide) (by decide) rfl (by simp [Value.category]) ?_
      exact T116
    refine x_iload_n C dX7_readOut_93 rfl ?_
    refine x_bipush (v := 10) C dX7_readOut_94 (by decide) ?_
    refine x_icmp_ge (tgt := 186) C dX7_readOut_96 (by decide) (fun c96 => absurd c96 (by rw [nI_lit]; exact nI_ge (show q < 10 by omega) (by decide))) (fun c96 => ?_)
    refine x_aload_n C dX7_readOut_99 rfl ?_
    refine x_iload_n C dX7_readOut_100 rfl ?_
    refine x_iconst (v := 2) C dX7_readOut_101 (by decide) ?_
    refine x_irem C dX7_readOut_102 (by decide) ?_
    rw [er]
    refine x_if_ne (tgt := 111) C dX7_readOut_103 (by decide) (fun c103 => ?_) (fun c103 => ?_)
    · skip
      refine x_bipush (v := 91) C dX7_readOut_111 (by decide) ?_
      first | exact T113 _ (if_pos (er0.mp c103)).symm | exact T113 _ (if_neg (fun u => c103 (er0.mpr u))).symm
    · skip
      refine x_bipush (v := 123) C dX7_readOut_106 (by decide) ?_
      refine x_goto (tgt := 113) C dX7_readOut_108 (by decide) ?_
      first | exact T113 _ (if_pos (er0.mp c103)).symm | exact T113 _ (if_neg (fun u => c103 (er0.mpr u))).symm
theorem s_readOut_t (hW : Wm w M) {I : MS → Prop} (hI : IR I) (k f : Nat) (hf0 : S.i 20 = nI f) (hk : k < f) (hf1 : f ≤ 100) (h0 : I (f_rm ((((S.si 0 0).si 23 0).si 34 0).si 36 (-1)) k 8)) : TF w M yX7_readOut cX7_readOut 4 (some .int) 5 [.int (nI k)] S (some (.int (f_readOut S k).1)) (f_readOut S k).2 := by
  refine TM.intro hW rfl (Nat.le_of_ble_eq_true rfl) (fun z C Y E hn => ?_)
  have hp : (0 : Int32) ≤ nI k ∧ nI k ≤ S.i 20 - 1 := ⟨nI_pos' (by omega), by rw [hf0, show (1 : Int32) = nI 1 from rfl, pk_sub (by omega)]; exact nI_le (by omega) (by omega)⟩
  have hf := s_fails1 (S := S) hW ((0 : Int32) ≤ nI k ∧ nI k ≤ S.i 20 - 1)
  rw [bI_f (not_not_intro hp)] at hf
  have hm := s_putMask hW (hI.1 _ h0).1
  have i0 : I (f_ro0 S k) := hI.2.2.1 _ h0
  have T71 : X z 0 0 (MA M (f_ro0 S k)) 71 [some (.ref M.o), some (.int (nI k)), some (.int (nI 8)), none] [] := by
    unfold f_readOut at E
    generalize f_ro0 S k = S1 at E i0 ⊢
    have hs := s_putShort (S := S1) hW (hI.1 _ i0).1 64
    have hm2 := s_putMask (S := f_putS S1 64) hW (hI.1 _ (hI.2.1 _ 64 i0 ⟨64, by decide, rfl⟩)).1
    by_cases h1 : S1.i 7 = 1
    · rw [if_pos h1] at E
      have LP := ro_loop hW hI k C Y E hn 10 0 (f_putM (f_putS S1 64)) none rfl (hI.2.2.1 _ (hI.2.1 _ 64 i0 ⟨64, by decide, rfl⟩)) rfl
      refine x_aload_n C dX7_readOut_71 rfl ?_
      refine m_get C Y 7 (by decide) (by decide) wf_X7_132 dX7_readOut_72 ?_
      refine x_iconst (v := 1) C dX7_readOut_75 (by decide) ?_
      refine x_icmp_eq (tgt := 81) C dX7_readOut_76 (by decide) (fun c76 => ?_) (fun c76 => absurd c76 (not_not_intro h1))
      refine x_aload_n C dX7_readOut_81 rfl ?_
      refine x_bipush (v := 64) C dX7_readOut_82 (by decide) ?_
      refine m_callF C Y hW E (hs) rfl md_X7_putShort wi_X7_putShort ws_X7_putShort wm_X7_187 dX7_readOut_84 rfl (by decide) (by decide) rfl (by simp [Value.category]) ?_
      refine x_aload_n C dX7_readOut_87 rfl ?_
      refine m_callF C Y hW E (hm2) rfl md_X7_putMask wi_X7_putMask ws_X7_putMask wm_X7_178 dX7_readOut_88 rfl (by decide) (by decide) rfl (by simp [Value.category]) ?_
      refine x_iconst (v := 0) C dX7_readOut_91 (by decide) ?_
      refine x_istore_nE (L' := [some _, some _, some _, none]) C dX7_readOut_92 (by rw [hn]; decide) rfl ?_
      exact LP
    · rw [if_neg h1] at E
      refine x_aload_n C dX7_readOut_71 rfl ?_
      refine m_get C Y 7 (by decide) (by decide) wf_X7_132 dX7_readOut_72 ?_
      refine x_iconst (v := 1) C dX7_readOut_75 (by decide) ?_
      refine x_icmp_eq (tgt := 81) C dX7_readOut_76 (by decide) (fun c76 => absurd c76 (fun q => h1 q)) (fun c76 => ?_)
      refine x_iconst (v := (-1)) C dX7_readOut_79 (by decide) ?_
      refine m_iret C E dX7_readOut_80 ?_
      exact ⟨rfl, rfl⟩
  generalize hS0 : (((S.si 0 0).si 23 0).si 34 0).si 36 (-1) = S0 at hm
  have LP : ∀ (t b : Nat), b + t = 8 → X z 0 0 (MA M (f_rm S0 k b)) 38 [some (.ref M.o), some (.int (nI k)), some (.int (nI b)), none] [] := by
    intro t
    induction t with
    | zero =>
      intro b hb
      obtain rfl : b = 8 := by omega
      unfold f_ro0 at T71
      rw [hS0] at T71
      refine x_iload_n C dX7_readOut_38 rfl ?_
      refine x_bipush (v := 8) C dX7_readOut_39 (by decide) ?_
      refine x_icmp_ge (tgt := 67) C dX7_readOut_41 (by decide) (fun c41 => ?_) (fun c41 => absurd c41 (by decide))
      refine x_aload_n C dX7_readOut_67 rfl ?_
      refine m_callF C Y hW E (hm) rfl md_X7_putMask wi_X7_putMask ws_X7_putMask wm_X7_178 dX7_readOut_68 rfl (by decide) (by decide) rfl (by simp [Value.category]) ?_
      exact T71
    | succ t ih =>
      intro b hb
      have ih2 := ih (b + 1) (by omega)
      refine x_iload_n C dX7_readOut_38 rfl ?_
      refine x_bipush (v := 8) C dX7_readOut_39 (by decide) ?_
      refine x_icmp_ge (tgt := 67) C dX7_readOut_41 (by decide) (fun c41 => absurd c41 (by rw [nI_lit]; exact nI_ge (show b < 8 by omega) (by decide))) (fun c41 => ?_)
      refine x_aload_n C dX7_readOut_44 rfl ?_
      refine m_getA C Y 19 (by decide) (by decide) wf_X7_47 dX7_readOut_45 ?_
      refine x_iload_n C dX7_readOut_48 rfl ?_
      refine x_aload_n C dX7_readOut_49 rfl ?_
      refine m_getA C Y 21 (by decide) (by decide) wf_X7_50 dX7_readOut_50 ?_
      refine x_bipush (v := 8) C dX7_readOut_53 (by decide) ?_
      refine x_iload_n C dX7_readOut_55 rfl ?_
      refine x_imul C dX7_readOut_56 ?_
      refine x_iload_n C dX7_readOut_57 rfl ?_
      refine x_iadd C dX7_readOut_58 ?_
      refine m_ildN C Y 21 (8 * k + b) (by decide) dX7_readOut_59 (by simp only [nI_lit, nI_add, pk_mul]) (by simp only [m_len]; omega) ?_
      rw [f_rm_a _ _ _ (by decide)]
      refine m_istN C Y hW.2.1 19 (b) (by decide) dX7_readOut_60 (by simp only [nI_lit, nI_add, pk_mul]) (by simp only [m_len]; omega) ?_
      refine x_iincE (v := nI (b + 1)) (L' := [some _, some _, some _, none]) C dX7_readOut_61 rfl (nI_1 b) (by rw [hn]; decide) rfl ?_
      refine x_goto (tgt := 38) C dX7_readOut_64 (by decide) ?_
      exact ih2
  refine x_aload_n C dX7_readOut_0 rfl ?_
  refine x_iload_n C dX7_readOut_1 rfl ?_
  refine x_iconst (v := 0) C dX7_readOut_2 (by decide) ?_
  refine x_aload_n C dX7_readOut_3 rfl ?_
  refine m_get C Y 20 (by decide) (by decide) wf_X7_175 dX7_readOut_4 ?_
  refine x_iconst (v := 1) C dX7_readOut_7 (by decide) ?_
  refine x_isub C dX7_readOut_8 ?_
  refine m_callSF C hW E (s_in _ _ _) md_X7_in wt_X7_in wm_X7_100 dX7_readOut_9 rfl (by decide) (by decide) rfl (by simp [Value.category]) ?_
  refine x_iconst (v := 1) C dX7_readOut_12 (by decide) ?_
  refine m_callF C Y hW E (hf) rfl md_X7_fails wi_X7_fails ws_X7_fails wm_X7_107 dX7_readOut_13 rfl (by decide) (by decide) rfl (by simp [Value.category]) ?_
  refine x_if_eq (tgt := 21) C dX7_readOut_16 (by decide) (fun c16 => ?_) (fun c16 => absurd c16 (not_not_intro rfl))
  refine x_aload_n C dX7_readOut_21 rfl ?_
  refine x_iconst (v := 0) C dX7_readOut_22 (by decide) ?_
  refine m_put C Y hW.2.1 23 (by decide) (by decide) rfl rfl rfl wf_X7_190 dX7_readOut_23 ?_
  refine x_aload_n C dX7_readOut_26 rfl ?_
  refine x_iconst (v := 0) C dX7_readOut_27 (by decide) ?_
  refine m_put C Y hW.2.1 34 (by decide) (by decide) rfl rfl rfl wf_X7_193 dX7_readOut_28 ?_
  refine x_aload_n C dX7_readOut_31 rfl ?_
  refine x_iconst (v := (-1)) C dX7_readOut_32 (by decide) ?_
  refine m_put C Y hW.2.1 36 (by decide) (by decide) rfl rfl rfl wf_X7_90 dX7_readOut_33 ?_
  refine x_iconst (v := 0) C dX7_readOut_36 (by decide) ?_
  refine x_istore_nE (L' := [some _, some _, some _, none]) C dX7_readOut_37 (by rw [hn]; decide) rfl ?_
  rw [hS0]; exact LP 8 0 rfl
end ReadOut
end
section
/-! MeterBusModel: its making. -/
section Rows
variable {z : Fx} {own : String} {cc : ByteArray} {kc ks pc : Nat} {A : PH → Prop} {L : List (Option Value)} {st : List Value}
theorem x_objInit (C : Cx z own cc gw) {a index : Nat} (w : Cond.methodLink own index objectInit ∈ gw) (d : decode cc pc = .ok (.invokespecial index, 3)) (hf : 1 ≤ z.R.frames) (hl : (st.map fun v => v.category).sum + 12 ≤ z.R.locals) (k : X z kc ks A (pc + 3) L st) : X z kc ks A pc L (.ref a :: st) := by
  intro H locs ls cells slots hp hS hl0 c1 c2
  exact W.objInit C.x C.b C.ow (C.ts _ w) (C.ts _ wi_objectInit) (C.ts _ wo_objectInit) (g := F0 z.m pc ls (.ref a :: st)) rfl (by rw [C.ml]; exact hl0.1) rfl d hf (by simp [JFrame.monitorRoom]; omega) (k H locs ls cells slots hp hS hl0 c1 c2)
end Rows
theorem m_kd_lt {k : Nat} (h : m_kd k ≠ 0) : k < 42 := by
  unfold m_kd at h
  split at h <;> first | omega | exact absurd rfl h
def Zm : MS := (fun _ => 0, fun _ _ => 0, fun _ _ => 0)
def i_val (ad : Nat → Nat) (K : Nat) (pl : Int32) (k : Nat) : Value := if m_kd k = 0 then .int (if k = 36 then pl else 0) else if k < K then .ref (ad k) else .null
def i_fs (ad : Nat → Nat) (K : Nat) (pl : Int32) : List Value := (List.range 42).map (i_val ad K pl)
/-- the arrays of the fields below K are made -/
def IA (c : Nat → ClassId) (o : Nat) (h0 : PH) (ad : Nat → Nat) (K : Nat) (pl : Int32) : PH → Prop := fun h =>
  h o = some (.inr (7, i_fs ad K pl)) ∧ (∀ k, m_kd k ≠ 0 → k < K → h (ad k) = some (m_cell c Zm k)) ∧ (∀ j k, m_kd j ≠ 0 → m_kd k ≠ 0 → j < K → k < K → ad j = ad k → j = k) ∧ (∀ k, m_kd k ≠ 0 → k < K → ad k ≠ o ∧ h0 (ad k) = none) ∧ ∀ q, q ≠ o → (∀ k, m_kd k ≠ 0 → k < K → q ≠ ad k) → h q = h0 q
def IE (c : Nat → ClassId) (o : Nat) (h0 : PH) (K : Nat) (pl : Int32) : PH → Prop := fun h => ∃ ad, IA c o h0 ad K pl h
theorem i_fs_get {ad : Nat → Nat} {K : Nat} {pl : Int32} {k : Nat} (h : k < 42) : (i_fs ad K pl)[k]? = some (i_val ad K pl k) := by simp [i_fs, h]
theorem i_fs_len (ad : Nat → Nat) (K : Nat) (pl : Int32) : (i_fs ad K pl).length = 42 := by simp [i_fs]
theorem i_fs_ext {l : List Value} {ad : Nat → Nat} {K : Nat} {pl : Int32} (hl : l.length = 42) (h : ∀ k, k < 42 → l[k]? = some (i_val ad K pl k)) : l = i_fs ad K pl := by
  apply List.ext_getElem?
  intro j
  by_cases hj : j < 42
  · rw [h j hj, i_fs_get hj]
  · rw [List.getElem?_eq_none (by omega), List.getElem?_eq_none (by rw [i_fs_len]; omega)]
/-- a new array q into field k -/
theorem IA.step {c : Nat → ClassId} {o K k q : Nat} {h0 : PH} {ad : Nat → Nat} {pl : Int32} {h : PH} (hi : IA c o h0 ad K pl h) (hk : m_kd k ≠ 0) (hK : ∀ j, j < 42 → m_kd j ≠ 0 → (j < k ↔ j < K)) (hq : h q = none) :
    IA c o h0 (va_up ad k q) (k + 1) pl (hs (hs h q (m_cell c Zm k)) o (.inr (7, (i_fs ad K pl).set k (.ref q)))) := by
  obtain ⟨i1, i2, i3, i4, i5⟩ := hi
  have hk42 := m_kd_lt hk
  have hlt : ∀ j, m_kd j ≠ 0 → j < k + 1 → j ≠ k → j < K := fun j hj h1 h2 => (hK j (m_kd_lt hj) hj).mp (by omega)
  have hqo : q ≠ o := fun e => by rw [e, i1] at hq; exact nomatch hq
  have hqa : ∀ j, m_kd j ≠ 0 → j < K → q ≠ ad j := fun j h1 h2 e => by rw [e, i2 j h1 h2] at hq; exact nomatch hq
  have hq0 : h0 q = none := by rw [← i5 q hqo hqa]; exact hq
  refine ⟨?_, fun j hj h1 => ?_, fun i j hi hj h1 h2 e => ?_, fun j hj h1 => ?_, fun x h1 h2 => ?_⟩
  · rw [hs_self]
    refine congrArg (fun t => some (Sum.inr (7, t))) ?_
    refine i_fs_ext (by rw [List.length_set, i_fs_len]) (fun j hj => ?_)
    by_cases e : k = j
    · subst e
      rw [List.getElem?_set_self (by rw [i_fs_len]; exact hj)]
      unfold i_val
      rw [if_neg hk, if_pos (by omega), va_up_self]
    · rw [List.getElem?_set_ne e, i_fs_get hj]
      unfold i_val
      by_cases e0 : m_kd j = 0
      · rw [if_pos e0, if_pos e0]
      · rw [if_neg e0, if_neg e0, va_up_ne _ _ (Ne.symm e)]
        have := hK j hj e0
        by_cases g : j < K
        · rw [if_pos g, if_pos (by omega)]
        · rw [if_neg g, if_neg (by omega)]
  · by_cases e : j = k
    · subst e
      rw [va_up_self, hs_ne hqo, hs_self]
    · have g := hlt j hj h1 e
      rw [va_up_ne _ _ e, hs_ne (i4 j hj g).1, hs_ne (Ne.symm (hqa j hj g))]
      exact i2 j hj g
  · by_cases ei : i = k
    · by_cases ej : j = k
      · omega
      · subst ei
        rw [va_up_self, va_up_ne _ _ ej] at e
        exact absurd e (hqa j hj (hlt j hj h2 ej))
    · by_cases ej : j = k
      · subst ej
        rw [va_up_self, va_up_ne _ _ ei] at e
        exact absurd e.symm (hqa i hi (hlt i hi h1 ei))
      · rw [va_up_ne _ _ ei, va_up_ne _ _ ej] at e
        exact i3 i j hi hj (hlt i hi h1 ei) (hlt j hj h2 ej) e
  · by_cases e : j = k
    · subst e
      rw [va_up_self]
      exact ⟨hqo, hq0⟩
    · rw [va_up_ne _ _ e]
      exact i4 j hj (hlt j hj h1 e)
  · have hxq : x ≠ q := by
      have := h2 k hk (by omega)
      rw [va_up_self] at this
      exact this
    rw [hs_ne h1, hs_ne hxq]
    refine i5 x h1 (fun j hj g => ?_)
    have hj2 := (hK j (m_kd_lt hj) hj).mpr g
    have := h2 j hj (by omega)
    rw [va_up_ne _ _ (by omega)] at this
    exact this
section Init
variable {z : Fx} {cc : ByteArray} {kc ks pc : Nat} {L : List (Option Value)} {w : Wd} {rt : Option FieldType} {fr lo : Nat} {P : Option Value → PH → Prop} {c : Nat → ClassId} {o K : Nat} {h0 : PH} {pl : Int32}
theorem i_put (C : Cx z RX7 cc gw) (hin : z.meth.name = "<init>") (hcl : z.cl = vwCl) {ad : Nat → Nat} {q : Nat} (k : Nat) {index : Nat} (hk : m_kd k ≠ 0) (hK : ∀ j, j < 42 → m_kd j ≠ 0 → (j < k ↔ j < K)) (hfin : (TX7 k).2.2.2 = true) (hown : (TX7 k).1 = RX7) (hna : narrow (tyX7 k) (.ref q) = .ref q) (hfi : fits (tyX7 k) (.ref q) = true) (wf : Cond.fieldLink RX7 index (TX7 k).1 (TX7 k).2.1 (TX7 k).2.2.1 ∈ gw) (d : decode cc pc = .ok (.putfield index, 3))
    (kk : X z kc ks (IE c o h0 (k + 1) pl) (pc + 3) L []) : X z kc ks (fun h => ∃ h1, IA c o h0 ad K pl h1 ∧ h1 q = none ∧ h = hs h1 q (m_cell c Zm k)) pc L [.ref q, .ref o] := by
  have kd : Kd z.cl gw 7 RX7 TX7 42 tyX7 := by rw [hcl]; exact kd_X7
  refine x_putF (fs := i_fs ad K pl) (B := IE c o h0 (k + 1) pl) C hin kd k (m_kd_lt hk) hfin hown wf d (fun h ⟨h1, g1, g2, g3⟩ => ?_) (by rw [i_fs_len]; exact m_kd_lt hk) hna hfi (fun h ⟨h1, g1, g2, g3⟩ => ?_) kk
  · rw [g3, hs_ne (fun e => by rw [← e, g1.1] at g2; exact nomatch g2)]
    exact g1.1
  · rw [g3]
    exact ⟨_, g1.step hk hK g2⟩
theorem i_newi (C : Cx z RX7 cc gw) (hin : z.meth.name = "<init>") (hcl : z.cl = vwCl) {t0 : Nat} (ht : z.tys[t0]? = some (c 0, .int)) (k : Nat) {index : Nat} {n : Int32} (hn0 : n = nI (m_len k)) (hk : m_kd k = 1) (hK : ∀ j, j < 42 → m_kd j ≠ 0 → (j < k ↔ j < K)) (hfin : (TX7 k).2.2.2 = true) (hown : (TX7 k).1 = RX7) (hna : ∀ q, narrow (tyX7 k) (.ref q) = .ref q) (hfi : ∀ q, fits (tyX7 k) (.ref q) = true) (wf : Cond.fieldLink RX7 index (TX7 k).1 (TX7 k).2.1 (TX7 k).2.2.1 ∈ gw) (d1 : decode cc pc = .ok (.newarray .int, 2)) (d2 : decode cc (pc + 2) = .ok (.putfield index, 3))
    (kk : X z kc ks (IE c o h0 (k + 1) pl) (pc + 5) L []) : X z (kc + 1) (ks + m_len k) (IE c o h0 K pl) pc L [.int n, .ref o] := by
  have hl : m_len k ≤ 26000 := by unfold m_len; split <;> decide
  subst hn0
  refine X.ex (fun ad => ?_)
  refine x_newi (N := m_len k) (Bq := fun q h => ∃ h1, IA c o h0 ad K pl h1 ∧ h1 q = none ∧ h = hs h1 q (m_cell c Zm k)) C ht wa_int d1 (nI_pos (by omega)) (nI_clamp (by omega)) (by omega) (fun h q g1 g2 => ⟨h, g1, g2, by simp only [m_cell, hk]; rfl⟩) (fun q => ?_)
  exact i_put C hin hcl k (by omega) hK hfin hown (hna q) (hfi q) wf d2 kk
theorem i_newz (C : Cx z RX7 cc gw) (hin : z.meth.name = "<init>") (hcl : z.cl = vwCl) {t0 : Nat} (ht : z.tys[t0]? = some (c 2, .boolean)) (k : Nat) {index : Nat} {n : Int32} (hn0 : n = nI (m_len k)) (hk : m_kd k = 2) (hK : ∀ j, j < 42 → m_kd j ≠ 0 → (j < k ↔ j < K)) (hfin : (TX7 k).2.2.2 = true) (hown : (TX7 k).1 = RX7) (hna : ∀ q, narrow (tyX7 k) (.ref q) = .ref q) (hfi : ∀ q, fits (tyX7 k) (.ref q) = true) (wf : Cond.fieldLink RX7 index (TX7 k).1 (TX7 k).2.1 (TX7 k).2.2.1 ∈ gw) (d1 : decode cc pc = .ok (.newarray .boolean, 2)) (d2 : decode cc (pc + 2) = .ok (.putfield index, 3))
    (kk : X z kc ks (IE c o h0 (k + 1) pl) (pc + 5) L []) : X z (kc + 1) (ks + m_len k) (IE c o h0 K pl) pc L [.int n, .ref o] := by
  have hl : m_len k ≤ 26000 := by unfold m_len; split <;> decide
  subst hn0
  refine X.ex (fun ad => ?_)
  refine x_newz (N := m_len k) (Bq := fun q h => ∃ h1, IA c o h0 ad K pl h1 ∧ h1 q = none ∧ h = hs h1 q (m_cell c Zm k)) C ht wa_boolean d1 (nI_pos (by omega)) (nI_clamp (by omega)) (by omega) (fun h q g1 g2 => ⟨h, g1, g2, by simp only [m_cell, hk]; rfl⟩) (fun q => ?_)
  exact i_put C hin hcl k (by omega) hK hfin hown (hna q) (hfi q) wf d2 kk
theorem i_newl (C : Cx z RX7 cc gw) (hin : z.meth.name = "<init>") (hcl : z.cl = vwCl) {t0 : Nat} (ht : z.tys[t0]? = some (c 1, .long)) (k : Nat) {index : Nat} {n : Int32} (hn0 : n = nI (m_len k)) (hk : m_kd k = 3) (hK : ∀ j, j < 42 → m_kd j ≠ 0 → (j < k ↔ j < K)) (hfin : (TX7 k).2.2.2 = true) (hown : (TX7 k).1 = RX7) (hna : ∀ q, narrow (tyX7 k) (.ref q) = .ref q) (hfi : ∀ q, fits (tyX7 k) (.ref q) = true) (wf : Cond.fieldLink RX7 index (TX7 k).1 (TX7 k).2.1 (TX7 k).2.2.1 ∈ gw) (d1 : decode cc pc = .ok (.newarray .long, 2)) (d2 : decode cc (pc + 2) = .ok (.putfield index, 3))
    (kk : X z kc ks (IE c o h0 (k + 1) pl) (pc + 5) L []) : X z (kc + 1) (ks + m_len k) (IE c o h0 K pl) pc L [.int n, .ref o] := by
  have hl : m_len k ≤ 26000 := by unfold m_len; split <;> decide
  subst hn0
  refine X.ex (fun ad => ?_)
  refine x_newl (N := m_len k) (Bq := fun q h => ∃ h1, IA c o h0 ad K pl h1 ∧ h1 q = none ∧ h = hs h1 q (m_cell c Zm k)) C ht wa_long d1 (nI_pos (by omega)) (nI_clamp (by omega)) (by omega) (fun h q g1 g2 => ⟨h, g1, g2, by simp only [m_cell, hk]; rfl⟩) (fun q => ?_)
  exact i_put C hin hcl k (by omega) hK hfin hown (hna q) (hfi q) wf d2 kk
theorem i_place (C : Cx z RX7 cc gw) (hcl : z.cl = vwCl) {index : Nat} (wf : Cond.fieldLink RX7 index (TX7 36).1 (TX7 36).2.1 (TX7 36).2.2.1 ∈ gw) (d : decode cc pc = .ok (.putfield index, 3)) {v : Int32}
    (kk : X z kc ks (IE c o h0 K v) (pc + 3) L []) : X z kc ks (IE c o h0 K pl) pc L [.int v, .ref o] := by
  have kd : Kd z.cl gw 7 RX7 TX7 42 tyX7 := by rw [hcl]; exact kd_X7
  refine X.ex (fun ad => ?_)
  refine x_put (fs := i_fs ad K pl) (B := IE c o h0 K v) C kd 36 (by decide) rfl wf d (fun h g => g.1) (by rw [i_fs_len]; decide) rfl rfl (fun h ⟨i1, i2, i3, i4, i5⟩ => ⟨ad, ?_, fun k h1 h2 => ?_, i3, i4, fun q h1 h2 => ?_⟩) kk
  · rw [hs_self]
    refine congrArg (fun t => some (Sum.inr (7, t))) ?_
    refine i_fs_ext (by rw [List.length_set, i_fs_len]) (fun j hj => ?_)
    by_cases e : 36 = j
    · subst e
      rw [List.getElem?_set_self (by rw [i_fs_len]; exact hj)]
      rfl
    · rw [List.getElem?_set_ne e, i_fs_get hj]
      unfold i_val
      rw [if_neg (Ne.symm e), if_neg (Ne.symm e)]
  · rw [hs_ne (i4 k h1 h2).1]
    exact i2 k h1 h2
  · rw [hs_ne h1]
    exact i5 q h1 h2
def Z0 : MS := Zm.si 36 (-1)
/-- MeterBusModel(): all arrays made, all numbers 0 but the place -/
theorem s_init {h0 : PH} {l : List Value} (hw : w.ok) (hcl0 : w.cl = vwCl) {c : Nat → ClassId} {t0 t1 t2 : Nat} (ht00 : w.tys[t0]? = some (c 0, .int)) (ht10 : w.tys[t1]? = some (c 1, .long)) (ht20 : w.tys[t2]? = some (c 2, .boolean)) {o : Nat} (ho : h0 o = some (.inr (7, l))) (hl : l = i_fs (fun _ => 0) 0 0) :
    T w gw yX7_init cX7_init 1 none 1 40 27 32385 [.ref o] (fun h => h = h0) (fun r h => r = none ∧ ∃ ad : Nat → Nat, MW.ok (c, o, ad, h0) ∧ (∀ k, m_kd k ≠ 0 → h0 (ad k) = none) ∧ MA (c, o, ad, h0) Z0 h) := by
  refine T.intro (by decide +kernel) (Nat.le_of_ble_eq_true rfl) (fun z C E e1 e2 e3 => ?_)
  have hcl : z.cl = vwCl := E.2.2.1.trans hcl0
  have hin : z.meth.name = "<init>" := E.2.2.2.2.2.2.2.2.2.1
  have ht0 : z.tys[t0]? = some (c 0, .int) := by rw [E.2.2.2.1]; exact ht00
  have ht1 : z.tys[t1]? = some (c 1, .long) := by rw [E.2.2.2.1]; exact ht10
  have ht2 : z.tys[t2]? = some (c 2, .boolean) := by rw [E.2.2.2.1]; exact ht20
  have hfr : z.R.frames = 1 := E.2.2.2.2.2.1
  have hlo : z.R.locals = 40 := E.2.2.2.2.2.2.1
  have hfin : ∀ h, IE c o h0 39 (-1) h → ∃ ad : Nat → Nat, MW.ok (c, o, ad, h0) ∧ (∀ k, m_kd k ≠ 0 → h0 (ad k) = none) ∧ MA (c, o, ad, h0) Z0 h := by
    intro h ⟨ad, i1, i2, i3, i4, i5⟩
    have hlt : ∀ k, m_kd k ≠ 0 → k < 39 := fun k hk => by
      unfold m_kd at hk
      split at hk <;> first | omega | exact absurd rfl hk
    refine ⟨ad, ⟨fun j k hj hk e => i3 j k hj hk (hlt j hj) (hlt k hk) e, fun k hk => (i4 k hk (hlt k hk)).1⟩, fun k hk => (i4 k hk (hlt k hk)).2, ?_, fun k hk => i2 k hk (hlt k hk), fun q h1 h2 => i5 q h1 (fun k hk _ => h2 k hk)⟩
    rw [show h o = some (.inr (7, i_fs ad 39 (-1))) from i1]
    refine congrArg (fun t => some (Sum.inr (7, t))) ?_
    unfold i_fs m_fs
    refine List.map_congr_left (fun k hk => ?_)
    unfold i_val m_val
    by_cases e0 : m_kd k = 0
    · rw [if_pos e0, if_pos e0]; rfl
    · rw [if_neg e0, if_neg e0, if_pos (hlt k e0)]
  refine X.heap (A' := IE c o h0 0 0) ?_ (fun h e => ⟨fun _ => 0, by rw [e, ho, hl], fun k _ h => absurd h (by omega), fun _ _ _ _ h => absurd h (by omega), fun _ _ h => absurd h (by omega), fun q _ _ => by rw [e]⟩)
  refine x_aload_n C dX7_init_0 rfl ?_
  refine x_objInit C wm_X7_1 dX7_init_1 (by rw [hfr]; exact Nat.le_refl 1) (by rw [hlo]; decide) ?_
  refine x_aload_n C dX7_init_4 rfl ?_
  refine x_sipush (v := 300) C dX7_init_5 (by decide) ?_
  refine i_newi (kc := 26) (ks := 32085) (K := 0) C hin hcl ht0 1 rfl rfl (by decide) rfl rfl (fun _ => rfl) (fun _ => rfl) wf_X7_7 dX7_init_8 dX7_init_10 ?_
  refine x_aload_n C dX7_init_13 rfl ?_
  refine x_sipush (v := 300) C dX7_init_14 (by decide) ?_
  refine i_newi (kc := 25) (ks := 31785) (K := 2) C hin hcl ht0 3 rfl rfl (by decide) rfl rfl (fun _ => rfl) (fun _ => rfl) wf_X7_13 dX7_init_17 dX7_init_19 ?_
  refine x_aload_n C dX7_init_22 rfl ?_
  refine x_sipush (v := 300) C dX7_init_23 (by decide) ?_
  refine i_newi (kc := 24) (ks := 31485) (K := 4) C hin hcl ht0 5 rfl rfl (by decide) rfl rfl (fun _ => rfl) (fun _ => rfl) wf_X7_16 dX7_init_26 dX7_init_28 ?_
  refine x_aload_n C dX7_init_31 rfl ?_
  refine x_bipush (v := 12) C dX7_init_32 (by decide) ?_
  refine i_newz (kc := 23) (ks := 31473) (K := 6) C hin hcl ht2 10 rfl rfl (by decide) rfl rfl (fun _ => rfl) (fun _ => rfl) wf_X7_19 dX7_init_34 dX7_init_36 ?_
  refine x_aload_n C dX7_init_39 rfl ?_
  refine x_bipush (v := 12) C dX7_init_40 (by decide) ?_
  refine i_newi (kc := 22) (ks := 31461) (K := 11) C hin hcl ht0 11 rfl rfl (by decide) rfl rfl (fun _ => rfl) (fun _ => rfl) wf_X7_23 dX7_init_42 dX7_init_44 ?_
  refine x_aload_n C dX7_init_47 rfl ?_
  refine x_bipush (v := 96) C dX7_init_48 (by decide) ?_
  refine i_newi (kc := 21) (ks := 31365) (K := 12) C hin hcl ht0 12 rfl rfl (by decide) rfl rfl (fun _ => rfl) (fun _ => rfl) wf_X7_26 dX7_init_50 dX7_init_52 ?_
  refine x_aload_n C dX7_init_55 rfl ?_
  refine x_bipush (v := 12) C dX7_init_56 (by decide) ?_
  refine i_newz (kc := 20) (ks := 31353) (K := 13) C hin hcl ht2 13 rfl rfl (by decide) rfl rfl (fun _ => rfl) (fun _ => rfl) wf_X7_29 dX7_init_58 dX7_init_60 ?_
  refine x_aload_n C dX7_init_63 rfl ?_
  refine x_bipush (v := 12) C dX7_init_64 (by decide) ?_
  refine i_newi (kc := 19) (ks := 31341) (K := 14) C hin hcl ht0 14 rfl rfl (by decide) rfl rfl (fun _ => rfl) (fun _ => rfl) wf_X7_32 dX7_init_66 dX7_init_68 ?_
  refine x_aload_n C dX7_init_71 rfl ?_
  refine x_bipush (v := 12) C dX7_init_72 (by decide) ?_
  refine i_newi (kc := 18) (ks := 31329) (K := 15) C hin hcl ht0 15 rfl rfl (by decide) rfl rfl (fun _ => rfl) (fun _ => rfl) wf_X7_35 dX7_init_74 dX7_init_76 ?_
  refine x_aload_n C dX7_init_79 rfl ?_
  refine x_bipush (v := 12) C dX7_init_80 (by decide) ?_
  refine i_newi (kc := 17) (ks := 31317) (K := 16) C hin hcl ht0 16 rfl rfl (by decide) rfl rfl (fun _ => rfl) (fun _ => rfl) wf_X7_38 dX7_init_82 dX7_init_84 ?_
  refine x_aload_n C dX7_init_87 rfl ?_
  refine x_bipush (v := 36) C dX7_init_88 (by decide) ?_
  refine i_newi (kc := 16) (ks := 31281) (K := 17) C hin hcl ht0 17 rfl rfl (by decide) rfl rfl (fun _ => rfl) (fun _ => rfl) wf_X7_41 dX7_init_90 dX7_init_92 ?_
  refine x_aload_n C dX7_init_95 rfl ?_
  refine x_sipush (v := 2160) C dX7_init_96 (by decide) ?_
  refine i_newi (kc := 15) (ks := 29121) (K := 18) C hin hcl ht0 18 rfl rfl (by decide) rfl rfl (fun _ => rfl) (fun _ => rfl) wf_X7_44 dX7_init_99 dX7_init_101 ?_
  refine x_aload_n C dX7_init_104 rfl ?_
  refine x_bipush (v := 8) C dX7_init_105 (by decide) ?_
  refine i_newi (kc := 14) (ks := 29113) (K := 19) C hin hcl ht0 19 rfl rfl (by decide) rfl rfl (fun _ => rfl) (fun _ => rfl) wf_X7_47 dX7_init_107 dX7_init_109 ?_
  refine x_aload_n C dX7_init_112 rfl ?_
  refine x_sipush (v := 800) C dX7_init_113 (by decide) ?_
  refine i_newi (kc := 13) (ks := 28313) (K := 20) C hin hcl ht0 21 rfl rfl (by decide) rfl rfl (fun _ => rfl) (fun _ => rfl) wf_X7_50 dX7_init_116 dX7_init_118 ?_
  refine x_aload_n C dX7_init_121 rfl ?_
  refine x_bipush (v := 13) C dX7_init_122 (by decide) ?_
  refine i_newi (kc := 12) (ks := 28300) (K := 22) C hin hcl ht0 22 rfl rfl (by decide) rfl rfl (fun _ => rfl) (fun _ => rfl) wf_X7_53 dX7_init_124 dX7_init_126 ?_
  refine x_aload_n C dX7_init_129 rfl ?_
  refine x_bipush (v := 100) C dX7_init_130 (by decide) ?_
  refine i_newl (kc := 11) (ks := 28200) (K := 23) C hin hcl ht1 24 rfl rfl (by decide) rfl rfl (fun _ => rfl) (fun _ => rfl) wf_X7_56 dX7_init_132 dX7_init_134 ?_
  refine x_aload_n C dX7_init_137 rfl ?_
  refine x_bipush (v := 100) C dX7_init_138 (by decide) ?_
  refine i_newi (kc := 10) (ks := 28100) (K := 25) C hin hcl ht0 25 rfl rfl (by decide) rfl rfl (fun _ => rfl) (fun _ => rfl) wf_X7_60 dX7_init_140 dX7_init_142 ?_
  refine x_aload_n C dX7_init_145 rfl ?_
  refine x_bipush (v := 100) C dX7_init_146 (by decide) ?_
  refine i_newi (kc := 9) (ks := 28000) (K := 26) C hin hcl ht0 26 rfl rfl (by decide) rfl rfl (fun _ => rfl) (fun _ => rfl) wf_X7_63 dX7_init_148 dX7_init_150 ?_
  refine x_aload_n C dX7_init_153 rfl ?_
  refine x_bipush (v := 100) C dX7_init_154 (by decide) ?_
  refine i_newl (kc := 8) (ks := 27900) (K := 27) C hin hcl ht1 27 rfl rfl (by decide) rfl rfl (fun _ => rfl) (fun _ => rfl) wf_X7_66 dX7_init_156 dX7_init_158 ?_
  refine x_aload_n C dX7_init_161 rfl ?_
  refine x_bipush (v := 100) C dX7_init_162 (by decide) ?_
  refine i_newi (kc := 7) (ks := 27800) (K := 28) C hin hcl ht0 28 rfl rfl (by decide) rfl rfl (fun _ => rfl) (fun _ => rfl) wf_X7_69 dX7_init_164 dX7_init_166 ?_
  refine x_aload_n C dX7_init_169 rfl ?_
  refine x_bipush (v := 100) C dX7_init_170 (by decide) ?_
  refine i_newi (kc := 6) (ks := 27700) (K := 29) C hin hcl ht0 29 rfl rfl (by decide) rfl rfl (fun _ => rfl) (fun _ => rfl) wf_X7_72 dX7_init_172 dX7_init_174 ?_
  refine x_aload_n C dX7_init_177 rfl ?_
  refine x_bipush (v := 100) C dX7_init_178 (by decide) ?_
  refine i_newi (kc := 5) (ks := 27600) (K := 30) C hin hcl ht0 30 rfl rfl (by decide) rfl rfl (fun _ => rfl) (fun _ => rfl) wf_X7_75 dX7_init_180 dX7_init_182 ?_
  refine x_aload_n C dX7_init_185 rfl ?_
  refine x_sipush (v := 1100) C dX7_init_186 (by decide) ?_
  refine i_newi (kc := 4) (ks := 26500) (K := 31) C hin hcl ht0 31 rfl rfl (by decide) rfl rfl (fun _ => rfl) (fun _ => rfl) wf_X7_78 dX7_init_189 dX7_init_191 ?_
  refine x_aload_n C dX7_init_194 rfl ?_
  refine x_bipush (v := 100) C dX7_init_195 (by decide) ?_
  refine i_newi (kc := 3) (ks := 26400) (K := 32) C hin hcl ht0 32 rfl rfl (by decide) rfl rfl (fun _ => rfl) (fun _ => rfl) wf_X7_81 dX7_init_197 dX7_init_199 ?_
  refine x_aload_n C dX7_init_202 rfl ?_
  refine x_bipush (v := 100) C dX7_init_203 (by decide) ?_
  refine i_newi (kc := 2) (ks := 26300) (K := 33) C hin hcl ht0 33 rfl rfl (by decide) rfl rfl (fun _ => rfl) (fun _ => rfl) wf_X7_84 dX7_init_205 dX7_init_207 ?_
  refine x_aload_n C dX7_init_210 rfl ?_
  refine x_sipush (v := 26000) C dX7_init_211 (by decide) ?_
  refine i_newi (kc := 1) (ks := 300) (K := 34) C hin hcl ht0 35 rfl rfl (by decide) rfl rfl (fun _ => rfl) (fun _ => rfl) wf_X7_87 dX7_init_214 dX7_init_216 ?_
  refine x_aload_n C dX7_init_219 rfl ?_
  refine x_iconst (v := (-1)) C dX7_init_220 (by decide) ?_
  refine i_place C hcl wf_X7_90 dX7_init_221 ?_
  refine x_aload_n C dX7_init_224 rfl ?_
  refine x_sipush (v := 300) C dX7_init_225 (by decide) ?_
  refine i_newi (kc := 0) (ks := 0) (K := 36) C hin hcl ht0 38 rfl rfl (by decide) rfl rfl (fun _ => rfl) (fun _ => rfl) wf_X7_94 dX7_init_228 dX7_init_230 ?_
  exact x_vret C E dX7_init_233 (fun h g => ⟨rfl, hfin h g⟩)
end Init
end
