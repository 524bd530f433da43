/-! MeterBusModel: oneRecord. -/
theorem f_d3_38 (S : MS) (r : Nat) (b : Int32) (i j : Nat) : (f_d3 S r b i).a 38 j = S.a 38 j := by
  unfold f_d3
  split
  · unfold f_df1; rw [sa_ne (by decide), sa_ne (by decide), MS.sw_a]
  · rfl
theorem f_d2_a (S : MS) (i q j : Nat) : (f_d2 S i).a q j = S.a q j := by
  unfold f_d2
  split
  · exact f_bl_a _ _ _ _ _
  · rfl
theorem f_v2_a (S : MS) (i q j : Nat) : (f_v2 S i).a q j = S.a q j := by
  unfold f_v2
  split
  · exact f_bl_a _ _ _ _ _
  · rfl
theorem f_v4_38 (S : MS) (r : Nat) (b : Int32) (i j : Nat) : (f_v4 S r b i).a 38 j = S.a 38 j := by
  unfold f_v4
  split
  · rw [sa_ne (by decide), sa_ne (by decide)]
  · rfl
theorem f_dl_38 (r : Nat) : ∀ (t : Nat) (S : MS) (b : Int32) (i j : Nat), (f_dl r t S b i).a 38 j = S.a 38 j
  | 0, _, _, _, _ => rfl
  | t + 1, S, b, i, j => by
    rw [f_dl]
    split
    · rw [f_dl_38 r t, f_d3_38, f_d2_a, f_nx_a]
    · rfl
theorem f_vl_38 (r : Nat) : ∀ (t : Nat) (S : MS) (b : Int32) (i j : Nat), (f_vl r t S b i).a 38 j = S.a 38 j
  | 0, _, _, _, _ => rfl
  | t + 1, S, b, i, j => by
    rw [f_vl]
    split
    · rw [f_vl_38 r t, f_v4_38, f_v2_a, f_nx_a]
    · rfl
theorem f_dl_i (r : Nat) {q : Nat} (h40 : q ≠ 40) (h41 : q ≠ 41) (h36 : q ≠ 36) : ∀ (t : Nat) (S : MS) (b : Int32) (i : Nat), (f_dl r t S b i).i q = S.i q
  | 0, _, _, _ => rfl
  | t + 1, S, b, i => by
    rw [f_dl]
    split
    · rw [f_dl_i r h40 h41 h36 t, f_d3_i, f_d2_i _ _ h41 h36, f_nx_i _ h40 h41 h36]
    · rfl
theorem f_vl_i (r : Nat) {q : Nat} (h40 : q ≠ 40) (h41 : q ≠ 41) (h36 : q ≠ 36) : ∀ (t : Nat) (S : MS) (b : Int32) (i : Nat), (f_vl r t S b i).i q = S.i q
  | 0, _, _, _ => rfl
  | t + 1, S, b, i => by
    rw [f_vl]
    split
    · rw [f_vl_i r h40 h41 h36 t, f_v4_i, f_v2_i _ _ h41 h36, f_nx_i _ h40 h41 h36]
    · rfl
theorem WFp.dl {r : Nat} : ∀ (t : Nat) {S : MS} (b : Int32) (i : Nat), WFp S → WFp (f_dl r t S b i)
  | 0, _, _, _, h => h
  | t + 1, S, b, i, h => by
    rw [f_dl]
    split
    · exact WFp.dl t _ _ ((h.nx.same (f_d2_i _ _ (by decide) (by decide)) (f_d2_i _ _ (by decide) (by decide))).same (f_d3_i _ _ _ _ _) (f_d3_i _ _ _ _ _))
    · exact h
theorem WFp.vl {r : Nat} : ∀ (t : Nat) {S : MS} (b : Int32) (i : Nat), WFp S → WFp (f_vl r t S b i)
  | 0, _, _, _, h => h
  | t + 1, S, b, i, h => by
    rw [f_vl]
    split
    · exact WFp.vl t _ _ ((h.nx.same (f_v2_i _ _ (by decide) (by decide)) (f_v2_i _ _ (by decide) (by decide))).same (f_v4_i _ _ _ _ _) (f_v4_i _ _ _ _ _))
    · exact h
theorem WFd.same {S S' : MS} (h : WFd S) (e : ∀ j, S'.a 38 j = S.a 38 j) : WFd S' := fun j hj => by rw [e]; exact h j hj
/-- the record's first fields -/
def f_rec0 (S : MS) (r : Nat) (D : Int32) : MS :=
  ((((((S.sa 25 r (D &&& 15)).sa 26 r ((D >>> ((4 : Int32) &&& 31)) &&& 3)).sw 27 r ((D >>> ((6 : Int32) &&& 31)) &&& 1).toInt64).sa 28 r 0).sa 29 r 0).sa 30 r 0).sa 33 r 0
def f_own (S : MS) (r tx a e : Nat) : MS := (f_text (S.sw 24 r (nI (e - a)).toInt64) r tx a (e - a)).si 23 (nI (r + 1))
def f_ends (S : MS) (cc r : Nat) : MS := if S.i 41 = 0 then (f_value S cc).si 23 ((f_value S cc).i 23 + if (f_value S cc).i 41 = 0 then 1 else 0) else S
/-- a record, at a, behind its DIF D -/
def f_rcd (S : MS) : MS :=
  let a := f_at S
  let D := S.a 38 a
  let S1 := S.si 40 (nI (a + 1))
  if D = 47 then S1
  else if D = 31 then (if a + 1 < f_e S then f_bl (S1.si 37 1) 4 (nI (a + 1)) else S1.si 37 1)
  else if D &&& 15 = 8 ∨ (D &&& 15 = 15 ∧ ¬ D = 15) then f_bl S1 9 (nI a)
  else if f_r S = 100 then f_bl S1 10 (nI a)
  else if D &&& 15 = 15 then f_own (f_rec0 S1 (f_r S) D) (f_r S) (f_tx S) (a + 1) (f_e S)
  else f_ends (f_vl (f_r S) 13 (f_dl (f_r S) 12 (f_rec0 S1 (f_r S) D) D 0) 128 0) (D &&& 15).toNatClampNeg (f_r S)
theorem x_MA {M : MW} {S S' : MS} {z : Fx} {kc ks pc : Nat} {L : List (Option Value)} {st : List Value} (e : S = S') (k : X z kc ks (MA M S') pc L st) : X z kc ks (MA M S) pc L st := by subst e; exact k
section One
variable {w : Wd} {M : MW} {S : MS} {z : Fx}
/-- behind the extensions, from pc 475 -/
theorem rc_end (hW : Wm w M) (cc r : Nat) (hc : cc < 15) (hc8 : cc ≠ 8) (hp : WFp S) (hd : WFd S) (hr : S.i 23 = nI r) (hr1 : r < 100) (tx : Nat) (ht : S.i 34 = nI tx) (ht1 : tx + 300 ≤ 26000) (fv dv : Int32) (l4 l5 l6 : Option Value) (C : Cx z RX7 cX7_oneRecord gw) (Y : Mty z M) (E : Ct z w gw yX7_oneRecord none 3 (40 * 3) (PM M (fun q Q => q = none ∧ Q = f_ends S cc r))) (hn : z.nL = 7) :
    X z 0 0 (MA M S) 475 [some (.ref M.o), some (.int fv), some (.int dv), some (.int (nI cc)), l4, l5, l6] [] := by
  have er : f_r S = r := by unfold f_r; rw [hr, nI_clamp (by omega)]
  have et : f_tx S = tx := by unfold f_tx; rw [ht, nI_clamp (by omega)]
  unfold f_ends at E
  by_cases h1 : S.i 41 = 0
  · rw [if_pos h1] at E
    have hv := s_value (S := S) hW cc hc hc8 hp hd (by rw [er]; exact hr) (by omega) (by rw [et]; exact ht) (by omega) h1
    generalize f_value S cc = S4 at E hv
    refine x_aload_n C dX7_oneRecord_475 rfl ?_
    refine m_get C Y 41 (by decide) (by decide) wf_X7_204 dX7_oneRecord_476 ?_
    refine x_if_ne (tgt := 487) C dX7_oneRecord_479 (by decide) (fun c479 => absurd c479 (not_not_intro h1)) (fun c479 => ?_)
    refine x_aload_n C dX7_oneRecord_482 rfl ?_
    refine x_iload_n C dX7_oneRecord_483 rfl ?_
    refine m_callF C Y hW E (hv) rfl md_X7_value wi_X7_value ws_X7_value wm_X7_236 dX7_oneRecord_484 rfl (by decide) (by decide) rfl (by simp [Value.category]) ?_
    refine x_aload_n C dX7_oneRecord_487 rfl ?_
    refine x_dup C dX7_oneRecord_488 rfl ?_
    refine m_get C Y 23 (by decide) (by decide) wf_X7_190 dX7_oneRecord_489 ?_
    refine x_aload_n C dX7_oneRecord_492 rfl ?_
    refine m_get C Y 41 (by decide) (by decide) wf_X7_204 dX7_oneRecord_493 ?_
    refine x_if_ne (tgt := 503) C dX7_oneRecord_496 (by decide) (fun c496 => ?_) (fun c496 => ?_)
    · skip
      refine x_iconst (v := 0) C dX7_oneRecord_503 (by decide) ?_
      refine x_iadd C dX7_oneRecord_504 ?_
      refine m_put C Y hW.2.1 23 (by decide) (by decide) rfl rfl rfl wf_X7_190 dX7_oneRecord_505 ?_
      refine m_vret C E dX7_oneRecord_508 ?_
      first | exact ⟨rfl, congrArg (fun t => S4.si 23 (S4.i 23 + t)) (if_pos c496).symm⟩ | exact ⟨rfl, congrArg (fun t => S4.si 23 (S4.i 23 + t)) (if_neg c496).symm⟩
    · skip
      refine x_iconst (v := 1) C dX7_oneRecord_499 (by decide) ?_
      refine x_goto (tgt := 504) C dX7_oneRecord_500 (by decide) ?_
      refine x_iadd C dX7_oneRecord_504 ?_
      refine m_put C Y hW.2.1 23 (by decide) (by decide) rfl rfl rfl wf_X7_190 dX7_oneRecord_505 ?_
      refine m_vret C E dX7_oneRecord_508 ?_
      first | exact ⟨rfl, congrArg (fun t => S4.si 23 (S4.i 23 + t)) (if_pos c496).symm⟩ | exact ⟨rfl, congrArg (fun t => S4.si 23 (S4.i 23 + t)) (if_neg c496).symm⟩
  · rw [if_neg h1] at E
    have e23 : S.si 23 (S.i 23 + 0) = S := by
      rw [Int32.add_zero]
      refine MS.ext (fun q => ?_) (fun _ _ => rfl) (fun _ _ => rfl)
      rw [MS.si_i]
      split
      · rename_i g; rw [g]
      · rfl
    refine x_aload_n C dX7_oneRecord_475 rfl ?_
    refine m_get C Y 41 (by decide) (by decide) wf_X7_204 dX7_oneRecord_476 ?_
    refine x_if_ne (tgt := 487) C dX7_oneRecord_479 (by decide) (fun c479 => ?_) (fun c479 => absurd c479 (fun q => h1 q))
    refine x_aload_n C dX7_oneRecord_487 rfl ?_
    refine x_dup C dX7_oneRecord_488 rfl ?_
    refine m_get C Y 23 (by decide) (by decide) wf_X7_190 dX7_oneRecord_489 ?_
    refine x_aload_n C dX7_oneRecord_492 rfl ?_
    refine m_get C Y 41 (by decide) (by decide) wf_X7_204 dX7_oneRecord_493 ?_
    refine x_if_ne (tgt := 503) C dX7_oneRecord_496 (by decide) (fun c496 => ?_) (fun c496 => absurd c496 (fun q => h1 q))
    refine x_iconst (v := 0) C dX7_oneRecord_503 (by decide) ?_
    refine x_iadd C dX7_oneRecord_504 ?_
    refine m_put C Y hW.2.1 23 (by decide) (by decide) rfl rfl rfl wf_X7_190 dX7_oneRecord_505 ?_
    refine m_vret C E dX7_oneRecord_508 ?_
    exact ⟨rfl, e23⟩
theorem rc183 (hW : Wm w M) {S2 : MS} (a e r tx d : Nat) (hd : d < 256) (he3 : e ≤ 300) (hlt : a < e) (hr99 : r < 100) (ht2 : tx + 300 ≤ 26000) (hc8 : d % 16 ≠ 8) (gp : WFp S2) (gd : WFd S2) (g40 : S2.i 40 = nI (a + 1)) (g39 : S2.i 39 = nI e) (g23 : S2.i 23 = nI r) (g34 : S2.i 34 = nI tx) (gf : S2.i 41 = 0) (C : Cx z RX7 cX7_oneRecord gw) (Y : Mty z M)
    (E : Ct z w gw yX7_oneRecord none 3 (40 * 3) (PM M (fun q Q => q = none ∧ Q = if nI (d % 16) = 15 then f_own S2 r tx (a + 1) e else f_ends (f_vl r 13 (f_dl r 12 S2 (nI d) 0) 128 0) (d % 16) r))) (hn : z.nL = 7) :
    X z 0 0 (MA M S2) 183 [some (.ref M.o), some (.int (nI a)), some (.int (nI d)), some (.int (nI (d % 16))), none, none, none] [] := by
  have c15 : nI (d % 16) = 15 ↔ d % 16 = 15 := by rw [show (15 : Int32) = nI 15 from rfl, nI_eq (by omega) (by omega)]
  by_cases h5 : nI (d % 16) = 15
  · rw [if_pos h5] at E
    unfold f_own at E
    have esub : nI (e) - nI (a + 1) = nI (e - (a + 1)) := pk_sub (by omega)
    have hx2 := s_textTo (S := S2.sw 24 (r) (nI (e - (a + 1))).toInt64) hW (r) (tx) (a + 1) (e - (a + 1)) g23 hr99 g34 (by omega) g40 (by omega)
    have g23b : (f_text (S2.sw 24 (r) (nI (e - (a + 1))).toInt64) (r) (tx) (a + 1) (e - (a + 1))).i 23 = nI (r) := by
      unfold f_text
      have : ∀ k (Q : MS), Q.i 23 = nI (r) → (f_txl Q (tx) (a + 1) k).i 23 = nI (r) := by
        intro k Q hQ
        induction k with
        | zero => exact hQ
        | succ k ih => rw [f_txl, MS.si_i, if_neg (by decide), MS.si_i, if_neg (by decide), MS.sa_i]; exact ih
      exact this _ _ g23
    refine x_iload_n C dX7_oneRecord_183 rfl ?_
    refine x_bipush (v := 15) C dX7_oneRecord_184 (by decide) ?_
    refine x_icmp_ne (tgt := 232) C dX7_oneRecord_186 (by decide) (fun c186 => absurd c186 (not_not_intro h5)) (fun c186 => ?_)
    refine x_aload_n C dX7_oneRecord_189 rfl ?_
    refine m_getA C Y 24 (by decide) (by decide) wf_X7_56 dX7_oneRecord_190 ?_
    refine x_aload_n C dX7_oneRecord_193 rfl ?_
    refine m_get C Y 23 (by decide) (by decide) wf_X7_190 dX7_oneRecord_194 ?_
    refine x_aload_n C dX7_oneRecord_197 rfl ?_
    refine m_get C Y 39 (by decide) (by decide) wf_X7_215 dX7_oneRecord_198 ?_
    refine x_aload_n C dX7_oneRecord_201 rfl ?_
    refine m_get C Y 40 (by decide) (by decide) wf_X7_221 dX7_oneRecord_202 ?_
    rw [g39, g40]
    refine x_isub C dX7_oneRecord_205 ?_
    rw [esub]
    refine x_i2l C dX7_oneRecord_206 ?_
    refine m_lstN C Y hW.2.1 24 (r) (by decide) dX7_oneRecord_207 g23 (by simp only [m_len]; omega) ?_
    refine x_aload_n C dX7_oneRecord_208 rfl ?_
    refine x_aload_n C dX7_oneRecord_209 rfl ?_
    refine m_get C Y 39 (by decide) (by decide) wf_X7_215 dX7_oneRecord_210 ?_
    refine x_aload_n C dX7_oneRecord_213 rfl ?_
    refine m_get C Y 40 (by decide) (by decide) wf_X7_221 dX7_oneRecord_214 ?_
    rw [MS.sw_i, MS.sw_i, g39, g40]
    refine x_isub C dX7_oneRecord_217 ?_
    rw [esub]
    refine m_callF C Y hW E (hx2) rfl md_X7_textTo wi_X7_textTo ws_X7_textTo wm_X7_231 dX7_oneRecord_218 rfl (by decide) (by decide) rfl (by simp [Value.category]) ?_
    refine x_aload_n C dX7_oneRecord_221 rfl ?_
    refine x_dup C dX7_oneRecord_222 rfl ?_
    refine m_get C Y 23 (by decide) (by decide) wf_X7_190 dX7_oneRecord_223 ?_
    rw [g23b]
    refine x_iconst (v := 1) C dX7_oneRecord_226 (by decide) ?_
    refine x_iadd C dX7_oneRecord_227 ?_
    rw [nI_1]
    refine m_put C Y hW.2.1 23 (by decide) (by decide) rfl rfl rfl wf_X7_190 dX7_oneRecord_228 ?_
    refine m_vret C E dX7_oneRecord_231 ?_
    exact ⟨rfl, rfl⟩
  · rw [if_neg h5] at E
    have hc15 : d % 16 ≠ 15 := fun q => h5 (c15.mpr q)
    have gpd := WFp.dl (r := r) 12 (nI d) 0 gp
    have gid : (f_dl (r) 12 S2 (nI d) 0).i 23 = nI (r) := (f_dl_i _ (by decide) (by decide) (by decide) _ _ _ _).trans g23
    have gtd : (f_dl (r) 12 S2 (nI d) 0).i 34 = nI (tx) := (f_dl_i _ (by decide) (by decide) (by decide) _ _ _ _).trans g34
    have gdd : WFd (f_dl (r) 12 S2 (nI d) 0) := gd.same (fun j => f_dl_38 _ _ _ _ _ _)
    have T369 : ∀ l4 l5 l6 : Option Value, X z 0 0 (MA M (f_dl (r) 12 S2 (nI d) 0)) 369 [some (.ref M.o), some (.int (nI (a))), some (.int (nI d)), some (.int (nI (d % 16))), l4, l5, l6] [] := by
      intro l4 l5 l6
      generalize f_dl (r) 12 S2 (nI d) 0 = S3 at E gpd gid gtd gdd ⊢
      have gpv := WFp.vl (r := r) 13 128 0 gpd
      have giv : (f_vl (r) 13 S3 128 0).i 23 = nI (r) := (f_vl_i _ (by decide) (by decide) (by decide) _ _ _ _).trans gid
      have gtv : (f_vl (r) 13 S3 128 0).i 34 = nI (tx) := (f_vl_i _ (by decide) (by decide) (by decide) _ _ _ _).trans gtd
      have gdv : WFd (f_vl (r) 13 S3 128 0) := gdd.same (fun j => f_vl_38 _ _ _ _ _ _)
      have T475 := fun l4 l5 l6 => rc_end (S := f_vl (r) 13 S3 128 0) hW (d % 16) (r) (by omega) hc8 gpv gdv giv hr99 (tx) gtv ht2 (nI (a)) (nI d) l4 l5 l6 C Y E hn
      refine x_sipush (v := 128) C dX7_oneRecord_369 (by decide) ?_
      refine x_istoreE (L' := [some _, some _, some _, some _, some _, _, _]) C dX7_oneRecord_372 (by rw [hn]; decide) rfl ?_
      refine x_iconst (v := 0) C dX7_oneRecord_374 (by decide) ?_
      refine x_istoreE (L' := [some _, some _, some _, some _, some _, some _, _]) C dX7_oneRecord_375 (by rw [hn]; decide) rfl ?_
      exact rc2 hW C Y E hn (r) hr99 _ _ _ _ T475 13 S3 128 0 _ rfl gpd gid (Or.inl (by decide)) rfl
    refine x_iload_n C dX7_oneRecord_183 rfl ?_
    refine x_bipush (v := 15) C dX7_oneRecord_184 (by decide) ?_
    refine x_icmp_ne (tgt := 232) C dX7_oneRecord_186 (by decide) (fun c186 => ?_) (fun c186 => absurd c186 (fun q => h5 q))
    refine x_iload_n C dX7_oneRecord_232 rfl ?_
    refine x_istoreE (L' := [some _, some _, some _, some _, some _, none, none]) C dX7_oneRecord_233 (by rw [hn]; decide) rfl ?_
    refine x_iconst (v := 0) C dX7_oneRecord_235 (by decide) ?_
    refine x_istoreE (L' := [some _, some _, some _, some _, some _, some _, none]) C dX7_oneRecord_236 (by rw [hn]; decide) rfl ?_
    exact rc1 hW C Y E hn (r) hr99 _ _ _ _ T369 12 S2 (nI d) 0 _ rfl gp g23 (Or.inl (by decide)) rfl
theorem s_oneRecord (hW : Wm w M) (hp : WFp S) (hd : WFd S) (hlt : f_at S < f_e S) (hr : S.i 23 = nI (f_r S)) (hr1 : f_r S ≤ 100) (ht : S.i 34 = nI (f_tx S)) (ht1 : f_r S < 100 → f_tx S + 300 ≤ 26000) (h41 : S.i 41 = 0) : TF w M yX7_oneRecord cX7_oneRecord 7 none 3 [] S none (f_rcd S) := by
  refine TM.intro hW rfl (Nat.le_of_ble_eq_true rfl) (fun z C Y E hn => ?_)
  have he3 := hp.2.2.2
  have hx := s_next (S := S) hW (f_at S) (f_e S) hp.1 hp.2.1 he3 hlt
  obtain ⟨d1, d2⟩ := hd.b (j := f_at S) (by omega)
  unfold f_rcd at E
  dsimp only at E
  generalize hD : S.a 38 (f_at S) = D at hx E d1 d2
  generalize hn0 : D.toNatClampNeg = d at d1 d2
  subst d2
  have ec : nI d &&& 15 = nI (d % 16) := pk_andN (by omega) 4 rfl
  have q47 : nI d = 47 ↔ d = 47 := by rw [show (47 : Int32) = nI 47 from rfl, nI_eq (by omega) (by omega)]
  by_cases h1 : nI d = 47
  · rw [if_pos h1] at E
    refine x_aload_n C dX7_oneRecord_0 rfl ?_
    refine m_get C Y 40 (by decide) (by decide) wf_X7_221 dX7_oneRecord_1 ?_
    refine x_istore_nE (L' := [some _, some _, none, none, none, none, none]) C dX7_oneRecord_4 (by rw [hn]; decide) rfl ?_
    refine x_aload_n C dX7_oneRecord_5 rfl ?_
    refine m_callF C Y hW E (hx) rfl md_X7_next wi_X7_next ws_X7_next wm_X7_227 dX7_oneRecord_6 rfl (by decide) (by decide) rfl (by simp [Value.category]) ?_
    refine x_istore_nE (L' := [some _, some _, some _, none, none, none, none]) C dX7_oneRecord_9 (by rw [hn]; decide) rfl ?_
    refine x_iload_n C dX7_oneRecord_10 rfl ?_
    refine x_bipush (v := 15) C dX7_oneRecord_11 (by decide) ?_
    refine x_iand C dX7_oneRecord_13 ?_
    refine x_istore_nE (L' := [some _, some _, some _, some _, none, none, none]) C dX7_oneRecord_14 (by rw [hn]; decide) rfl ?_
    refine x_iload_n C dX7_oneRecord_15 rfl ?_
    refine x_bipush (v := 47) C dX7_oneRecord_16 (by decide) ?_
    refine x_icmp_ne (tgt := 22) C dX7_oneRecord_18 (by decide) (fun c18 => absurd c18 (not_not_intro h1)) (fun c18 => ?_)
    refine m_vret C E dX7_oneRecord_21 ?_
    exact ⟨rfl, rfl⟩
  · rw [if_neg h1] at E
    by_cases h2 : nI d = 31
    · rw [if_pos h2] at E
      have cl : nI (f_e S) ≤ nI (f_at S + 1) ↔ ¬ f_at S + 1 < f_e S := by rw [nI_leI (by omega) (by omega)]; omega
      by_cases h3 : f_at S + 1 < f_e S
      · rw [if_pos h3] at E
        refine x_aload_n C dX7_oneRecord_0 rfl ?_
        refine m_get C Y 40 (by decide) (by decide) wf_X7_221 dX7_oneRecord_1 ?_
        refine x_istore_nE (L' := [some _, some _, none, none, none, none, none]) C dX7_oneRecord_4 (by rw [hn]; decide) rfl ?_
        refine x_aload_n C dX7_oneRecord_5 rfl ?_
        refine m_callF C Y hW E (hx) rfl md_X7_next wi_X7_next ws_X7_next wm_X7_227 dX7_oneRecord_6 rfl (by decide) (by decide) rfl (by simp [Value.category]) ?_
        refine x_istore_nE (L' := [some _, some _, some _, none, none, none, none]) C dX7_oneRecord_9 (by rw [hn]; decide) rfl ?_
        refine x_iload_n C dX7_oneRecord_10 rfl ?_
        refine x_bipush (v := 15) C dX7_oneRecord_11 (by decide) ?_
        refine x_iand C dX7_oneRecord_13 ?_
        refine x_istore_nE (L' := [some _, some _, some _, some _, none, none, none]) C dX7_oneRecord_14 (by rw [hn]; decide) rfl ?_
        refine x_iload_n C dX7_oneRecord_15 rfl ?_
        refine x_bipush (v := 47) C dX7_oneRecord_16 (by decide) ?_
        refine x_icmp_ne (tgt := 22) C dX7_oneRecord_18 (by decide) (fun c18 => ?_) (fun c18 => absurd c18 (fun q => h1 q))
        refine x_iload_n C dX7_oneRecord_22 rfl ?_
        refine x_bipush (v := 31) C dX7_oneRecord_23 (by decide) ?_
        refine x_icmp_ne (tgt := 56) C dX7_oneRecord_25 (by decide) (fun c25 => absurd c25 (not_not_intro h2)) (fun c25 => ?_)
        refine x_aload_n C dX7_oneRecord_28 rfl ?_
        refine x_iconst (v := 1) C dX7_oneRecord_29 (by decide) ?_
        refine m_put C Y hW.2.1 37 (by decide) (by decide) rfl (by decide) (by decide) wf_X7_200 dX7_oneRecord_30 ?_
        refine x_aload_n C dX7_oneRecord_33 rfl ?_
        refine m_get C Y 40 (by decide) (by decide) wf_X7_221 dX7_oneRecord_34 ?_
        refine x_aload_n C dX7_oneRecord_37 rfl ?_
        refine m_get C Y 39 (by decide) (by decide) wf_X7_215 dX7_oneRecord_38 ?_
        rw [show ((S.si 40 (nI (f_at S + 1))).si 37 1).i 40 = nI (f_at S + 1) from rfl, show ((S.si 40 (nI (f_at S + 1))).si 37 1).i 39 = nI (f_e S) from hp.2.1]
        refine x_icmp_ge (tgt := 55) C dX7_oneRecord_41 (by decide) (fun c41 => absurd c41 (fun q => cl.mp q h3)) (fun c41 => ?_)
        refine x_aload_n C dX7_oneRecord_44 rfl ?_
        refine x_iconst (v := 4) C dX7_oneRecord_45 (by decide) ?_
        refine x_aload_n C dX7_oneRecord_46 rfl ?_
        refine m_get C Y 40 (by decide) (by decide) wf_X7_221 dX7_oneRecord_47 ?_
        rw [show ((S.si 40 (nI (f_at S + 1))).si 37 1).i 40 = nI (f_at S + 1) from rfl]
        refine m_callF C Y hW E (s_blame hW _ _) rfl md_X7_blame wi_X7_blame ws_X7_blame wm_X7_207 dX7_oneRecord_50 rfl (by decide) (by decide) rfl (by simp [Value.category]) ?_
        refine x_istoreE (L' := [some _, some _, some _, some _, some _, none, none]) C dX7_oneRecord_53 (by rw [hn]; decide) rfl ?_
        refine m_vret C E dX7_oneRecord_55 ?_
        exact ⟨rfl, rfl⟩
      · rw [if_neg h3] at E
        refine x_aload_n C dX7_oneRecord_0 rfl ?_
        refine m_get C Y 40 (by decide) (by decide) wf_X7_221 dX7_oneRecord_1 ?_
        refine x_istore_nE (L' := [some _, some _, none, none, none, none, none]) C dX7_oneRecord_4 (by rw [hn]; decide) rfl ?_
        refine x_aload_n C dX7_oneRecord_5 rfl ?_
        refine m_callF C Y hW E (hx) rfl md_X7_next wi_X7_next ws_X7_next wm_X7_227 dX7_oneRecord_6 rfl (by decide) (by decide) rfl (by simp [Value.category]) ?_
        refine x_istore_nE (L' := [some _, some _, some _, none, none, none, none]) C dX7_oneRecord_9 (by rw [hn]; decide) rfl ?_
        refine x_iload_n C dX7_oneRecord_10 rfl ?_
        refine x_bipush (v := 15) C dX7_oneRecord_11 (by decide) ?_
        refine x_iand C dX7_oneRecord_13 ?_
        refine x_istore_nE (L' := [some _, some _, some _, some _, none, none, none]) C dX7_oneRecord_14 (by rw [hn]; decide) rfl ?_
        refine x_iload_n C dX7_oneRecord_15 rfl ?_
        refine x_bipush (v := 47) C dX7_oneRecord_16 (by decide) ?_
        refine x_icmp_ne (tgt := 22) C dX7_oneRecord_18 (by decide) (fun c18 => ?_) (fun c18 => absurd c18 (fun q => h1 q))
        refine x_iload_n C dX7_oneRecord_22 rfl ?_
        refine x_bipush (v := 31) C dX7_oneRecord_23 (by decide) ?_
        refine x_icmp_ne (tgt := 56) C dX7_oneRecord_25 (by decide) (fun c25 => absurd c25 (not_not_intro h2)) (fun c25 => ?_)
        refine x_aload_n C dX7_oneRecord_28 rfl ?_
        refine x_iconst (v := 1) C dX7_oneRecord_29 (by decide) ?_
        refine m_put C Y hW.2.1 37 (by decide) (by decide) rfl (by decide) (by decide) wf_X7_200 dX7_oneRecord_30 ?_
        refine x_aload_n C dX7_oneRecord_33 rfl ?_
        refine m_get C Y 40 (by decide) (by decide) wf_X7_221 dX7_oneRecord_34 ?_
        refine x_aload_n C dX7_oneRecord_37 rfl ?_
        refine m_get C Y 39 (by decide) (by decide) wf_X7_215 dX7_oneRecord_38 ?_
        rw [show ((S.si 40 (nI (f_at S + 1))).si 37 1).i 40 = nI (f_at S + 1) from rfl, show ((S.si 40 (nI (f_at S + 1))).si 37 1).i 39 = nI (f_e S) from hp.2.1]
        refine x_icmp_ge (tgt := 55) C dX7_oneRecord_41 (by decide) (fun c41 => ?_) (fun c41 => absurd c41 (not_not_intro (cl.mpr h3)))
        refine m_vret C E dX7_oneRecord_55 ?_
        exact ⟨rfl, rfl⟩
    · rw [if_neg h2] at E
      have T56 : X z 0 0 (MA M (S.si 40 (nI (f_at S + 1)))) 56 [some (.ref M.o), some (.int (nI (f_at S))), some (.int (nI d)), some (.int (nI (d % 16))), none, none, none] [] := by
        rw [ec] at E
        have c8 : nI (d % 16) = 8 ↔ d % 16 = 8 := by rw [show (8 : Int32) = nI 8 from rfl, nI_eq (by omega) (by omega)]
        have c15 : nI (d % 16) = 15 ↔ d % 16 = 15 := by rw [show (15 : Int32) = nI 15 from rfl, nI_eq (by omega) (by omega)]
        have r100 : nI (f_r S) = 100 ↔ f_r S = 100 := by rw [show (100 : Int32) = nI 100 from rfl, nI_eq (by omega) (by omega)]
        have hS23 : (S.si 40 (nI (f_at S + 1))).i 23 = nI (f_r S) := hr
        by_cases h3 : nI (d % 16) = 8 ∨ (nI (d % 16) = 15 ∧ ¬ nI d = 15)
        · rw [if_pos h3] at E
          refine x_iload_n C dX7_oneRecord_56 rfl ?_
          refine x_bipush (v := 8) C dX7_oneRecord_57 (by decide) ?_
          refine x_icmp_eq (tgt := 74) C dX7_oneRecord_59 (by decide) (fun c59 => ?_) (fun c59 => ?_)
          · skip
            refine x_aload_n C dX7_oneRecord_74 rfl ?_
            refine x_bipush (v := 9) C dX7_oneRecord_75 (by decide) ?_
            refine x_iload_n C dX7_oneRecord_77 rfl ?_
            refine m_callF C Y hW E (s_blame hW _ _) rfl md_X7_blame wi_X7_blame ws_X7_blame wm_X7_207 dX7_oneRecord_78 rfl (by decide) (by decide) rfl (by simp [Value.category]) ?_
            refine x_istoreE (L' := [some _, some _, some _, some _, some _, none, none]) C dX7_oneRecord_81 (by rw [hn]; decide) rfl ?_
            refine m_vret C E dX7_oneRecord_83 ?_
            exact ⟨rfl, rfl⟩
          · skip
            refine x_iload_n C dX7_oneRecord_62 rfl ?_
            refine x_bipush (v := 15) C dX7_oneRecord_63 (by decide) ?_
            refine x_icmp_ne (tgt := 84) C dX7_oneRecord_65 (by decide) (fun c65 => ?_) (fun c65 => ?_)
            · skip
              first | exact absurd h3 (fun q => q.elim c59 (fun r => c65 r.1)) | exact absurd h3 (fun q => q.elim c59 (fun r => r.2 c71))
            · skip
              refine x_iload_n C dX7_oneRecord_68 rfl ?_
              refine x_bipush (v := 15) C dX7_oneRecord_69 (by decide) ?_
              refine x_icmp_eq (tgt := 84) C dX7_oneRecord_71 (by decide) (fun c71 => ?_) (fun c71 => ?_)
              · skip
                first | exact absurd h3 (fun q => q.elim c59 (fun r => c65 r.1)) | exact absurd h3 (fun q => q.elim c59 (fun r => r.2 c71))
              · skip
                refine x_aload_n C dX7_oneRecord_74 rfl ?_
                refine x_bipush (v := 9) C dX7_oneRecord_75 (by decide) ?_
                refine x_iload_n C dX7_oneRecord_77 rfl ?_
                refine m_callF C Y hW E (s_blame hW _ _) rfl md_X7_blame wi_X7_blame ws_X7_blame wm_X7_207 dX7_oneRecord_78 rfl (by decide) (by decide) rfl (by simp [Value.category]) ?_
                refine x_istoreE (L' := [some _, some _, some _, some _, some _, none, none]) C dX7_oneRecord_81 (by rw [hn]; decide) rfl ?_
                refine m_vret C E dX7_oneRecord_83 ?_
                exact ⟨rfl, rfl⟩
        · rw [if_neg h3] at E
          have T84 : X z 0 0 (MA M (S.si 40 (nI (f_at S + 1)))) 84 [some (.ref M.o), some (.int (nI (f_at S))), some (.int (nI d)), some (.int (nI (d % 16))), none, none, none] [] := by
            by_cases h4 : f_r S = 100
            · rw [if_pos h4] at E
              refine x_aload_n C dX7_oneRecord_84 rfl ?_
              refine m_get C Y 23 (by decide) (by decide) wf_X7_190 dX7_oneRecord_85 ?_
              refine x_bipush (v := 100) C dX7_oneRecord_88 (by decide) ?_
              rw [hS23]
              refine x_icmp_ne (tgt := 103) C dX7_oneRecord_90 (by decide) (fun c90 => absurd c90 (not_not_intro (r100.mpr h4))) (fun c90 => ?_)
              refine x_aload_n C dX7_oneRecord_93 rfl ?_
              refine x_bipush (v := 10) C dX7_oneRecord_94 (by decide) ?_
              refine x_iload_n C dX7_oneRecord_96 rfl ?_
              refine m_callF C Y hW E (s_blame hW _ _) rfl md_X7_blame wi_X7_blame ws_X7_blame wm_X7_207 dX7_oneRecord_97 rfl (by decide) (by decide) rfl (by simp [Value.category]) ?_
              refine x_istoreE (L' := [some _, some _, some _, some _, some _, none, none]) C dX7_oneRecord_100 (by rw [hn]; decide) rfl ?_
              refine m_vret C E dX7_oneRecord_102 ?_
              exact ⟨rfl, rfl⟩
            · rw [if_neg h4] at E
              have hr99 : f_r S < 100 := by omega
              have T183 : X z 0 0 (MA M (f_rec0 (S.si 40 (nI (f_at S + 1))) (f_r S) (nI d))) 183 [some (.ref M.o), some (.int (nI (f_at S))), some (.int (nI d)), some (.int (nI (d % 16))), none, none, none] [] := by
                have g40 : (f_rec0 (S.si 40 (nI (f_at S + 1))) (f_r S) (nI d)).i 40 = nI (f_at S + 1) := rfl
                have g39 : (f_rec0 (S.si 40 (nI (f_at S + 1))) (f_r S) (nI d)).i 39 = nI (f_e S) := hp.2.1
                have g23 : (f_rec0 (S.si 40 (nI (f_at S + 1))) (f_r S) (nI d)).i 23 = nI (f_r S) := hr
                have g34 : (f_rec0 (S.si 40 (nI (f_at S + 1))) (f_r S) (nI d)).i 34 = nI (f_tx S) := ht
                have g38 : ∀ j, (f_rec0 (S.si 40 (nI (f_at S + 1))) (f_r S) (nI d)).a 38 j = S.a 38 j := fun j => by
                  unfold f_rec0
                  rw [sa_ne (by decide), sa_ne (by decide), sa_ne (by decide), sa_ne (by decide), MS.sw_a, sa_ne (by decide), sa_ne (by decide)]
                  rfl
                have gp := (WFp.of g40 g39 (by omega) he3).1
                have gd := hd.same g38
                have gf : (f_rec0 (S.si 40 (nI (f_at S + 1))) (f_r S) (nI d)).i 41 = 0 := h41
                have e5 : (nI (d % 16)).toNatClampNeg = d % 16 := nI_clamp (by omega)
                rw [e5] at E
                exact rc183 hW (f_at S) (f_e S) (f_r S) (f_tx S) d d1 he3 hlt hr99 (ht1 hr99) (fun q => h3 (Or.inl (c8.mpr q))) gp gd g40 g39 g23 g34 gf C Y E hn
              refine x_aload_n C dX7_oneRecord_84 rfl ?_
              refine m_get C Y 23 (by decide) (by decide) wf_X7_190 dX7_oneRecord_85 ?_
              refine x_bipush (v := 100) C dX7_oneRecord_88 (by decide) ?_
              rw [hS23]
              refine x_icmp_ne (tgt := 103) C dX7_oneRecord_90 (by decide) (fun c90 => ?_) (fun c90 => absurd c90 (fun q => h4 (r100.mp q)))
              refine x_aload_n C dX7_oneRecord_103 rfl ?_
              refine m_getA C Y 25 (by decide) (by decide) wf_X7_60 dX7_oneRecord_104 ?_
              refine x_aload_n C dX7_oneRecord_107 rfl ?_
              refine m_get C Y 23 (by decide) (by decide) wf_X7_190 dX7_oneRecord_108 ?_
              refine x_iload_n C dX7_oneRecord_111 rfl ?_
              refine m_istN C Y hW.2.1 25 (f_r S) (by decide) dX7_oneRecord_112 hr (by simp only [m_len]; omega) ?_
              refine x_aload_n C dX7_oneRecord_113 rfl ?_
              refine m_getA C Y 26 (by decide) (by decide) wf_X7_63 dX7_oneRecord_114 ?_
              refine x_aload_n C dX7_oneRecord_117 rfl ?_
              refine m_get C Y 23 (by decide) (by decide) wf_X7_190 dX7_oneRecord_118 ?_
              refine x_iload_n C dX7_oneRecord_121 rfl ?_
              refine x_iconst (v := 4) C dX7_oneRecord_122 (by decide) ?_
              refine x_ishr C dX7_oneRecord_123 ?_
              refine x_iconst (v := 3) C dX7_oneRecord_124 (by decide) ?_
              refine x_iand C dX7_oneRecord_125 ?_
              refine m_istN C Y hW.2.1 26 (f_r S) (by decide) dX7_oneRecord_126 hr (by simp only [m_len]; omega) ?_
              refine x_aload_n C dX7_oneRecord_127 rfl ?_
              refine m_getA C Y 27 (by decide) (by decide) wf_X7_66 dX7_oneRecord_128 ?_
              refine x_aload_n C dX7_oneRecord_131 rfl ?_
              refine m_get C Y 23 (by decide) (by decide) wf_X7_190 dX7_oneRecord_132 ?_
              refine x_iload_n C dX7_oneRecord_135 rfl ?_
              refine x_bipush (v := 6) C dX7_oneRecord_136 (by decide) ?_
              refine x_ishr C dX7_oneRecord_138 ?_
              refine x_iconst (v := 1) C dX7_oneRecord_139 (by decide) ?_
              refine x_iand C dX7_oneRecord_140 ?_
              refine x_i2l C dX7_oneRecord_141 ?_
              refine m_lstN C Y hW.2.1 27 (f_r S) (by decide) dX7_oneRecord_142 hr (by simp only [m_len]; omega) ?_
              refine x_aload_n C dX7_oneRecord_143 rfl ?_
              refine m_getA C Y 28 (by decide) (by decide) wf_X7_69 dX7_oneRecord_144 ?_
              refine x_aload_n C dX7_oneRecord_147 rfl ?_
              refine m_get C Y 23 (by decide) (by decide) wf_X7_190 dX7_oneRecord_148 ?_
              refine x_iconst (v := 0) C dX7_oneRecord_151 (by decide) ?_
              refine m_istN C Y hW.2.1 28 (f_r S) (by decide) dX7_oneRecord_152 hr (by simp only [m_len]; omega) ?_
              refine x_aload_n C dX7_oneRecord_153 rfl ?_
              refine m_getA C Y 29 (by decide) (by decide) wf_X7_72 dX7_oneRecord_154 ?_
              refine x_aload_n C dX7_oneRecord_157 rfl ?_
              refine m_get C Y 23 (by decide) (by decide) wf_X7_190 dX7_oneRecord_158 ?_
              refine x_iconst (v := 0) C dX7_oneRecord_161 (by decide) ?_
              refine m_istN C Y hW.2.1 29 (f_r S) (by decide) dX7_oneRecord_162 hr (by simp only [m_len]; omega) ?_
              refine x_aload_n C dX7_oneRecord_163 rfl ?_
              refine m_getA C Y 30 (by decide) (by decide) wf_X7_75 dX7_oneRecord_164 ?_
              refine x_aload_n C dX7_oneRecord_167 rfl ?_
              refine m_get C Y 23 (by decide) (by decide) wf_X7_190 dX7_oneRecord_168 ?_
              refine x_iconst (v := 0) C dX7_oneRecord_171 (by decide) ?_
              refine m_istN C Y hW.2.1 30 (f_r S) (by decide) dX7_oneRecord_172 hr (by simp only [m_len]; omega) ?_
              refine x_aload_n C dX7_oneRecord_173 rfl ?_
              refine m_getA C Y 33 (by decide) (by decide) wf_X7_84 dX7_oneRecord_174 ?_
              refine x_aload_n C dX7_oneRecord_177 rfl ?_
              refine m_get C Y 23 (by decide) (by decide) wf_X7_190 dX7_oneRecord_178 ?_
              refine x_iconst (v := 0) C dX7_oneRecord_181 (by decide) ?_
              refine m_istN C Y hW.2.1 33 (f_r S) (by decide) dX7_oneRecord_182 hr (by simp only [m_len]; omega) ?_
              exact x_MA (by unfold f_rec0; rw [ec]) T183
          refine x_iload_n C dX7_oneRecord_56 rfl ?_
          refine x_bipush (v := 8) C dX7_oneRecord_57 (by decide) ?_
          refine x_icmp_eq (tgt := 74) C dX7_oneRecord_59 (by decide) (fun c59 => ?_) (fun c59 => ?_)
          · skip
            first | exact absurd (Or.inl c59) h3 | exact absurd (Or.inr ⟨c65, c71⟩) h3
          · skip
            refine x_iload_n C dX7_oneRecord_62 rfl ?_
            refine x_bipush (v := 15) C dX7_oneRecord_63 (by decide) ?_
            refine x_icmp_ne (tgt := 84) C dX7_oneRecord_65 (by decide) (fun c65 => ?_) (fun c65 => ?_)
            · skip
              exact T84
            · skip
              refine x_iload_n C dX7_oneRecord_68 rfl ?_
              refine x_bipush (v := 15) C dX7_oneRecord_69 (by decide) ?_
              refine x_icmp_eq (tgt := 84) C dX7_oneRecord_71 (by decide) (fun c71 => ?_) (fun c71 => ?_)
              · skip
                exact T84
              · skip
                first | exact absurd (Or.inl c59) h3 | exact absurd (Or.inr ⟨c65, c71⟩) h3
      refine x_aload_n C dX7_oneRecord_0 rfl ?_
      refine m_get C Y 40 (by decide) (by decide) wf_X7_221 dX7_oneRecord_1 ?_
      rw [hp.1]
      refine x_istore_nE (L' := [some _, some _, none, none, none, none, none]) C dX7_oneRecord_4 (by rw [hn]; decide) rfl ?_
      refine x_aload_n C dX7_oneRecord_5 rfl ?_
      refine m_callF C Y hW E (hx) rfl md_X7_next wi_X7_next ws_X7_next wm_X7_227 dX7_oneRecord_6 rfl (by decide) (by decide) rfl (by simp [Value.category]) ?_
      refine x_istore_nE (L' := [some _, some _, some _, none, none, none, none]) C dX7_oneRecord_9 (by rw [hn]; decide) rfl ?_
      refine x_iload_n C dX7_oneRecord_10 rfl ?_
      refine x_bipush (v := 15) C dX7_oneRecord_11 (by decide) ?_
      refine x_iand C dX7_oneRecord_13 ?_
      rw [ec]
      refine x_istore_nE (L' := [some _, some _, some _, some _, none, none, none]) C dX7_oneRecord_14 (by rw [hn]; decide) rfl ?_
      refine x_iload_n C dX7_oneRecord_15 rfl ?_
      refine x_bipush (v := 47) C dX7_oneRecord_16 (by decide) ?_
      refine x_icmp_ne (tgt := 22) C dX7_oneRecord_18 (by decide) (fun c18 => ?_) (fun c18 => absurd c18 (fun q => h1 q))
      refine x_iload_n C dX7_oneRecord_22 rfl ?_
      refine x_bipush (v := 31) C dX7_oneRecord_23 (by decide) ?_
      refine x_icmp_ne (tgt := 56) C dX7_oneRecord_25 (by decide) (fun c25 => ?_) (fun c25 => absurd c25 (fun q => h2 q))
      exact T56
end One
