/-! The decoder against the model: is it a frame? -/
def WAl (fb : Nat → Int32) (n : Nat) : Prop := ∃ l, 15 ≤ l ∧ l ≤ 252 ∧ n = l + 6 ∧ fb 1 = nI l ∧ fb 0 = 104 ∧ fb 2 = nI l ∧ fb 3 = 104 ∧ fb 4 = 8 ∧ fb 6 = 114 ∧ fb (l + 5) = 22
def WAs (fb : Nat → Int32) (n : Nat) : Prop := fb (n - 2) = sumR fb 4 (n - 6) &&& 255
def WAi (fb : Nat → Int32) : Prop := ∀ k, 7 ≤ k → k < 11 → g_dig (fb k) 8 = true
section Pure
variable {fb : Nat → Int32} {n : Nat} {S : MS}
theorem rAt_v {k : Nat} {x : Int32} (hk : k < 600) (hn : n ≤ 300) (h : rAt fb n (nI k) = x) (hx : x ≠ -1) : k < n ∧ fb k = x := by
  by_cases q : k < n
  · rw [rAt_in q hn] at h
    exact ⟨q, h⟩
  · unfold rAt at h
    rw [if_neg (fun y => q ((nI_ltI (by omega) (by omega)).mp y.2))] at h
    exact absurd h.symm hx
theorem wv (hn : n ≤ 300) (W : WAl fb n) : ∃ l, 15 ≤ l ∧ l ≤ 252 ∧ n = l + 6 ∧ rAt fb n 1 = nI l ∧ rAt fb n 0 = 104 ∧ rAt fb n 2 = nI l ∧ rAt fb n 3 = 104 ∧ rAt fb n 4 = 8 ∧ rAt fb n 6 = 114 ∧ rAt fb n (nI (l + 5)) = 22 := by
  obtain ⟨l, l1, l2, l3, w1, w0, w2, w3, w4, w6, w5⟩ := W
  exact ⟨l, l1, l2, l3, (rAt_in (i := 1) (by omega) hn).trans w1, (rAt_in (i := 0) (by omega) hn).trans w0, (rAt_in (i := 2) (by omega) hn).trans w2, (rAt_in (i := 3) (by omega) hn).trans w3, (rAt_in (i := 4) (by omega) hn).trans w4, (rAt_in (i := 6) (by omega) hn).trans w6, (rAt_in (by omega) hn).trans w5⟩
theorem isB1 {i : Nat} {x : Int32} : f_isB S n i x x ↔ i < n ∧ S.a 38 i = x := ⟨fun h => ⟨h.1, Int32.le_antisymm h.2.2 (Int32.not_lt.mp h.2.1)⟩, fun h => ⟨h.1, by rw [h.2]; exact Int32.lt_irrefl, by rw [h.2]; exact Int32.le_refl x⟩⟩
theorem ids_t (L : Nat) : ∀ (t k : Nat), (f_ids S L t k).1 = true ↔ ∀ j, k ≤ j → j < k + t → ¬ f_bad S j
  | 0, k => ⟨fun _ j h1 h2 => by omega, fun _ => rfl⟩
  | t + 1, k => by
    unfold f_ids
    by_cases q : f_bad S k
    · rw [if_pos q]
      exact ⟨fun h => absurd h Bool.false_ne_true, fun h => absurd q (h k (Nat.le_refl _) (by omega))⟩
    · rw [if_neg q, ids_t L t (k + 1)]
      exact ⟨fun h j h1 h2 => by
        by_cases e : j = k
        · subst e; exact q
        · exact h j (by omega) (by omega), fun h j h1 h2 => h j (by omega) (by omega)⟩
theorem dig_bad {k : Nat} (h : byt (S.a 38 k)) : g_dig (S.a 38 k) 8 = true ↔ ¬ f_bad S k := by
  obtain ⟨b, h1, h2⟩ := h
  unfold f_bad
  rw [h2, dg_c b h1]
  exact ⟨fun y z => z.elim y.1 (fun t => t y.2), fun y => ⟨fun z => y (Or.inl z), Decidable.byContradiction fun z => y (Or.inr z)⟩⟩
theorem sumR_F8 (h : ∀ j, j < n → fb j = S.a 38 j) (a : Nat) : ∀ t, a + t ≤ n → sumR fb a t = sumF (S.a 38) a (a + t)
  | 0, _ => by rw [Nat.add_zero, sumF_0]; rfl
  | t + 1, ht => by rw [show a + (t + 1) = (a + t) + 1 by omega, sumF_s _ (by omega), sumR, sumR_F8 h a t (by omega), h _ (by omega)]
/-- the model finds a frame where the class does -/
theorem fr_iff (h : ∀ j, j < n → fb j = S.a 38 j) (hd : ∀ j, byt (S.a 38 j)) : (f_fr S n).1 = true ↔ WAl fb n ∧ WAs fb n ∧ WAi fb := by
  constructor
  · intro g
    obtain ⟨L, l1, l2, l3, -⟩ := f_fr_t g
    unfold f_fr at g
    split at g
    rotate_left
    · exact nomatch g
    rename_i h0
    split at g
    rotate_left
    · exact nomatch g
    rename_i h1
    split at g
    rotate_left
    · exact nomatch g
    rename_i h2
    split at g
    rotate_left
    · exact nomatch g
    rename_i h3
    unfold f_fr2 at g
    split at g
    rotate_left
    · exact nomatch g
    rename_i h4
    split at g
    rotate_left
    · exact nomatch g
    rename_i h5
    split at g
    rotate_left
    · exact nomatch g
    rename_i h6
    split at g
    rotate_left
    · exact nomatch g
    rename_i h7
    unfold f_fr3 at g
    split at g
    rotate_left
    · exact nomatch g
    rename_i h8
    obtain ⟨-, -, e1⟩ := f_L_of h1
    have eL : f_L S = L := by omega
    rw [eL] at e1 h7 h8 g
    have hh : ∀ j, j < n → ∀ x, S.a 38 j = x → fb j = x := fun j hj x e => (h j hj).trans e
    refine ⟨⟨L, l1, l2, l3, hh 1 (by omega) _ e1, hh 0 (by omega) _ (isB1.mp h0).2, hh 2 (by omega) _ ((isB1.mp h2).2.trans e1), hh 3 (by omega) _ (isB1.mp h3).2, hh 4 (by omega) _ (isB1.mp h5).2, hh 6 (by omega) _ (isB1.mp h6).2, hh (L + 5) (by omega) _ (isB1.mp h7).2⟩, ?_, fun k k1 k2 => ?_⟩
    · unfold WAs
      rw [show n - 2 = L + 4 by omega, show n - 6 = L by omega, h _ (by omega), sumR_F8 h 4 L (by omega), h8, Nat.add_comm 4 L]
    · rw [h k (by omega)]
      exact (dig_bad (hd k)).mpr ((ids_t L 4 7).mp g k k1 (by omega))
  · rintro ⟨⟨L, l1, l2, l3, w1, w0, w2, w3, w4, w6, w5⟩, ws, wi⟩
    have hh : ∀ j, j < n → ∀ x, fb j = x → S.a 38 j = x := fun j hj x e => (h j hj).symm.trans e
    have e1 := hh 1 (by omega) _ w1
    have eL : f_L S = L := by unfold f_L; rw [e1, nI_clamp (by omega)]
    unfold f_fr
    rw [if_pos (isB1.mpr ⟨by omega, hh 0 (by omega) _ w0⟩), if_pos (show f_isB S n 1 15 252 from ⟨by omega, by rw [e1]; exact Int32.not_lt.mpr (nI_le (a := 15) l1 (by omega)), by rw [e1]; exact nI_le (b := 252) l2 (by decide)⟩), if_pos (isB1.mpr ⟨by omega, (hh 2 (by omega) _ w2).trans e1.symm⟩), if_pos (isB1.mpr ⟨by omega, hh 3 (by omega) _ w3⟩)]
    unfold f_fr2
    rw [eL, if_pos l3, if_pos (isB1.mpr ⟨by omega, hh 4 (by omega) _ w4⟩), if_pos (isB1.mpr ⟨by omega, hh 6 (by omega) _ w6⟩), if_pos (isB1.mpr ⟨by omega, hh (L + 5) (by omega) _ w5⟩)]
    unfold f_fr3
    unfold WAs at ws
    rw [show n - 2 = L + 4 by omega, show n - 6 = L by omega, h _ (by omega), sumR_F8 h 4 L (by omega), Nat.add_comm 4 L] at ws
    rw [eL, if_pos ws]
    exact (ids_t L 4 7).mpr (fun j j1 j2 => (dig_bad (hd j)).mp (by rw [← h j (by omega)]; exact wi j j1 (by omega)))
theorem bl_pos {x y : Int32} (h : S.i 41 = 0) (hx : 0 < x) : 0 < (f_bl S x y).i 41 := by rw [f_bl_41 h]; exact hx
theorem bS_no {i : Nat} {lo hi : Int32} (h0 : S.i 41 = 0) (h : ¬ f_isB S n i lo hi) : 0 < (f_bS S n i lo hi).i 41 := by
  unfold f_bS
  rw [if_neg h]
  exact bl_pos h0 (by decide)
theorem ids_no (h0 : S.i 41 = 0) (L : Nat) : ∀ (t k : Nat), ¬ (f_ids S L t k).1 = true → 0 < (f_ids S L t k).2.i 41
  | 0, _, h => absurd rfl h
  | t + 1, k, h => by
    unfold f_ids at h ⊢
    split at h
    · rename_i q
      rw [if_pos q]
      exact bl_pos h0 (by decide)
    · rename_i q
      rw [if_neg q]
      exact ids_no h0 L t (k + 1) h
theorem fr_no (h0 : S.i 41 = 0) (h : ¬ (f_fr S n).1 = true) : 0 < (f_fr S n).2.i 41 := by
  unfold f_fr at h ⊢
  by_cases q0 : f_isB S n 0 104 104
  rotate_left
  · rw [if_neg q0]; exact bS_no h0 q0
  rw [if_pos q0] at h ⊢
  by_cases q1 : f_isB S n 1 15 252
  rotate_left
  · rw [if_neg q1]; exact bS_no h0 q1
  rw [if_pos q1] at h ⊢
  by_cases q2 : f_isB S n 2 (S.a 38 1) (S.a 38 1)
  rotate_left
  · rw [if_neg q2]; exact bS_no h0 q2
  rw [if_pos q2] at h ⊢
  by_cases q3 : f_isB S n 3 104 104
  rotate_left
  · rw [if_neg q3]; exact bS_no h0 q3
  rw [if_pos q3] at h ⊢
  unfold f_fr2 at h ⊢
  by_cases q4 : n = f_L S + 6
  rotate_left
  · rw [if_neg q4]; exact bl_pos h0 (by decide)
  rw [if_pos q4] at h ⊢
  by_cases q5 : f_isB S n 4 8 8
  rotate_left
  · rw [if_neg q5]; exact bS_no h0 q5
  rw [if_pos q5] at h ⊢
  by_cases q6 : f_isB S n 6 114 114
  rotate_left
  · rw [if_neg q6]; exact bS_no h0 q6
  rw [if_pos q6] at h ⊢
  by_cases q7 : f_isB S n (f_L S + 5) 22 22
  rotate_left
  · rw [if_neg q7]; exact bS_no h0 q7
  rw [if_pos q7] at h ⊢
  unfold f_fr3 at h ⊢
  by_cases q8 : S.a 38 (f_L S + 4) = sumF (S.a 38) 4 (f_L S + 4) &&& 255
  rotate_left
  · rw [if_neg q8]; exact bl_pos h0 (by decide)
  rw [if_pos q8] at h ⊢
  exact ids_no h0 _ _ _ h
end Pure
section Dec
variable {w : Wd} {c : Nat → ClassId} {h : PH} {li de b ba n : Nat} {fb : Nat → Int32} {a e fa pl mo : Int32}
/-- behind a look at the frame -/
def LKo (li de b : Nat) (a mo : Int32) (h : PH) (P : Prop) (en : Int32) (q : Option Value) (g : PH) : Prop := ∃ en' fa' pl' : Int32, g = hs h de (.inr (1, [.ref li, .ref b, .int a, .int en', .int fa', .int pl', .int mo])) ∧ ((q = some (.int 1) ∧ P ∧ en' = en) ∨ (q = some (.int 0) ∧ ¬ P))
theorem d_frameX (hW : Wc w c) (Rh : RW c h b ba fb n) (B : h de = some (.inr (1, [.ref li, .ref b, .int a, .int e, .int fa, .int pl, .int mo]))) (nbd : b ≠ de ∧ ba ≠ de) : T w gw yX1_frameIsWell cX1_frameIsWell 2 (some .boolean) 2 (40 * 2) 0 0 [.ref de] (EQ h) (LKo li de b a mo h (WAl fb n) (nI (n - 2))) := by
  refine TA.intro hW rfl (by decide +kernel) (Nat.le_of_ble_eq_true rfl) (fun z C Y E hn h1 hA => ?_)
  rw [show h1 = h from hA]
  clear hA
  have hn3 := Rh.2.2.2
  have hw : ∀ (pc : Nat) (x q : Int32) (l1 : Option Value), ¬ WAl fb n → decode cX1_frameIsWell pc = .ok (.invokevirtual 67, 3) → decode cX1_frameIsWell (pc + 3) = .ok (.ireturn, 1) → X z 0 0 (EQ h) pc [some (.ref de), l1] [.int q, .int x, .ref de] := fun pc x q l1 nf d1 d2 => by
    refine u_callV (st := []) C Y hW E.cs (d_wrong hW B x q) md_X1_wrong wi_X1_wrong ws_X1_wrong wm_X1_67 d1 rfl (by decide) (by decide) B rfl rfl (by decide) ?_
    exact x_zret C E d2 (by decide) (fun g e => ⟨_, _, _, e, Or.inr ⟨rfl, nf⟩⟩)
  refine x_aload_n C dX1_frameIsWell_0 rfl ?_
  refine e_get C Y kd_X1 1 (by decide) wf_X1_28 dX1_frameIsWell_1 B rfl ?_
  refine x_iconst (v := 1) C dX1_frameIsWell_4 (by decide) ?_
  refine k_at (st := []) C Y hW E.cs (by decide) Rh _ dX1_frameIsWell_5 (by decide) ?_
  generalize hl1 : rAt fb n 1 = l1
  refine o_istore_nE (L' := [some _, some _]) C dX1_frameIsWell_8 (by rw [hn]; decide) rfl ?_
  refine x_aload_n C dX1_frameIsWell_9 rfl ?_
  refine e_get C Y kd_X1 1 (by decide) wf_X1_28 dX1_frameIsWell_10 B rfl ?_
  refine x_iconst (v := 0) C dX1_frameIsWell_13 (by decide) ?_
  refine k_at (st := []) C Y hW E.cs (by decide) Rh _ dX1_frameIsWell_14 (by decide) ?_
  refine x_bipush (v := 104) C dX1_frameIsWell_17 (by decide) ?_
  refine x_icmp_eq (tgt := 29) C dX1_frameIsWell_19 (by decide) (fun p0 => ?_) (fun q => ?_)
  rotate_left
  · refine x_aload_n C dX1_frameIsWell_22 rfl ?_
    refine x_iconst (v := 1) C dX1_frameIsWell_23 (by decide) ?_
    refine x_iconst (v := 0) C dX1_frameIsWell_24 (by decide) ?_
    exact hw 25 _ _ _ (fun W => by obtain ⟨l, -, -, -, -, w0, -⟩ := wv hn3 W; exact q w0) dX1_frameIsWell_25 dX1_frameIsWell_28
  have T42 : ¬ WAl fb n → X z 0 0 (EQ h) 42 [some (.ref de), some (.int l1)] [] := fun nf => by
    refine x_aload_n C dX1_frameIsWell_42 rfl ?_
    refine x_iconst (v := 1) C dX1_frameIsWell_43 (by decide) ?_
    refine x_iconst (v := 1) C dX1_frameIsWell_44 (by decide) ?_
    exact hw 45 _ _ _ nf dX1_frameIsWell_45 dX1_frameIsWell_48
  refine x_iload_n C dX1_frameIsWell_29 rfl ?_
  refine x_bipush (v := 15) C dX1_frameIsWell_30 (by decide) ?_
  refine x_icmp_lt (tgt := 42) C dX1_frameIsWell_32 (by decide) (fun q => T42 (fun W => by obtain ⟨l, y1, y2, -, w1, -⟩ := wv hn3 W; rw [← hl1, w1] at q; exact absurd (nI_le (a := 15) y1 (by omega)) (Int32.not_le.mpr q))) (fun q1 => ?_)
  refine x_iload_n C dX1_frameIsWell_35 rfl ?_
  refine x_sipush (v := 252) C dX1_frameIsWell_36 (by decide) ?_
  refine x_icmp_le (tgt := 49) C dX1_frameIsWell_39 (by decide) (fun q2 => ?_) (fun q => T42 (fun W => by obtain ⟨l, y1, y2, -, w1, -⟩ := wv hn3 W; rw [← hl1, w1] at q; exact q (nI_le (b := 252) y2 (by decide))))
  obtain ⟨l, hl, rfl⟩ := nI_of (x := l1) (fun g => q1 (Int32.lt_trans g (by decide)))
  have l15 : 15 ≤ l := Nat.le_of_not_lt (fun g => q1 (nI_lt g (by decide)))
  have l252 : l ≤ 252 := Nat.le_of_not_lt (fun g => absurd (nI_lt g hl) (Int32.not_lt.mpr q2))
  refine x_aload_n C dX1_frameIsWell_49 rfl ?_
  refine e_get C Y kd_X1 1 (by decide) wf_X1_28 dX1_frameIsWell_50 B rfl ?_
  refine x_iconst (v := 2) C dX1_frameIsWell_53 (by decide) ?_
  refine k_at (st := []) C Y hW E.cs (by decide) Rh _ dX1_frameIsWell_54 (by decide) ?_
  refine x_iload_n C dX1_frameIsWell_57 rfl ?_
  refine x_icmp_eq (tgt := 68) C dX1_frameIsWell_58 (by decide) (fun p2 => ?_) (fun q => ?_)
  rotate_left
  · refine x_aload_n C dX1_frameIsWell_61 rfl ?_
    refine x_iconst (v := 1) C dX1_frameIsWell_62 (by decide) ?_
    refine x_iconst (v := 2) C dX1_frameIsWell_63 (by decide) ?_
    exact hw 64 _ _ _ (fun W => by obtain ⟨l9, -, -, -, w1, -, w2, -⟩ := wv hn3 W; rw [hl1] at w1; exact q (w2.trans w1.symm)) dX1_frameIsWell_64 dX1_frameIsWell_67
  refine x_aload_n C dX1_frameIsWell_68 rfl ?_
  refine e_get C Y kd_X1 1 (by decide) wf_X1_28 dX1_frameIsWell_69 B rfl ?_
  refine x_iconst (v := 3) C dX1_frameIsWell_72 (by decide) ?_
  refine k_at (st := []) C Y hW E.cs (by decide) Rh _ dX1_frameIsWell_73 (by decide) ?_
  refine x_bipush (v := 104) C dX1_frameIsWell_76 (by decide) ?_
  refine x_icmp_eq (tgt := 88) C dX1_frameIsWell_78 (by decide) (fun p3 => ?_) (fun q => ?_)
  rotate_left
  · refine x_aload_n C dX1_frameIsWell_81 rfl ?_
    refine x_iconst (v := 1) C dX1_frameIsWell_82 (by decide) ?_
    refine x_iconst (v := 3) C dX1_frameIsWell_83 (by decide) ?_
    exact hw 84 _ _ _ (fun W => by obtain ⟨l9, -, -, -, -, -, -, w3, -⟩ := wv hn3 W; exact q w3) dX1_frameIsWell_84 dX1_frameIsWell_87
  refine x_aload_n C dX1_frameIsWell_88 rfl ?_
  refine e_get C Y kd_X1 1 (by decide) wf_X1_28 dX1_frameIsWell_89 B rfl ?_
  refine u_callV (st := []) C Y hW E.cs (r_size hW Rh) md_X5_size wi_X5_size ws_X5_size wm_X1_71 dX1_frameIsWell_92 rfl (by decide) (by decide) Rh.2.1 rfl rfl (by decide) ?_
  refine x_iload_n C dX1_frameIsWell_95 rfl ?_
  refine x_bipush (v := 6) C dX1_frameIsWell_96 (by decide) ?_
  refine x_iadd C dX1_frameIsWell_98 ?_
  refine x_icmp_eq (tgt := 122) C dX1_frameIsWell_99 (by decide) (fun q3 => ?_) (fun q => ?_)
  rotate_left
  · refine x_aload_n C dX1_frameIsWell_102 rfl ?_
    refine x_iconst (v := 1) C dX1_frameIsWell_103 (by decide) ?_
    refine x_aload_n C dX1_frameIsWell_104 rfl ?_
    refine e_get C Y kd_X1 1 (by decide) wf_X1_28 dX1_frameIsWell_105 B rfl ?_
    refine u_callV (st := [.int 1, .ref de]) C Y hW E.cs (r_size hW Rh) md_X5_size wi_X5_size ws_X5_size wm_X1_71 dX1_frameIsWell_108 rfl (by decide) (by decide) Rh.2.1 rfl rfl (by simp [Value.category]) ?_
    refine x_iload_n C dX1_frameIsWell_111 rfl ?_
    refine x_bipush (v := 6) C dX1_frameIsWell_112 (by decide) ?_
    refine x_iadd C dX1_frameIsWell_114 ?_
    refine x_min C wm_X1_72 dX1_frameIsWell_115 (by rw [E.fr_]; decide) (by rw [E.lo_]; simp [Value.category]) ?_
    exact hw 118 _ _ _ (fun W => by obtain ⟨l9, -, -, e9, w1, -⟩ := wv hn3 W; rw [hl1] at w1; exact q (by rw [w1, e9]; exact (nI_add l9 6).symm)) dX1_frameIsWell_118 dX1_frameIsWell_121
  have en : n = l + 6 := by
    rw [show nI l + 6 = nI (l + 6) from nI_add l 6] at q3
    exact (nI_eq (by omega) (by omega)).mp q3
  refine x_aload_n C dX1_frameIsWell_122 rfl ?_
  refine e_get C Y kd_X1 1 (by decide) wf_X1_28 dX1_frameIsWell_123 B rfl ?_
  refine x_iconst (v := 4) C dX1_frameIsWell_126 (by decide) ?_
  refine k_at (st := []) C Y hW E.cs (by decide) Rh _ dX1_frameIsWell_127 (by decide) ?_
  refine x_bipush (v := 8) C dX1_frameIsWell_130 (by decide) ?_
  refine x_icmp_eq (tgt := 142) C dX1_frameIsWell_132 (by decide) (fun p4 => ?_) (fun q => ?_)
  rotate_left
  · refine x_aload_n C dX1_frameIsWell_135 rfl ?_
    refine x_iconst (v := 1) C dX1_frameIsWell_136 (by decide) ?_
    refine x_iconst (v := 4) C dX1_frameIsWell_137 (by decide) ?_
    exact hw 138 _ _ _ (fun W => by obtain ⟨l9, -, -, -, -, -, -, -, w4, -⟩ := wv hn3 W; exact q w4) dX1_frameIsWell_138 dX1_frameIsWell_141
  refine x_aload_n C dX1_frameIsWell_142 rfl ?_
  refine e_get C Y kd_X1 1 (by decide) wf_X1_28 dX1_frameIsWell_143 B rfl ?_
  refine x_bipush (v := 6) C dX1_frameIsWell_146 (by decide) ?_
  refine k_at (st := []) C Y hW E.cs (by decide) Rh _ dX1_frameIsWell_148 (by decide) ?_
  refine x_bipush (v := 114) C dX1_frameIsWell_151 (by decide) ?_
  refine x_icmp_eq (tgt := 164) C dX1_frameIsWell_153 (by decide) (fun p6 => ?_) (fun q => ?_)
  rotate_left
  · refine x_aload_n C dX1_frameIsWell_156 rfl ?_
    refine x_iconst (v := 1) C dX1_frameIsWell_157 (by decide) ?_
    refine x_bipush (v := 6) C dX1_frameIsWell_158 (by decide) ?_
    exact hw 160 _ _ _ (fun W => by obtain ⟨l9, -, -, -, -, -, -, -, -, w6, -⟩ := wv hn3 W; exact q w6) dX1_frameIsWell_160 dX1_frameIsWell_163
  refine x_aload_n C dX1_frameIsWell_164 rfl ?_
  refine x_iload_n C dX1_frameIsWell_165 rfl ?_
  refine x_iconst (v := 4) C dX1_frameIsWell_166 (by decide) ?_
  refine x_iadd C dX1_frameIsWell_167 ?_
  rw [show nI l + 4 = nI (n - 2) from by rw [en]; exact nI_add l 4]
  refine e_put C Y kd_X1 3 (by decide) rfl wf_X1_15 dX1_frameIsWell_168 B (Nat.le_of_ble_eq_true rfl) rfl rfl rfl ?_
  have B2 : hs h de (.inr (1, [.ref li, .ref b, .int a, .int (nI (n - 2)), .int fa, .int pl, .int mo])) de = some (.inr (1, [.ref li, .ref b, .int a, .int (nI (n - 2)), .int fa, .int pl, .int mo])) := hs_self ..
  have R2 : RW c (hs h de (.inr (1, [.ref li, .ref b, .int a, .int (nI (n - 2)), .int fa, .int pl, .int mo]))) b ba fb n := ⟨Rh.1, by rw [hs_ne nbd.1]; exact Rh.2.1, by rw [hs_ne nbd.2]; exact Rh.2.2.1, hn3⟩
  change X z 0 0 (EQ (hs h de (.inr (1, [.ref li, .ref b, .int a, .int (nI (n - 2)), .int fa, .int pl, .int mo])))) _ _ _
  have T203 : rAt fb n (nI (n - 2) + 1) = 22 → X z 0 0 (EQ (hs h de (.inr (1, [.ref li, .ref b, .int a, .int (nI (n - 2)), .int fa, .int pl, .int mo])))) 203 [some (.ref de), some (.int (nI l))] [] := fun p5 => by
    refine x_iconst (v := 1) C dX1_frameIsWell_203 (by decide) ?_
    refine x_goto (tgt := 208) C dX1_frameIsWell_204 (by decide) ?_
    refine x_zret C E dX1_frameIsWell_208 (by decide) (fun g e => ⟨_, _, _, e, Or.inl ⟨rfl, ⟨l, l15, l252, en, ?_⟩, rfl⟩⟩)
    rw [nI_1] at p5
    have v1 := rAt_v (k := 1) (by decide) hn3 hl1 (fun y => by have := nI_pos (n := l) (by omega); rw [y] at this; exact this (by decide))
    exact ⟨v1.2, (rAt_v (k := 0) (by decide) hn3 p0 (by decide)).2, (rAt_v (k := 2) (by decide) hn3 p2 (fun y => by have := nI_pos (n := l) (by omega); rw [y] at this; exact this (by decide))).2, (rAt_v (k := 3) (by decide) hn3 p3 (by decide)).2, (rAt_v (k := 4) (by decide) hn3 p4 (by decide)).2, (rAt_v (k := 6) (by decide) hn3 p6 (by decide)).2, by rw [show l + 5 = n - 2 + 1 by omega]; exact (rAt_v (by omega) hn3 p5 (by decide)).2⟩
  refine x_aload_n C dX1_frameIsWell_171 rfl ?_
  refine e_get C Y kd_X1 1 (by decide) wf_X1_28 dX1_frameIsWell_172 B2 rfl ?_
  refine x_aload_n C dX1_frameIsWell_175 rfl ?_
  refine e_get C Y kd_X1 3 (by decide) wf_X1_15 dX1_frameIsWell_176 B2 rfl ?_
  refine x_iconst (v := 1) C dX1_frameIsWell_179 (by decide) ?_
  refine x_iadd C dX1_frameIsWell_180 ?_
  refine k_at (st := []) C Y hW E.cs (by decide) R2 _ dX1_frameIsWell_181 (by decide) ?_
  refine x_bipush (v := 22) C dX1_frameIsWell_184 (by decide) ?_
  refine x_icmp_eq (tgt := 203) C dX1_frameIsWell_186 (by decide) (fun q => T203 q) (fun q => ?_)
  refine x_aload_n C dX1_frameIsWell_189 rfl ?_
  refine x_iconst (v := 1) C dX1_frameIsWell_190 (by decide) ?_
  refine x_aload_n C dX1_frameIsWell_191 rfl ?_
  refine e_get C Y kd_X1 3 (by decide) wf_X1_15 dX1_frameIsWell_192 B2 rfl ?_
  refine x_iconst (v := 1) C dX1_frameIsWell_195 (by decide) ?_
  refine x_iadd C dX1_frameIsWell_196 ?_
  refine u_callV (st := []) C Y hW E.cs (d_wrong hW B2 1 _) md_X1_wrong wi_X1_wrong ws_X1_wrong wm_X1_67 dX1_frameIsWell_197 rfl (by decide) (by decide) B2 rfl rfl (by decide) ?_
  refine x_if_eq (tgt := 207) C dX1_frameIsWell_200 (by decide) (fun _ => ?_) (fun q => absurd rfl q)
  refine x_iconst (v := 0) C dX1_frameIsWell_207 (by decide) ?_
  exact x_zret C E dX1_frameIsWell_208 (by decide) (fun g e => by rw [hs_hs] at e; exact ⟨_, _, _, e, Or.inr ⟨rfl, fun W => by obtain ⟨l9, -, -, e9, -, -, -, -, -, -, w5⟩ := wv hn3 W; rw [nI_1, show n - 2 + 1 = l9 + 5 by omega] at q; exact q w5⟩⟩)
theorem d_sumX (hW : Wc w c) (Rh : RW c h b ba fb n) (n21 : 21 ≤ n) (B : h de = some (.inr (1, [.ref li, .ref b, .int a, .int (nI (n - 2)), .int fa, .int pl, .int mo]))) : T w gw yX1_sumIsWell cX1_sumIsWell 1 (some .boolean) 2 (40 * 2) 0 0 [.ref de] (EQ h) (LKo li de b a mo h (WAs fb n) (nI (n - 2))) := by
  refine TA.intro hW rfl (by decide +kernel) (Nat.le_of_ble_eq_true rfl) (fun z C Y E hn h1 hA => ?_)
  rw [show h1 = h from hA]
  clear hA
  have hn3 := Rh.2.2.2
  have e1 : rAt fb n (nI (n - 2)) = fb (n - 2) := rAt_in (by omega) hn3
  refine x_aload_n C dX1_sumIsWell_0 rfl ?_
  refine e_get C Y kd_X1 1 (by decide) wf_X1_28 dX1_sumIsWell_1 B rfl ?_
  refine x_aload_n C dX1_sumIsWell_4 rfl ?_
  refine e_get C Y kd_X1 3 (by decide) wf_X1_15 dX1_sumIsWell_5 B rfl ?_
  refine k_at (st := []) C Y hW E.cs (by decide) Rh _ dX1_sumIsWell_8 (by decide) ?_
  refine x_aload_n C dX1_sumIsWell_11 rfl ?_
  refine e_get C Y kd_X1 1 (by decide) wf_X1_28 dX1_sumIsWell_12 B rfl ?_
  refine x_iconst (v := 4) C dX1_sumIsWell_15 (by decide) ?_
  refine x_aload_n C dX1_sumIsWell_16 rfl ?_
  refine e_get C Y kd_X1 3 (by decide) wf_X1_15 dX1_sumIsWell_17 B rfl ?_
  refine u_callV (st := [_]) C Y hW E.cs (r_sum hW Rh 4 (n - 2) (by decide) (by omega)) md_X5_sum wi_X5_sum ws_X5_sum wm_X1_78 dX1_sumIsWell_20 rfl (by decide) (by decide) Rh.2.1 rfl rfl (by simp [Value.category]) ?_
  rw [e1, show min (n - 2) n - 4 = n - 6 by omega]
  refine x_icmp_eq (tgt := 38) C dX1_sumIsWell_23 (by decide) (fun q => ?_) (fun q => ?_)
  · refine x_iconst (v := 1) C dX1_sumIsWell_38 (by decide) ?_
    refine x_goto (tgt := 43) C dX1_sumIsWell_39 (by decide) ?_
    exact x_zret C E dX1_sumIsWell_43 (by decide) (fun g e => ⟨_, _, _, by rw [hs_same B]; exact e, Or.inl ⟨rfl, q, rfl⟩⟩)
  · refine x_aload_n C dX1_sumIsWell_26 rfl ?_
    refine x_iconst (v := 2) C dX1_sumIsWell_27 (by decide) ?_
    refine x_aload_n C dX1_sumIsWell_28 rfl ?_
    refine e_get C Y kd_X1 3 (by decide) wf_X1_15 dX1_sumIsWell_29 B rfl ?_
    refine u_callV (st := []) C Y hW E.cs (d_wrong hW B 2 _) md_X1_wrong wi_X1_wrong ws_X1_wrong wm_X1_67 dX1_sumIsWell_32 rfl (by decide) (by decide) B rfl rfl (by decide) ?_
    refine x_if_eq (tgt := 42) C dX1_sumIsWell_35 (by decide) (fun _ => ?_) (fun q => absurd rfl q)
    refine x_iconst (v := 0) C dX1_sumIsWell_42 (by decide) ?_
    exact x_zret C E dX1_sumIsWell_43 (by decide) (fun g e => ⟨_, _, _, e, Or.inr ⟨rfl, q⟩⟩)
theorem d_identX (hX : Wx w c) (Rh : RW c h b ba fb n) (n21 : 21 ≤ n) (B : h de = some (.inr (1, [.ref li, .ref b, .int a, .int e, .int fa, .int pl, .int mo]))) : T w gw yX1_identIsWell cX1_identIsWell 2 (some .boolean) 2 (40 * 2) 0 0 [.ref de] (EQ h) (LKo li de b a mo h (WAi fb) e) := by
  have hW := hX.1
  refine TA.intro hW rfl (by decide +kernel) (Nat.le_of_ble_eq_true rfl) (fun z C Y E hn h1 hA => ?_)
  rw [show h1 = h from hA]
  clear hA
  have hn3 := Rh.2.2.2
  have LP : ∀ (r k : Nat), k + r = 11 → 7 ≤ k → (∀ j, 7 ≤ j → j < k → g_dig (fb j) 8 = true) → X z 0 0 (EQ h) 3 [some (.ref de), some (.int (nI k))] [] := by
    intro r
    induction r with
    | zero =>
      intro k hk k7 hd
      obtain rfl : k = 11 := by omega
      refine x_iload_n C dX1_identIsWell_3 rfl ?_
      refine x_bipush (v := 11) C dX1_identIsWell_4 (by decide) ?_
      refine x_icmp_ge (tgt := 36) C dX1_identIsWell_6 (by decide) (fun _ => ?_) (fun q => absurd (Int32.le_refl _) q)
      refine x_iconst (v := 1) C dX1_identIsWell_36 (by decide) ?_
      exact x_zret C E dX1_identIsWell_37 (by decide) (fun g e => ⟨_, _, _, by rw [hs_same B]; exact e, Or.inl ⟨rfl, hd, rfl⟩⟩)
    | succ r ih =>
      intro k hk k7 hd
      refine x_iload_n C dX1_identIsWell_3 rfl ?_
      refine x_bipush (v := 11) C dX1_identIsWell_4 (by decide) ?_
      refine x_icmp_ge (tgt := 36) C dX1_identIsWell_6 (by decide) (fun q => absurd q (Int32.not_le.mpr (nI_lt (show k < 11 by omega) (by decide)))) (fun _ => ?_)
      refine x_aload_n C dX1_identIsWell_9 rfl ?_
      refine e_get C Y kd_X1 1 (by decide) wf_X1_28 dX1_identIsWell_10 B rfl ?_
      refine x_iload_n C dX1_identIsWell_13 rfl ?_
      refine k_at (st := []) C Y hW E.cs (by decide) Rh _ dX1_identIsWell_14 (by decide) ?_
      refine k_callSN (kc := 0) (ks := 0) (mc' := 0) (ms' := 0) (st := []) C E.cs hW.1 gw_good (m_areDigits hW _) md_X6_areDigits wt_X6_areDigits (E.cs.nest hX (q := (RX1, 81, yX6_areDigits)) (by simp [nst])) dX1_identIsWell_17 rfl (by decide) (by decide) rfl (by decide) (fun r => X.opn (fun g hg => ?_))
      obtain ⟨rfl, e⟩ := hg
      rw [show g = h from e]
      rw [rAt_in (show k < n by omega) hn3]
      refine x_if_ne (tgt := 30) C dX1_identIsWell_20 (by decide) (fun q => ?_) (fun q => ?_)
      · refine o_iincE (v := nI (k + 1)) (L' := [some _, some _]) C dX1_identIsWell_30 rfl (nI_1 k) (by rw [hn]; decide) rfl ?_
        refine x_goto (tgt := 3) C dX1_identIsWell_33 (by decide) ?_
        refine ih (k + 1) (by omega) (by omega) (fun j j1 j2 => ?_)
        by_cases e : j = k
        · subst e; exact Decidable.byContradiction fun y => q (bI_f y)
        · exact hd j j1 (by omega)
      · refine x_aload_n C dX1_identIsWell_23 rfl ?_
        refine x_iconst (v := 3) C dX1_identIsWell_24 (by decide) ?_
        refine x_iload_n C dX1_identIsWell_25 rfl ?_
        refine u_callV (st := []) C Y hW E.cs (d_wrong hW B 3 _) md_X1_wrong wi_X1_wrong ws_X1_wrong wm_X1_67 dX1_identIsWell_26 rfl (by decide) (by decide) B rfl rfl (by decide) ?_
        exact x_zret C E dX1_identIsWell_29 (by decide) (fun g e => ⟨_, _, _, e, Or.inr ⟨rfl, fun W => absurd (bI_t (W k k7 (by omega))) (by rw [q]; decide)⟩⟩)
  refine x_bipush (v := 7) C dX1_identIsWell_0 (by decide) ?_
  refine o_istore_nE (L' := [some _, some _]) C dX1_identIsWell_2 (by rw [hn]; decide) rfl ?_
  exact LP 4 7 rfl (Nat.le_refl _) (fun j j1 j2 => by omega)
end Dec
