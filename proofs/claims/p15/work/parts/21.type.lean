/-! MeterBusModel: type, page, state, count. -/
def f_by (b : Int64) (k : Nat) : Int32 := ((b >>> (((8 : Int32) * nI k).toInt64 &&& 63)) &&& 255).toInt32
def f_ty (b : Int64) : Nat → Nat → MS → MS
  | 0, _, S => S
  | k + 1, s, S => f_ty b k (s + 1) ((S.sa 1 s (f_by b k)).si 2 (nI (s + 1)))
def f_cnt (S : MS) : Nat → Int32
  | 0 => 0
  | n + 1 => f_cnt S n + bI (¬ S.a 10 n = 0)
/-- the buffer's first cells into a page -/
def f_pcp (S : MS) (o : Nat) : Nat → MS
  | 0 => S
  | n + 1 => (f_pcp S o n).sa 18 (o + n) (S.a 1 n)
theorem f_pcp_a (S : MS) (o n : Nat) {q j : Nat} (h : q ≠ 18) : (f_pcp S o n).a q j = S.a q j := by
  induction n with
  | zero => rfl
  | succ n ih => rw [f_pcp, sa_ne h, ih]
theorem f_pcp_i (S : MS) (o n k : Nat) : (f_pcp S o n).i k = S.i k := by
  induction n with
  | zero => rfl
  | succ n ih => rw [f_pcp, MS.sa_i, ih]
def f_page (S : MS) (k i n : Nat) : MS := ((f_pcp (S.si 0 0) (60 * (3 * k + i)) n).sa 17 (3 * k + i) (nI n)).si 2 0
section TypeS
variable {w : Wd} {M : MW} {S : MS}
theorem s_type_f (hW : Wm w M) (b : Int64) (n : Int32) (hp : ¬ ((1 : Int32) ≤ n ∧ n ≤ 8)) : TF w M yX7_type cX7_type 5 (some .int) 1 [.long b, .int n] S (some (.int 0)) (S.si 0 1) := by
  refine TM.intro hW rfl (Nat.le_of_ble_eq_true rfl) (fun z C Y E hn => ?_)
  have hf := s_fails1 (S := S) hW ((1 : Int32) ≤ n ∧ n ≤ 8)
  rw [bI_t hp] at hf
  have b0 : bI ((1 : Int32) ≤ n ∧ n ≤ 8) = 0 := bI_f hp
  refine x_aload_n C dX7_type_0 rfl ?_
  refine x_iload_n C dX7_type_1 rfl ?_
  refine x_iconst (v := 1) C dX7_type_2 (by decide) ?_
  refine x_bipush (v := 8) C dX7_type_3 (by decide) ?_
  refine m_callSF C hW E (s_in _ _ _) md_X7_in wt_X7_in wm_X7_100 dX7_type_5 rfl (by decide) (by decide) rfl (by simp [Value.category]) ?_
  refine x_iload_n C dX7_type_8 rfl ?_
  refine x_iconst (v := 1) C dX7_type_9 (by decide) ?_
  refine x_bipush (v := 8) C dX7_type_10 (by decide) ?_
  refine m_callSF C hW E (s_in _ _ _) md_X7_in wt_X7_in wm_X7_100 dX7_type_12 rfl (by decide) (by decide) rfl (by simp [Value.category]) ?_
  refine x_if_eq (tgt := 30) C dX7_type_15 (by decide) (fun c15 => ?_) (fun c15 => absurd c15 (not_not_intro b0))
  refine x_iconst (v := 1) C dX7_type_30 (by decide) ?_
  refine x_goto (tgt := 35) C dX7_type_31 (by decide) ?_
  refine m_callF C Y hW E (hf) rfl md_X7_fails wi_X7_fails ws_X7_fails wm_X7_107 dX7_type_35 rfl (by decide) (by decide) rfl (by simp [Value.category]) ?_
  refine x_if_eq (tgt := 43) C dX7_type_38 (by decide) (fun c38 => absurd c38 (by decide)) (fun c38 => ?_)
  refine x_iconst (v := 0) C dX7_type_41 (by decide) ?_
  refine m_iret C E dX7_type_42 ?_
  exact ⟨rfl, rfl⟩
theorem s_type_u (hW : Wm w M) (b : Int64) (m s : Nat) (hm : 1 ≤ m ∧ m ≤ 8) (hs : S.i 2 = nI s) (hs3 : s ≤ 300) (hq : ¬ s + m ≤ 300) : TF w M yX7_type cX7_type 5 (some .int) 1 [.long b, .int (nI m)] S (some (.int 0)) (S.si 0 2) := by
  refine TM.intro hW rfl (Nat.le_of_ble_eq_true rfl) (fun z C Y E hn => ?_)
  have hp : (1 : Int32) ≤ nI m ∧ nI m ≤ 8 := ⟨nI_le hm.1 (by omega), nI_le hm.2 (by decide)⟩
  have hf := s_fails (S := S) hW ((1 : Int32) ≤ nI m ∧ nI m ≤ 8) (s + m ≤ 300)
  rw [bI_f hq, bI_t (p := ¬ (((1 : Int32) ≤ nI m ∧ nI m ≤ 8) ∧ s + m ≤ 300)) (fun q => hq q.2), if_neg (not_not_intro hp), if_pos hq] at hf
  have b0 : ¬ bI ((1 : Int32) ≤ nI m ∧ nI m ≤ 8) = 0 := fun q => bI_0.mp q hp
  have i3 : (300 : Int32) < S.i 2 + nI m := by rw [hs, nI_add]; exact nI_lt (show 300 < s + m by omega) (by omega)
  refine x_aload_n C dX7_type_0 rfl ?_
  refine x_iload_n C dX7_type_1 rfl ?_
  refine x_iconst (v := 1) C dX7_type_2 (by decide) ?_
  refine x_bipush (v := 8) C dX7_type_3 (by decide) ?_
  refine m_callSF C hW E (s_in _ _ _) md_X7_in wt_X7_in wm_X7_100 dX7_type_5 rfl (by decide) (by decide) rfl (by simp [Value.category]) ?_
  refine x_iload_n C dX7_type_8 rfl ?_
  refine x_iconst (v := 1) C dX7_type_9 (by decide) ?_
  refine x_bipush (v := 8) C dX7_type_10 (by decide) ?_
  refine m_callSF C hW E (s_in _ _ _) md_X7_in wt_X7_in wm_X7_100 dX7_type_12 rfl (by decide) (by decide) rfl (by simp [Value.category]) ?_
  refine x_if_eq (tgt := 30) C dX7_type_15 (by decide) (fun c15 => absurd c15 b0) (fun c15 => ?_)
  refine x_aload_n C dX7_type_18 rfl ?_
  refine m_get C Y 2 (by decide) (by decide) wf_X7_104 dX7_type_19 ?_
  refine x_iload_n C dX7_type_22 rfl ?_
  refine x_iadd C dX7_type_23 ?_
  refine x_sipush (v := 300) C dX7_type_24 (by decide) ?_
  refine x_icmp_gt (tgt := 34) C dX7_type_27 (by decide) (fun c27 => ?_) (fun c27 => absurd c27 (not_not_intro i3))
  refine x_iconst (v := 0) C dX7_type_34 (by decide) ?_
  refine m_callF C Y hW E (hf) rfl md_X7_fails wi_X7_fails ws_X7_fails wm_X7_107 dX7_type_35 rfl (by decide) (by decide) rfl (by simp [Value.category]) ?_
  refine x_if_eq (tgt := 43) C dX7_type_38 (by decide) (fun c38 => absurd c38 (by decide)) (fun c38 => ?_)
  refine x_iconst (v := 0) C dX7_type_41 (by decide) ?_
  refine m_iret C E dX7_type_42 ?_
  exact ⟨rfl, rfl⟩
theorem s_type_t (hW : Wm w M) (b : Int64) (m s : Nat) (hm : 1 ≤ m ∧ m ≤ 8) (hs : S.i 2 = nI s) (hq : s + m ≤ 300) : TF w M yX7_type cX7_type 5 (some .int) 1 [.long b, .int (nI m)] S (some (.int (nI (s + m)))) (f_ty b m s (S.si 0 0)) := by
  refine TM.intro hW rfl (Nat.le_of_ble_eq_true rfl) (fun z C Y E hn => ?_)
  have hp : (1 : Int32) ≤ nI m ∧ nI m ≤ 8 := ⟨nI_le hm.1 (by omega), nI_le hm.2 (by decide)⟩
  have hf := s_fails (S := S) hW ((1 : Int32) ≤ nI m ∧ nI m ≤ 8) (s + m ≤ 300)
  rw [bI_t hq, bI_f (p := ¬ (((1 : Int32) ≤ nI m ∧ nI m ≤ 8) ∧ s + m ≤ 300)) (not_not_intro ⟨hp, hq⟩), if_neg (not_not_intro hp), if_neg (not_not_intro hq)] at hf
  have b0 : ¬ bI ((1 : Int32) ≤ nI m ∧ nI m ≤ 8) = 0 := fun q => bI_0.mp q hp
  have i3 : ¬ (300 : Int32) < S.i 2 + nI m := by rw [hs, nI_add]; exact nI_nlt (show s + m ≤ 300 by omega) (by decide)
  have LP : ∀ (k s' : Nat) (S1 : MS), k ≤ 8 → s' + k = s + m → S1.i 2 = nI s' → f_ty b k s' S1 = f_ty b m s (S.si 0 0) → X z 0 0 (MA M S1) 48 [some (.ref M.o), some (.long b), none, some (.int (nI m)), some (.int (nI k - 1))] [] := by
    intro k
    induction k with
    | zero =>
      intro s' S1 _ h1 h2 h3
      have e : f_ty b 0 s' S1 = S1 := rfl
      rw [← h3, e, ← h1] at E
      have e1 : (nI 0 - 1 : Int32) < 0 := by decide
      refine x_iload C dX7_type_48 rfl ?_
      refine x_if_lt (tgt := 90) C dX7_type_50 (by decide) (fun c50 => ?_) (fun c50 => absurd c50 (not_not_intro e1))
      refine x_aload_n C dX7_type_90 rfl ?_
      refine m_get C Y 2 (by decide) (by decide) wf_X7_104 dX7_type_91 ?_
      refine m_iret C E dX7_type_94 ?_
      exact ⟨by rw [h2]; rfl, rfl⟩
    | succ k ih =>
      intro s' S1 hk8 h1 h2 h3
      have ih2 := ih (s' + 1) _ (by omega) (by omega) rfl h3
      rw [nI_pred]
      refine x_iload C dX7_type_48 rfl ?_
      refine x_if_lt (tgt := 90) C dX7_type_50 (by decide) (fun c50 => absurd c50 (nI_pos (by omega))) (fun c50 => ?_)
      refine x_aload_n C dX7_type_53 rfl ?_
      refine m_getA C Y 1 (by decide) (by decide) wf_X7_7 dX7_type_54 ?_
      refine x_aload_n C dX7_type_57 rfl ?_
      refine m_get C Y 2 (by decide) (by decide) wf_X7_104 dX7_type_58 ?_
      refine x_lload_n C dX7_type_61 rfl ?_
      refine x_bipush (v := 8) C dX7_type_62 (by decide) ?_
      refine x_iload C dX7_type_64 rfl ?_
      refine x_imul C dX7_type_66 ?_
      refine x_lshr C dX7_type_67 ?_
      refine x_ldc2 C wk_X7_111 dX7_type_68 ?_
      refine x_land C dX7_type_71 ?_
      refine x_l2i C dX7_type_72 ?_
      refine m_istN C Y hW.2.1 1 (s') (by decide) dX7_type_73 h2 (by simp only [m_len]; omega) ?_
      refine x_aload_n C dX7_type_74 rfl ?_
      refine x_dup C dX7_type_75 rfl ?_
      refine m_get C Y 2 (by decide) (by decide) wf_X7_104 dX7_type_76 ?_
      rw [MS.sa_i, h2]
      refine x_iconst (v := 1) C dX7_type_79 (by decide) ?_
      refine x_iadd C dX7_type_80 ?_
      rw [nI_1]
      refine m_put C Y hW.2.1 2 (by decide) (by decide) rfl rfl rfl wf_X7_104 dX7_type_81 ?_
      refine x_iincE (v := nI k - 1) (L' := [some _, some _, none, some _, some _]) C dX7_type_84 rfl ((by rw [Int32.sub_eq_add_neg]; rfl)) (by rw [hn]; decide) rfl ?_
      refine x_goto (tgt := 48) C dX7_type_87 (by decide) ?_
      exact ih2
  refine x_aload_n C dX7_type_0 rfl ?_
  refine x_iload_n C dX7_type_1 rfl ?_
  refine x_iconst (v := 1) C dX7_type_2 (by decide) ?_
  refine x_bipush (v := 8) C dX7_type_3 (by decide) ?_
  refine m_callSF C hW E (s_in _ _ _) md_X7_in wt_X7_in wm_X7_100 dX7_type_5 rfl (by decide) (by decide) rfl (by simp [Value.category]) ?_
  refine x_iload_n C dX7_type_8 rfl ?_
  refine x_iconst (v := 1) C dX7_type_9 (by decide) ?_
  refine x_bipush (v := 8) C dX7_type_10 (by decide) ?_
  refine m_callSF C hW E (s_in _ _ _) md_X7_in wt_X7_in wm_X7_100 dX7_type_12 rfl (by decide) (by decide) rfl (by simp [Value.category]) ?_
  refine x_if_eq (tgt := 30) C dX7_type_15 (by decide) (fun c15 => absurd c15 b0) (fun c15 => ?_)
  refine x_aload_n C dX7_type_18 rfl ?_
  refine m_get C Y 2 (by decide) (by decide) wf_X7_104 dX7_type_19 ?_
  refine x_iload_n C dX7_type_22 rfl ?_
  refine x_iadd C dX7_type_23 ?_
  refine x_sipush (v := 300) C dX7_type_24 (by decide) ?_
  refine x_icmp_gt (tgt := 34) C dX7_type_27 (by decide) (fun c27 => absurd c27 i3) (fun c27 => ?_)
  refine x_iconst (v := 1) C dX7_type_30 (by decide) ?_
  refine x_goto (tgt := 35) C dX7_type_31 (by decide) ?_
  refine m_callF C Y hW E (hf) rfl md_X7_fails wi_X7_fails ws_X7_fails wm_X7_107 dX7_type_35 rfl (by decide) (by decide) rfl (by simp [Value.category]) ?_
  refine x_if_eq (tgt := 43) C dX7_type_38 (by decide) (fun c38 => ?_) (fun c38 => absurd c38 (not_not_intro rfl))
  refine x_iload_n C dX7_type_43 rfl ?_
  refine x_iconst (v := 1) C dX7_type_44 (by decide) ?_
  refine x_isub C dX7_type_45 ?_
  refine x_istoreE (L' := [some _, some _, none, some _, some _]) C dX7_type_46 (by rw [hn]; decide) rfl ?_
  exact LP m s _ hm.2 rfl hs rfl
/-- meter k is there -/
abbrev q_is (S : MS) (k : Int32) : Prop := (0 ≤ k ∧ k ≤ 11) ∧ ¬ S.a 10 k.toNatClampNeg = 0
abbrev q_page (S : MS) (k i : Int32) : Prop := q_is S k ∧ (0 ≤ i ∧ i ≤ 2)
theorem s_page_x (hW : Wm w M) (k i : Int32) (s : Nat) (hs : S.i 2 = nI s) (hs3 : s ≤ 300) (hp : ¬ (q_page S k i ∧ s ≤ 60)) : TF w M yX7_page cX7_page 4 (some .int) 2 [.int k, .int i] S (some (.int 0)) (S.si 0 (if ¬ q_page S k i then 1 else 2)) := by
  refine TM.intro hW rfl (Nat.le_of_ble_eq_true rfl) (fun z C Y E hn => ?_)
  have hf := s_fails (S := S) hW (q_page S k i) (s ≤ 60)
  rw [bI_t (p := ¬ (q_page S k i ∧ s ≤ 60)) hp] at hf
  have e2 : (if ¬ q_page S k i then (1 : Int32) else if ¬ s ≤ 60 then 2 else 0) = (if ¬ q_page S k i then 1 else 2) := by
    by_cases h1 : q_page S k i
    · rw [if_neg (not_not_intro h1), if_neg (not_not_intro h1), if_pos (fun q => hp ⟨h1, q⟩)]
    · rw [if_pos h1, if_pos h1]
  rw [e2] at hf
  have i6 : (60 : Int32) < S.i 2 ↔ ¬ s ≤ 60 := by rw [hs, show (60 : Int32) = nI 60 from rfl, nI_ltI (by decide) (by omega)]; omega
  have T23 : ∀ v : Int32, v = bI (q_page S k i) → X z 0 0 (MA M S) 23 [some (.ref M.o), some (.int k), some (.int i), none] [.int v, .ref M.o] := by
    intro v ev
    subst ev
    have T37 : ∀ u : Int32, u = bI (s ≤ 60) → X z 0 0 (MA M S) 37 [some (.ref M.o), some (.int k), some (.int i), none] [.int u, .int (bI (q_page S k i)), .ref M.o] := by
      intro u eu
      subst eu
      refine m_callF C Y hW E (hf) rfl md_X7_fails wi_X7_fails ws_X7_fails wm_X7_107 dX7_page_37 rfl (by decide) (by decide) rfl (by simp [Value.category]) ?_
      refine x_if_eq (tgt := 45) C dX7_page_40 (by decide) (fun c40 => absurd c40 (by decide)) (fun c40 => ?_)
      refine x_iconst (v := 0) C dX7_page_43 (by decide) ?_
      refine m_iret C E dX7_page_44 ?_
      exact ⟨rfl, rfl⟩
    refine x_aload_n C dX7_page_23 rfl ?_
    refine m_get C Y 2 (by decide) (by decide) wf_X7_104 dX7_page_24 ?_
    refine x_bipush (v := 60) C dX7_page_27 (by decide) ?_
    refine x_icmp_gt (tgt := 36) C dX7_page_29 (by decide) (fun c29 => ?_) (fun c29 => ?_)
    · skip
      refine x_iconst (v := 0) C dX7_page_36 (by decide) ?_
      first | exact T37 _ (bI_00 (i6.mp c29)) | exact T37 _ (bI_1 (Classical.not_not.mp (fun q => c29 (i6.mpr q))))
    · skip
      refine x_iconst (v := 1) C dX7_page_32 (by decide) ?_
      refine x_goto (tgt := 37) C dX7_page_33 (by decide) ?_
      first | exact T37 _ (bI_00 (i6.mp c29)) | exact T37 _ (bI_1 (Classical.not_not.mp (fun q => c29 (i6.mpr q))))
  refine x_aload_n C dX7_page_0 rfl ?_
  refine x_aload_n C dX7_page_1 rfl ?_
  refine x_iload_n C dX7_page_2 rfl ?_
  refine m_callF C Y hW E (s_isMeter hW _) rfl md_X7_isMeter wi_X7_isMeter ws_X7_isMeter wm_X7_118 dX7_page_3 rfl (by decide) (by decide) rfl (by simp [Value.category]) ?_
  refine x_if_eq (tgt := 22) C dX7_page_6 (by decide) (fun c6 => ?_) (fun c6 => ?_)
  · skip
    refine x_iconst (v := 0) C dX7_page_22 (by decide) ?_
    first | exact T23 _ (bI_00 (fun q => bI_0.mp c6 q.1)) | exact T23 _ (bI_00 (fun q => bI_0.mp c15 q.2)) | exact T23 _ (bI_1 ⟨bI_0n.mp c6, bI_0n.mp c15⟩)
  · skip
    refine x_iload_n C dX7_page_9 rfl ?_
    refine x_iconst (v := 0) C dX7_page_10 (by decide) ?_
    refine x_iconst (v := 2) C dX7_page_11 (by decide) ?_
    refine m_callSF C hW E (s_in _ _ _) md_X7_in wt_X7_in wm_X7_100 dX7_page_12 rfl (by decide) (by decide) rfl (by simp [Value.category]) ?_
    refine x_if_eq (tgt := 22) C dX7_page_15 (by decide) (fun c15 => ?_) (fun c15 => ?_)
    · skip
      refine x_iconst (v := 0) C dX7_page_22 (by decide) ?_
      first | exact T23 _ (bI_00 (fun q => bI_0.mp c6 q.1)) | exact T23 _ (bI_00 (fun q => bI_0.mp c15 q.2)) | exact T23 _ (bI_1 ⟨bI_0n.mp c6, bI_0n.mp c15⟩)
    · skip
      refine x_iconst (v := 1) C dX7_page_18 (by decide) ?_
      refine x_goto (tgt := 23) C dX7_page_19 (by decide) ?_
      first | exact T23 _ (bI_00 (fun q => bI_0.mp c6 q.1)) | exact T23 _ (bI_00 (fun q => bI_0.mp c15 q.2)) | exact T23 _ (bI_1 ⟨bI_0n.mp c6, bI_0n.mp c15⟩)
theorem s_page_t (hW : Wm w M) (k i s : Nat) (hk : k < 12) (hi : i < 3) (hth : ¬ S.a 10 k = 0) (hs : S.i 2 = nI s) (hs6 : s ≤ 60) : TF w M yX7_page cX7_page 4 (some .int) 2 [.int (nI k), .int (nI i)] S (some (.int (nI (f_pages (f_page S k i s) k)))) (f_page S k i s) := by
  refine TM.intro hW rfl (Nat.le_of_ble_eq_true rfl) (fun z C Y E hn => ?_)
  have hk1 : (0 : Int32) ≤ nI k ∧ nI k ≤ 11 := ⟨nI_pos' (by omega), nI_le (show k ≤ 11 by omega) (by decide)⟩
  have hi1 : (0 : Int32) ≤ nI i ∧ nI i ≤ 2 := ⟨nI_pos' (by omega), nI_le (show i ≤ 2 by omega) (by decide)⟩
  have hq : q_page S (nI k) (nI i) := ⟨⟨hk1, by rw [nI_clamp (by omega)]; exact hth⟩, hi1⟩
  have hf := s_fails (S := S) hW (q_page S (nI k) (nI i)) (s ≤ 60)
  rw [bI_t hq, bI_t hs6, bI_f (p := ¬ (q_page S (nI k) (nI i) ∧ s ≤ 60)) (not_not_intro ⟨hq, hs6⟩), if_neg (not_not_intro hq), if_neg (not_not_intro hs6)] at hf
  have i6 : ¬ (60 : Int32) < S.i 2 := by rw [hs]; exact nI_nlt (show s ≤ 60 by omega) (by decide)
  have eo : (60 : Int32) * (3 * nI k + nI i) = nI (60 * (3 * k + i)) := by simp only [nI_lit, nI_add, pk_mul]
  have e2 : ∀ b, (f_pcp (S.si 0 0) (60 * (3 * k + i)) b).i 2 = nI s := fun b => by rw [f_pcp_i]; exact hs
  have LP : ∀ (t b : Nat), b + t = s → X z 0 0 (MA M (f_pcp (S.si 0 0) (60 * (3 * k + i)) b)) 47 [some (.ref M.o), some (.int (nI k)), some (.int (nI i)), some (.int (nI b))] [] := by
    intro t
    induction t with
    | zero =>
      intro b hb
      obtain rfl : b = s := by omega
      refine x_iload_n C dX7_page_47 rfl ?_
      refine x_aload_n C dX7_page_48 rfl ?_
      refine m_get C Y 2 (by decide) (by decide) wf_X7_104 dX7_page_49 ?_
      rw [e2]
      refine x_icmp_ge (tgt := 82) C dX7_page_52 (by decide) (fun c52 => ?_) (fun c52 => absurd c52 (not_not_intro (Int32.le_refl _)))
      refine x_aload_n C dX7_page_82 rfl ?_
      refine m_getA C Y 17 (by decide) (by decide) wf_X7_41 dX7_page_83 ?_
      refine x_iconst (v := 3) C dX7_page_86 (by decide) ?_
      refine x_iload_n C dX7_page_87 rfl ?_
      refine x_imul C dX7_page_88 ?_
      refine x_iload_n C dX7_page_89 rfl ?_
      refine x_iadd C dX7_page_90 ?_
      refine x_aload_n C dX7_page_91 rfl ?_
      refine m_get C Y 2 (by decide) (by decide) wf_X7_104 dX7_page_92 ?_
      rw [e2]
      refine m_istN C Y hW.2.1 17 (3 * k + i) (by decide) dX7_page_95 (by simp only [nI_lit, nI_add, pk_mul]) (by simp only [m_len]; omega) ?_
      refine x_aload_n C dX7_page_96 rfl ?_
      refine x_iconst (v := 0) C dX7_page_97 (by decide) ?_
      refine m_put C Y hW.2.1 2 (by decide) (by decide) rfl rfl rfl wf_X7_104 dX7_page_98 ?_
      refine x_aload_n C dX7_page_101 rfl ?_
      refine x_iload_n C dX7_page_102 rfl ?_
      refine m_callF C Y hW E (s_pages hW k hk) rfl md_X7_pagesOf wi_X7_pagesOf ws_X7_pagesOf wm_X7_122 dX7_page_103 rfl (by decide) (by decide) rfl (by simp [Value.category]) ?_
      refine m_iret C E dX7_page_106 ?_
      exact ⟨rfl, rfl⟩
    | succ t ih =>
      intro b hb
      have ih2 := ih (b + 1) (by omega)
      refine x_iload_n C dX7_page_47 rfl ?_
      refine x_aload_n C dX7_page_48 rfl ?_
      refine m_get C Y 2 (by decide) (by decide) wf_X7_104 dX7_page_49 ?_
      rw [e2]
      refine x_icmp_ge (tgt := 82) C dX7_page_52 (by decide) (fun c52 => absurd c52 (nI_ge (show b < s by omega) (by omega))) (fun c52 => ?_)
      refine x_aload_n C dX7_page_55 rfl ?_
      refine m_getA C Y 18 (by decide) (by decide) wf_X7_44 dX7_page_56 ?_
      refine x_bipush (v := 60) C dX7_page_59 (by decide) ?_
      refine x_iconst (v := 3) C dX7_page_61 (by decide) ?_
      refine x_iload_n C dX7_page_62 rfl ?_
      refine x_imul C dX7_page_63 ?_
      refine x_iload_n C dX7_page_64 rfl ?_
      refine x_iadd C dX7_page_65 ?_
      refine x_imul C dX7_page_66 ?_
      rw [eo]
      refine x_iload_n C dX7_page_67 rfl ?_
      refine x_iadd C dX7_page_68 ?_
      refine x_aload_n C dX7_page_69 rfl ?_
      refine m_getA C Y 1 (by decide) (by decide) wf_X7_7 dX7_page_70 ?_
      refine x_iload_n C dX7_page_73 rfl ?_
      refine m_ildN C Y 1 (b) (by decide) dX7_page_74 (by simp only [nI_lit, nI_add, pk_mul]) (by simp only [m_len]; omega) ?_
      rw [f_pcp_a _ _ _ (by decide)]
      refine m_istN C Y hW.2.1 18 (60 * (3 * k + i) + b) (by decide) dX7_page_75 (by simp only [nI_lit, nI_add, pk_mul]) (by simp only [m_len]; omega) ?_
      refine x_iincE (v := nI (b + 1)) (L' := [some _, some _, some _, some _]) C dX7_page_76 rfl (nI_1 b) (by rw [hn]; decide) rfl ?_
      refine x_goto (tgt := 47) C dX7_page_79 (by decide) ?_
      exact ih2
  refine x_aload_n C dX7_page_0 rfl ?_
  refine x_aload_n C dX7_page_1 rfl ?_
  refine x_iload_n C dX7_page_2 rfl ?_
  refine m_callF C Y hW E (s_isMeter hW _) rfl md_X7_isMeter wi_X7_isMeter ws_X7_isMeter wm_X7_118 dX7_page_3 rfl (by decide) (by decide) rfl (by simp [Value.category]) ?_
  refine x_if_eq (tgt := 22) C dX7_page_6 (by decide) (fun c6 => absurd c6 (fun q => bI_0.mp q hq.1)) (fun c6 => ?_)
  refine x_iload_n C dX7_page_9 rfl ?_
  refine x_iconst (v := 0) C dX7_page_10 (by decide) ?_
  refine x_iconst (v := 2) C dX7_page_11 (by decide) ?_
  refine m_callSF C hW E (s_in _ _ _) md_X7_in wt_X7_in wm_X7_100 dX7_page_12 rfl (by decide) (by decide) rfl (by simp [Value.category]) ?_
  refine x_if_eq (tgt := 22) C dX7_page_15 (by decide) (fun c15 => absurd c15 (fun q => bI_0.mp q hq.2)) (fun c15 => ?_)
  refine x_iconst (v := 1) C dX7_page_18 (by decide) ?_
  refine x_goto (tgt := 23) C dX7_page_19 (by decide) ?_
  refine x_aload_n C dX7_page_23 rfl ?_
  refine m_get C Y 2 (by decide) (by decide) wf_X7_104 dX7_page_24 ?_
  refine x_bipush (v := 60) C dX7_page_27 (by decide) ?_
  refine x_icmp_gt (tgt := 36) C dX7_page_29 (by decide) (fun c29 => absurd c29 i6) (fun c29 => ?_)
  refine x_iconst (v := 1) C dX7_page_32 (by decide) ?_
  refine x_goto (tgt := 37) C dX7_page_33 (by decide) ?_
  refine m_callF C Y hW E (hf) rfl md_X7_fails wi_X7_fails ws_X7_fails wm_X7_107 dX7_page_37 rfl (by decide) (by decide) rfl (by simp [Value.category]) ?_
  refine x_if_eq (tgt := 45) C dX7_page_40 (by decide) (fun c40 => ?_) (fun c40 => absurd c40 (not_not_intro rfl))
  refine x_iconst (v := 0) C dX7_page_45 (by decide) ?_
  refine x_istore_nE (L' := [some _, some _, some _, some _]) C dX7_page_46 (by rw [hn]; decide) rfl ?_
  exact LP s 0 (by omega)
end TypeS
