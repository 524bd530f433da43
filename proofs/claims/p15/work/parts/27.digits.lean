/-! MeterBusModel: digits. -/
abbrev f_bd (S : MS) (a m : Nat) (mi : Bool) (k : Nat) : Prop := 9 < S.a 38 (a + k) &&& 15 ∨ (¬ (mi = true ∧ k + 1 = m) ∧ ¬ S.a 38 (a + k) >>> ((4 : Int32) &&& 31) ≤ 9)
def f_dg (S : MS) (a m : Nat) (mi : Bool) : Nat → MS
  | 0 => S
  | k + 1 => if f_bd S a m mi k then f_bl (f_dg S a m mi k) 7 (nI (a + k)) else f_dg S a m mi k
theorem f_bl_a (S : MS) (x y : Int32) (q j : Nat) : (f_bl S x y).a q j = S.a q j := by unfold f_bl; split <;> rfl
theorem f_bl_i (S : MS) (x y : Int32) {q : Nat} (h1 : q ≠ 41) (h2 : q ≠ 36) : (f_bl S x y).i q = S.i q := by
  unfold f_bl
  split
  · rw [MS.si_i, if_neg h2, MS.si_i, if_neg h1]
  · rfl
theorem f_bl_w (S : MS) (x y : Int32) (q j : Nat) : (f_bl S x y).w q j = S.w q j := by unfold f_bl; split <;> rfl
theorem f_dg_a (S : MS) (a m : Nat) (mi : Bool) (k q j : Nat) : (f_dg S a m mi k).a q j = S.a q j := by
  induction k with
  | zero => rfl
  | succ k ih =>
    rw [f_dg]
    split
    · rw [f_bl_a, ih]
    · exact ih
theorem f_dg_i (S : MS) (a m : Nat) (mi : Bool) (k : Nat) {q : Nat} (h1 : q ≠ 41) (h2 : q ≠ 36) : (f_dg S a m mi k).i q = S.i q := by
  induction k with
  | zero => rfl
  | succ k ih =>
    rw [f_dg]
    split
    · rw [f_bl_i _ _ _ h1 h2, ih]
    · exact ih
def f_dv (S : MS) (a m : Nat) (mi : Bool) : Nat → Int64 → Int64
  | 0, v => v
  | k + 1, v => f_dv S a m mi k (100 * v + (if mi = true ∧ k + 1 = m then (0 : Int32) else 10 * (S.a 38 (a + k) >>> ((4 : Int32) &&& 31))).toInt64 + (S.a 38 (a + k) &&& 15).toInt64)
def f_mi (S : MS) (a m : Nat) (sg : Bool) : Bool := decide (sg = true ∧ 0 < m ∧ S.a 38 (a + m - 1) >>> ((4 : Int32) &&& 31) = 15)
def f_dig (S : MS) (a m : Nat) (sg : Bool) : Int64 := if f_mi S a m sg = true then -(f_dv S a m (f_mi S a m sg) m 0) else f_dv S a m (f_mi S a m sg) m 0
def f_digS (S : MS) (a m : Nat) (sg : Bool) : MS := (f_dg S a m (f_mi S a m sg) m).si 40 (nI (a + m))
section Digits
variable {w : Wd} {M : MW} {S : MS} {z : Fx} {post : Option Value → MS → Prop}
/-- the first loop: looks at the digits -/
theorem dg1 (hW : Wm w M) (C : Cx z RX7 cX7_digits gw) (Y : Mty z M) (E : Ct z w gw yX7_digits (some .long) 1 (40 * 1) (PM M post)) (hn : z.nL = 8) (a m : Nat) (sv : Int32) (mi : Bool) (ha : S.i 40 = nI a) (hm : m ≤ 10) (ham : a + m ≤ 300)
    (kk : ∀ l4 l5 l6 : Option Value, X z 0 0 (MA M (f_dg S a m mi m)) 134 [some (.ref M.o), some (.int (nI m)), some (.int sv), some (.int (bI (mi = true))), l4, l5, l6, none] []) :
    ∀ (t k : Nat) (l5 l6 : Option Value), k + t = m → X z 0 0 (MA M (f_dg S a m mi k)) 37 [some (.ref M.o), some (.int (nI m)), some (.int sv), some (.int (bI (mi = true))), some (.int (nI k)), l5, l6, none] [] := by
  intro t
  induction t with
  | zero =>
    intro k l5 l6 hk
    obtain rfl : k = m := by omega
    refine x_iload C dX7_digits_37 rfl ?_
    refine x_iload_n C dX7_digits_39 rfl ?_
    refine x_icmp_ge (tgt := 134) C dX7_digits_40 (by decide) (fun c40 => ?_) (fun c40 => absurd c40 (not_not_intro (Int32.le_refl _)))
    exact kk _ _ _
  | succ t ih =>
    intro k l5 l6 hk
    have e40 : (f_dg S a m mi k).i 40 = nI a := by rw [f_dg_i _ _ _ _ _ (by decide) (by decide)]; exact ha
    have cm : nI k = nI m - 1 ↔ k + 1 = m := by rw [show (1 : Int32) = nI 1 from rfl, pk_sub (by omega), nI_eq (by omega) (by omega)]; omega
    have T128 : ∀ (S1 : MS) (l5 l6 : Option Value), S1 = f_dg S a m mi (k + 1) → X z 0 0 (MA M S1) 128 [some (.ref M.o), some (.int (nI m)), some (.int sv), some (.int (bI (mi = true))), some (.int (nI k)), l5, l6, none] [] := by
      intro S1 l5 l6 e
      subst e
      have ih2 := ih (k + 1) l5 l6 (by omega)
      refine x_iincE (v := nI (k + 1)) (L' := [some _, some _, some _, some _, some _, _, _, none]) C dX7_digits_128 rfl (nI_1 k) (by rw [hn]; decide) rfl ?_
      refine x_goto (tgt := 37) C dX7_digits_131 (by decide) ?_
      exact ih2
    have T60 : ∀ x : Int32, x = bI (mi = true ∧ k + 1 = m) → X z 0 0 (MA M (f_dg S a m mi k)) 60 [some (.ref M.o), some (.int (nI m)), some (.int sv), some (.int (bI (mi = true))), some (.int (nI k)), l5, l6, none] [.int x] := by
      intro x ex
      by_cases hb : f_bd S a m mi k
      · have e : f_dg S a m mi (k + 1) = f_bl (f_dg S a m mi k) 7 (nI (a + k)) := by rw [f_dg, if_pos hb]
        rw [e] at T128
        have T106 : X z 0 0 (MA M (f_dg S a m mi k)) 106 [some (.ref M.o), some (.int (nI m)), some (.int sv), some (.int (bI (mi = true))), some (.int (nI k)), some (.int x), l6, none] [] := by
          refine x_aload_n C dX7_digits_106 rfl ?_
          refine m_get C Y 41 (by decide) (by decide) wf_X7_204 dX7_digits_107 ?_
          refine x_if_ne (tgt := 128) C dX7_digits_110 (by decide) (fun c110 => ?_) (fun c110 => ?_)
          · skip
            first | exact T128 _ _ _ rfl | exact T128 _ _ _ (if_neg c110).symm
          · skip
            refine x_aload_n C dX7_digits_113 rfl ?_
            refine x_bipush (v := 7) C dX7_digits_114 (by decide) ?_
            refine x_aload_n C dX7_digits_116 rfl ?_
            refine m_get C Y 40 (by decide) (by decide) wf_X7_221 dX7_digits_117 ?_
            refine x_iload C dX7_digits_120 rfl ?_
            rw [e40]
            refine x_iadd C dX7_digits_122 ?_
            rw [nI_add]
            refine m_callF C Y hW E (s_blame hW _ _) rfl md_X7_blame wi_X7_blame ws_X7_blame wm_X7_207 dX7_digits_123 rfl (by decide) (by decide) rfl (by simp [Value.category]) ?_
            refine x_istoreE (L' := [some _, some _, some _, some _, some _, some _, some _, none]) C dX7_digits_126 (by rw [hn]; decide) rfl ?_
            first | exact T128 _ _ _ rfl | exact T128 _ _ _ (if_neg c110).symm
        refine x_istoreE (L' := [some _, some _, some _, some _, some _, some _, _, none]) C dX7_digits_60 (by rw [hn]; decide) rfl ?_
        refine x_aload_n C dX7_digits_62 rfl ?_
        refine m_getA C Y 38 (by decide) (by decide) wf_X7_94 dX7_digits_63 ?_
        refine x_aload_n C dX7_digits_66 rfl ?_
        refine m_get C Y 40 (by decide) (by decide) wf_X7_221 dX7_digits_67 ?_
        refine x_iload C dX7_digits_70 rfl ?_
        refine x_iadd C dX7_digits_72 ?_
        refine m_ildN C Y 38 (a + k) (by decide) dX7_digits_73 (by rw [e40, nI_add]) (by simp only [m_len]; omega) ?_
        rw [f_dg_a]
        refine x_bipush (v := 15) C dX7_digits_74 (by decide) ?_
        refine x_iand C dX7_digits_76 ?_
        refine x_bipush (v := 9) C dX7_digits_77 (by decide) ?_
        refine x_icmp_gt (tgt := 106) C dX7_digits_79 (by decide) (fun c79 => ?_) (fun c79 => ?_)
        · skip
          exact T106
        · skip
          refine x_iload C dX7_digits_82 rfl ?_
          refine x_if_ne (tgt := 128) C dX7_digits_84 (by decide) (fun c84 => ?_) (fun c84 => ?_)
          · skip
            first | exact absurd hb (fun q => q.elim (fun r => c79 r) (fun r => r.2 c103)) | exact absurd hb (fun q => q.elim (fun r => c79 r) (fun r => r.1 (bI_0n.mp (ex ▸ c84))))
          · skip
            refine x_aload_n C dX7_digits_87 rfl ?_
            refine m_getA C Y 38 (by decide) (by decide) wf_X7_94 dX7_digits_88 ?_
            refine x_aload_n C dX7_digits_91 rfl ?_
            refine m_get C Y 40 (by decide) (by decide) wf_X7_221 dX7_digits_92 ?_
            refine x_iload C dX7_digits_95 rfl ?_
            refine x_iadd C dX7_digits_97 ?_
            refine m_ildN C Y 38 (a + k) (by decide) dX7_digits_98 (by rw [e40, nI_add]) (by simp only [m_len]; omega) ?_
            rw [f_dg_a]
            refine x_iconst (v := 4) C dX7_digits_99 (by decide) ?_
            refine x_ishr C dX7_digits_100 ?_
            refine x_bipush (v := 9) C dX7_digits_101 (by decide) ?_
            refine x_icmp_le (tgt := 128) C dX7_digits_103 (by decide) (fun c103 => ?_) (fun c103 => ?_)
            · skip
              first | exact absurd hb (fun q => q.elim (fun r => c79 r) (fun r => r.2 c103)) | exact absurd hb (fun q => q.elim (fun r => c79 r) (fun r => r.1 (bI_0n.mp (ex ▸ c84))))
            · skip
              exact T106
      · have e : f_dg S a m mi (k + 1) = f_dg S a m mi k := by rw [f_dg, if_neg hb]
        rw [e] at T128
        refine x_istoreE (L' := [some _, some _, some _, some _, some _, some _, _, none]) C dX7_digits_60 (by rw [hn]; decide) rfl ?_
        refine x_aload_n C dX7_digits_62 rfl ?_
        refine m_getA C Y 38 (by decide) (by decide) wf_X7_94 dX7_digits_63 ?_
        refine x_aload_n C dX7_digits_66 rfl ?_
        refine m_get C Y 40 (by decide) (by decide) wf_X7_221 dX7_digits_67 ?_
        refine x_iload C dX7_digits_70 rfl ?_
        refine x_iadd C dX7_digits_72 ?_
        refine m_ildN C Y 38 (a + k) (by decide) dX7_digits_73 (by rw [e40, nI_add]) (by simp only [m_len]; omega) ?_
        rw [f_dg_a]
        refine x_bipush (v := 15) C dX7_digits_74 (by decide) ?_
        refine x_iand C dX7_digits_76 ?_
        refine x_bipush (v := 9) C dX7_digits_77 (by decide) ?_
        refine x_icmp_gt (tgt := 106) C dX7_digits_79 (by decide) (fun c79 => ?_) (fun c79 => ?_)
        · skip
          first | exact absurd (Or.inl c79) hb | exact absurd (Or.inr ⟨bI_0.mp (ex ▸ c84), c103⟩) hb
        · skip
          refine x_iload C dX7_digits_82 rfl ?_
          refine x_if_ne (tgt := 128) C dX7_digits_84 (by decide) (fun c84 => ?_) (fun c84 => ?_)
          · skip
            exact T128 _ _ _ rfl
          · skip
            refine x_aload_n C dX7_digits_87 rfl ?_
            refine m_getA C Y 38 (by decide) (by decide) wf_X7_94 dX7_digits_88 ?_
            refine x_aload_n C dX7_digits_91 rfl ?_
            refine m_get C Y 40 (by decide) (by decide) wf_X7_221 dX7_digits_92 ?_
            refine x_iload C dX7_digits_95 rfl ?_
            refine x_iadd C dX7_digits_97 ?_
            refine m_ildN C Y 38 (a + k) (by decide) dX7_digits_98 (by rw [e40, nI_add]) (by simp only [m_len]; omega) ?_
            rw [f_dg_a]
            refine x_iconst (v := 4) C dX7_digits_99 (by decide) ?_
            refine x_ishr C dX7_digits_100 ?_
            refine x_bipush (v := 9) C dX7_digits_101 (by decide) ?_
            refine x_icmp_le (tgt := 128) C dX7_digits_103 (by decide) (fun c103 => ?_) (fun c103 => ?_)
            · skip
              exact T128 _ _ _ rfl
            · skip
              first | exact absurd (Or.inl c79) hb | exact absurd (Or.inr ⟨bI_0.mp (ex ▸ c84), c103⟩) hb
    refine x_iload C dX7_digits_37 rfl ?_
    refine x_iload_n C dX7_digits_39 rfl ?_
    refine x_icmp_ge (tgt := 134) C dX7_digits_40 (by decide) (fun c40 => absurd c40 (nI_ge (show k < m by omega) (by omega))) (fun c40 => ?_)
    refine x_iload_n C dX7_digits_43 rfl ?_
    refine x_if_eq (tgt := 59) C dX7_digits_44 (by decide) (fun c44 => ?_) (fun c44 => ?_)
    · skip
      refine x_iconst (v := 0) C dX7_digits_59 (by decide) ?_
      first | exact T60 _ (bI_00 (fun q => bI_0.mp c44 q.1)) | exact T60 _ (bI_00 (fun q => c52 (cm.mpr q.2))) | exact T60 _ (bI_1 ⟨bI_0n.mp c44, cm.mp c52⟩)
    · skip
      refine x_iload C dX7_digits_47 rfl ?_
      refine x_iload_n C dX7_digits_49 rfl ?_
      refine x_iconst (v := 1) C dX7_digits_50 (by decide) ?_
      refine x_isub C dX7_digits_51 ?_
      refine x_icmp_ne (tgt := 59) C dX7_digits_52 (by decide) (fun c52 => ?_) (fun c52 => ?_)
      · skip
        refine x_iconst (v := 0) C dX7_digits_59 (by decide) ?_
        first | exact T60 _ (bI_00 (fun q => bI_0.mp c44 q.1)) | exact T60 _ (bI_00 (fun q => c52 (cm.mpr q.2))) | exact T60 _ (bI_1 ⟨bI_0n.mp c44, cm.mp c52⟩)
      · skip
        refine x_iconst (v := 1) C dX7_digits_55 (by decide) ?_
        refine x_goto (tgt := 60) C dX7_digits_56 (by decide) ?_
        first | exact T60 _ (bI_00 (fun q => bI_0.mp c44 q.1)) | exact T60 _ (bI_00 (fun q => c52 (cm.mpr q.2))) | exact T60 _ (bI_1 ⟨bI_0n.mp c44, cm.mp c52⟩)
/-- the second loop: the number -/
theorem dg2 (hW : Wm w M) (C : Cx z RX7 cX7_digits gw) (Y : Mty z M) (E : Ct z w gw yX7_digits (some .long) 1 (40 * 1) (PM M post)) (hn : z.nL = 8) (a m : Nat) (sv : Int32) (mi : Bool) (S1 : MS) (h38 : ∀ j, S1.a 38 j = S.a 38 j) (ha : S1.i 40 = nI a) (hm : m ≤ 10) (ham : a + m ≤ 300) (R : Int64)
    (kk : ∀ l6 l7 : Option Value, X z 0 0 (MA M S1) 225 [some (.ref M.o), some (.int (nI m)), some (.int sv), some (.int (bI (mi = true))), some (.long R), none, l6, l7] []) :
    ∀ (k : Nat) (x : Int64) (l7 : Option Value), k ≤ m → f_dv S a m mi k x = R → X z 0 0 (MA M S1) 142 [some (.ref M.o), some (.int (nI m)), some (.int sv), some (.int (bI (mi = true))), some (.long x), none, some (.int (nI k - 1)), l7] [] := by
  intro k
  induction k with
  | zero =>
    intro x l7 _ e
    have e : x = R := e
    subst e
    have e1 : (nI 0 - 1 : Int32) < 0 := by decide
    refine x_iload C dX7_digits_142 rfl ?_
    refine x_if_lt (tgt := 225) C dX7_digits_144 (by decide) (fun c144 => ?_) (fun c144 => absurd c144 (not_not_intro e1))
    exact kk _ _
  | succ k ih =>
    intro x l7 hk e
    rw [nI_pred]
    have cm : nI k = nI m - 1 ↔ k + 1 = m := by rw [show (1 : Int32) = nI 1 from rfl, pk_sub (by omega), nI_eq (by omega) (by omega)]; omega
    have T198 : ∀ (s y : Int32), y = (if mi = true ∧ k + 1 = m then (0 : Int32) else 10 * (S.a 38 (a + k) >>> ((4 : Int32) &&& 31))) → X z 0 0 (MA M S1) 198 [some (.ref M.o), some (.int (nI m)), some (.int sv), some (.int (bI (mi = true))), some (.long x), none, some (.int (nI k)), some (.int s)] [.int y, .long (100 * x)] := by
      intro s y ey
      subst ey
      have ih2 := ih _ (some (.int s)) (by omega) e
      refine x_i2l C dX7_digits_198 ?_
      refine x_ladd C dX7_digits_199 ?_
      refine x_aload_n C dX7_digits_200 rfl ?_
      refine m_getA C Y 38 (by decide) (by decide) wf_X7_94 dX7_digits_201 ?_
      refine x_aload_n C dX7_digits_204 rfl ?_
      refine m_get C Y 40 (by decide) (by decide) wf_X7_221 dX7_digits_205 ?_
      refine x_iload C dX7_digits_208 rfl ?_
      refine x_iadd C dX7_digits_210 ?_
      refine m_ildN C Y 38 (a + k) (by decide) dX7_digits_211 (by rw [ha, nI_add]) (by simp only [m_len]; omega) ?_
      rw [h38]
      refine x_bipush (v := 15) C dX7_digits_212 (by decide) ?_
      refine x_iand C dX7_digits_214 ?_
      refine x_i2l C dX7_digits_215 ?_
      refine x_ladd C dX7_digits_216 ?_
      refine x_lstoreE (L' := [some _, some _, some _, some _, some _, none, some _, some _]) C dX7_digits_217 (by rw [hn]; decide) rfl ?_
      refine x_iincE (v := nI k - 1) (L' := [some _, some _, some _, some _, some _, none, some _, some _]) C dX7_digits_219 rfl ((by rw [Int32.sub_eq_add_neg]; rfl)) (by rw [hn]; decide) rfl ?_
      refine x_goto (tgt := 142) C dX7_digits_222 (by decide) ?_
      exact ih2
    have T164 : ∀ s : Int32, s = bI (mi = true ∧ k + 1 = m) → X z 0 0 (MA M S1) 164 [some (.ref M.o), some (.int (nI m)), some (.int sv), some (.int (bI (mi = true))), some (.long x), none, some (.int (nI k)), l7] [.int s] := by
      intro s es
      refine x_istoreE (L' := [some _, some _, some _, some _, some _, none, some _, some _]) C dX7_digits_164 (by rw [hn]; decide) rfl ?_
      refine x_ldc2 C wk_X7_241 dX7_digits_166 ?_
      refine x_lload C dX7_digits_169 rfl ?_
      refine x_lmul C dX7_digits_171 ?_
      refine x_iload C dX7_digits_172 rfl ?_
      refine x_if_eq (tgt := 181) C dX7_digits_174 (by decide) (fun c174 => ?_) (fun c174 => ?_)
      · skip
        refine x_bipush (v := 10) C dX7_digits_181 (by decide) ?_
        refine x_aload_n C dX7_digits_183 rfl ?_
        refine m_getA C Y 38 (by decide) (by decide) wf_X7_94 dX7_digits_184 ?_
        refine x_aload_n C dX7_digits_187 rfl ?_
        refine m_get C Y 40 (by decide) (by decide) wf_X7_221 dX7_digits_188 ?_
        refine x_iload C dX7_digits_191 rfl ?_
        refine x_iadd C dX7_digits_193 ?_
        refine m_ildN C Y 38 (a + k) (by decide) dX7_digits_194 (by rw [ha, nI_add]) (by simp only [m_len]; omega) ?_
        rw [h38]
        refine x_iconst (v := 4) C dX7_digits_195 (by decide) ?_
        refine x_ishr C dX7_digits_196 ?_
        refine x_imul C dX7_digits_197 ?_
        first | exact T198 _ _ (if_neg (bI_0.mp (es ▸ c174))).symm | exact T198 _ _ (if_pos (bI_0n.mp (es ▸ c174))).symm
      · skip
        refine x_iconst (v := 0) C dX7_digits_177 (by decide) ?_
        refine x_goto (tgt := 198) C dX7_digits_178 (by decide) ?_
        first | exact T198 _ _ (if_neg (bI_0.mp (es ▸ c174))).symm | exact T198 _ _ (if_pos (bI_0n.mp (es ▸ c174))).symm
    refine x_iload C dX7_digits_142 rfl ?_
    refine x_if_lt (tgt := 225) C dX7_digits_144 (by decide) (fun c144 => absurd c144 (nI_pos (by omega))) (fun c144 => ?_)
    refine x_iload_n C dX7_digits_147 rfl ?_
    refine x_if_eq (tgt := 163) C dX7_digits_148 (by decide) (fun c148 => ?_) (fun c148 => ?_)
    · skip
      refine x_iconst (v := 0) C dX7_digits_163 (by decide) ?_
      first | exact T164 _ (bI_00 (fun q => bI_0.mp c148 q.1)) | exact T164 _ (bI_00 (fun q => c156 (cm.mpr q.2))) | exact T164 _ (bI_1 ⟨bI_0n.mp c148, cm.mp c156⟩)
    · skip
      refine x_iload C dX7_digits_151 rfl ?_
      refine x_iload_n C dX7_digits_153 rfl ?_
      refine x_iconst (v := 1) C dX7_digits_154 (by decide) ?_
      refine x_isub C dX7_digits_155 ?_
      refine x_icmp_ne (tgt := 163) C dX7_digits_156 (by decide) (fun c156 => ?_) (fun c156 => ?_)
      · skip
        refine x_iconst (v := 0) C dX7_digits_163 (by decide) ?_
        first | exact T164 _ (bI_00 (fun q => bI_0.mp c148 q.1)) | exact T164 _ (bI_00 (fun q => c156 (cm.mpr q.2))) | exact T164 _ (bI_1 ⟨bI_0n.mp c148, cm.mp c156⟩)
      · skip
        refine x_iconst (v := 1) C dX7_digits_159 (by decide) ?_
        refine x_goto (tgt := 164) C dX7_digits_160 (by decide) ?_
        first | exact T164 _ (bI_00 (fun q => bI_0.mp c148 q.1)) | exact T164 _ (bI_00 (fun q => c156 (cm.mpr q.2))) | exact T164 _ (bI_1 ⟨bI_0n.mp c148, cm.mp c156⟩)
theorem s_digits (hW : Wm w M) (a m : Nat) (sg : Bool) (ha : S.i 40 = nI a) (hm : m ≤ 10) (ham : a + m ≤ 300) : TF w M yX7_digits cX7_digits 8 (some .long) 1 [.int (nI m), .int (bI (sg = true))] S (some (.long (f_dig S a m sg))) (f_digS S a m sg) := by
  refine TM.intro hW rfl (Nat.le_of_ble_eq_true rfl) (fun z C Y E hn => ?_)
  unfold f_dig f_digS at E
  have i0 : nI m ≤ 0 ↔ ¬ 0 < m := by rw [show (0 : Int32) = nI 0 from rfl, nI_leI (by omega) (by omega)]; omega
  have T33 : ∀ x : Int32, x = bI (f_mi S a m sg = true) → X z 0 0 (MA M S) 33 [some (.ref M.o), some (.int (nI m)), some (.int (bI (sg = true))), none, none, none, none, none] [.int x] := by
    intro x ex
    subst ex
    generalize f_mi S a m sg = mi at E
    refine x_istore_nE (L' := [some _, some _, some _, some _, none, none, none, none]) C dX7_digits_33 (by rw [hn]; decide) rfl ?_
    refine x_iconst (v := 0) C dX7_digits_34 (by decide) ?_
    refine x_istoreE (L' := [some _, some _, some _, some _, some _, none, none, none]) C dX7_digits_35 (by rw [hn]; decide) rfl ?_
    refine dg1 hW C Y E hn a m _ mi ha hm ham (fun l4 l5 l6 => ?_) m 0 none none (by omega)
    have h38 : ∀ j, (f_dg S a m mi m).a 38 j = S.a 38 j := fun j => f_dg_a S a m mi m 38 j
    have h40 : (f_dg S a m mi m).i 40 = nI a := by rw [f_dg_i _ _ _ _ _ (by decide) (by decide)]; exact ha
    generalize f_dg S a m mi m = S1 at E h38 h40 ⊢
    refine x_lconst (v := 0) C dX7_digits_134 (by decide) ?_
    refine x_lstoreE (L' := [some _, some _, some _, some _, some _, none, _, none]) C dX7_digits_135 (by rw [hn]; decide) rfl ?_
    refine x_iload_n C dX7_digits_137 rfl ?_
    refine x_iconst (v := 1) C dX7_digits_138 (by decide) ?_
    refine x_isub C dX7_digits_139 ?_
    refine x_istoreE (L' := [some _, some _, some _, some _, some _, none, some _, none]) C dX7_digits_140 (by rw [hn]; decide) rfl ?_
    refine dg2 (S := S) hW C Y E hn a m _ mi S1 h38 h40 hm ham (f_dv S a m mi m 0) (fun l6 l7 => ?_) m 0 none (Nat.le_refl m) rfl
    refine x_aload_n C dX7_digits_225 rfl ?_
    refine x_dup C dX7_digits_226 rfl ?_
    refine m_get C Y 40 (by decide) (by decide) wf_X7_221 dX7_digits_227 ?_
    refine x_iload_n C dX7_digits_230 rfl ?_
    refine x_iadd C dX7_digits_231 ?_
    rw [h40, nI_add]
    refine m_put C Y hW.2.1 40 (by decide) (by decide) rfl rfl rfl wf_X7_221 dX7_digits_232 ?_
    refine x_iload_n C dX7_digits_235 rfl ?_
    refine x_if_eq (tgt := 245) C dX7_digits_236 (by decide) (fun c236 => ?_) (fun c236 => ?_)
    · skip
      refine x_lload C dX7_digits_245 rfl ?_
      refine m_lret C E dX7_digits_247 ?_
      first | exact ⟨congrArg (fun t => some (Value.long t)) (if_neg (bI_0.mp c236)).symm, rfl⟩ | exact ⟨congrArg (fun t => some (Value.long t)) (if_pos (bI_0n.mp c236)).symm, rfl⟩
    · skip
      refine x_lload C dX7_digits_239 rfl ?_
      refine x_lneg C dX7_digits_241 ?_
      refine x_goto (tgt := 247) C dX7_digits_242 (by decide) ?_
      refine m_lret C E dX7_digits_247 ?_
      first | exact ⟨congrArg (fun t => some (Value.long t)) (if_neg (bI_0.mp c236)).symm, rfl⟩ | exact ⟨congrArg (fun t => some (Value.long t)) (if_pos (bI_0n.mp c236)).symm, rfl⟩
  refine x_iload_n C dX7_digits_0 rfl ?_
  refine x_if_eq (tgt := 32) C dX7_digits_1 (by decide) (fun c1 => ?_) (fun c1 => ?_)
  · skip
    refine x_iconst (v := 0) C dX7_digits_32 (by decide) ?_
    first | exact T33 _ (bI_00 (fun q => bI_0.mp c1 (of_decide_eq_true q).1)) | exact T33 _ (bI_00 (fun q => i0.mp c5 (of_decide_eq_true q).2.1)) | exact T33 _ (bI_00 (fun q => c25 (of_decide_eq_true q).2.2)) | exact T33 _ (bI_1 (decide_eq_true ⟨bI_0n.mp c1, m0, c25⟩))
  · skip
    refine x_iload_n C dX7_digits_4 rfl ?_
    refine x_if_le (tgt := 32) C dX7_digits_5 (by decide) (fun c5 => ?_) (fun c5 => ?_)
    · skip
      refine x_iconst (v := 0) C dX7_digits_32 (by decide) ?_
      first | exact T33 _ (bI_00 (fun q => bI_0.mp c1 (of_decide_eq_true q).1)) | exact T33 _ (bI_00 (fun q => i0.mp c5 (of_decide_eq_true q).2.1)) | exact T33 _ (bI_00 (fun q => c25 (of_decide_eq_true q).2.2)) | exact T33 _ (bI_1 (decide_eq_true ⟨bI_0n.mp c1, m0, c25⟩))
    · skip
      have m0 : 0 < m := Classical.not_not.mp (fun q => c5 (i0.mpr q))
      refine x_aload_n C dX7_digits_8 rfl ?_
      refine m_getA C Y 38 (by decide) (by decide) wf_X7_94 dX7_digits_9 ?_
      refine x_aload_n C dX7_digits_12 rfl ?_
      refine m_get C Y 40 (by decide) (by decide) wf_X7_221 dX7_digits_13 ?_
      refine x_iload_n C dX7_digits_16 rfl ?_
      refine x_iadd C dX7_digits_17 ?_
      refine x_iconst (v := 1) C dX7_digits_18 (by decide) ?_
      refine x_isub C dX7_digits_19 ?_
      refine m_ildN C Y 38 (a + m - 1) (by decide) dX7_digits_20 (by rw [ha, nI_add, show (1 : Int32) = nI 1 from rfl, pk_sub (by omega)]) (by simp only [m_len]; omega) ?_
      refine x_iconst (v := 4) C dX7_digits_21 (by decide) ?_
      refine x_ishr C dX7_digits_22 ?_
      refine x_bipush (v := 15) C dX7_digits_23 (by decide) ?_
      refine x_icmp_ne (tgt := 32) C dX7_digits_25 (by decide) (fun c25 => ?_) (fun c25 => ?_)
      · skip
        refine x_iconst (v := 0) C dX7_digits_32 (by decide) ?_
        first | exact T33 _ (bI_00 (fun q => bI_0.mp c1 (of_decide_eq_true q).1)) | exact T33 _ (bI_00 (fun q => i0.mp c5 (of_decide_eq_true q).2.1)) | exact T33 _ (bI_00 (fun q => c25 (of_decide_eq_true q).2.2)) | exact T33 _ (bI_1 (decide_eq_true ⟨bI_0n.mp c1, m0, c25⟩))
      · skip
        refine x_iconst (v := 1) C dX7_digits_28 (by decide) ?_
        refine x_goto (tgt := 33) C dX7_digits_29 (by decide) ?_
        first | exact T33 _ (bI_00 (fun q => bI_0.mp c1 (of_decide_eq_true q).1)) | exact T33 _ (bI_00 (fun q => i0.mp c5 (of_decide_eq_true q).2.1)) | exact T33 _ (bI_00 (fun q => c25 (of_decide_eq_true q).2.2)) | exact T33 _ (bI_1 (decide_eq_true ⟨bI_0n.mp c1, m0, c25⟩))
end Digits
