/-! MeterBusModel: meter. -/
abbrev g_num (ad mk v d : Int32) : Prop := (0 ≤ ad ∧ ad ≤ 250) ∧ (0 ≤ mk ∧ mk ≤ 65535) ∧ (0 ≤ mk &&& 255 ∧ mk &&& 255 ≤ 254) ∧ (0 ≤ mk >>> ((8 : Int32) &&& 31) ∧ mk >>> ((8 : Int32) &&& 31) ≤ 254) ∧ (0 ≤ v ∧ v ≤ 254) ∧ (0 ≤ d ∧ d ≤ 254)
def g_dig (i : Int32) (n : Nat) : Bool := (List.range n).all (fun t => decide ((i >>> (((4 : Int32) * nI t) &&& 31)) &&& 15 < 10))
theorem g_dig_s {i : Int32} {n : Nat} : g_dig i (n + 1) = true ↔ g_dig i n = true ∧ (i >>> (((4 : Int32) * nI n) &&& 31)) &&& 15 < 10 := by simp [g_dig, List.range_succ]
def g_sb (S : MS) (m : Nat) (i mk v d : Int32) (n : Nat) : Bool := (List.range n).all (fun b => decide (S.a 12 (8 * m + b) = f_byte b i mk v d))
theorem g_sb_s {S : MS} {m : Nat} {i mk v d : Int32} {n : Nat} : g_sb S m i mk v d (n + 1) = true ↔ g_sb S m i mk v d n = true ∧ S.a 12 (8 * m + n) = f_byte n i mk v d := by simp [g_sb, List.range_succ]
abbrev g_same (S : MS) (k : Int32) (i mk v d : Int32) (m : Nat) : Prop := (¬ S.a 10 m = 0 ∧ ¬ nI m = k) ∧ g_sb S m i mk v d 8 = true
def g_free (S : MS) (k : Int32) (i mk v d : Int32) (n : Nat) : Bool := (List.range n).all (fun m => decide (¬ g_same S k i mk v d m))
theorem g_free_s {S : MS} {k i mk v d : Int32} {n : Nat} : g_free S k i mk v d (n + 1) = true ↔ g_free S k i mk v d n = true ∧ ¬ g_same S k i mk v d n := by
  simp only [g_free, List.range_succ, List.all_append, List.all_cons, List.all_nil, Bool.and_true, Bool.and_eq_true, decide_eq_true_eq]
abbrev g_good (S : MS) (k ad i mk v d : Int32) : Prop := (g_num ad mk v d ∧ g_dig i 8 = true) ∧ g_free S k i mk v d 12 = true
def f_mb (S : MS) (k : Nat) (i mk v d : Int32) : Nat → MS
  | 0 => S
  | n + 1 => (f_mb S k i mk v d n).sa 12 (8 * k + n) (f_byte n i mk v d)
def f_mp (S : MS) (k : Nat) : Nat → MS
  | 0 => S
  | n + 1 => (f_mp S k n).sa 17 (3 * k + n) 0
def f_meter (S : MS) (k : Nat) (ad i mk v d : Int32) : MS :=
  f_mp (((((f_mb (((S.si 0 0).sa 10 k 1).sa 11 k ad) k i mk v d 8).sa 13 k 0).sa 15 k (-1)).sa 14 k (-1)).sa 16 k 0) k 3
section MeterS
variable {w : Wd} {M : MW} {S : MS} {z : Fx} {post : Option Value → MS → Prop} {k ad i mk v d : Int32}
/-- the digits' loop -/
theorem mt1 (hW : Wm w M) (C : Cx z RX7 cX7_meter gw) (Y : Mty z M) (E : Ct z w gw yX7_meter none 1 (40 * 1) (PM M post)) (hn : z.nL = 11) (g : Prop) [Decidable g]
    (kk : ∀ l8 : Option Value, X z 0 0 (MA M S) 126 [some (.ref M.o), some (.int k), some (.int ad), some (.int i), some (.int mk), some (.int v), some (.int d), some (.int (bI (g ∧ g_dig i 8 = true))), l8, none, none] []) :
    ∀ (t b : Nat) (x : Int32), b + t = 8 → x = bI (g ∧ g_dig i b = true) → X z 0 0 (MA M S) 87 [some (.ref M.o), some (.int k), some (.int ad), some (.int i), some (.int mk), some (.int v), some (.int d), some (.int x), some (.int (nI b)), none, none] [] := by
  intro t
  induction t with
  | zero =>
    intro b x hb ex
    obtain rfl : b = 8 := by omega
    subst ex
    refine x_iload C dX7_meter_87 rfl ?_
    refine x_bipush (v := 8) C dX7_meter_89 (by decide) ?_
    refine x_icmp_ge (tgt := 126) C dX7_meter_91 (by decide) (fun c91 => ?_) (fun c91 => absurd c91 (by decide))
    exact kk _
  | succ t ih =>
    intro b x hb ex
    have T118 : ∀ y : Int32, y = bI (g ∧ g_dig i (b + 1) = true) → X z 0 0 (MA M S) 118 [some (.ref M.o), some (.int k), some (.int ad), some (.int i), some (.int mk), some (.int v), some (.int d), some (.int x), some (.int (nI b)), none, none] [.int y] := by
      intro y ey
      have ih2 := ih (b + 1) y (by omega) ey
      refine x_istoreE (L' := [some _, some _, some _, some _, some _, some _, some _, some _, some _, none, none]) C dX7_meter_118 (by rw [hn]; decide) rfl ?_
      refine x_iincE (v := nI (b + 1)) (L' := [some _, some _, some _, some _, some _, some _, some _, some _, some _, none, none]) C dX7_meter_120 rfl (nI_1 b) (by rw [hn]; decide) rfl ?_
      refine x_goto (tgt := 87) C dX7_meter_123 (by decide) ?_
      exact ih2
    subst ex
    refine x_iload C dX7_meter_87 rfl ?_
    refine x_bipush (v := 8) C dX7_meter_89 (by decide) ?_
    refine x_icmp_ge (tgt := 126) C dX7_meter_91 (by decide) (fun c91 => absurd c91 (by rw [nI_lit]; exact nI_ge (show b < 8 by omega) (by decide))) (fun c91 => ?_)
    refine x_iload C dX7_meter_94 rfl ?_
    refine x_if_eq (tgt := 117) C dX7_meter_96 (by decide) (fun c96 => ?_) (fun c96 => ?_)
    · skip
      refine x_iconst (v := 0) C dX7_meter_117 (by decide) ?_
      first | exact T118 _ (bI_00 (fun q => bI_0.mp c96 ⟨q.1, (g_dig_s.mp q.2).1⟩)) | exact T118 _ (bI_00 (fun q => Int32.not_lt.mpr c110 (g_dig_s.mp q.2).2)) | exact T118 _ (bI_1 ⟨(bI_0n.mp c96).1, g_dig_s.mpr ⟨(bI_0n.mp c96).2, Int32.not_le.mp c110⟩⟩)
    · skip
      refine x_iload_n C dX7_meter_99 rfl ?_
      refine x_iconst (v := 4) C dX7_meter_100 (by decide) ?_
      refine x_iload C dX7_meter_101 rfl ?_
      refine x_imul C dX7_meter_103 ?_
      refine x_ishr C dX7_meter_104 ?_
      refine x_bipush (v := 15) C dX7_meter_105 (by decide) ?_
      refine x_iand C dX7_meter_107 ?_
      refine x_bipush (v := 10) C dX7_meter_108 (by decide) ?_
      refine x_icmp_ge (tgt := 117) C dX7_meter_110 (by decide) (fun c110 => ?_) (fun c110 => ?_)
      · skip
        refine x_iconst (v := 0) C dX7_meter_117 (by decide) ?_
        first | exact T118 _ (bI_00 (fun q => bI_0.mp c96 ⟨q.1, (g_dig_s.mp q.2).1⟩)) | exact T118 _ (bI_00 (fun q => Int32.not_lt.mpr c110 (g_dig_s.mp q.2).2)) | exact T118 _ (bI_1 ⟨(bI_0n.mp c96).1, g_dig_s.mpr ⟨(bI_0n.mp c96).2, Int32.not_le.mp c110⟩⟩)
      · skip
        refine x_iconst (v := 1) C dX7_meter_113 (by decide) ?_
        refine x_goto (tgt := 118) C dX7_meter_114 (by decide) ?_
        first | exact T118 _ (bI_00 (fun q => bI_0.mp c96 ⟨q.1, (g_dig_s.mp q.2).1⟩)) | exact T118 _ (bI_00 (fun q => Int32.not_lt.mpr c110 (g_dig_s.mp q.2).2)) | exact T118 _ (bI_1 ⟨(bI_0n.mp c96).1, g_dig_s.mpr ⟨(bI_0n.mp c96).2, Int32.not_le.mp c110⟩⟩)
/-- the loop over the bytes of meter m -/
theorem mt3 (hW : Wm w M) (C : Cx z RX7 cX7_meter gw) (Y : Mty z M) (E : Ct z w gw yX7_meter none 1 (40 * 1) (PM M post)) (hn : z.nL = 11) (m : Nat) (hm : m < 12) (gv : Int32) (q : Prop) [Decidable q]
    (kk : ∀ l10 : Option Value, X z 0 0 (MA M S) 220 [some (.ref M.o), some (.int k), some (.int ad), some (.int i), some (.int mk), some (.int v), some (.int d), some (.int gv), some (.int (nI m)), some (.int (bI (q ∧ g_sb S m i mk v d 8 = true))), l10] []) :
    ∀ (t b : Nat) (x : Int32), b + t = 8 → x = bI (q ∧ g_sb S m i mk v d b = true) → X z 0 0 (MA M S) 167 [some (.ref M.o), some (.int k), some (.int ad), some (.int i), some (.int mk), some (.int v), some (.int d), some (.int gv), some (.int (nI m)), some (.int x), some (.int (nI b))] [] := by
  intro t
  induction t with
  | zero =>
    intro b x hb ex
    obtain rfl : b = 8 := by omega
    subst ex
    refine x_iload C dX7_meter_167 rfl ?_
    refine x_bipush (v := 8) C dX7_meter_169 (by decide) ?_
    refine x_icmp_ge (tgt := 220) C dX7_meter_171 (by decide) (fun c171 => ?_) (fun c171 => absurd c171 (by decide))
    exact kk _
  | succ t ih =>
    intro b x hb ex
    have T212 : ∀ y : Int32, y = bI (q ∧ g_sb S m i mk v d (b + 1) = true) → X z 0 0 (MA M S) 212 [some (.ref M.o), some (.int k), some (.int ad), some (.int i), some (.int mk), some (.int v), some (.int d), some (.int gv), some (.int (nI m)), some (.int x), some (.int (nI b))] [.int y] := by
      intro y ey
      have ih2 := ih (b + 1) y (by omega) ey
      refine x_istoreE (L' := [some _, some _, some _, some _, some _, some _, some _, some _, some _, some _, some _]) C dX7_meter_212 (by rw [hn]; decide) rfl ?_
      refine x_iincE (v := nI (b + 1)) (L' := [some _, some _, some _, some _, some _, some _, some _, some _, some _, some _, some _]) C dX7_meter_214 rfl (nI_1 b) (by rw [hn]; decide) rfl ?_
      refine x_goto (tgt := 167) C dX7_meter_217 (by decide) ?_
      exact ih2
    subst ex
    refine x_iload C dX7_meter_167 rfl ?_
    refine x_bipush (v := 8) C dX7_meter_169 (by decide) ?_
    refine x_icmp_ge (tgt := 220) C dX7_meter_171 (by decide) (fun c171 => absurd c171 (by rw [nI_lit]; exact nI_ge (show b < 8 by omega) (by decide))) (fun c171 => ?_)
    refine x_iload C dX7_meter_174 rfl ?_
    refine x_if_eq (tgt := 211) C dX7_meter_176 (by decide) (fun c176 => ?_) (fun c176 => ?_)
    · skip
      refine x_iconst (v := 0) C dX7_meter_211 (by decide) ?_
      first | exact T212 _ (bI_00 (fun q => bI_0.mp c176 ⟨q.1, (g_sb_s.mp q.2).1⟩)) | exact T212 _ (bI_00 (fun q => c204 (g_sb_s.mp q.2).2)) | exact T212 _ (bI_1 ⟨(bI_0n.mp c176).1, g_sb_s.mpr ⟨(bI_0n.mp c176).2, c204⟩⟩)
    · skip
      refine x_aload_n C dX7_meter_179 rfl ?_
      refine m_getA C Y 12 (by decide) (by decide) wf_X7_26 dX7_meter_180 ?_
      refine x_bipush (v := 8) C dX7_meter_183 (by decide) ?_
      refine x_iload C dX7_meter_185 rfl ?_
      refine x_imul C dX7_meter_187 ?_
      refine x_iload C dX7_meter_188 rfl ?_
      refine x_iadd C dX7_meter_190 ?_
      refine m_ildN C Y 12 (8 * m + b) (by decide) dX7_meter_191 (by simp only [nI_lit, nI_add, pk_mul]) (by simp only [m_len]; omega) ?_
      refine x_iload C dX7_meter_192 rfl ?_
      refine x_iload_n C dX7_meter_194 rfl ?_
      refine x_iload C dX7_meter_195 rfl ?_
      refine x_iload C dX7_meter_197 rfl ?_
      refine x_iload C dX7_meter_199 rfl ?_
      refine m_callSF C hW E (s_byteOf b (by omega) _ _ _ _) md_X7_byteOf wt_X7_byteOf wm_X7_114 dX7_meter_201 rfl (by decide) (by decide) rfl (by simp [Value.category]) ?_
      refine x_icmp_ne (tgt := 211) C dX7_meter_204 (by decide) (fun c204 => ?_) (fun c204 => ?_)
      · skip
        refine x_iconst (v := 0) C dX7_meter_211 (by decide) ?_
        first | exact T212 _ (bI_00 (fun q => bI_0.mp c176 ⟨q.1, (g_sb_s.mp q.2).1⟩)) | exact T212 _ (bI_00 (fun q => c204 (g_sb_s.mp q.2).2)) | exact T212 _ (bI_1 ⟨(bI_0n.mp c176).1, g_sb_s.mpr ⟨(bI_0n.mp c176).2, c204⟩⟩)
      · skip
        refine x_iconst (v := 1) C dX7_meter_207 (by decide) ?_
        refine x_goto (tgt := 212) C dX7_meter_208 (by decide) ?_
        first | exact T212 _ (bI_00 (fun q => bI_0.mp c176 ⟨q.1, (g_sb_s.mp q.2).1⟩)) | exact T212 _ (bI_00 (fun q => c204 (g_sb_s.mp q.2).2)) | exact T212 _ (bI_1 ⟨(bI_0n.mp c176).1, g_sb_s.mpr ⟨(bI_0n.mp c176).2, c204⟩⟩)
/-- the loop over the meters -/
theorem mt2 (hW : Wm w M) (C : Cx z RX7 cX7_meter gw) (Y : Mty z M) (E : Ct z w gw yX7_meter none 1 (40 * 1) (PM M post)) (hn : z.nL = 11) (g : Prop) [Decidable g]
    (kk : ∀ l8 l9 l10 : Option Value, X z 0 0 (MA M S) 238 [some (.ref M.o), some (.int k), some (.int ad), some (.int i), some (.int mk), some (.int v), some (.int d), some (.int (bI (g ∧ g_free S k i mk v d 12 = true))), l8, l9, l10] []) :
    ∀ (t m : Nat) (x : Int32) (l9 l10 : Option Value), m + t = 12 → x = bI (g ∧ g_free S k i mk v d m = true) → X z 0 0 (MA M S) 129 [some (.ref M.o), some (.int k), some (.int ad), some (.int i), some (.int mk), some (.int v), some (.int d), some (.int x), some (.int (nI m)), l9, l10] [] := by
  intro t
  induction t with
  | zero =>
    intro m x l9 l10 hm ex
    obtain rfl : m = 12 := by omega
    subst ex
    refine x_iload C dX7_meter_129 rfl ?_
    refine x_bipush (v := 12) C dX7_meter_131 (by decide) ?_
    refine x_icmp_ge (tgt := 238) C dX7_meter_133 (by decide) (fun c133 => ?_) (fun c133 => absurd c133 (by decide))
    exact kk _ _ _
  | succ t ih =>
    intro m x l9 l10 hm ex
    by_cases h0 : g ∧ g_free S k i mk v d m = true
    · rw [bI_t h0] at ex
      subst ex
      have T162 : ∀ y : Int32, y = bI (¬ S.a 10 m = 0 ∧ ¬ nI m = k) → X z 0 0 (MA M S) 162 [some (.ref M.o), some (.int k), some (.int ad), some (.int i), some (.int mk), some (.int v), some (.int d), some (.int 1), some (.int (nI m)), l9, l10] [.int y] := by
        intro y ey
        have T230 : ∀ (u : Int32) (l9 l10 : Option Value), u = bI (g ∧ g_free S k i mk v d (m + 1) = true) → X z 0 0 (MA M S) 230 [some (.ref M.o), some (.int k), some (.int ad), some (.int i), some (.int mk), some (.int v), some (.int d), some (.int 1), some (.int (nI m)), l9, l10] [.int u] := by
          intro u l9 l10 eu
          have ih2 := ih (m + 1) u l9 l10 (by omega) eu
          refine x_istoreE (L' := [some _, some _, some _, some _, some _, some _, some _, some _, some _, _, _]) C dX7_meter_230 (by rw [hn]; decide) rfl ?_
          refine x_iincE (v := nI (m + 1)) (L' := [some _, some _, some _, some _, some _, some _, some _, some _, some _, _, _]) C dX7_meter_232 rfl (nI_1 m) (by rw [hn]; decide) rfl ?_
          refine x_goto (tgt := 129) C dX7_meter_235 (by decide) ?_
          exact ih2
        subst ey
        refine x_istoreE (L' := [some _, some _, some _, some _, some _, some _, some _, some _, some _, some _, _]) C dX7_meter_162 (by rw [hn]; decide) rfl ?_
        refine x_iconst (v := 0) C dX7_meter_164 (by decide) ?_
        refine x_istoreE (L' := [some _, some _, some _, some _, some _, some _, some _, some _, some _, some _, some _]) C dX7_meter_165 (by rw [hn]; decide) rfl ?_
        refine mt3 hW C Y E hn m (by omega) 1 (¬ S.a 10 m = 0 ∧ ¬ nI m = k) (fun l10 => ?_) 8 0 _ rfl (by simp [g_sb])
        refine x_iload C dX7_meter_220 rfl ?_
        refine x_if_ne (tgt := 229) C dX7_meter_222 (by decide) (fun c222 => ?_) (fun c222 => ?_)
        · skip
          refine x_iconst (v := 0) C dX7_meter_229 (by decide) ?_
          first | exact T230 _ _ _ (bI_00 (fun q => (g_free_s.mp q.2).2 (bI_0n.mp c222))) | exact T230 _ _ _ (bI_1 ⟨h0.1, g_free_s.mpr ⟨h0.2, bI_0.mp c222⟩⟩)
        · skip
          refine x_iconst (v := 1) C dX7_meter_225 (by decide) ?_
          refine x_goto (tgt := 230) C dX7_meter_226 (by decide) ?_
          first | exact T230 _ _ _ (bI_00 (fun q => (g_free_s.mp q.2).2 (bI_0n.mp c222))) | exact T230 _ _ _ (bI_1 ⟨h0.1, g_free_s.mpr ⟨h0.2, bI_0.mp c222⟩⟩)
      refine x_iload C dX7_meter_129 rfl ?_
      refine x_bipush (v := 12) C dX7_meter_131 (by decide) ?_
      refine x_icmp_ge (tgt := 238) C dX7_meter_133 (by decide) (fun c133 => absurd c133 (by rw [nI_lit]; exact nI_ge (show m < 12 by omega) (by decide))) (fun c133 => ?_)
      refine x_iload C dX7_meter_136 rfl ?_
      refine x_if_eq (tgt := 238) C dX7_meter_138 (by decide) (fun c138 => absurd c138 (by decide)) (fun c138 => ?_)
      refine x_aload_n C dX7_meter_141 rfl ?_
      refine m_getA C Y 10 (by decide) (by decide) wf_X7_19 dX7_meter_142 ?_
      refine x_iload C dX7_meter_145 rfl ?_
      refine m_zldN C Y 10 (m) (by decide) dX7_meter_147 (by simp only [nI_lit, nI_add, pk_mul]) (by simp only [m_len]; omega) ?_
      refine x_if_eq (tgt := 161) C dX7_meter_148 (by decide) (fun c148 => ?_) (fun c148 => ?_)
      · skip
        refine x_iconst (v := 0) C dX7_meter_161 (by decide) ?_
        first | exact T162 _ (bI_00 (fun q => q.1 c148)) | exact T162 _ (bI_00 (fun q => q.2 c154)) | exact T162 _ (bI_1 ⟨c148, c154⟩)
      · skip
        refine x_iload C dX7_meter_151 rfl ?_
        refine x_iload_n C dX7_meter_153 rfl ?_
        refine x_icmp_eq (tgt := 161) C dX7_meter_154 (by decide) (fun c154 => ?_) (fun c154 => ?_)
        · skip
          refine x_iconst (v := 0) C dX7_meter_161 (by decide) ?_
          first | exact T162 _ (bI_00 (fun q => q.1 c148)) | exact T162 _ (bI_00 (fun q => q.2 c154)) | exact T162 _ (bI_1 ⟨c148, c154⟩)
        · skip
          refine x_iconst (v := 1) C dX7_meter_157 (by decide) ?_
          refine x_goto (tgt := 162) C dX7_meter_158 (by decide) ?_
          first | exact T162 _ (bI_00 (fun q => q.1 c148)) | exact T162 _ (bI_00 (fun q => q.2 c154)) | exact T162 _ (bI_1 ⟨c148, c154⟩)
    · rw [bI_f h0] at ex
      subst ex
      have h12 : ¬ (g ∧ g_free S k i mk v d 12 = true) := fun q => h0 ⟨q.1, by
        have h2 := q.2
        unfold g_free at h2 ⊢
        rw [List.all_eq_true] at h2 ⊢
        intro y hy
        exact h2 y (List.mem_range.mpr (by have := List.mem_range.mp hy; omega))⟩
      rw [bI_f h12] at kk
      refine x_iload C dX7_meter_129 rfl ?_
      refine x_bipush (v := 12) C dX7_meter_131 (by decide) ?_
      refine x_icmp_ge (tgt := 238) C dX7_meter_133 (by decide) (fun c133 => absurd c133 (by rw [nI_lit]; exact nI_ge (show m < 12 by omega) (by decide))) (fun c133 => ?_)
      refine x_iload C dX7_meter_136 rfl ?_
      refine x_if_eq (tgt := 238) C dX7_meter_138 (by decide) (fun c138 => ?_) (fun c138 => absurd c138 (not_not_intro rfl))
      exact kk _ _ _
end MeterS
section MeterT
variable {w : Wd} {M : MW} {S : MS}
/-- from the entry to the call of fails -/
theorem mt_head (hW : Wm w M) {z : Fx} {post : Option Value → MS → Prop} (C : Cx z RX7 cX7_meter gw) (Y : Mty z M) (E : Ct z w gw yX7_meter none 1 (40 * 1) (PM M post)) (hn : z.nL = 11) (k ad i mk v d : Int32)
    (kk : ∀ l8 l9 l10 : Option Value, X z 0 0 (MA M S) 238 [some (.ref M.o), some (.int k), some (.int ad), some (.int i), some (.int mk), some (.int v), some (.int d), some (.int (bI (g_good S k ad i mk v d))), l8, l9, l10] []) :
    X z 0 0 (MA M S) 0 [some (.ref M.o), some (.int k), some (.int ad), some (.int i), some (.int mk), some (.int v), some (.int d), none, none, none, none] [] := by
  have T82 : ∀ x : Int32, x = bI (g_num ad mk v d) → X z 0 0 (MA M S) 82 [some (.ref M.o), some (.int k), some (.int ad), some (.int i), some (.int mk), some (.int v), some (.int d), none, none, none, none] [.int x] := by
    intro x ex
    subst ex
    refine x_istoreE (L' := [some _, some _, some _, some _, some _, some _, some _, some _, none, none, none]) C dX7_meter_82 (by rw [hn]; decide) rfl ?_
    refine x_iconst (v := 0) C dX7_meter_84 (by decide) ?_
    refine x_istoreE (L' := [some _, some _, some _, some _, some _, some _, some _, some _, some _, none, none]) C dX7_meter_85 (by rw [hn]; decide) rfl ?_
    refine mt1 hW C Y E hn (g_num ad mk v d) (fun l8 => ?_) 8 0 _ rfl (by simp [g_dig])
    refine x_iconst (v := 0) C dX7_meter_126 (by decide) ?_
    refine x_istoreE (L' := [some _, some _, some _, some _, some _, some _, some _, some _, some _, none, none]) C dX7_meter_127 (by rw [hn]; decide) rfl ?_
    exact mt2 hW C Y E hn (g_num ad mk v d ∧ g_dig i 8 = true) kk 12 0 _ none none rfl (by simp [g_free])
  refine x_iload_n C dX7_meter_0 rfl ?_
  refine x_iconst (v := 0) C dX7_meter_1 (by decide) ?_
  refine x_sipush (v := 250) C dX7_meter_2 (by decide) ?_
  refine m_callSF C hW E (s_in _ _ _) md_X7_in wt_X7_in wm_X7_100 dX7_meter_5 rfl (by decide) (by decide) rfl (by simp [Value.category]) ?_
  refine x_if_eq (tgt := 81) C dX7_meter_8 (by decide) (fun c8 => ?_) (fun c8 => ?_)
  · skip
    refine x_iconst (v := 0) C dX7_meter_81 (by decide) ?_
    first | exact T82 _ (bI_00 (fun q => bI_0.mp c8 q.1)) | exact T82 _ (bI_00 (fun q => bI_0.mp c19 q.2.1)) | exact T82 _ (bI_00 (fun q => bI_0.mp c35 q.2.2.1)) | exact T82 _ (bI_00 (fun q => bI_0.mp c50 q.2.2.2.1)) | exact T82 _ (bI_00 (fun q => bI_0.mp c62 q.2.2.2.2.1)) | exact T82 _ (bI_00 (fun q => bI_0.mp c74 q.2.2.2.2.2)) | exact T82 _ (bI_1 ⟨bI_0n.mp c8, bI_0n.mp c19, bI_0n.mp c35, bI_0n.mp c50, bI_0n.mp c62, bI_0n.mp c74⟩)
  · skip
    refine x_iload C dX7_meter_11 rfl ?_
    refine x_iconst (v := 0) C dX7_meter_13 (by decide) ?_
    refine x_ldc C wk_X7_113 dX7_meter_14 ?_
    refine m_callSF C hW E (s_in _ _ _) md_X7_in wt_X7_in wm_X7_100 dX7_meter_16 rfl (by decide) (by decide) rfl (by simp [Value.category]) ?_
    refine x_if_eq (tgt := 81) C dX7_meter_19 (by decide) (fun c19 => ?_) (fun c19 => ?_)
    · skip
      refine x_iconst (v := 0) C dX7_meter_81 (by decide) ?_
      first | exact T82 _ (bI_00 (fun q => bI_0.mp c8 q.1)) | exact T82 _ (bI_00 (fun q => bI_0.mp c19 q.2.1)) | exact T82 _ (bI_00 (fun q => bI_0.mp c35 q.2.2.1)) | exact T82 _ (bI_00 (fun q => bI_0.mp c50 q.2.2.2.1)) | exact T82 _ (bI_00 (fun q => bI_0.mp c62 q.2.2.2.2.1)) | exact T82 _ (bI_00 (fun q => bI_0.mp c74 q.2.2.2.2.2)) | exact T82 _ (bI_1 ⟨bI_0n.mp c8, bI_0n.mp c19, bI_0n.mp c35, bI_0n.mp c50, bI_0n.mp c62, bI_0n.mp c74⟩)
    · skip
      refine x_iload C dX7_meter_22 rfl ?_
      refine x_sipush (v := 255) C dX7_meter_24 (by decide) ?_
      refine x_iand C dX7_meter_27 ?_
      refine x_iconst (v := 0) C dX7_meter_28 (by decide) ?_
      refine x_sipush (v := 254) C dX7_meter_29 (by decide) ?_
      refine m_callSF C hW E (s_in _ _ _) md_X7_in wt_X7_in wm_X7_100 dX7_meter_32 rfl (by decide) (by decide) rfl (by simp [Value.category]) ?_
      refine x_if_eq (tgt := 81) C dX7_meter_35 (by decide) (fun c35 => ?_) (fun c35 => ?_)
      · skip
        refine x_iconst (v := 0) C dX7_meter_81 (by decide) ?_
        first | exact T82 _ (bI_00 (fun q => bI_0.mp c8 q.1)) | exact T82 _ (bI_00 (fun q => bI_0.mp c19 q.2.1)) | exact T82 _ (bI_00 (fun q => bI_0.mp c35 q.2.2.1)) | exact T82 _ (bI_00 (fun q => bI_0.mp c50 q.2.2.2.1)) | exact T82 _ (bI_00 (fun q => bI_0.mp c62 q.2.2.2.2.1)) | exact T82 _ (bI_00 (fun q => bI_0.mp c74 q.2.2.2.2.2)) | exact T82 _ (bI_1 ⟨bI_0n.mp c8, bI_0n.mp c19, bI_0n.mp c35, bI_0n.mp c50, bI_0n.mp c62, bI_0n.mp c74⟩)
      · skip
        refine x_iload C dX7_meter_38 rfl ?_
        refine x_bipush (v := 8) C dX7_meter_40 (by decide) ?_
        refine x_ishr C dX7_meter_42 ?_
        refine x_iconst (v := 0) C dX7_meter_43 (by decide) ?_
        refine x_sipush (v := 254) C dX7_meter_44 (by decide) ?_
        refine m_callSF C hW E (s_in _ _ _) md_X7_in wt_X7_in wm_X7_100 dX7_meter_47 rfl (by decide) (by decide) rfl (by simp [Value.category]) ?_
        refine x_if_eq (tgt := 81) C dX7_meter_50 (by decide) (fun c50 => ?_) (fun c50 => ?_)
        · skip
          refine x_iconst (v := 0) C dX7_meter_81 (by decide) ?_
          first | exact T82 _ (bI_00 (fun q => bI_0.mp c8 q.1)) | exact T82 _ (bI_00 (fun q => bI_0.mp c19 q.2.1)) | exact T82 _ (bI_00 (fun q => bI_0.mp c35 q.2.2.1)) | exact T82 _ (bI_00 (fun q => bI_0.mp c50 q.2.2.2.1)) | exact T82 _ (bI_00 (fun q => bI_0.mp c62 q.2.2.2.2.1)) | exact T82 _ (bI_00 (fun q => bI_0.mp c74 q.2.2.2.2.2)) | exact T82 _ (bI_1 ⟨bI_0n.mp c8, bI_0n.mp c19, bI_0n.mp c35, bI_0n.mp c50, bI_0n.mp c62, bI_0n.mp c74⟩)
        · skip
          refine x_iload C dX7_meter_53 rfl ?_
          refine x_iconst (v := 0) C dX7_meter_55 (by decide) ?_
          refine x_sipush (v := 254) C dX7_meter_56 (by decide) ?_
          refine m_callSF C hW E (s_in _ _ _) md_X7_in wt_X7_in wm_X7_100 dX7_meter_59 rfl (by decide) (by decide) rfl (by simp [Value.category]) ?_
          refine x_if_eq (tgt := 81) C dX7_meter_62 (by decide) (fun c62 => ?_) (fun c62 => ?_)
          · skip
            refine x_iconst (v := 0) C dX7_meter_81 (by decide) ?_
            first | exact T82 _ (bI_00 (fun q => bI_0.mp c8 q.1)) | exact T82 _ (bI_00 (fun q => bI_0.mp c19 q.2.1)) | exact T82 _ (bI_00 (fun q => bI_0.mp c35 q.2.2.1)) | exact T82 _ (bI_00 (fun q => bI_0.mp c50 q.2.2.2.1)) | exact T82 _ (bI_00 (fun q => bI_0.mp c62 q.2.2.2.2.1)) | exact T82 _ (bI_00 (fun q => bI_0.mp c74 q.2.2.2.2.2)) | exact T82 _ (bI_1 ⟨bI_0n.mp c8, bI_0n.mp c19, bI_0n.mp c35, bI_0n.mp c50, bI_0n.mp c62, bI_0n.mp c74⟩)
          · skip
            refine x_iload C dX7_meter_65 rfl ?_
            refine x_iconst (v := 0) C dX7_meter_67 (by decide) ?_
            refine x_sipush (v := 254) C dX7_meter_68 (by decide) ?_
            refine m_callSF C hW E (s_in _ _ _) md_X7_in wt_X7_in wm_X7_100 dX7_meter_71 rfl (by decide) (by decide) rfl (by simp [Value.category]) ?_
            refine x_if_eq (tgt := 81) C dX7_meter_74 (by decide) (fun c74 => ?_) (fun c74 => ?_)
            · skip
              refine x_iconst (v := 0) C dX7_meter_81 (by decide) ?_
              first | exact T82 _ (bI_00 (fun q => bI_0.mp c8 q.1)) | exact T82 _ (bI_00 (fun q => bI_0.mp c19 q.2.1)) | exact T82 _ (bI_00 (fun q => bI_0.mp c35 q.2.2.1)) | exact T82 _ (bI_00 (fun q => bI_0.mp c50 q.2.2.2.1)) | exact T82 _ (bI_00 (fun q => bI_0.mp c62 q.2.2.2.2.1)) | exact T82 _ (bI_00 (fun q => bI_0.mp c74 q.2.2.2.2.2)) | exact T82 _ (bI_1 ⟨bI_0n.mp c8, bI_0n.mp c19, bI_0n.mp c35, bI_0n.mp c50, bI_0n.mp c62, bI_0n.mp c74⟩)
            · skip
              refine x_iconst (v := 1) C dX7_meter_77 (by decide) ?_
              refine x_goto (tgt := 82) C dX7_meter_78 (by decide) ?_
              first | exact T82 _ (bI_00 (fun q => bI_0.mp c8 q.1)) | exact T82 _ (bI_00 (fun q => bI_0.mp c19 q.2.1)) | exact T82 _ (bI_00 (fun q => bI_0.mp c35 q.2.2.1)) | exact T82 _ (bI_00 (fun q => bI_0.mp c50 q.2.2.2.1)) | exact T82 _ (bI_00 (fun q => bI_0.mp c62 q.2.2.2.2.1)) | exact T82 _ (bI_00 (fun q => bI_0.mp c74 q.2.2.2.2.2)) | exact T82 _ (bI_1 ⟨bI_0n.mp c8, bI_0n.mp c19, bI_0n.mp c35, bI_0n.mp c50, bI_0n.mp c62, bI_0n.mp c74⟩)
theorem s_meter_x (hW : Wm w M) (k ad i mk v d : Int32) (hp : ¬ (((0 : Int32) ≤ k ∧ k ≤ 11) ∧ g_good S k ad i mk v d)) : TF w M yX7_meter cX7_meter 11 none 1 [.int k, .int ad, .int i, .int mk, .int v, .int d] S none (S.si 0 (if ¬ ((0 : Int32) ≤ k ∧ k ≤ 11) then 1 else 2)) := by
  refine TM.intro hW rfl (Nat.le_of_ble_eq_true rfl) (fun z C Y E hn => ?_)
  have hf := s_fails (S := S) hW ((0 : Int32) ≤ k ∧ k ≤ 11) (g_good S k ad i mk v d)
  rw [bI_t (p := ¬ (((0 : Int32) ≤ k ∧ k ≤ 11) ∧ g_good S k ad i mk v d)) hp] at hf
  have e2 : (if ¬ ((0 : Int32) ≤ k ∧ k ≤ 11) then (1 : Int32) else if ¬ g_good S k ad i mk v d then 2 else 0) = (if ¬ ((0 : Int32) ≤ k ∧ k ≤ 11) then 1 else 2) := by
    by_cases h1 : (0 : Int32) ≤ k ∧ k ≤ 11
    · rw [if_neg (not_not_intro h1), if_neg (not_not_intro h1), if_pos (fun q => hp ⟨h1, q⟩)]
    · rw [if_pos h1, if_pos h1]
  rw [e2] at hf
  refine mt_head hW C Y E hn k ad i mk v d (fun l8 l9 l10 => ?_)
  refine x_aload_n C dX7_meter_238 rfl ?_
  refine x_iload_n C dX7_meter_239 rfl ?_
  refine x_iconst (v := 0) C dX7_meter_240 (by decide) ?_
  refine x_bipush (v := 11) C dX7_meter_241 (by decide) ?_
  refine m_callSF C hW E (s_in _ _ _) md_X7_in wt_X7_in wm_X7_100 dX7_meter_243 rfl (by decide) (by decide) rfl (by simp [Value.category]) ?_
  refine x_iload C dX7_meter_246 rfl ?_
  refine m_callF C Y hW E (hf) rfl md_X7_fails wi_X7_fails ws_X7_fails wm_X7_107 dX7_meter_248 rfl (by decide) (by decide) rfl (by simp [Value.category]) ?_
  refine x_if_eq (tgt := 255) C dX7_meter_251 (by decide) (fun c251 => absurd c251 (by decide)) (fun c251 => ?_)
  refine m_vret C E dX7_meter_254 ?_
  exact ⟨rfl, rfl⟩
theorem s_meter_t (hW : Wm w M) (k : Nat) (hk : k < 12) (ad i mk v d : Int32) (hp : g_good S (nI k) ad i mk v d) : TF w M yX7_meter cX7_meter 11 none 1 [.int (nI k), .int ad, .int i, .int mk, .int v, .int d] S none (f_meter S k ad i mk v d) := by
  refine TM.intro hW rfl (Nat.le_of_ble_eq_true rfl) (fun z C Y E hn => ?_)
  have hk1 : (0 : Int32) ≤ nI k ∧ nI k ≤ 11 := ⟨nI_pos' (by omega), nI_le (show k ≤ 11 by omega) (by decide)⟩
  have hf := s_fails (S := S) hW ((0 : Int32) ≤ nI k ∧ nI k ≤ 11) (g_good S (nI k) ad i mk v d)
  rw [bI_f (p := ¬ (((0 : Int32) ≤ nI k ∧ nI k ≤ 11) ∧ g_good S (nI k) ad i mk v d)) (not_not_intro ⟨hk1, hp⟩), if_neg (not_not_intro hk1), if_neg (not_not_intro hp)] at hf
  refine mt_head hW C Y E hn (nI k) ad i mk v d (fun l8 l9 l10 => ?_)
  have L2 : ∀ (t b : Nat), b + t = 3 → X z 0 0 (MA M (f_mp (((((f_mb (((S.si 0 0).sa 10 k 1).sa 11 k ad) k i mk v d 8).sa 13 k 0).sa 15 k (-1)).sa 14 k (-1)).sa 16 k 0) k b)) 340 [some (.ref M.o), some (.int (nI k)), some (.int ad), some (.int i), some (.int mk), some (.int v), some (.int d), some (.int (bI (g_good S (nI k) ad i mk v d))), some (.int (nI b)), l9, l10] [] := by
    intro t
    induction t with
    | zero =>
      intro b hb
      obtain rfl : b = 3 := by omega
      refine x_iload C dX7_meter_340 rfl ?_
      refine x_iconst (v := 3) C dX7_meter_342 (by decide) ?_
      refine x_icmp_ge (tgt := 364) C dX7_meter_343 (by decide) (fun c343 => ?_) (fun c343 => absurd c343 (by decide))
      refine m_vret C E dX7_meter_364 ?_
      exact ⟨rfl, rfl⟩
    | succ t ih =>
      intro b hb
      have ih2 := ih (b + 1) (by omega)
      refine x_iload C dX7_meter_340 rfl ?_
      refine x_iconst (v := 3) C dX7_meter_342 (by decide) ?_
      refine x_icmp_ge (tgt := 364) C dX7_meter_343 (by decide) (fun c343 => absurd c343 (by rw [nI_lit]; exact nI_ge (show b < 3 by omega) (by decide))) (fun c343 => ?_)
      refine x_aload_n C dX7_meter_346 rfl ?_
      refine m_getA C Y 17 (by decide) (by decide) wf_X7_41 dX7_meter_347 ?_
      refine x_iconst (v := 3) C dX7_meter_350 (by decide) ?_
      refine x_iload_n C dX7_meter_351 rfl ?_
      refine x_imul C dX7_meter_352 ?_
      refine x_iload C dX7_meter_353 rfl ?_
      refine x_iadd C dX7_meter_355 ?_
      refine x_iconst (v := 0) C dX7_meter_356 (by decide) ?_
      refine m_istN C Y hW.2.1 17 (3 * k + b) (by decide) dX7_meter_357 (by simp only [nI_lit, nI_add, pk_mul]) (by simp only [m_len]; omega) ?_
      refine x_iincE (v := nI (b + 1)) (L' := [some _, some _, some _, some _, some _, some _, some _, some _, some _, _, _]) C dX7_meter_358 rfl (nI_1 b) (by rw [hn]; decide) rfl ?_
      refine x_goto (tgt := 340) C dX7_meter_361 (by decide) ?_
      exact ih2
  have L1 : ∀ (t b : Nat), b + t = 8 → X z 0 0 (MA M (f_mb (((S.si 0 0).sa 10 k 1).sa 11 k ad) k i mk v d b)) 272 [some (.ref M.o), some (.int (nI k)), some (.int ad), some (.int i), some (.int mk), some (.int v), some (.int d), some (.int (bI (g_good S (nI k) ad i mk v d))), some (.int (nI b)), l9, l10] [] := by
    intro t
    induction t with
    | zero =>
      intro b hb
      obtain rfl : b = 8 := by omega
      refine x_iload C dX7_meter_272 rfl ?_
      refine x_bipush (v := 8) C dX7_meter_274 (by decide) ?_
      refine x_icmp_ge (tgt := 309) C dX7_meter_276 (by decide) (fun c276 => ?_) (fun c276 => absurd c276 (by decide))
      refine x_aload_n C dX7_meter_309 rfl ?_
      refine m_getA C Y 13 (by decide) (by decide) wf_X7_29 dX7_meter_310 ?_
      refine x_iload_n C dX7_meter_313 rfl ?_
      refine x_iconst (v := 0) C dX7_meter_314 (by decide) ?_
      refine m_zstN C Y hW.2.1 13 (k) (by decide) rfl dX7_meter_315 (by simp only [nI_lit, nI_add, pk_mul]) (by simp only [m_len]; omega) ?_
      refine x_aload_n C dX7_meter_316 rfl ?_
      refine m_getA C Y 15 (by decide) (by decide) wf_X7_35 dX7_meter_317 ?_
      refine x_iload_n C dX7_meter_320 rfl ?_
      refine x_iconst (v := (-1)) C dX7_meter_321 (by decide) ?_
      refine m_istN C Y hW.2.1 15 (k) (by decide) dX7_meter_322 (by simp only [nI_lit, nI_add, pk_mul]) (by simp only [m_len]; omega) ?_
      refine x_aload_n C dX7_meter_323 rfl ?_
      refine m_getA C Y 14 (by decide) (by decide) wf_X7_32 dX7_meter_324 ?_
      refine x_iload_n C dX7_meter_327 rfl ?_
      refine x_iconst (v := (-1)) C dX7_meter_328 (by decide) ?_
      refine m_istN C Y hW.2.1 14 (k) (by decide) dX7_meter_329 (by simp only [nI_lit, nI_add, pk_mul]) (by simp only [m_len]; omega) ?_
      refine x_aload_n C dX7_meter_330 rfl ?_
      refine m_getA C Y 16 (by decide) (by decide) wf_X7_38 dX7_meter_331 ?_
      refine x_iload_n C dX7_meter_334 rfl ?_
      refine x_iconst (v := 0) C dX7_meter_335 (by decide) ?_
      refine m_istN C Y hW.2.1 16 (k) (by decide) dX7_meter_336 (by simp only [nI_lit, nI_add, pk_mul]) (by simp only [m_len]; omega) ?_
      refine x_iconst (v := 0) C dX7_meter_337 (by decide) ?_
      refine x_istoreE (L' := [some _, some _, some _, some _, some _, some _, some _, some _, some _, _, _]) C dX7_meter_338 (by rw [hn]; decide) rfl ?_
      exact L2 3 0 rfl
    | succ t ih =>
      intro b hb
      have ih2 := ih (b + 1) (by omega)
      refine x_iload C dX7_meter_272 rfl ?_
      refine x_bipush (v := 8) C dX7_meter_274 (by decide) ?_
      refine x_icmp_ge (tgt := 309) C dX7_meter_276 (by decide) (fun c276 => absurd c276 (by rw [nI_lit]; exact nI_ge (show b < 8 by omega) (by decide))) (fun c276 => ?_)
      refine x_aload_n C dX7_meter_279 rfl ?_
      refine m_getA C Y 12 (by decide) (by decide) wf_X7_26 dX7_meter_280 ?_
      refine x_bipush (v := 8) C dX7_meter_283 (by decide) ?_
      refine x_iload_n C dX7_meter_285 rfl ?_
      refine x_imul C dX7_meter_286 ?_
      refine x_iload C dX7_meter_287 rfl ?_
      refine x_iadd C dX7_meter_289 ?_
      refine x_iload C dX7_meter_290 rfl ?_
      refine x_iload_n C dX7_meter_292 rfl ?_
      refine x_iload C dX7_meter_293 rfl ?_
      refine x_iload C dX7_meter_295 rfl ?_
      refine x_iload C dX7_meter_297 rfl ?_
      refine m_callSF C hW E (s_byteOf b (by omega) _ _ _ _) md_X7_byteOf wt_X7_byteOf wm_X7_114 dX7_meter_299 rfl (by decide) (by decide) rfl (by simp [Value.category]) ?_
      refine m_istN C Y hW.2.1 12 (8 * k + b) (by decide) dX7_meter_302 (by simp only [nI_lit, nI_add, pk_mul]) (by simp only [m_len]; omega) ?_
      refine x_iincE (v := nI (b + 1)) (L' := [some _, some _, some _, some _, some _, some _, some _, some _, some _, _, _]) C dX7_meter_303 rfl (nI_1 b) (by rw [hn]; decide) rfl ?_
      refine x_goto (tgt := 272) C dX7_meter_306 (by decide) ?_
      exact ih2
  refine x_aload_n C dX7_meter_238 rfl ?_
  refine x_iload_n C dX7_meter_239 rfl ?_
  refine x_iconst (v := 0) C dX7_meter_240 (by decide) ?_
  refine x_bipush (v := 11) C dX7_meter_241 (by decide) ?_
  refine m_callSF C hW E (s_in _ _ _) md_X7_in wt_X7_in wm_X7_100 dX7_meter_243 rfl (by decide) (by decide) rfl (by simp [Value.category]) ?_
  refine x_iload C dX7_meter_246 rfl ?_
  refine m_callF C Y hW E (hf) rfl md_X7_fails wi_X7_fails ws_X7_fails wm_X7_107 dX7_meter_248 rfl (by decide) (by decide) rfl (by simp [Value.category]) ?_
  refine x_if_eq (tgt := 255) C dX7_meter_251 (by decide) (fun c251 => ?_) (fun c251 => absurd c251 (not_not_intro rfl))
  refine x_aload_n C dX7_meter_255 rfl ?_
  refine m_getA C Y 10 (by decide) (by decide) wf_X7_19 dX7_meter_256 ?_
  refine x_iload_n C dX7_meter_259 rfl ?_
  refine x_iconst (v := 1) C dX7_meter_260 (by decide) ?_
  refine m_zstN C Y hW.2.1 10 (k) (by decide) rfl dX7_meter_261 (by simp only [nI_lit, nI_add, pk_mul]) (by simp only [m_len]; omega) ?_
  refine x_aload_n C dX7_meter_262 rfl ?_
  refine m_getA C Y 11 (by decide) (by decide) wf_X7_23 dX7_meter_263 ?_
  refine x_iload_n C dX7_meter_266 rfl ?_
  refine x_iload_n C dX7_meter_267 rfl ?_
  refine m_istN C Y hW.2.1 11 (k) (by decide) dX7_meter_268 (by simp only [nI_lit, nI_add, pk_mul]) (by simp only [m_len]; omega) ?_
  refine x_iconst (v := 0) C dX7_meter_269 (by decide) ?_
  refine x_istoreE (L' := [some _, some _, some _, some _, some _, some _, some _, some _, some _, _, _]) C dX7_meter_270 (by rw [hn]; decide) rfl ?_
  exact L1 8 0 rfl
end MeterT
