/-! Decoder: a whole frame. -/
section Dec
variable {w : Wd} {c : Nat → ClassId} {h h0 : PH} {li ra de p b ba n : Nat} {W : Nat → Prop} {f : Nat → Int32}
theorem d_frame (hW : Wc w c) (R : RW c h0 b ba f n) (o1 : W b) (o2 : W ba) {a e : Int32} : T w gw yX1_frameIsWell cX1_frameIsWell 2 (some .boolean) 2 (40 * 2) 0 0 [.ref de] (DQ c li ra de h0 W b a e) (fun r g => (r = some (.int 1) ∧ 21 ≤ n ∧ n ≤ 258 ∧ DQ c li ra de h0 W b a (nI (n - 2)) g) ∨ (r = some (.int 0) ∧ ∃ a' e', DQ c li ra de h0 W b a' e' g)) := by
  refine TA.intro hW rfl (by decide +kernel) (Nat.le_of_ble_eq_true rfl) (fun z C Y E hn h D => ?_)
  obtain ⟨-, fa, pl, mo, B, hm1⟩ := id D
  have Rh := D.row R o1 o2
  have hw : ∀ (pc : Nat) (x q : Int32) (l1 : Option Value), decode cX1_frameIsWell pc = .ok (.invokevirtual 67, 3) → decode cX1_frameIsWell (pc + 3) = .ok (.ireturn, 1) → X z 0 0 (EQ h) pc [some (.ref de), l1] [.int q, .int x, .ref de] := fun pc x q l1 d1 d2 => by
    refine u_callV (st := []) C Y hW E.cs (d_wrong hW B x q) md_X1_wrong wi_X1_wrong ws_X1_wrong wm_X1_67 d1 rfl (by decide) (by decide) B rfl rfl (by decide) ?_
    exact x_zret C E d2 (by decide) (fun g e => by subst e; exact Or.inr ⟨rfl, _, _, D.set (fa := fa) (pl := pl) (mo := mo) a _ _ _ _ b hm1⟩)
  refine x_aload_n C dX1_frameIsWell_0 rfl ?_
  refine e_get C Y kd_X1 1 (by decide) wf_X1_28 dX1_frameIsWell_1 B rfl ?_
  refine x_iconst (v := 1) C dX1_frameIsWell_4 (by decide) ?_
  refine k_at (st := []) C Y hW E.cs (by decide) Rh _ dX1_frameIsWell_5 (by decide) ?_
  generalize hl1 : rAt f n 1 = l1
  refine o_istore_nE (L' := [some _, some _]) C dX1_frameIsWell_8 (by rw [hn]; decide) rfl ?_
  refine x_aload_n C dX1_frameIsWell_9 rfl ?_
  refine e_get C Y kd_X1 1 (by decide) wf_X1_28 dX1_frameIsWell_10 B rfl ?_
  refine x_iconst (v := 0) C dX1_frameIsWell_13 (by decide) ?_
  refine k_at (st := []) C Y hW E.cs (by decide) Rh _ dX1_frameIsWell_14 (by decide) ?_
  refine x_bipush (v := 104) C dX1_frameIsWell_17 (by decide) ?_
  refine x_icmp_eq (tgt := 29) C dX1_frameIsWell_19 (by decide) (fun _ => ?_) (fun _ => ?_)
  rotate_left
  · refine x_aload_n C dX1_frameIsWell_22 rfl ?_
    refine x_iconst (v := 1) C dX1_frameIsWell_23 (by decide) ?_
    refine x_iconst (v := 0) C dX1_frameIsWell_24 (by decide) ?_
    exact hw 25 _ _ _ dX1_frameIsWell_25 dX1_frameIsWell_28
  have T42 : X z 0 0 (EQ h) 42 [some (.ref de), some (.int l1)] [] := by
    refine x_aload_n C dX1_frameIsWell_42 rfl ?_
    refine x_iconst (v := 1) C dX1_frameIsWell_43 (by decide) ?_
    refine x_iconst (v := 1) C dX1_frameIsWell_44 (by decide) ?_
    exact hw 45 _ _ _ dX1_frameIsWell_45 dX1_frameIsWell_48
  refine x_iload_n C dX1_frameIsWell_29 rfl ?_
  refine x_bipush (v := 15) C dX1_frameIsWell_30 (by decide) ?_
  refine x_icmp_lt (tgt := 42) C dX1_frameIsWell_32 (by decide) (fun _ => T42) (fun q1 => ?_)
  refine x_iload_n C dX1_frameIsWell_35 rfl ?_
  refine x_sipush (v := 252) C dX1_frameIsWell_36 (by decide) ?_
  refine x_icmp_le (tgt := 49) C dX1_frameIsWell_39 (by decide) (fun q2 => ?_) (fun _ => T42)
  obtain ⟨l, hl, rfl⟩ := nI_of (x := l1) (fun g => q1 (Int32.lt_trans g (by decide)))
  have l15 : 15 ≤ l := Nat.le_of_not_lt (fun g => q1 (nI_lt g (by decide)))
  have l252 : l ≤ 252 := Nat.le_of_not_lt (fun g => absurd (nI_lt g hl) (Int32.not_lt.mpr q2))
  refine x_aload_n C dX1_frameIsWell_49 rfl ?_
  refine e_get C Y kd_X1 1 (by decide) wf_X1_28 dX1_frameIsWell_50 B rfl ?_
  refine x_iconst (v := 2) C dX1_frameIsWell_53 (by decide) ?_
  refine k_at (st := []) C Y hW E.cs (by decide) Rh _ dX1_frameIsWell_54 (by decide) ?_
  refine x_iload_n C dX1_frameIsWell_57 rfl ?_
  refine x_icmp_eq (tgt := 68) C dX1_frameIsWell_58 (by decide) (fun _ => ?_) (fun _ => ?_)
  rotate_left
  · refine x_aload_n C dX1_frameIsWell_61 rfl ?_
    refine x_iconst (v := 1) C dX1_frameIsWell_62 (by decide) ?_
    refine x_iconst (v := 2) C dX1_frameIsWell_63 (by decide) ?_
    exact hw 64 _ _ _ dX1_frameIsWell_64 dX1_frameIsWell_67
  refine x_aload_n C dX1_frameIsWell_68 rfl ?_
  refine e_get C Y kd_X1 1 (by decide) wf_X1_28 dX1_frameIsWell_69 B rfl ?_
  refine x_iconst (v := 3) C dX1_frameIsWell_72 (by decide) ?_
  refine k_at (st := []) C Y hW E.cs (by decide) Rh _ dX1_frameIsWell_73 (by decide) ?_
  refine x_bipush (v := 104) C dX1_frameIsWell_76 (by decide) ?_
  refine x_icmp_eq (tgt := 88) C dX1_frameIsWell_78 (by decide) (fun _ => ?_) (fun _ => ?_)
  rotate_left
  · refine x_aload_n C dX1_frameIsWell_81 rfl ?_
    refine x_iconst (v := 1) C dX1_frameIsWell_82 (by decide) ?_
    refine x_iconst (v := 3) C dX1_frameIsWell_83 (by decide) ?_
    exact hw 84 _ _ _ dX1_frameIsWell_84 dX1_frameIsWell_87
  refine x_aload_n C dX1_frameIsWell_88 rfl ?_
  refine e_get C Y kd_X1 1 (by decide) wf_X1_28 dX1_frameIsWell_89 B rfl ?_
  refine u_callV (st := []) C Y hW E.cs (r_size hW Rh) md_X5_size wi_X5_size ws_X5_size wm_X1_71 dX1_frameIsWell_92 rfl (by decide) (by decide) Rh.2.1 rfl rfl (by decide) ?_
  refine x_iload_n C dX1_frameIsWell_95 rfl ?_
  refine x_bipush (v := 6) C dX1_frameIsWell_96 (by decide) ?_
  refine x_iadd C dX1_frameIsWell_98 ?_
  refine x_icmp_eq (tgt := 122) C dX1_frameIsWell_99 (by decide) (fun q3 => ?_) (fun _ => ?_)
  rotate_left
  · refine x_aload_n C dX1_frameIsWell_102 rfl ?_
    refine x_iconst (v := 1) C dX1_frameIsWell_103 (by decide) ?_
    refine x_aload_n C dX1_frameIsWell_104 rfl ?_
    refine e_get C Y kd_X1 1 (by decide) wf_X1_28 dX1_frameIsWell_105 B rfl ?_
    refine u_callV (st := [.int 1, .ref de]) C Y hW E.cs (r_size hW Rh) md_X5_size wi_X5_size ws_X5_size wm_X1_71 dX1_frameIsWell_108 rfl (by decide) (by decide) Rh.2.1 rfl rfl (by simp [Value.category]) ?_
    refine x_iload_n C dX1_frameIsWell_111 rfl ?_
    refine x_bipush (v := 6) C dX1_frameIsWell_112 (by decide) ?_
    refine x_iadd C dX1_frameIsWell_114 ?_
    refine x_min C wm_X1_72 dX1_frameIsWell_115 (by rw [E.fr_]; decide) (by rw [E.lo_]; simp [Value.category]) ?_
    exact hw 118 _ _ _ dX1_frameIsWell_118 dX1_frameIsWell_121
  have en : n = l + 6 := by
    have hn3 := R.2.2.2
    rw [show nI l + 6 = nI (l + 6) from nI_add l 6] at q3
    exact (nI_eq (by omega) (by omega)).mp q3
  refine x_aload_n C dX1_frameIsWell_122 rfl ?_
  refine e_get C Y kd_X1 1 (by decide) wf_X1_28 dX1_frameIsWell_123 B rfl ?_
  refine x_iconst (v := 4) C dX1_frameIsWell_126 (by decide) ?_
  refine k_at (st := []) C Y hW E.cs (by decide) Rh _ dX1_frameIsWell_127 (by decide) ?_
  refine x_bipush (v := 8) C dX1_frameIsWell_130 (by decide) ?_
  refine x_icmp_eq (tgt := 142) C dX1_frameIsWell_132 (by decide) (fun _ => ?_) (fun _ => ?_)
  rotate_left
  · refine x_aload_n C dX1_frameIsWell_135 rfl ?_
    refine x_iconst (v := 1) C dX1_frameIsWell_136 (by decide) ?_
    refine x_iconst (v := 4) C dX1_frameIsWell_137 (by decide) ?_
    exact hw 138 _ _ _ dX1_frameIsWell_138 dX1_frameIsWell_141
  refine x_aload_n C dX1_frameIsWell_142 rfl ?_
  refine e_get C Y kd_X1 1 (by decide) wf_X1_28 dX1_frameIsWell_143 B rfl ?_
  refine x_bipush (v := 6) C dX1_frameIsWell_146 (by decide) ?_
  refine k_at (st := []) C Y hW E.cs (by decide) Rh _ dX1_frameIsWell_148 (by decide) ?_
  refine x_bipush (v := 114) C dX1_frameIsWell_151 (by decide) ?_
  refine x_icmp_eq (tgt := 164) C dX1_frameIsWell_153 (by decide) (fun _ => ?_) (fun _ => ?_)
  rotate_left
  · refine x_aload_n C dX1_frameIsWell_156 rfl ?_
    refine x_iconst (v := 1) C dX1_frameIsWell_157 (by decide) ?_
    refine x_bipush (v := 6) C dX1_frameIsWell_158 (by decide) ?_
    exact hw 160 _ _ _ dX1_frameIsWell_160 dX1_frameIsWell_163
  refine x_aload_n C dX1_frameIsWell_164 rfl ?_
  refine x_iload_n C dX1_frameIsWell_165 rfl ?_
  refine x_iconst (v := 4) C dX1_frameIsWell_166 (by decide) ?_
  refine x_iadd C dX1_frameIsWell_167 ?_
  rw [show nI l + 4 = nI (n - 2) from by rw [en]; exact nI_add l 4]
  refine e_put C Y kd_X1 3 (by decide) rfl wf_X1_15 dX1_frameIsWell_168 B (Nat.le_of_ble_eq_true rfl) rfl rfl rfl ?_
  have D2 := D.set (fa := fa) (pl := pl) (mo := mo) a (nI (n - 2)) fa pl mo b hm1
  have B2 : hs h de (.inr (1, [.ref li, .ref b, .int a, .int (nI (n - 2)), .int fa, .int pl, .int mo])) de = some (.inr (1, [.ref li, .ref b, .int a, .int (nI (n - 2)), .int fa, .int pl, .int mo])) := hs_self ..
  have R2 := D2.row R o1 o2
  change X z 0 0 (EQ (hs h de (.inr (1, [.ref li, .ref b, .int a, .int (nI (n - 2)), .int fa, .int pl, .int mo])))) _ _ _
  generalize hs h de (.inr (1, [.ref li, .ref b, .int a, .int (nI (n - 2)), .int fa, .int pl, .int mo])) = h2 at D2 B2 R2 ⊢
  have T203 : X z 0 0 (EQ h2) 203 [some (.ref de), some (.int (nI l))] [] := by
    refine x_iconst (v := 1) C dX1_frameIsWell_203 (by decide) ?_
    refine x_goto (tgt := 208) C dX1_frameIsWell_204 (by decide) ?_
    exact x_zret C E dX1_frameIsWell_208 (by decide) (fun g e => by subst e; exact Or.inl ⟨rfl, by omega, by omega, D2⟩)
  refine x_aload_n C dX1_frameIsWell_171 rfl ?_
  refine e_get C Y kd_X1 1 (by decide) wf_X1_28 dX1_frameIsWell_172 B2 rfl ?_
  refine x_aload_n C dX1_frameIsWell_175 rfl ?_
  refine e_get C Y kd_X1 3 (by decide) wf_X1_15 dX1_frameIsWell_176 B2 rfl ?_
  refine x_iconst (v := 1) C dX1_frameIsWell_179 (by decide) ?_
  refine x_iadd C dX1_frameIsWell_180 ?_
  refine k_at (st := []) C Y hW E.cs (by decide) R2 _ dX1_frameIsWell_181 (by decide) ?_
  refine x_bipush (v := 22) C dX1_frameIsWell_184 (by decide) ?_
  refine x_icmp_eq (tgt := 203) C dX1_frameIsWell_186 (by decide) (fun _ => T203) (fun _ => ?_)
  refine x_aload_n C dX1_frameIsWell_189 rfl ?_
  refine x_iconst (v := 1) C dX1_frameIsWell_190 (by decide) ?_
  refine x_aload_n C dX1_frameIsWell_191 rfl ?_
  refine e_get C Y kd_X1 3 (by decide) wf_X1_15 dX1_frameIsWell_192 B2 rfl ?_
  refine x_iconst (v := 1) C dX1_frameIsWell_195 (by decide) ?_
  refine x_iadd C dX1_frameIsWell_196 ?_
  refine u_callV (st := []) C Y hW E.cs (d_wrong hW B2 1 _) md_X1_wrong wi_X1_wrong ws_X1_wrong wm_X1_67 dX1_frameIsWell_197 rfl (by decide) (by decide) B2 rfl rfl (by decide) ?_
  refine x_if_eq (tgt := 207) C dX1_frameIsWell_200 (by decide) (fun _ => ?_) (fun q => absurd rfl q)
  refine x_iconst (v := 0) C dX1_frameIsWell_207 (by decide) ?_
  exact x_zret C E dX1_frameIsWell_208 (by decide) (fun g e => by subst e; exact Or.inr ⟨rfl, _, _, D2.set (fa := fa) (pl := pl) (mo := mo) a _ _ _ _ b hm1⟩)
theorem d_sum (hW : Wc w c) (R : RW c h0 b ba f n) (o1 : W b) (o2 : W ba) {a : Int32} {m : Nat} (hm : m ≤ 256) : T w gw yX1_sumIsWell cX1_sumIsWell 1 (some .boolean) 2 (40 * 2) 0 0 [.ref de] (DQ c li ra de h0 W b a (nI m)) (fun r g => (r = some (.int 1) ∨ r = some (.int 0)) ∧ DQ c li ra de h0 W b a (nI m) g) := by
  refine TA.intro hW rfl (by decide +kernel) (Nat.le_of_ble_eq_true rfl) (fun z C Y E hn h D => ?_)
  obtain ⟨-, fa, pl, mo, B, hm1⟩ := id D
  have Rh := D.row R o1 o2
  refine x_aload_n C dX1_sumIsWell_0 rfl ?_
  refine e_get C Y kd_X1 1 (by decide) wf_X1_28 dX1_sumIsWell_1 B rfl ?_
  refine x_aload_n C dX1_sumIsWell_4 rfl ?_
  refine e_get C Y kd_X1 3 (by decide) wf_X1_15 dX1_sumIsWell_5 B rfl ?_
  refine k_at (st := []) C Y hW E.cs (by decide) Rh _ dX1_sumIsWell_8 (by decide) ?_
  refine x_aload_n C dX1_sumIsWell_11 rfl ?_
  refine e_get C Y kd_X1 1 (by decide) wf_X1_28 dX1_sumIsWell_12 B rfl ?_
  refine x_iconst (v := 4) C dX1_sumIsWell_15 (by decide) ?_
  refine x_aload_n C dX1_sumIsWell_16 rfl ?_
  refine e_get C Y kd_X1 3 (by decide) wf_X1_15 dX1_sumIsWell_17 B rfl ?_
  refine u_callV (st := [_]) C Y hW E.cs (r_sum hW Rh 4 m (by decide) (by omega)) md_X5_sum wi_X5_sum ws_X5_sum wm_X1_78 dX1_sumIsWell_20 rfl (by decide) (by decide) Rh.2.1 rfl rfl (by simp [Value.category]) ?_
  refine x_icmp_eq (tgt := 38) C dX1_sumIsWell_23 (by decide) (fun _ => ?_) (fun _ => ?_)
  · refine x_iconst (v := 1) C dX1_sumIsWell_38 (by decide) ?_
    refine x_goto (tgt := 43) C dX1_sumIsWell_39 (by decide) ?_
    exact x_zret C E dX1_sumIsWell_43 (by decide) (fun g e => by subst e; exact ⟨Or.inl rfl, D⟩)
  · refine x_aload_n C dX1_sumIsWell_26 rfl ?_
    refine x_iconst (v := 2) C dX1_sumIsWell_27 (by decide) ?_
    refine x_aload_n C dX1_sumIsWell_28 rfl ?_
    refine e_get C Y kd_X1 3 (by decide) wf_X1_15 dX1_sumIsWell_29 B rfl ?_
    refine u_callV (st := []) C Y hW E.cs (d_wrong hW B 2 _) md_X1_wrong wi_X1_wrong ws_X1_wrong wm_X1_67 dX1_sumIsWell_32 rfl (by decide) (by decide) B rfl rfl (by decide) ?_
    refine x_if_eq (tgt := 42) C dX1_sumIsWell_35 (by decide) (fun _ => ?_) (fun q => absurd rfl q)
    refine x_iconst (v := 0) C dX1_sumIsWell_42 (by decide) ?_
    exact x_zret C E dX1_sumIsWell_43 (by decide) (fun g e => by subst e; exact ⟨Or.inr rfl, D.set (fa := fa) (pl := pl) (mo := mo) a _ _ _ _ b hm1⟩)
theorem d_ident (hX : Wx w c) (R : RW c h0 b ba f n) (o1 : W b) (o2 : W ba) {a e : Int32} : T w gw yX1_identIsWell cX1_identIsWell 2 (some .boolean) 2 (40 * 2) 0 0 [.ref de] (DQ c li ra de h0 W b a e) (fun r g => (r = some (.int 1) ∨ r = some (.int 0)) ∧ DQ c li ra de h0 W b a e g) := by
  have hW := hX.1
  refine TA.intro hW rfl (by decide +kernel) (Nat.le_of_ble_eq_true rfl) (fun z C Y E hn h D => ?_)
  obtain ⟨-, fa, pl, mo, B, hm1⟩ := id D
  have Rh := D.row R o1 o2
  have LP : ∀ (r k : Nat), k + r = 11 → X z 0 0 (EQ h) 3 [some (.ref de), some (.int (nI k))] [] := by
    intro r
    induction r with
    | zero =>
      intro k hk
      obtain rfl : k = 11 := by omega
      refine x_iload_n C dX1_identIsWell_3 rfl ?_
      refine x_bipush (v := 11) C dX1_identIsWell_4 (by decide) ?_
      refine x_icmp_ge (tgt := 36) C dX1_identIsWell_6 (by decide) (fun _ => ?_) (fun q => absurd (Int32.le_refl _) q)
      refine x_iconst (v := 1) C dX1_identIsWell_36 (by decide) ?_
      exact x_zret C E dX1_identIsWell_37 (by decide) (fun g e => by subst e; exact ⟨Or.inl rfl, D⟩)
    | succ r ih =>
      intro k hk
      refine x_iload_n C dX1_identIsWell_3 rfl ?_
      refine x_bipush (v := 11) C dX1_identIsWell_4 (by decide) ?_
      refine x_icmp_ge (tgt := 36) C dX1_identIsWell_6 (by decide) (fun q => absurd q (Int32.not_le.mpr (nI_lt (show k < 11 by omega) (by decide)))) (fun _ => ?_)
      refine x_aload_n C dX1_identIsWell_9 rfl ?_
      refine e_get C Y kd_X1 1 (by decide) wf_X1_28 dX1_identIsWell_10 B rfl ?_
      refine x_iload_n C dX1_identIsWell_13 rfl ?_
      refine k_at (st := []) C Y hW E.cs (by decide) Rh _ dX1_identIsWell_14 (by decide) ?_
      refine k_callSN (kc := 0) (ks := 0) (mc' := 0) (ms' := 0) (st := []) C E.cs hW.1 gw_good (m_areDigits hW _) md_X6_areDigits wt_X6_areDigits (E.cs.nest hX (q := (RX1, 81, yX6_areDigits)) (by simp [nst])) dX1_identIsWell_17 rfl (by decide) (by decide) rfl (by decide) (fun r => X.opn (fun g hg => ?_))
      obtain ⟨rfl, e⟩ := hg
      subst e
      refine x_if_ne (tgt := 30) C dX1_identIsWell_20 (by decide) (fun _ => ?_) (fun _ => ?_)
      · refine o_iincE (v := nI (k + 1)) (L' := [some _, some _]) C dX1_identIsWell_30 rfl (nI_1 k) (by rw [hn]; decide) rfl ?_
        refine x_goto (tgt := 3) C dX1_identIsWell_33 (by decide) ?_
        exact ih (k + 1) (by omega)
      · refine x_aload_n C dX1_identIsWell_23 rfl ?_
        refine x_iconst (v := 3) C dX1_identIsWell_24 (by decide) ?_
        refine x_iload_n C dX1_identIsWell_25 rfl ?_
        refine u_callV (st := []) C Y hW E.cs (d_wrong hW B 3 _) md_X1_wrong wi_X1_wrong ws_X1_wrong wm_X1_67 dX1_identIsWell_26 rfl (by decide) (by decide) B rfl rfl (by decide) ?_
        exact x_zret C E dX1_identIsWell_29 (by decide) (fun g e => by subst e; exact ⟨Or.inr rfl, D.set (fa := fa) (pl := pl) (mo := mo) a _ _ _ _ b hm1⟩)
  refine x_bipush (v := 7) C dX1_identIsWell_0 (by decide) ?_
  refine o_istore_nE (L' := [some _, some _]) C dX1_identIsWell_2 (by rw [hn]; decide) rfl ?_
  exact LP 4 7 rfl
end Dec
