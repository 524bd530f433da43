/-! Meter: asked; Bus: what is put on it. -/
section Met
variable {w : Wd} {c : Nat → ClassId} {u ma an aa n m : Nat} {h0 h : PH} {W : Nat → Prop} {α : Nat → Int64} {f : Nat → Option Nat} {κ : Nat → Nat}
theorem t_ask (hX : Wx w c) (hm : κ m = 1) (k a : Int32) (hk : k = 91 ∨ k = 123) : T w gw yX2_hearsShort cX2_hearsShort 5 (some .boolean) 4 (40 * 4) 0 0 [.ref m, .int k, .int a, .ref an] (BX c u ma an aa h0 W α f κ) (fun r g => r = some (.int 1) ∧ BX c u ma an aa h0 W α f κ g) := by
  have hW := hX.1
  refine TA.intro hW rfl (by decide +kernel) (Nat.le_of_ble_eq_true rfl) (fun z C Y E hn h D => ?_)
  obtain ⟨n, n90, D⟩ := D
  obtain ⟨pr, se, pt, bt, ac, pg, sz, B, k1, k2, k3⟩ := D.me hm
  obtain ⟨s, Bs⟩ := D.sz k2
  have T51 : X z 0 0 (EQ h) 51 [some (.ref m), some (.int k), some (.int a), some (.ref an), none] [] := by
    refine x_iload_n C dX2_hearsShort_51 rfl ?_
    refine x_iconst (v := 5) C dX2_hearsShort_52 (by decide) ?_
    refine x_ishr C dX2_hearsShort_53 ?_
    refine x_iconst (v := 1) C dX2_hearsShort_54 (by decide) ?_
    refine x_iand C dX2_hearsShort_55 ?_
    refine o_istoreE (L' := [some _, some _, some _, some _, some _]) C dX2_hearsShort_56 (by rw [hn]; decide) rfl ?_
    refine x_aload_n C dX2_hearsShort_58 rfl ?_
    refine x_aload_n C dX2_hearsShort_59 rfl ?_
    refine x_iload C dX2_hearsShort_60 rfl ?_
    refine u_callV (st := [.ref m]) C Y hW E.cs (t_pageToTell hW B Bs _) md_X2_pageToTell wi_X2_pageToTell ws_X2_pageToTell wm_X2_66 dX2_hearsShort_62 rfl (by decide) (by decide) B rfl rfl (by simp [Value.category]) ?_
    refine e_put C Y kd_X2 5 (by decide) rfl wf_X2_24 dX2_hearsShort_65 B (Nat.le_of_ble_eq_true rfl) rfl rfl rfl ?_
    refine x_aload_n C dX2_hearsShort_68 rfl ?_
    refine x_iload C dX2_hearsShort_69 rfl ?_
    refine e_put C Y kd_X2 6 (by decide) rfl wf_X2_28 dX2_hearsShort_71 (hs_self ..) (Nat.le_of_ble_eq_true rfl) rfl rfl (hs_hs ..) ?_
    refine x_aload_n C dX2_hearsShort_74 rfl ?_
    refine x_aload_n C dX2_hearsShort_75 rfl ?_
    refine k_callR (kc := 0) (ks := 0) (mc' := 0) (ms' := 0) (st := []) C Y hW E.cs (t_write hX hm) ⟨n, n90, D.putM hm pr se _ _ ac k1 k2 k3⟩ md_X2_writeAnswer wi_X2_writeAnswer ws_X2_writeAnswer wm_X2_69 dX2_hearsShort_76 rfl (by decide) (by decide) (hs_self ..) rfl rfl (by decide) (fun r g hg => ?_)
    obtain ⟨rfl, n2, n290, D2⟩ := hg
    obtain ⟨pr2, se2, pt2, bt2, ac2, pg2, sz2, B2, k12, k22, k32⟩ := D2.me hm
    refine x_aload_n C dX2_hearsShort_79 rfl ?_
    refine x_aload_n C dX2_hearsShort_80 rfl ?_
    refine e_get C Y kd_X2 7 (by decide) wf_X2_31 dX2_hearsShort_81 B2 rfl ?_
    refine x_iconst (v := 1) C dX2_hearsShort_84 (by decide) ?_
    refine x_iadd C dX2_hearsShort_85 ?_
    refine x_sipush (v := 255) C dX2_hearsShort_86 (by decide) ?_
    refine x_iand C dX2_hearsShort_89 ?_
    refine e_put C Y kd_X2 7 (by decide) rfl wf_X2_31 dX2_hearsShort_90 B2 (Nat.le_of_ble_eq_true rfl) rfl rfl rfl ?_
    refine x_iconst (v := 1) C dX2_hearsShort_93 (by decide) ?_
    exact x_zret C E dX2_hearsShort_94 (by decide) (fun q e => by subst e; exact ⟨rfl, n2, n290, D2.putM hm pr2 se2 pt2 bt2 _ k12 k22 k32⟩)
  refine x_iload_n C dX2_hearsShort_0 rfl ?_
  refine x_bipush (v := 64) C dX2_hearsShort_1 (by decide) ?_
  refine x_icmp_ne (tgt := 39) C dX2_hearsShort_3 (by decide) (fun _ => ?_) (fun q => by rcases hk with rfl | rfl <;> exact absurd q (by decide))
  refine x_iload_n C dX2_hearsShort_39 rfl ?_
  refine x_bipush (v := 91) C dX2_hearsShort_40 (by decide) ?_
  refine x_icmp_eq (tgt := 51) C dX2_hearsShort_42 (by decide) (fun _ => T51) (fun q => ?_)
  refine x_iload_n C dX2_hearsShort_45 rfl ?_
  refine x_bipush (v := 123) C dX2_hearsShort_46 (by decide) ?_
  exact x_icmp_ne (tgt := 95) C dX2_hearsShort_48 (by decide) (fun q2 => absurd (hk.resolve_left q) q2) (fun _ => T51)
section Rows
variable {z : Fx} {cc : ByteArray} {kc ks pc : Nat} {L : List (Option Value)} {st : List Value} {lvl : Nat}
theorem BX.row (D : BX c u ma an aa h0 W α f κ h) : ∃ n g, n ≤ 90 ∧ BN c u ma an aa h0 W α f κ n h ∧ RW c h an aa g n ∧ HB g n := by
  obtain ⟨n, n90, D⟩ := D
  obtain ⟨g, R, hb⟩ := D.2.2.2.1
  exact ⟨n, g, n90, D, R, hb⟩
theorem BN.single (D : BN c u ma an aa h0 W α f κ n h) (g : Nat → Int32) : BX c u ma an aa h0 W α f κ (rowh c h an aa (upd g 0 229) 1) := ⟨1, by decide, D.putA (by decide) (fun j hj => ⟨229, by decide, by
  obtain rfl : j = 0 := by omega
  simp [upd]
  rfl⟩)⟩
/-- meter.hearsShort -/
theorem k_short (hX : Wx w c) (C : Cx z RX0 cc gw) (Y : Cty z c) (E : Cs z w lvl (40 * lvl)) (hl : 4 < lvl) (hm : κ m = 1) (D : BX c u ma an aa h0 W α f κ h) (k a : Int32) (d : decode cc pc = .ok (.invokevirtual 61, 3)) (hcat : (st.map fun v => v.category).sum ≤ 8)
    (kk : ∀ (g : PH) (x : Int32), BX c u ma an aa h0 W α f κ g → X z kc ks (EQ g) (pc + 3) L (.int x :: st)) : X z kc ks (EQ h) pc L (.ref an :: .int a :: .int k :: .ref m :: st) := by
  have hW := hX.1
  obtain ⟨n, g, n90, Dn, R, hb⟩ := D.row
  obtain ⟨pr, se, pt, bt, ac, pg, sz, B, k1, k2, k3⟩ := Dn.me hm
  obtain ⟨a1, a2, -, -⟩ := Dn.apart (q := m) (by omega)
  by_cases e1 : k = 64
  · subst e1
    refine u_callV (st := st) C Y hW E (t_short_r hW B k3 R a1 a2 a) md_X2_hearsShort wi_X2_hearsShort ws_X2_hearsShort wm_X0_61 d rfl (by omega) (by decide) B rfl rfl hcat ?_
    exact kk _ _ ((Dn.putM hm pr _ (-1) (-1) ac k1 k2 (by split; exact Or.inl rfl; exact k3)).single g)
  · by_cases e2 : k = 91 ∨ k = 123
    · refine k_callR (kc := kc) (ks := ks) (mc' := 0) (ms' := 0) (st := st) C Y hW E (t_ask hX hm k a e2) D md_X2_hearsShort wi_X2_hearsShort ws_X2_hearsShort wm_X0_61 d rfl (by omega) (by omega) B rfl rfl hcat (fun r g hg => ?_)
      obtain ⟨rfl, Dg⟩ := hg
      exact kk _ _ Dg
    · refine u_callV (st := st) C Y hW E (t_short_n hW k a e1 (fun q => e2 (Or.inl q)) (fun q => e2 (Or.inr q)) m an) md_X2_hearsShort wi_X2_hearsShort ws_X2_hearsShort wm_X0_61 d rfl (by omega) (by decide) B rfl rfl hcat ?_
      exact kk _ _ D
/-- meter.hearsLong -/
theorem k_long (hX : Wx w c) (C : Cx z RX0 cc gw) (Y : Cty z c) (E : Cs z w lvl (40 * lvl)) (hl : 4 < lvl) (hm : κ m = 1) (D : BX c u ma an aa h0 W α f κ h) {b ba nb : Nat} {fb : Nat → Int32} (Rb : RW c h0 b ba fb nb) (o1 : W b) (o2 : W ba) (d : decode cc pc = .ok (.invokevirtual 85, 3)) (hcat : (st.map fun v => v.category).sum ≤ 8)
    (kk : ∀ (g : PH) (x : Int32), BX c u ma an aa h0 W α f κ g → X z kc ks (EQ g) (pc + 3) L (.int x :: st)) : X z kc ks (EQ h) pc L (.ref an :: .ref b :: .ref m :: st) := by
  have hW := hX.1
  obtain ⟨n, g, n90, Dn, R, hb⟩ := D.row
  obtain ⟨pr, se, pt, bt, ac, pg, sz, B, k1, k2, k3⟩ := Dn.me hm
  obtain ⟨a1, a2, -, -⟩ := Dn.apart (q := m) (by omega)
  have R1 := Dn.out Rb o1 o2
  by_cases gA : lgA fb nb
  · refine u_callV (st := st) C Y hW E (t_long_a hW B R a1 a2 R1 gA) md_X2_hearsLong wi_X2_hearsLong ws_X2_hearsLong wm_X0_85 d rfl (by omega) (by decide) B rfl rfl hcat ?_
    exact kk _ _ ((Dn.putM hm pr se (-1) (-1) ac k1 k2 k3).single g)
  · by_cases gB : lgB fb nb
    · refine u_callV (st := st) C Y hW E (t_long_b hW B R a1 a2 R1 gB) md_X2_hearsLong wi_X2_hearsLong ws_X2_hearsLong wm_X0_85 d rfl (by omega) (by decide) B rfl rfl hcat ?_
      exact kk _ _ ((Dn.putM hm _ se pt bt ac k1 k2 k3).single g)
    · refine u_callV (st := st) C Y hW E (t_long_c hW B R1 gA gB an) md_X2_hearsLong wi_X2_hearsLong ws_X2_hearsLong wm_X0_85 d rfl (by omega) (by decide) B rfl rfl hcat ?_
      exact kk _ _ D
/-- meter.looksAtMask -/
theorem k_looks (hX : Wx w c) (C : Cx z RX0 cc gw) (Y : Cty z c) (E : Cs z w lvl (40 * lvl)) (hl : 4 < lvl) (hm : κ m = 1) (D : BX c u ma an aa h0 W α f κ h) (mk cd : Int64) (d : decode cc pc = .ok (.invokevirtual 69, 3)) (hcat : (st.map fun v => v.category).sum ≤ 8)
    (kk : ∀ (g : PH) (x : Int32), BX c u ma an aa h0 W α f κ g → X z kc ks (EQ g) (pc + 3) L (.int x :: st)) : X z kc ks (EQ h) pc L (.ref an :: .long cd :: .long mk :: .ref m :: st) := by
  have hW := hX.1
  obtain ⟨n, g, n90, Dn, R, hb⟩ := D.row
  obtain ⟨pr, se, pt, bt, ac, pg, sz, B, k1, k2, k3⟩ := Dn.me hm
  obtain ⟨a1, a2, -, -⟩ := Dn.apart (q := m) (by omega)
  by_cases gA : (mk ^^^ α m) &&& cd = 0
  · refine u_callV (st := st) C Y hW E (t_looks_t hW B R a1 a2 mk cd gA) md_X2_looksAtMask wi_X2_looksAtMask ws_X2_looksAtMask wm_X0_69 d rfl (by omega) (by decide) B rfl rfl hcat ?_
    exact kk _ _ ((Dn.putM hm pr 1 pt bt ac k1 k2 (Or.inr rfl)).single g)
  · refine u_callV (st := st) C Y hW E (t_looks_f hW B an mk cd gA) md_X2_looksAtMask wi_X2_looksAtMask ws_X2_looksAtMask wm_X0_69 d rfl (by omega) (by decide) B rfl rfl hcat ?_
    exact kk _ _ ⟨n, n90, Dn.putM hm pr 0 pt bt ac k1 k2 (Or.inl rfl)⟩
/-- meter.isMeant -/
theorem k_meant (hX : Wx w c) (C : Cx z RX0 cc gw) (Y : Cty z c) (E : Cs z w lvl (40 * lvl)) (hl : 4 < lvl) (hm : κ m = 1) (D : BX c u ma an aa h0 W α f κ h) (a : Int32) (d : decode cc pc = .ok (.invokevirtual 57, 3)) (hcat : (st.map fun v => v.category).sum ≤ 8)
    (kk : ∀ x : Int32, X z kc ks (EQ h) (pc + 3) L (.int x :: st)) : X z kc ks (EQ h) pc L (.int a :: .ref m :: st) := by
  have hW := hX.1
  obtain ⟨n, n90, Dn⟩ := D
  obtain ⟨pr, se, pt, bt, ac, pg, sz, B, k1, k2, k3⟩ := Dn.me hm
  exact u_callV (st := st) C Y hW E (t_isMeant hW B k3 a) md_X2_isMeant wi_X2_isMeant ws_X2_isMeant wm_X0_57 d rfl (by omega) (by decide) B rfl rfl hcat (kk _)
/-- meters[k] -/
theorem k_meter (hX : Wx w c) (C : Cx z RX0 cc gw) (E : Cs z w lvl (40 * lvl)) (D : BX c u ma an aa h0 W α f κ h) {j : Nat} (hj : j < 12) (d : decode cc pc = .ok (.aaload, 1))
    (k0 : f j = none → X z kc ks (EQ h) (pc + 1) L (.null :: st)) (k1 : ∀ m, f j = some m → κ m = 1 → X z kc ks (EQ h) (pc + 1) L (.ref m :: st)) : X z kc ks (EQ h) pc L (.int (nI j) :: .ref ma :: st) := by
  obtain ⟨t, ht⟩ := hX.tM E
  obtain ⟨n, n90, Dn⟩ := D
  refine x_aald C ht d (fun q e => by rw [e]; exact Dn.2.1) (vp_in_nI hj (by decide)) ?_
  rw [nI_clamp (by omega)]
  cases e : f j with
  | none => exact k0 e
  | some m => exact k1 m e (Dn.2.2.1 j m e)
end Rows
end Met
section Bus
variable {w : Wd} {c : Nat → ClassId} {u ma an aa n m : Nat} {h0 h : PH} {W : Nat → Prop} {α : Nat → Int64} {f : Nat → Option Nat} {κ : Nat → Nat}
theorem BX.uc (D : BX c u ma an aa h0 W α f κ h) : ∃ fr co : Int32, h u = some (.inr (0, [.ref ma, .ref an, .int fr, .int co])) := by
  obtain ⟨n, n90, Dn⟩ := D
  exact Dn.1
theorem BX.putU (D : BX c u ma an aa h0 W α f κ h) (fr co : Int32) : BX c u ma an aa h0 W α f κ (hs h u (.inr (0, [.ref ma, .ref an, .int fr, .int co]))) := by
  obtain ⟨n, n90, Dn⟩ := D
  exact ⟨n, n90, Dn.putU fr co⟩
theorem u_outcome (hX : Wx w c) (x : Int32) : T w gw yX0_outcome cX0_outcome 2 (some .int) 1 (40 * 1) 0 0 [.ref u, .int x] (BX c u ma an aa h0 W α f κ) (fun r g => (∃ v, r = some (.int v)) ∧ BX c u ma an aa h0 W α f κ g) := by
  have hW := hX.1
  refine TA.intro hW rfl (by decide +kernel) (Nat.le_of_ble_eq_true rfl) (fun z C Y E hn h D => ?_)
  obtain ⟨fr, co, B⟩ := D.uc
  obtain ⟨n, g, n90, Dn, R, hb⟩ := D.row
  refine x_iload_n C dX0_outcome_0 rfl ?_
  refine x_iconst (v := 1) C dX0_outcome_1 (by decide) ?_
  refine x_icmp_ne (tgt := 13) C dX0_outcome_2 (by decide) (fun _ => ?_) (fun _ => ?_)
  · have e0 : rCut n 0 = 0 := by
      unfold rCut
      split
      · rfl
      · rename_i q
        exact Decidable.byContradiction fun q2 => q ⟨Int32.le_refl _, nI_lt (a := 0) (show 0 < n by omega) (by omega)⟩
    have rc := r_cutTo hW R 0
    rw [e0] at rc
    refine x_aload_n C dX0_outcome_13 rfl ?_
    refine e_get C Y kd_X0 1 (by decide) wf_X0_20 dX0_outcome_14 B rfl ?_
    refine x_iconst (v := 0) C dX0_outcome_17 (by decide) ?_
    refine u_callV (st := []) C Y hW E.cs rc md_X5_cutTo wi_X5_cutTo ws_X5_cutTo wm_X0_96 dX0_outcome_18 rfl (by decide) (by decide) R.2.1 rfl rfl (by decide) ?_
    have D0 : BX c u ma an aa h0 W α f κ (rowh c h an aa g 0) := ⟨0, by decide, Dn.putA (by decide) (fun j hj => absurd hj (Nat.not_lt_zero j))⟩
    generalize rowh c h an aa g 0 = h1 at D0 ⊢
    obtain ⟨fr1, co1, B1⟩ := D0.uc
    refine x_iload_n C dX0_outcome_21 rfl ?_
    refine x_if_ne (tgt := 27) C dX0_outcome_22 (by decide) (fun _ => ?_) (fun _ => ?_)
    · refine x_aload_n C dX0_outcome_27 rfl ?_
      refine x_dup C dX0_outcome_28 rfl ?_
      refine e_get C Y kd_X0 3 (by decide) wf_X0_28 dX0_outcome_29 B1 rfl ?_
      refine x_iconst (v := 1) C dX0_outcome_32 (by decide) ?_
      refine x_iadd C dX0_outcome_33 ?_
      refine e_put C Y kd_X0 3 (by decide) rfl wf_X0_28 dX0_outcome_34 B1 (Nat.le_of_ble_eq_true rfl) rfl rfl rfl ?_
      refine x_bipush (v := -2) C dX0_outcome_37 (by decide) ?_
      exact x_iret C E dX0_outcome_39 (fun q e => by subst e; exact ⟨⟨_, rfl⟩, D0.putU _ _⟩)
    · refine x_iconst (v := 0) C dX0_outcome_25 (by decide) ?_
      exact x_iret C E dX0_outcome_26 (fun q e => by subst e; exact ⟨⟨_, rfl⟩, D0⟩)
  · refine x_aload_n C dX0_outcome_5 rfl ?_
    refine e_get C Y kd_X0 1 (by decide) wf_X0_20 dX0_outcome_6 B rfl ?_
    refine u_callV (st := []) C Y hW E.cs (r_size hW R) md_X5_size wi_X5_size ws_X5_size wm_X0_93 dX0_outcome_9 rfl (by decide) (by decide) R.2.1 rfl rfl (by decide) ?_
    exact x_iret C E dX0_outcome_12 (fun q e => by subst e; exact ⟨⟨_, rfl⟩, D⟩)
theorem u_putShort (hX : Wx w c) (k a : Int32) : T w gw yX0_putShort cX0_putShort 6 (some .int) 5 (40 * 5) 0 0 [.ref u, .int k, .int a] (BX c u ma an aa h0 W α f κ) (fun r g => (∃ v, r = some (.int v)) ∧ BX c u ma an aa h0 W α f κ g) := by
  have hW := hX.1
  refine TA.intro hW rfl (by decide +kernel) (Nat.le_of_ble_eq_true rfl) (fun z C Y E hn h D => ?_)
  obtain ⟨fr, co, B⟩ := D.uc
  refine x_aload_n C dX0_putShort_0 rfl ?_
  refine x_dup C dX0_putShort_1 rfl ?_
  refine e_get C Y kd_X0 2 (by decide) wf_X0_24 dX0_putShort_2 B rfl ?_
  refine x_iconst (v := 1) C dX0_putShort_5 (by decide) ?_
  refine x_iadd C dX0_putShort_6 ?_
  refine e_put C Y kd_X0 2 (by decide) rfl wf_X0_24 dX0_putShort_7 B (Nat.le_of_ble_eq_true rfl) rfl rfl rfl ?_
  have LP : ∀ (r j : Nat) (x : Int32) (l5 : Option Value) (h : PH), j + r = 12 → BX c u ma an aa h0 W α f κ h → X z 0 0 (EQ h) 15 [some (.ref u), some (.int k), some (.int a), some (.int x), some (.int (nI j)), l5] [] := by
    intro r
    induction r with
    | zero =>
      intro j x l5 h hj D
      obtain rfl : j = 12 := by omega
      obtain ⟨fr, co, B⟩ := D.uc
      have T81 : ∀ y : Int32, X z 0 0 (EQ h) 81 [some (.ref u), some (.int k), some (.int a), some (.int x), some (.int (nI 12)), l5] [.int y, .ref u] := fun y => by
        refine k_callR (kc := 0) (ks := 0) (mc' := 0) (ms' := 0) (st := []) C Y hW E.cs (u_outcome hX y) D md_X0_outcome wi_X0_outcome ws_X0_outcome wm_X0_54 dX0_putShort_81 rfl (by decide) (by decide) B rfl rfl (by decide) (fun r g hg => ?_)
        obtain ⟨⟨v, rfl⟩, Dg⟩ := hg
        exact x_iret C E dX0_putShort_84 (fun q e => by subst e; exact ⟨⟨_, rfl⟩, Dg⟩)
      refine x_iload C dX0_putShort_15 rfl ?_
      refine x_bipush (v := 12) C dX0_putShort_17 (by decide) ?_
      refine x_icmp_ge (tgt := 68) C dX0_putShort_19 (by decide) (fun _ => ?_) (fun q => absurd (Int32.le_refl _) q)
      refine x_aload_n C dX0_putShort_68 rfl ?_
      refine x_iload_n C dX0_putShort_69 rfl ?_
      refine x_sipush (v := 255) C dX0_putShort_70 (by decide) ?_
      refine x_icmp_ne (tgt := 80) C dX0_putShort_73 (by decide) (fun _ => ?_) (fun _ => ?_)
      · exact x_iload_n C dX0_putShort_80 rfl (T81 _)
      · refine x_iconst (v := 0) C dX0_putShort_76 (by decide) ?_
        exact x_goto (tgt := 81) C dX0_putShort_77 (by decide) (T81 _)
    | succ r ih =>
      intro j x l5 h hj D
      obtain ⟨fr, co, B⟩ := D.uc
      have T62 : ∀ (x : Int32) (l5 : Option Value) (h : PH), BX c u ma an aa h0 W α f κ h → X z 0 0 (EQ h) 62 [some (.ref u), some (.int k), some (.int a), some (.int x), some (.int (nI j)), l5] [] := fun x l5 h D => by
        refine o_iincE (v := nI (j + 1)) (L' := [some _, some _, some _, some _, some _, l5]) C dX0_putShort_62 rfl (nI_1 j) (by rw [hn]; decide) rfl ?_
        refine x_goto (tgt := 15) C dX0_putShort_65 (by decide) ?_
        exact ih (j + 1) x l5 h (by omega) D
      refine x_iload C dX0_putShort_15 rfl ?_
      refine x_bipush (v := 12) C dX0_putShort_17 (by decide) ?_
      refine x_icmp_ge (tgt := 68) C dX0_putShort_19 (by decide) (fun q => absurd q (Int32.not_le.mpr (nI_lt (show j < 12 by omega) (by decide)))) (fun _ => ?_)
      refine x_aload_n C dX0_putShort_22 rfl ?_
      refine e_get C Y kd_X0 0 (by decide) wf_X0_11 dX0_putShort_23 B rfl ?_
      refine x_iload C dX0_putShort_26 rfl ?_
      refine k_meter hX C E.cs D (show j < 12 by omega) dX0_putShort_28 (fun _ => ?_) (fun m em hm => ?_)
      · refine o_astoreN (L' := [some _, some _, some _, some _, some _, some _]) C dX0_putShort_29 (by rw [hn]; decide) rfl ?_
        refine x_aloadN C dX0_putShort_31 rfl ?_
        exact x_ifnullN (tgt := 62) C dX0_putShort_33 (by decide) (T62 _ _ _ D)
      · refine o_astoreE (L' := [some _, some _, some _, some _, some _, some _]) C dX0_putShort_29 (by rw [hn]; decide) rfl ?_
        refine x_aload C dX0_putShort_31 rfl ?_
        refine x_ifnull C dX0_putShort_33 ?_
        refine x_aload C dX0_putShort_36 rfl ?_
        refine x_iload_n C dX0_putShort_38 rfl ?_
        refine k_meant (st := []) hX C Y E.cs (by decide) hm D a dX0_putShort_39 (by decide) (fun y => ?_)
        refine x_if_eq (tgt := 62) C dX0_putShort_42 (by decide) (fun _ => T62 _ _ _ D) (fun _ => ?_)
        refine x_aload C dX0_putShort_45 rfl ?_
        refine x_iload_n C dX0_putShort_47 rfl ?_
        refine x_iload_n C dX0_putShort_48 rfl ?_
        refine x_aload_n C dX0_putShort_49 rfl ?_
        refine e_get C Y kd_X0 1 (by decide) wf_X0_20 dX0_putShort_50 B rfl ?_
        refine k_short (st := []) hX C Y E.cs (by decide) hm D k a dX0_putShort_53 (by decide) (fun g y2 Dg => ?_)
        refine x_if_eq (tgt := 62) C dX0_putShort_56 (by decide) (fun _ => T62 _ _ _ Dg) (fun _ => ?_)
        refine o_iincE (L' := [some _, some _, some _, some _, some _, some _]) C dX0_putShort_59 rfl rfl (by rw [hn]; decide) rfl ?_
        exact T62 _ _ _ Dg
  refine x_iconst (v := 0) C dX0_putShort_10 (by decide) ?_
  refine o_istore_nE (L' := [some _, some _, some _, some _, none, none]) C dX0_putShort_11 (by rw [hn]; decide) rfl ?_
  refine x_iconst (v := 0) C dX0_putShort_12 (by decide) ?_
  refine o_istoreE (L' := [some _, some _, some _, some _, some _, none]) C dX0_putShort_13 (by rw [hn]; decide) rfl ?_
  exact LP 12 0 _ _ _ rfl (D.putU _ _)
end Bus
