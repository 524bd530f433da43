/-! Reading: its small methods, the heap told outright or nearly. -/
abbrev rdL (va : Int64) (co fu : Int32) (sg : Int64) (ta un : Int32) (v : Nat) (vn : Int32) (lt : Value) (ln : Int32) : List Value := [.long va, .int co, .int fu, .long sg, .int ta, .int un, .ref v, .int vn, lt, .int ln]
section Rd
variable {w : Wd} {c : Nat → ClassId} {h : PH} {p v : Nat} {va sg : Int64} {co fu ta un vn ln : Int32} {lt : Value}
theorem q_codeOf (hW : Wc w c) (B : h p = some (.inr (3, rdL va co fu sg ta un v vn lt ln))) : TC w yX3_codeOf cX3_codeOf 1 (some .int) 0 [.ref p] h (some (.int co)) h := by
  refine TC.intro hW rfl (by decide +kernel) (Nat.le_of_ble_eq_true rfl) (fun z C Y E hn => ?_)
  refine x_aload_n C dX3_codeOf_0 rfl ?_
  refine e_get C Y kd_X3 1 (by decide) wf_X3_15 dX3_codeOf_1 B rfl ?_
  refine e_iret C E dX3_codeOf_4 ?_ ?_
  all_goals rfl
theorem q_vifNumber (hW : Wc w c) (B : h p = some (.inr (3, rdL va co fu sg ta un v vn lt ln))) : TC w yX3_vifNumber cX3_vifNumber 1 (some .int) 0 [.ref p] h (some (.int vn)) h := by
  refine TC.intro hW rfl (by decide +kernel) (Nat.le_of_ble_eq_true rfl) (fun z C Y E hn => ?_)
  refine x_aload_n C dX3_vifNumber_0 rfl ?_
  refine e_get C Y kd_X3 7 (by decide) wf_X3_35 dX3_vifNumber_1 B rfl ?_
  refine e_iret C E dX3_vifNumber_4 ?_ ?_
  all_goals rfl
theorem q_textSize (hW : Wc w c) (B : h p = some (.inr (3, rdL va co fu sg ta un v vn lt ln))) : TC w yX3_textSize cX3_textSize 1 (some .int) 0 [.ref p] h (some (.int ln)) h := by
  refine TC.intro hW rfl (by decide +kernel) (Nat.le_of_ble_eq_true rfl) (fun z C Y E hn => ?_)
  refine x_aload_n C dX3_textSize_0 rfl ?_
  refine e_get C Y kd_X3 9 (by decide) wf_X3_41 dX3_textSize_1 B rfl ?_
  refine e_iret C E dX3_textSize_4 ?_ ?_
  all_goals rfl
theorem q_setValue (hW : Wc w c) (B : h p = some (.inr (3, rdL va co fu sg ta un v vn lt ln))) (x : Int64) : TC w yX3_setValue cX3_setValue 3 none 0 [.ref p, .long x] h none (hs h p (.inr (3, rdL x co fu sg ta un v vn lt ln))) := by
  refine TC.intro hW rfl (by decide +kernel) (Nat.le_of_ble_eq_true rfl) (fun z C Y E hn => ?_)
  refine x_aload_n C dX3_setValue_0 rfl ?_
  refine x_lload_n C dX3_setValue_1 rfl ?_
  refine e_put C Y kd_X3 0 (by decide) rfl wf_X3_9 dX3_setValue_2 B (Nat.le_of_ble_eq_true rfl) rfl rfl rfl ?_
  refine e_vret C E dX3_setValue_5 ?_ ?_
  all_goals rfl
theorem q_begin (hW : Wc w c) (B : h p = some (.inr (3, rdL va co fu sg ta un v vn lt ln))) (x : Int32) : TC w yX3_begin cX3_begin 2 none 0 [.ref p, .int x] h none (hs h p (.inr (3, rdL 0 (x &&& 15) ((x >>> ((4 : Int32) &&& 31)) &&& 3) ((x >>> ((6 : Int32) &&& 31)) &&& 1).toInt64 0 0 v 0 lt 0))) := by
  refine TC.intro hW rfl (by decide +kernel) (Nat.le_of_ble_eq_true rfl) (fun z C Y E hn => ?_)
  refine x_aload_n C dX3_begin_0 rfl ?_
  refine x_lconst (v := 0) C dX3_begin_1 (by decide) ?_
  refine e_put C Y kd_X3 0 (by decide) rfl wf_X3_9 dX3_begin_2 B (Nat.le_of_ble_eq_true rfl) rfl rfl rfl ?_
  refine x_aload_n C dX3_begin_5 rfl ?_
  refine x_iload_n C dX3_begin_6 rfl ?_
  refine x_bipush (v := 15) C dX3_begin_7 (by decide) ?_
  refine x_iand C dX3_begin_9 ?_
  refine e_put C Y kd_X3 1 (by decide) rfl wf_X3_15 dX3_begin_10 (hs_self ..) (Nat.le_of_ble_eq_true rfl) rfl rfl (hs_hs ..) ?_
  refine x_aload_n C dX3_begin_13 rfl ?_
  refine x_iload_n C dX3_begin_14 rfl ?_
  refine x_iconst (v := 4) C dX3_begin_15 (by decide) ?_
  refine x_ishr C dX3_begin_16 ?_
  refine x_iconst (v := 3) C dX3_begin_17 (by decide) ?_
  refine x_iand C dX3_begin_18 ?_
  refine e_put C Y kd_X3 2 (by decide) rfl wf_X3_19 dX3_begin_19 (hs_self ..) (Nat.le_of_ble_eq_true rfl) rfl rfl (hs_hs ..) ?_
  refine x_aload_n C dX3_begin_22 rfl ?_
  refine x_iload_n C dX3_begin_23 rfl ?_
  refine x_bipush (v := 6) C dX3_begin_24 (by decide) ?_
  refine x_ishr C dX3_begin_26 ?_
  refine x_iconst (v := 1) C dX3_begin_27 (by decide) ?_
  refine x_iand C dX3_begin_28 ?_
  refine x_i2l C dX3_begin_29 ?_
  refine e_put C Y kd_X3 3 (by decide) rfl wf_X3_22 dX3_begin_30 (hs_self ..) (Nat.le_of_ble_eq_true rfl) rfl rfl (hs_hs ..) ?_
  refine x_aload_n C dX3_begin_33 rfl ?_
  refine x_iconst (v := 0) C dX3_begin_34 (by decide) ?_
  refine e_put C Y kd_X3 4 (by decide) rfl wf_X3_25 dX3_begin_35 (hs_self ..) (Nat.le_of_ble_eq_true rfl) rfl rfl (hs_hs ..) ?_
  refine x_aload_n C dX3_begin_38 rfl ?_
  refine x_iconst (v := 0) C dX3_begin_39 (by decide) ?_
  refine e_put C Y kd_X3 5 (by decide) rfl wf_X3_28 dX3_begin_40 (hs_self ..) (Nat.le_of_ble_eq_true rfl) rfl rfl (hs_hs ..) ?_
  refine x_aload_n C dX3_begin_43 rfl ?_
  refine x_iconst (v := 0) C dX3_begin_44 (by decide) ?_
  refine e_put C Y kd_X3 7 (by decide) rfl wf_X3_35 dX3_begin_45 (hs_self ..) (Nat.le_of_ble_eq_true rfl) rfl rfl (hs_hs ..) ?_
  refine x_aload_n C dX3_begin_48 rfl ?_
  refine x_iconst (v := 0) C dX3_begin_49 (by decide) ?_
  refine e_put C Y kd_X3 9 (by decide) rfl wf_X3_41 dX3_begin_50 (hs_self ..) (Nat.le_of_ble_eq_true rfl) rfl rfl (hs_hs ..) ?_
  refine e_vret C E dX3_begin_53 ?_ ?_
  all_goals rfl
theorem q_addDife (hW : Wc w c) (B : h p = some (.inr (3, rdL va co fu sg ta un v vn lt ln))) (i x : Int32) : T w gw yX3_addDife cX3_addDife 3 none 0 (40 * 0) 0 0 [.ref p, .int i, .int x] (EQ h) (fun r g => r = none ∧ ∃ sg' ta' un', g = hs h p (.inr (3, rdL va co fu sg' ta' un' v vn lt ln))) := by
  refine TA.intro hW rfl (by decide +kernel) (Nat.le_of_ble_eq_true rfl) (fun z C Y E hn h1 hA => ?_)
  subst hA
  refine x_aload_n C dX3_addDife_0 rfl ?_
  refine x_dup C dX3_addDife_1 rfl ?_
  refine e_get C Y kd_X3 3 (by decide) wf_X3_22 dX3_addDife_2 B rfl ?_
  refine x_iload_n C dX3_addDife_5 rfl ?_
  refine x_bipush (v := 15) C dX3_addDife_6 (by decide) ?_
  refine x_iand C dX3_addDife_8 ?_
  refine x_i2l C dX3_addDife_9 ?_
  refine x_iconst (v := 1) C dX3_addDife_10 (by decide) ?_
  refine x_iconst (v := 4) C dX3_addDife_11 (by decide) ?_
  refine x_iload_n C dX3_addDife_12 rfl ?_
  refine x_imul C dX3_addDife_13 ?_
  refine x_iadd C dX3_addDife_14 ?_
  refine x_lshl C dX3_addDife_15 ?_
  refine x_lor C dX3_addDife_16 ?_
  refine e_put C Y kd_X3 3 (by decide) rfl wf_X3_22 dX3_addDife_17 B (Nat.le_of_ble_eq_true rfl) rfl rfl rfl ?_
  refine x_aload_n C dX3_addDife_20 rfl ?_
  refine x_dup C dX3_addDife_21 rfl ?_
  refine e_get C Y kd_X3 4 (by decide) wf_X3_25 dX3_addDife_22 (hs_self ..) rfl ?_
  refine x_iload_n C dX3_addDife_25 rfl ?_
  refine x_iconst (v := 4) C dX3_addDife_26 (by decide) ?_
  refine x_ishr C dX3_addDife_27 ?_
  refine x_iconst (v := 3) C dX3_addDife_28 (by decide) ?_
  refine x_iand C dX3_addDife_29 ?_
  refine x_iconst (v := 2) C dX3_addDife_30 (by decide) ?_
  refine x_iload_n C dX3_addDife_31 rfl ?_
  refine x_imul C dX3_addDife_32 ?_
  refine x_ishl C dX3_addDife_33 ?_
  refine x_ior C dX3_addDife_34 ?_
  refine e_put C Y kd_X3 4 (by decide) rfl wf_X3_25 dX3_addDife_35 (hs_self ..) (Nat.le_of_ble_eq_true rfl) rfl rfl (hs_hs ..) ?_
  refine x_aload_n C dX3_addDife_38 rfl ?_
  refine x_dup C dX3_addDife_39 rfl ?_
  refine e_get C Y kd_X3 5 (by decide) wf_X3_28 dX3_addDife_40 (hs_self ..) rfl ?_
  refine x_iload_n C dX3_addDife_43 rfl ?_
  refine x_bipush (v := 6) C dX3_addDife_44 (by decide) ?_
  refine x_ishr C dX3_addDife_46 ?_
  refine x_iconst (v := 1) C dX3_addDife_47 (by decide) ?_
  refine x_iand C dX3_addDife_48 ?_
  refine x_iload_n C dX3_addDife_49 rfl ?_
  refine x_ishl C dX3_addDife_50 ?_
  refine x_ior C dX3_addDife_51 ?_
  refine e_put C Y kd_X3 5 (by decide) rfl wf_X3_28 dX3_addDife_52 (hs_self ..) (Nat.le_of_ble_eq_true rfl) rfl rfl (hs_hs ..) ?_
  exact x_vret C E dX3_addDife_55 (fun g e => ⟨rfl, _, _, _, e⟩)
theorem q_addVif (hW : Wc w c) {k : Nat} (hk : k ≤ 11) (B : h p = some (.inr (3, rdL va co fu sg ta un v (nI k) lt ln))) {f : Nat → Int32} (V : h v = some (.inl (c 0, 11, .inl f))) (n0 : p ≠ v) (x : Int32) : T w gw yX3_addVif cX3_addVif 2 none 0 (40 * 0) 0 0 [.ref p, .int x] (EQ h) (fun r g => r = none ∧ ∃ f' k', k' ≤ 11 ∧ g = hs (hs h v (.inl (c 0, 11, .inl f'))) p (.inr (3, rdL va co fu sg ta un v (nI k') lt ln))) := by
  refine TA.intro hW rfl (by decide +kernel) (Nat.le_of_ble_eq_true rfl) (fun z C Y E hn h1 hA => ?_)
  subst hA
  obtain ⟨t, ht⟩ := Y.2.1
  refine x_aload_n C dX3_addVif_0 rfl ?_
  refine e_get C Y kd_X3 7 (by decide) wf_X3_35 dX3_addVif_1 B rfl ?_
  refine x_aload_n C dX3_addVif_4 rfl ?_
  refine e_get C Y kd_X3 6 (by decide) wf_X3_31 dX3_addVif_5 B rfl ?_
  refine x_alen C ht dX3_addVif_8 (v := 11) (fun q e => by rw [e]; exact V) rfl ?_
  refine x_icmp_ge (tgt := 32) C dX3_addVif_9 (by decide) (fun c9 => ?_) (fun c9 => ?_)
  · exact x_vret C E dX3_addVif_32 (fun g e => ⟨rfl, f, k, hk, by rw [hs_same V, hs_same B]; exact e⟩)
  · have k11 : k < 11 := (nI_ltI (by omega) (by decide)).mp (Int32.not_le.mp c9)
    have B2 : ∀ e, hs h1 v e p = some (.inr (3, rdL va co fu sg ta un v (nI k) lt ln)) := fun e => by rw [hs_ne n0]; exact B
    refine x_aload_n C dX3_addVif_12 rfl ?_
    refine e_get C Y kd_X3 6 (by decide) wf_X3_31 dX3_addVif_13 B rfl ?_
    refine x_aload_n C dX3_addVif_16 rfl ?_
    refine e_get C Y kd_X3 7 (by decide) wf_X3_35 dX3_addVif_17 B rfl ?_
    refine x_iload_n C dX3_addVif_20 rfl ?_
    refine e_ist C Y dX3_addVif_21 V (vp_in_nI k11 (by decide)) rfl ?_
    refine x_aload_n C dX3_addVif_22 rfl ?_
    refine x_dup C dX3_addVif_23 rfl ?_
    refine e_get C Y kd_X3 7 (by decide) wf_X3_35 dX3_addVif_24 (B2 _) rfl ?_
    refine x_iconst (v := 1) C dX3_addVif_27 (by decide) ?_
    refine x_iadd C dX3_addVif_28 ?_
    rw [nI_1]
    refine e_put C Y kd_X3 7 (by decide) rfl wf_X3_35 dX3_addVif_29 (B2 _) (Nat.le_of_ble_eq_true rfl) rfl rfl rfl ?_
    exact x_vret C E dX3_addVif_32 (fun g e => ⟨rfl, _, k + 1, by omega, e⟩)
theorem n_rd (hW : Wc w c) (B : h p = some (.inr (3, [.long 0, .int 0, .int 0, .long 0, .int 0, .int 0, .null, .int 0, .null, .int 0]))) : T w gw yX3_init cX3_init 1 none 1 (40 * 1) 1 11 [.ref p] (EQ h) (fun r g => r = none ∧ ∃ v, v ≠ p ∧ h v = none ∧ g = hs (hs h v (.inl (c 0, 11, .inl (fun _ => 0)))) p (.inr (3, rdL 0 0 0 0 0 0 v 0 .null 0))) := by
  refine TA.intro hW rfl (by decide +kernel) (Nat.le_of_ble_eq_true rfl) (fun z C Y E hn h1 hA => ?_)
  subst hA
  refine x_aload_n C dX3_init_0 rfl ?_
  refine x_objInit C wm_X3_3 dX3_init_1 (by rw [E.fr_]; decide) (by rw [E.lo_]; decide) ?_
  have s0 := hs_same B
  refine x_aload_n C dX3_init_4 rfl ?_
  refine x_lconst (v := 0) C dX3_init_5 (by decide) ?_
  refine e_put C Y kd_X3 0 (by decide) rfl wf_X3_9 dX3_init_6 B (Nat.le_of_ble_eq_true rfl) rfl rfl s0 ?_
  refine x_aload_n C dX3_init_9 rfl ?_
  refine x_iconst (v := 0) C dX3_init_10 (by decide) ?_
  refine e_put C Y kd_X3 1 (by decide) rfl wf_X3_15 dX3_init_11 B (Nat.le_of_ble_eq_true rfl) rfl rfl s0 ?_
  refine x_aload_n C dX3_init_14 rfl ?_
  refine x_iconst (v := 0) C dX3_init_15 (by decide) ?_
  refine e_put C Y kd_X3 2 (by decide) rfl wf_X3_19 dX3_init_16 B (Nat.le_of_ble_eq_true rfl) rfl rfl s0 ?_
  refine x_aload_n C dX3_init_19 rfl ?_
  refine x_lconst (v := 0) C dX3_init_20 (by decide) ?_
  refine e_put C Y kd_X3 3 (by decide) rfl wf_X3_22 dX3_init_21 B (Nat.le_of_ble_eq_true rfl) rfl rfl s0 ?_
  refine x_aload_n C dX3_init_24 rfl ?_
  refine x_iconst (v := 0) C dX3_init_25 (by decide) ?_
  refine e_put C Y kd_X3 4 (by decide) rfl wf_X3_25 dX3_init_26 B (Nat.le_of_ble_eq_true rfl) rfl rfl s0 ?_
  refine x_aload_n C dX3_init_29 rfl ?_
  refine x_iconst (v := 0) C dX3_init_30 (by decide) ?_
  refine e_put C Y kd_X3 5 (by decide) rfl wf_X3_28 dX3_init_31 B (Nat.le_of_ble_eq_true rfl) rfl rfl s0 ?_
  refine x_aload_n C dX3_init_34 rfl ?_
  refine x_bipush (v := 11) C dX3_init_35 (by decide) ?_
  skip
  refine e_newi (kc := 0) (ks := 0) (N := 11) C Y dX3_init_37 (by decide) (by decide) (by decide) (fun v hv => ?_)
  have n0 : v ≠ p := fun e => by rw [e, B] at hv; exact nomatch hv
  have B1 : hs h1 v (.inl (c 0, 11, .inl (fun _ => 0))) p = some (.inr (3, [.long 0, .int 0, .int 0, .long 0, .int 0, .int 0, .null, .int 0, .null, .int 0])) := by rw [hs_ne (Ne.symm n0)]; exact B
  refine e_putF C Y E.nm kd_X3 6 (by decide) rfl rfl wf_X3_31 dX3_init_39 B1 (Nat.le_of_ble_eq_true rfl) rfl rfl ?_
  refine x_aload_n C dX3_init_42 rfl ?_
  refine x_iconst (v := 0) C dX3_init_43 (by decide) ?_
  refine e_put C Y kd_X3 7 (by decide) rfl wf_X3_35 dX3_init_44 (hs_self ..) (Nat.le_of_ble_eq_true rfl) rfl rfl (hs_hs ..) ?_
  refine x_aload_n C dX3_init_47 rfl ?_
  refine x_null C dX3_init_48 ?_
  refine e_put C Y kd_X3 8 (by decide) rfl wf_X3_38 dX3_init_49 (hs_self ..) (Nat.le_of_ble_eq_true rfl) rfl rfl (hs_hs ..) ?_
  refine x_aload_n C dX3_init_52 rfl ?_
  refine x_iconst (v := 0) C dX3_init_53 (by decide) ?_
  refine e_put C Y kd_X3 9 (by decide) rfl wf_X3_41 dX3_init_54 (hs_self ..) (Nat.le_of_ble_eq_true rfl) rfl rfl (hs_hs ..) ?_
  exact x_vret C E dX3_init_57 (fun g e => ⟨rfl, v, n0, hv, e⟩)
end Rd
