/-! Bus: a mask, or nothing sound, where there is no meter; an empty list; a decoder over an empty row. -/
section Bus
variable {w : Wd} {c : Nat → ClassId} {h : PH} {u m an : Nat} {fr co : Int32}
theorem b_caredBits (hW : Wc w c) (k : Int64) : T w gw yX0_caredBits cX0_caredBits 5 (some .long) 0 0 0 0 [.long k] (EQ h) (fun r g => (∃ v, r = some (.long v)) ∧ g = h) := by
  refine T.intro (by decide +kernel) (Nat.le_of_ble_eq_true rfl) (fun z C E hn e2 e3 => ?_)
  rw [e2, e3] at *
  have L2 : ∀ (t j : Nat) (v : Int64), j + t = 4 → X z 0 0 (EQ h) 46 [some (.long k), none, some (.long v), none, some (.int (nI (32 + 8 * j)))] [] := by
    intro t
    induction t with
    | zero =>
      intro j v hj
      obtain rfl : j = 4 := by omega
      refine x_iload C dX0_caredBits_46 rfl ?_
      refine x_bipush (v := 64) C dX0_caredBits_48 (by decide) ?_
      refine x_icmp_ge (tgt := 83) C dX0_caredBits_50 (by decide) (fun c50 => ?_) (fun c50 => absurd c50 (not_not_intro (Int32.le_refl _)))
      refine x_lload_n C dX0_caredBits_83 rfl ?_
      refine x_lret C E dX0_caredBits_84 (fun h g => ⟨?_, g⟩)
      exact ⟨_, rfl⟩
    | succ t ih =>
      intro j v hj
      refine x_iload C dX0_caredBits_46 rfl ?_
      refine x_bipush (v := 64) C dX0_caredBits_48 (by decide) ?_
      refine x_icmp_ge (tgt := 83) C dX0_caredBits_50 (by decide) (fun c50 => absurd c50 (Int32.not_le.mpr (nI_lt (show 32 + 8 * j < 64 by omega) (by decide)))) (fun c50 => ?_)
      refine x_lload_n C dX0_caredBits_53 rfl ?_
      refine x_iload C dX0_caredBits_54 rfl ?_
      refine x_lushr C dX0_caredBits_56 ?_
      refine x_ldc2 C wk_X0_91 dX0_caredBits_57 ?_
      refine x_land C dX0_caredBits_60 ?_
      refine x_ldc2 C wk_X0_91 dX0_caredBits_61 ?_
      refine x_lcmp C dX0_caredBits_64 ?_
      refine x_if_eq (tgt := 77) C dX0_caredBits_65 (by decide) (fun c65 => ?_) (fun c65 => ?_)
      · skip
        refine o_iincE (v := nI (32 + 8 * (j + 1))) (L' := [some _, none, some _, none, some _]) C dX0_caredBits_77 rfl (by rw [show (Int32.ofInt 8) = nI 8 from rfl, nI_add]; exact congrArg nI (by omega)) (by rw [hn]; decide) rfl ?_
        refine x_goto (tgt := 46) C dX0_caredBits_80 (by decide) ?_
        exact ih (j + 1) _ (by omega)
      · skip
        refine x_lload_n C dX0_caredBits_68 rfl ?_
        refine x_ldc2 C wk_X0_91 dX0_caredBits_69 ?_
        refine x_iload C dX0_caredBits_72 rfl ?_
        refine x_lshl C dX0_caredBits_74 ?_
        refine x_lor C dX0_caredBits_75 ?_
        refine o_lstore_nE (L' := [some _, none, some _, none, some _]) C dX0_caredBits_76 (by rw [hn]; decide) rfl ?_
        refine o_iincE (v := nI (32 + 8 * (j + 1))) (L' := [some _, none, some _, none, some _]) C dX0_caredBits_77 rfl (by rw [show (Int32.ofInt 8) = nI 8 from rfl, nI_add]; exact congrArg nI (by omega)) (by rw [hn]; decide) rfl ?_
        refine x_goto (tgt := 46) C dX0_caredBits_80 (by decide) ?_
        exact ih (j + 1) _ (by omega)
  have L1 : ∀ (t j : Nat) (v : Int64), j + t = 8 → X z 0 0 (EQ h) 5 [some (.long k), none, some (.long v), none, some (.int (nI (4 * j)))] [] := by
    intro t
    induction t with
    | zero =>
      intro j v hj
      obtain rfl : j = 8 := by omega
      refine x_iload C dX0_caredBits_5 rfl ?_
      refine x_bipush (v := 32) C dX0_caredBits_7 (by decide) ?_
      refine x_icmp_ge (tgt := 42) C dX0_caredBits_9 (by decide) (fun c9 => ?_) (fun c9 => absurd c9 (not_not_intro (Int32.le_refl _)))
      refine x_bipush (v := 32) C dX0_caredBits_42 (by decide) ?_
      refine o_istoreE (L' := [some _, none, some _, none, some _]) C dX0_caredBits_44 (by rw [hn]; decide) rfl ?_
      exact L2 4 0 _ rfl
    | succ t ih =>
      intro j v hj
      refine x_iload C dX0_caredBits_5 rfl ?_
      refine x_bipush (v := 32) C dX0_caredBits_7 (by decide) ?_
      refine x_icmp_ge (tgt := 42) C dX0_caredBits_9 (by decide) (fun c9 => absurd c9 (Int32.not_le.mpr (nI_lt (show 4 * j < 32 by omega) (by decide)))) (fun c9 => ?_)
      refine x_lload_n C dX0_caredBits_12 rfl ?_
      refine x_iload C dX0_caredBits_13 rfl ?_
      refine x_lushr C dX0_caredBits_15 ?_
      refine x_ldc2 C wk_X0_89 dX0_caredBits_16 ?_
      refine x_land C dX0_caredBits_19 ?_
      refine x_ldc2 C wk_X0_89 dX0_caredBits_20 ?_
      refine x_lcmp C dX0_caredBits_23 ?_
      refine x_if_eq (tgt := 36) C dX0_caredBits_24 (by decide) (fun c24 => ?_) (fun c24 => ?_)
      · skip
        refine o_iincE (v := nI (4 * (j + 1))) (L' := [some _, none, some _, none, some _]) C dX0_caredBits_36 rfl (by rw [show (Int32.ofInt 4) = nI 4 from rfl, nI_add]; exact congrArg nI (by omega)) (by rw [hn]; decide) rfl ?_
        refine x_goto (tgt := 5) C dX0_caredBits_39 (by decide) ?_
        exact ih (j + 1) _ (by omega)
      · skip
        refine x_lload_n C dX0_caredBits_27 rfl ?_
        refine x_ldc2 C wk_X0_89 dX0_caredBits_28 ?_
        refine x_iload C dX0_caredBits_31 rfl ?_
        refine x_lshl C dX0_caredBits_33 ?_
        refine x_lor C dX0_caredBits_34 ?_
        refine o_lstore_nE (L' := [some _, none, some _, none, some _]) C dX0_caredBits_35 (by rw [hn]; decide) rfl ?_
        refine o_iincE (v := nI (4 * (j + 1))) (L' := [some _, none, some _, none, some _]) C dX0_caredBits_36 rfl (by rw [show (Int32.ofInt 4) = nI 4 from rfl, nI_add]; exact congrArg nI (by omega)) (by rw [hn]; decide) rfl ?_
        refine x_goto (tgt := 5) C dX0_caredBits_39 (by decide) ?_
        exact ih (j + 1) _ (by omega)
  refine x_lconst (v := 0) C dX0_caredBits_0 (by decide) ?_
  refine o_lstore_nE (L' := [some _, none, some _, none, none]) C dX0_caredBits_1 (by rw [hn]; decide) rfl ?_
  refine x_iconst (v := 0) C dX0_caredBits_2 (by decide) ?_
  refine o_istoreE (L' := [some _, none, some _, none, some _]) C dX0_caredBits_3 (by rw [hn]; decide) rfl ?_
  exact L1 8 0 _ rfl
theorem b_putSelect (hX : Wx w c) (B : BE c h u m an fr co) {ab : Nat} {f : Nat → Int32} (R : RW c h an ab f 0) (a1 : u ≠ an) (a2 : u ≠ ab) (a3 : u ≠ m) (k : Int64) : TC w yX0_putSelect cX0_putSelect 8 (some .int) 2 [.ref u, .long k] h (some (.int 0)) (hs h u (.inr (0, [.ref m, .ref an, .int (fr + 1), .int co]))) := by
  have hW := hX.1
  refine TC.intro hX.1 rfl (by decide +kernel) (Nat.le_of_ble_eq_true rfl) (fun z C Y E hn => ?_)
  obtain ⟨t, ht⟩ := hX.tM E.cs
  have B1 : BE c (hs h u (.inr (0, [.ref m, .ref an, .int (fr + 1), .int co]))) u m an (fr + 1) co := ⟨hs_self .., by rw [hs_ne (Ne.symm a3)]; exact B.2⟩
  have R1 : RW c (hs h u (.inr (0, [.ref m, .ref an, .int (fr + 1), .int co]))) an ab f 0 := ⟨R.1, by rw [hs_ne (Ne.symm a1)]; exact R.2.1, by rw [hs_ne (Ne.symm a2)]; exact R.2.2.1, R.2.2.2⟩
  generalize hh : hs h u (.inr (0, [.ref m, .ref an, .int (fr + 1), .int co])) = h1 at B1 R1 E
  have LP : ∀ (t k9 : Nat) (v : Int64) (x : Option Value), k9 + t = 12 → X z 0 0 (EQ h1) 21 [some (.ref u), some (.long k), none, some (.long v), none, some (.int 0), some (.int (nI k9)), x] [] := by
    intro t
    induction t with
    | zero =>
      intro k9 v x hk
      obtain rfl : k9 = 12 := by omega
      refine x_iload C dX0_putSelect_21 rfl ?_
      refine x_bipush (v := 12) C dX0_putSelect_23 (by decide) ?_
      refine x_icmp_ge (tgt := 65) C dX0_putSelect_25 (by decide) (fun c25 => ?_) (fun c25 => absurd c25 (not_not_intro (Int32.le_refl _)))
      refine x_aload_n C dX0_putSelect_65 rfl ?_
      refine x_iload C dX0_putSelect_66 rfl ?_
      refine e_callV C Y hW E (b_outcome0 hX B1 R1) md_X0_outcome wi_X0_outcome ws_X0_outcome wm_X0_54 dX0_putSelect_68 rfl (by decide) (by decide) B1.1 rfl rfl (by simp [Value.category]) ?_
      refine e_iret C E dX0_putSelect_71 ?_ ?_
      all_goals rfl
    | succ t ih =>
      intro k9 v x hk
      refine x_iload C dX0_putSelect_21 rfl ?_
      refine x_bipush (v := 12) C dX0_putSelect_23 (by decide) ?_
      refine x_icmp_ge (tgt := 65) C dX0_putSelect_25 (by decide) (fun c25 => absurd c25 (Int32.not_le.mpr (nI_lt (show k9 < 12 by omega) (by decide)))) (fun c25 => ?_)
      refine x_aload_n C dX0_putSelect_28 rfl ?_
      refine e_get C Y kd_X0 0 (by decide) wf_X0_11 dX0_putSelect_29 B1.1 rfl ?_
      refine x_iload C dX0_putSelect_32 rfl ?_
      refine e_aldN C ht dX0_putSelect_34 B1.2 rfl (show k9 < 12 by omega) (by decide) rfl ?_
      refine o_astoreN (L' := [some _, some _, none, some _, none, some _, some _, some _]) C dX0_putSelect_35 (by rw [hn]; decide) rfl ?_
      refine x_aloadN C dX0_putSelect_37 rfl ?_
      refine x_ifnullN (tgt := 59) C dX0_putSelect_39 (by decide) ?_
      refine o_iincE (v := nI (k9 + 1)) (L' := [some _, some _, none, some _, none, some _, some _, _]) C dX0_putSelect_59 rfl (nI_1 k9) (by rw [hn]; decide) rfl ?_
      refine x_goto (tgt := 21) C dX0_putSelect_62 (by decide) ?_
      exact ih (k9 + 1) v _ (by omega)
  refine x_aload_n C dX0_putSelect_0 rfl ?_
  refine x_dup C dX0_putSelect_1 rfl ?_
  refine e_get C Y kd_X0 2 (by decide) wf_X0_24 dX0_putSelect_2 B.1 rfl ?_
  refine x_iconst (v := 1) C dX0_putSelect_5 (by decide) ?_
  refine x_iadd C dX0_putSelect_6 ?_
  refine e_put C Y kd_X0 2 (by decide) rfl wf_X0_24 dX0_putSelect_7 B.1 (Nat.le_of_ble_eq_true rfl) rfl rfl hh ?_
  refine x_lload_n C dX0_putSelect_10 rfl ?_
  refine k_callS (kc := 0) (ks := 0) (mc' := 0) (ms' := 0) (st := []) C E.cs hW.1 gw_good (b_caredBits hW k) md_X0_caredBits wt_X0_caredBits wm_X0_65 dX0_putSelect_11 rfl (by decide) (by decide) rfl (by decide) (fun r => X.opn (fun g hg => ?_))
  obtain ⟨⟨v, rfl⟩, rfl⟩ := hg
  refine o_lstore_nE (L' := [some _, some _, none, some _, none, none, none, none]) C dX0_putSelect_14 (by rw [hn]; decide) rfl ?_
  refine x_iconst (v := 0) C dX0_putSelect_15 (by decide) ?_
  refine o_istoreE (L' := [some _, some _, none, some _, none, some _, none, none]) C dX0_putSelect_16 (by rw [hn]; decide) rfl ?_
  refine x_iconst (v := 0) C dX0_putSelect_18 (by decide) ?_
  refine o_istoreE (L' := [some _, some _, none, some _, none, some _, some _, none]) C dX0_putSelect_19 (by rw [hn]; decide) rfl ?_
  exact LP 12 0 v none rfl
theorem b_put (hX : Wx w c) (B : BE c h u m an fr co) {ab : Nat} {f : Nat → Int32} (R : RW c h an ab f 0) (a1 : u ≠ an) (a2 : u ≠ ab) (a3 : u ≠ m) {p q : Nat} {f2 : Nat → Int32} (R2 : RW c h p q f2 0) : TC w yX0_put cX0_put 2 (some .int) 3 [.ref u, .ref p] h (some (.int 0)) (hs h u (.inr (0, [.ref m, .ref an, .int (fr + 1), .int co]))) := by
  have hW := hX.1
  refine TC.intro hX.1 rfl (by decide +kernel) (Nat.le_of_ble_eq_true rfl) (fun z C Y E hn => ?_)
  have B1 : BE c (hs h u (.inr (0, [.ref m, .ref an, .int (fr + 1), .int co]))) u m an (fr + 1) co := ⟨hs_self .., by rw [hs_ne (Ne.symm a3)]; exact B.2⟩
  have R1 : RW c (hs h u (.inr (0, [.ref m, .ref an, .int (fr + 1), .int co]))) an ab f 0 := ⟨R.1, by rw [hs_ne (Ne.symm a1)]; exact R.2.1, by rw [hs_ne (Ne.symm a2)]; exact R.2.2.1, R.2.2.2⟩
  have q1 := r_isShortFrame hW R2
  have q2 := r_isLongFrame hW R2
  rw [show bI (rShort f2 0) = 0 from bI_f (fun g => absurd g.1 (by decide))] at q1
  rw [show bI (rLong f2 0) = 0 from bI_f (fun g => absurd (show (3 : Int32) ≤ -1 from g.1.1) (by decide))] at q2
  refine x_aload_n C dX0_put_0 rfl ?_
  refine e_callV C Y hW E (q1) md_X5_isShortFrame wi_X5_isShortFrame ws_X5_isShortFrame wm_X0_35 dX0_put_1 rfl (by decide) (by decide) R2.2.1 rfl rfl (by simp [Value.category]) ?_
  refine x_if_eq (tgt := 22) C dX0_put_4 (by decide) (fun c4 => ?_) (fun c4 => absurd c4 (not_not_intro rfl))
  refine x_aload_n C dX0_put_22 rfl ?_
  refine e_callV C Y hW E (q2) md_X5_isLongFrame wi_X5_isLongFrame ws_X5_isLongFrame wm_X0_47 dX0_put_23 rfl (by decide) (by decide) R2.2.1 rfl rfl (by simp [Value.category]) ?_
  refine x_if_eq (tgt := 55) C dX0_put_26 (by decide) (fun c26 => ?_) (fun c26 => absurd c26 (not_not_intro rfl))
  refine x_aload_n C dX0_put_55 rfl ?_
  refine x_dup C dX0_put_56 rfl ?_
  refine e_get C Y kd_X0 2 (by decide) wf_X0_24 dX0_put_57 B.1 rfl ?_
  refine x_iconst (v := 1) C dX0_put_60 (by decide) ?_
  refine x_iadd C dX0_put_61 ?_
  refine e_put C Y kd_X0 2 (by decide) rfl wf_X0_24 dX0_put_62 B.1 (Nat.le_of_ble_eq_true rfl) rfl rfl rfl ?_
  refine x_aload_n C dX0_put_65 rfl ?_
  refine x_iconst (v := 0) C dX0_put_66 (by decide) ?_
  refine e_callV C Y hW E (b_outcome0 hX B1 R1) md_X0_outcome wi_X0_outcome ws_X0_outcome wm_X0_54 dX0_put_67 rfl (by decide) (by decide) B1.1 rfl rfl (by simp [Value.category]) ?_
  refine e_iret C E dX0_put_70 ?_ ?_
  all_goals rfl
end Bus
section Recs
variable {w : Wd} {c : Nat → ClassId} {h : PH} {l ra : Nat}
theorem l_size (hW : Wc w c) {n : Int32} (B : h l = some (.inr (4, [.ref ra, .int n]))) : TC w yX4_size cX4_size 1 (some .int) 0 [.ref l] h (some (.int n)) h := by
  refine TC.intro hW rfl (by decide +kernel) (Nat.le_of_ble_eq_true rfl) (fun z C Y E hn => ?_)
  refine x_aload_n C dX4_size_0 rfl ?_
  refine e_get C Y kd_X4 1 (by decide) wf_X4_17 dX4_size_1 B rfl ?_
  refine e_iret C E dX4_size_4 ?_ ?_
  all_goals rfl
theorem l_at0 (hW : Wc w c) (B : h l = some (.inr (4, [.ref ra, .int 0]))) (i : Int32) : TC w yX4_at cX4_at 2 (some (.object "MeterBus$Reading")) 0 [.ref l, .int i] h (some .null) h := by
  refine TC.intro hW rfl (by decide +kernel) (Nat.le_of_ble_eq_true rfl) (fun z C Y E hn => ?_)
  have T30 : X z 0 0 (EQ h) 30 [some (.ref l), some (.int i)] [] := x_null C dX4_at_30 (e_aret C E (Or.inl ⟨_, rfl⟩) dX4_at_31 (Or.inl rfl) rfl rfl)
  refine x_iload_n C dX4_at_0 rfl ?_
  refine x_if_lt (tgt := 30) C dX4_at_1 (by decide) (fun _ => T30) (fun c1 => ?_)
  refine x_iload_n C dX4_at_4 rfl ?_
  refine x_aload_n C dX4_at_5 rfl ?_
  refine e_get C Y kd_X4 1 (by decide) wf_X4_17 dX4_at_6 B rfl ?_
  exact x_icmp_ge (tgt := 30) C dX4_at_9 (by decide) (fun _ => T30) (fun c2 => absurd (Int32.not_lt.mp c1) c2)
theorem l_cut0 (hW : Wc w c) (B : h l = some (.inr (4, [.ref ra, .int 0]))) : TC w yX4_cutTo cX4_cutTo 2 none 0 [.ref l, .int 0] h none h := by
  refine TC.intro hW rfl (by decide +kernel) (Nat.le_of_ble_eq_true rfl) (fun z C Y E hn => ?_)
  refine x_iload_n C dX4_cutTo_0 rfl ?_
  refine x_if_lt (tgt := 17) C dX4_cutTo_1 (by decide) (fun c1 => absurd c1 (by decide)) (fun c1 => ?_)
  refine x_iload_n C dX4_cutTo_4 rfl ?_
  refine x_aload_n C dX4_cutTo_5 rfl ?_
  refine e_get C Y kd_X4 1 (by decide) wf_X4_17 dX4_cutTo_6 B rfl ?_
  refine x_icmp_ge (tgt := 17) C dX4_cutTo_9 (by decide) (fun c9 => ?_) (fun c9 => absurd c9 (by decide))
  refine e_vret C E dX4_cutTo_17 ?_ ?_
  all_goals rfl
end Recs
section Dec
variable {w : Wd} {c : Nat → ClassId} {h : PH} {d l ra b ba : Nat}
theorem d_faultOf (hW : Wc w c) {f0 a0 e0 fa pl mo : Value} {fa1 : Int32} (e1 : fa = .int fa1) (B : h d = some (.inr (1, [.ref l, f0, a0, e0, fa, pl, mo]))) : TC w yX1_lastFault cX1_lastFault 1 (some .int) 0 [.ref d] h (some (.int fa1)) h := by
  subst e1
  refine TC.intro hW rfl (by decide +kernel) (Nat.le_of_ble_eq_true rfl) (fun z C Y E hn => ?_)
  refine x_aload_n C dX1_lastFault_0 rfl ?_
  refine e_get C Y kd_X1 4 (by decide) wf_X1_18 dX1_lastFault_1 B rfl ?_
  refine e_iret C E dX1_lastFault_4 ?_ ?_
  all_goals rfl
theorem d_placeOf (hW : Wc w c) {f0 a0 e0 fa mo : Value} {pl : Int32} (B : h d = some (.inr (1, [.ref l, f0, a0, e0, fa, .int pl, mo]))) : TC w yX1_lastFaultPlace cX1_lastFaultPlace 1 (some .int) 0 [.ref d] h (some (.int pl)) h := by
  refine TC.intro hW rfl (by decide +kernel) (Nat.le_of_ble_eq_true rfl) (fun z C Y E hn => ?_)
  refine x_aload_n C dX1_lastFaultPlace_0 rfl ?_
  refine e_get C Y kd_X1 5 (by decide) wf_X1_21 dX1_lastFaultPlace_1 B rfl ?_
  refine e_iret C E dX1_lastFaultPlace_4 ?_ ?_
  all_goals rfl
theorem d_forget (hW : Wc w c) {f0 a0 e0 fa pl mo : Value} (B : h d = some (.inr (1, [.ref l, f0, a0, e0, fa, pl, mo]))) : TC w yX1_forgetFault cX1_forgetFault 1 none 0 [.ref d] h none (hs h d (.inr (1, [.ref l, f0, a0, e0, .int 0, .int (-1), mo]))) := by
  refine TC.intro hW rfl (by decide +kernel) (Nat.le_of_ble_eq_true rfl) (fun z C Y E hn => ?_)
  refine x_aload_n C dX1_forgetFault_0 rfl ?_
  refine x_iconst (v := 0) C dX1_forgetFault_1 (by decide) ?_
  refine e_put C Y kd_X1 4 (by decide) rfl wf_X1_18 dX1_forgetFault_2 B (Nat.le_of_ble_eq_true rfl) rfl rfl rfl ?_
  refine x_aload_n C dX1_forgetFault_5 rfl ?_
  refine x_iconst (v := (-1)) C dX1_forgetFault_6 (by decide) ?_
  refine e_put C Y kd_X1 5 (by decide) rfl wf_X1_21 dX1_forgetFault_7 (hs_self ..) (Nat.le_of_ble_eq_true rfl) rfl rfl rfl ?_
  refine e_vret C E dX1_forgetFault_10 ?_ ?_
  all_goals first | exact rfl | exact hs_hs ..
theorem d_wrong (hW : Wc w c) {f0 a0 e0 fa pl mo : Value} (B : h d = some (.inr (1, [.ref l, f0, a0, e0, fa, pl, mo]))) (x p : Int32) : TC w yX1_wrong cX1_wrong 3 (some .boolean) 0 [.ref d, .int x, .int p] h (some (.int 0)) (hs h d (.inr (1, [.ref l, f0, a0, e0, .int x, .int p, mo]))) := by
  refine TC.intro hW rfl (by decide +kernel) (Nat.le_of_ble_eq_true rfl) (fun z C Y E hn => ?_)
  refine x_aload_n C dX1_wrong_0 rfl ?_
  refine x_iload_n C dX1_wrong_1 rfl ?_
  refine e_put C Y kd_X1 4 (by decide) rfl wf_X1_18 dX1_wrong_2 B (Nat.le_of_ble_eq_true rfl) rfl rfl rfl ?_
  refine x_aload_n C dX1_wrong_5 rfl ?_
  refine x_iload_n C dX1_wrong_6 rfl ?_
  refine e_put C Y kd_X1 5 (by decide) rfl wf_X1_21 dX1_wrong_7 (hs_self ..) (Nat.le_of_ble_eq_true rfl) rfl rfl rfl ?_
  refine x_iconst (v := 0) C dX1_wrong_10 (by decide) ?_
  refine e_zret C E dX1_wrong_11 (by decide) ?_ ?_
  all_goals first | exact rfl | exact hs_hs ..
theorem d_frame0 (hW : Wc w c) {a0 e0 fa pl mo : Value} {f : Nat → Int32} (B : h d = some (.inr (1, [.ref l, .ref b, a0, e0, fa, pl, mo]))) (R : RW c h b ba f 0) : TC w yX1_frameIsWell cX1_frameIsWell 2 (some .boolean) 1 [.ref d] h (some (.int 0)) (hs h d (.inr (1, [.ref l, .ref b, a0, e0, .int 1, .int 0, mo]))) := by
  refine TC.intro hW rfl (by decide +kernel) (Nat.le_of_ble_eq_true rfl) (fun z C Y E hn => ?_)
  have q0 := r_at hW R 0
  have q1 := r_at hW R 1
  rw [show rAt f 0 0 = -1 from rfl] at q0
  rw [show rAt f 0 1 = -1 from rfl] at q1
  refine x_aload_n C dX1_frameIsWell_0 rfl ?_
  refine e_get C Y kd_X1 1 (by decide) wf_X1_28 dX1_frameIsWell_1 B rfl ?_
  refine x_iconst (v := 1) C dX1_frameIsWell_4 (by decide) ?_
  refine e_callV C Y hW E (q1) md_X5_at wi_X5_at ws_X5_at wm_X1_62 dX1_frameIsWell_5 rfl (by decide) (by decide) R.2.1 rfl rfl (by simp [Value.category]) ?_
  refine o_istore_nE (L' := [some _, some _]) C dX1_frameIsWell_8 (by rw [hn]; decide) rfl ?_
  refine x_aload_n C dX1_frameIsWell_9 rfl ?_
  refine e_get C Y kd_X1 1 (by decide) wf_X1_28 dX1_frameIsWell_10 B rfl ?_
  refine x_iconst (v := 0) C dX1_frameIsWell_13 (by decide) ?_
  refine e_callV C Y hW E (q0) md_X5_at wi_X5_at ws_X5_at wm_X1_62 dX1_frameIsWell_14 rfl (by decide) (by decide) R.2.1 rfl rfl (by simp [Value.category]) ?_
  refine x_bipush (v := 104) C dX1_frameIsWell_17 (by decide) ?_
  refine x_icmp_eq (tgt := 29) C dX1_frameIsWell_19 (by decide) (fun c19 => absurd c19 (by decide)) (fun c19 => ?_)
  refine x_aload_n C dX1_frameIsWell_22 rfl ?_
  refine x_iconst (v := 1) C dX1_frameIsWell_23 (by decide) ?_
  refine x_iconst (v := 0) C dX1_frameIsWell_24 (by decide) ?_
  refine e_callV C Y hW E (d_wrong hW B 1 0) md_X1_wrong wi_X1_wrong ws_X1_wrong wm_X1_67 dX1_frameIsWell_25 rfl (by decide) (by decide) B rfl rfl (by simp [Value.category]) ?_
  refine e_zret C E dX1_frameIsWell_28 (by decide) ?_ ?_
  all_goals rfl
theorem d_reads0 (hW : Wc w c) {f0 a0 fa pl mo : Value} {f : Nat → Int32} (B : h d = some (.inr (1, [.ref l, f0, a0, .int 0, fa, pl, mo]))) (R : RW c h b ba f 0) (L : h l = some (.inr (4, [.ref ra, .int 0]))) (a1 : d ≠ b) (a2 : d ≠ ba) (a3 : d ≠ l) : TC w yX1_reads cX1_reads 5 (some .boolean) 2 [.ref d, .ref b] h (some (.int 0)) (hs h d (.inr (1, [.ref l, .ref b, .int 19, .int 0, .int 1, .int 0, .int 0]))) := by
  refine TC.intro hW rfl (by decide +kernel) (Nat.le_of_ble_eq_true rfl) (fun z C Y E hn => ?_)
  have Lx : ∀ e, hs h d e l = some (.inr (4, [.ref ra, .int 0])) := fun e => by rw [hs_ne (Ne.symm a3)]; exact L
  have Rx : ∀ e, RW c (hs h d e) b ba f 0 := fun e => ⟨R.1, by rw [hs_ne (Ne.symm a1)]; exact R.2.1, by rw [hs_ne (Ne.symm a2)]; exact R.2.2.1, R.2.2.2⟩
  refine x_aload_n C dX1_reads_0 rfl ?_
  refine x_aload_n C dX1_reads_1 rfl ?_
  refine e_put C Y kd_X1 1 (by decide) rfl wf_X1_28 dX1_reads_2 B (Nat.le_of_ble_eq_true rfl) rfl rfl rfl ?_
  refine x_aload_n C dX1_reads_5 rfl ?_
  refine x_iconst (v := 0) C dX1_reads_6 (by decide) ?_
  refine e_put C Y kd_X1 6 (by decide) rfl wf_X1_24 dX1_reads_7 (hs_self ..) (Nat.le_of_ble_eq_true rfl) (by decide) (by decide) (hs_hs ..) ?_
  have g1 := d_forget hW (h := hs h d (.inr (1, [.ref l, .ref b, a0, .int 0, fa, pl, .int 0]))) (hs_self ..)
  rw [hs_hs] at g1
  have g2 := d_frame0 hW (h := hs h d (.inr (1, [.ref l, .ref b, a0, .int 0, .int 0, .int (-1), .int 0]))) (hs_self ..) (Rx _)
  rw [hs_hs] at g2
  refine x_aload_n C dX1_reads_10 rfl ?_
  refine e_callV C Y hW E (g1) md_X1_forgetFault wi_X1_forgetFault ws_X1_forgetFault wm_X1_36 dX1_reads_11 rfl (by decide) (by decide) (hs_self ..) rfl rfl (by simp [Value.category]) ?_
  refine x_aload_n C dX1_reads_14 rfl ?_
  refine e_get C Y kd_X1 0 (by decide) wf_X1_32 dX1_reads_15 (hs_self ..) rfl ?_
  refine e_callV C Y hW E (l_size hW (Lx _)) md_X4_size wi_X4_size ws_X4_size wm_X1_39 dX1_reads_18 rfl (by decide) (by decide) (Lx _) rfl rfl (by simp [Value.category]) ?_
  refine o_istore_nE (L' := [some _, some _, some _, none, none]) C dX1_reads_21 (by rw [hn]; decide) rfl ?_
  refine x_aload_n C dX1_reads_22 rfl ?_
  refine e_callV C Y hW E (g2) md_X1_frameIsWell wi_X1_frameIsWell ws_X1_frameIsWell wm_X1_45 dX1_reads_23 rfl (by decide) (by decide) (hs_self ..) rfl rfl (by simp [Value.category]) ?_
  refine x_if_eq (tgt := 47) C dX1_reads_26 (by decide) (fun c26 => ?_) (fun c26 => absurd c26 (not_not_intro rfl))
  refine x_iconst (v := 0) C dX1_reads_47 (by decide) ?_
  refine o_istore_nE (L' := [some _, some _, some _, some _, none]) C dX1_reads_48 (by rw [hn]; decide) rfl ?_
  refine x_aload_n C dX1_reads_49 rfl ?_
  refine x_bipush (v := 19) C dX1_reads_50 (by decide) ?_
  refine e_put C Y kd_X1 2 (by decide) rfl wf_X1_9 dX1_reads_52 (hs_self ..) (Nat.le_of_ble_eq_true rfl) rfl rfl (hs_hs ..) ?_
  refine x_iconst (v := 0) C dX1_reads_55 (by decide) ?_
  refine o_istoreE (L' := [some _, some _, some _, some _, some _]) C dX1_reads_56 (by rw [hn]; decide) rfl ?_
  refine x_iload C dX1_reads_58 rfl ?_
  refine x_sipush (v := 300) C dX1_reads_60 (by decide) ?_
  refine x_icmp_ge (tgt := 92) C dX1_reads_63 (by decide) (fun c63 => absurd c63 (by decide)) (fun c63 => ?_)
  refine x_iload_n C dX1_reads_66 rfl ?_
  refine x_if_eq (tgt := 92) C dX1_reads_67 (by decide) (fun c67 => ?_) (fun c67 => absurd c67 (not_not_intro rfl))
  refine x_iload_n C dX1_reads_92 rfl ?_
  refine x_if_ne (tgt := 104) C dX1_reads_93 (by decide) (fun c93 => absurd c93 (by decide)) (fun c93 => ?_)
  refine x_aload_n C dX1_reads_96 rfl ?_
  refine e_get C Y kd_X1 0 (by decide) wf_X1_32 dX1_reads_97 (hs_self ..) rfl ?_
  refine x_iload_n C dX1_reads_100 rfl ?_
  refine e_callV C Y hW E (l_cut0 hW (Lx _)) md_X4_cutTo wi_X4_cutTo ws_X4_cutTo wm_X1_58 dX1_reads_101 rfl (by decide) (by decide) (Lx _) rfl rfl (by simp [Value.category]) ?_
  refine x_iload_n C dX1_reads_104 rfl ?_
  refine e_zret C E dX1_reads_105 (by decide) ?_ ?_
  all_goals rfl
end Dec
