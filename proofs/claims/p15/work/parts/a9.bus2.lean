/-! Bus: masks, long frames, anything. -/
section Bus
variable {w : Wd} {c : Nat → ClassId} {u ma an aa n m : Nat} {h0 h : PH} {W : Nat → Prop} {α : Nat → Int64} {f : Nat → Option Nat} {κ : Nat → Nat}
theorem u_putSelect (hX : Wx w c) (mk : Int64) : T w gw yX0_putSelect cX0_putSelect 8 (some .int) 5 (40 * 5) 0 0 [.ref u, .long mk] (BX c u ma an aa h0 W α f κ) (fun r g => (∃ v, r = some (.int v)) ∧ BX c u ma an aa h0 W α f κ g) := by
  have hW := hX.1
  refine TA.intro hW rfl (by decide +kernel) (Nat.le_of_ble_eq_true rfl) (fun z C Y E hn h D => ?_)
  obtain ⟨fr, co, B⟩ := D.uc
  refine x_aload_n C dX0_putSelect_0 rfl ?_
  refine x_dup C dX0_putSelect_1 rfl ?_
  refine e_get C Y kd_X0 2 (by decide) wf_X0_24 dX0_putSelect_2 B rfl ?_
  refine x_iconst (v := 1) C dX0_putSelect_5 (by decide) ?_
  refine x_iadd C dX0_putSelect_6 ?_
  refine e_put C Y kd_X0 2 (by decide) rfl wf_X0_24 dX0_putSelect_7 B (Nat.le_of_ble_eq_true rfl) rfl rfl rfl ?_
  refine x_lload_n C dX0_putSelect_10 rfl ?_
  refine k_callS (kc := 0) (ks := 0) (mc' := 0) (ms' := 0) (st := []) C E.cs hW.1 gw_good (b_caredBits hW mk) md_X0_caredBits wt_X0_caredBits wm_X0_65 dX0_putSelect_11 rfl (by decide) (by decide) rfl (by decide) (fun r => X.opn (fun g hg => ?_))
  obtain ⟨⟨cd, rfl⟩, rfl⟩ := hg
  have LP : ∀ (r j : Nat) (x : Int32) (l7 : Option Value) (h : PH), j + r = 12 → BX c u ma an aa h0 W α f κ h → X z 0 0 (EQ h) 21 [some (.ref u), some (.long mk), none, some (.long cd), none, some (.int x), some (.int (nI j)), l7] [] := by
    intro r
    induction r with
    | zero =>
      intro j x l7 h hj D
      obtain rfl : j = 12 := by omega
      obtain ⟨fr, co, B⟩ := D.uc
      refine x_iload C dX0_putSelect_21 rfl ?_
      refine x_bipush (v := 12) C dX0_putSelect_23 (by decide) ?_
      refine x_icmp_ge (tgt := 65) C dX0_putSelect_25 (by decide) (fun _ => ?_) (fun q => absurd (Int32.le_refl _) q)
      refine x_aload_n C dX0_putSelect_65 rfl ?_
      refine x_iload C dX0_putSelect_66 rfl ?_
      refine k_callR (kc := 0) (ks := 0) (mc' := 0) (ms' := 0) (st := []) C Y hW E.cs (u_outcome hX _) D md_X0_outcome wi_X0_outcome ws_X0_outcome wm_X0_54 dX0_putSelect_68 rfl (by decide) (by decide) B rfl rfl (by decide) (fun r g hg => ?_)
      obtain ⟨⟨v, rfl⟩, Dg⟩ := hg
      exact x_iret C E dX0_putSelect_71 (fun q e => by subst e; exact ⟨⟨_, rfl⟩, Dg⟩)
    | succ r ih =>
      intro j x l7 h hj D
      obtain ⟨fr, co, B⟩ := D.uc
      have T59 : ∀ (x : Int32) (l7 : Option Value) (h : PH), BX c u ma an aa h0 W α f κ h → X z 0 0 (EQ h) 59 [some (.ref u), some (.long mk), none, some (.long cd), none, some (.int x), some (.int (nI j)), l7] [] := fun x l7 h D => by
        refine o_iincE (v := nI (j + 1)) (L' := [some _, some _, none, some _, none, some _, some _, l7]) C dX0_putSelect_59 rfl (nI_1 j) (by rw [hn]; decide) rfl ?_
        refine x_goto (tgt := 21) C dX0_putSelect_62 (by decide) ?_
        exact ih (j + 1) x l7 h (by omega) D
      refine x_iload C dX0_putSelect_21 rfl ?_
      refine x_bipush (v := 12) C dX0_putSelect_23 (by decide) ?_
      refine x_icmp_ge (tgt := 65) C dX0_putSelect_25 (by decide) (fun q => absurd q (Int32.not_le.mpr (nI_lt (show j < 12 by omega) (by decide)))) (fun _ => ?_)
      refine x_aload_n C dX0_putSelect_28 rfl ?_
      refine e_get C Y kd_X0 0 (by decide) wf_X0_11 dX0_putSelect_29 B rfl ?_
      refine x_iload C dX0_putSelect_32 rfl ?_
      refine k_meter hX C E.cs D (show j < 12 by omega) dX0_putSelect_34 (fun _ => ?_) (fun m em hm => ?_)
      · refine o_astoreN (L' := [some _, some _, none, some _, none, some _, some _, some _]) C dX0_putSelect_35 (by rw [hn]; decide) rfl ?_
        refine x_aloadN C dX0_putSelect_37 rfl ?_
        exact x_ifnullN (tgt := 59) C dX0_putSelect_39 (by decide) (T59 _ _ _ D)
      · refine o_astoreE (L' := [some _, some _, none, some _, none, some _, some _, some _]) C dX0_putSelect_35 (by rw [hn]; decide) rfl ?_
        refine x_aload C dX0_putSelect_37 rfl ?_
        refine x_ifnull C dX0_putSelect_39 ?_
        refine x_aload C dX0_putSelect_42 rfl ?_
        refine x_lload_n C dX0_putSelect_44 rfl ?_
        refine x_lload_n C dX0_putSelect_45 rfl ?_
        refine x_aload_n C dX0_putSelect_46 rfl ?_
        refine e_get C Y kd_X0 1 (by decide) wf_X0_20 dX0_putSelect_47 B rfl ?_
        refine k_looks (st := []) hX C Y E.cs (by decide) hm D mk cd dX0_putSelect_50 (by decide) (fun g y2 Dg => ?_)
        refine x_if_eq (tgt := 59) C dX0_putSelect_53 (by decide) (fun _ => T59 _ _ _ Dg) (fun _ => ?_)
        refine o_iincE (L' := [some _, some _, none, some _, none, some _, some _, some _]) C dX0_putSelect_56 rfl rfl (by rw [hn]; decide) rfl ?_
        exact T59 _ _ _ Dg
  refine o_lstore_nE (L' := [some _, some _, none, some _, none, none, none, none]) C dX0_putSelect_14 (by rw [hn]; decide) rfl ?_
  refine x_iconst (v := 0) C dX0_putSelect_15 (by decide) ?_
  refine o_istoreE (L' := [some _, some _, none, some _, none, some _, none, none]) C dX0_putSelect_16 (by rw [hn]; decide) rfl ?_
  refine x_iconst (v := 0) C dX0_putSelect_18 (by decide) ?_
  refine o_istoreE (L' := [some _, some _, none, some _, none, some _, some _, none]) C dX0_putSelect_19 (by rw [hn]; decide) rfl ?_
  exact LP 12 0 _ _ _ rfl (D.putU _ _)
section Frames
variable {b ba nb : Nat} {fb : Nat → Int32}
theorem BX.out (D : BX c u ma an aa h0 W α f κ h) (R : RW c h0 b ba fb nb) (o1 : W b) (o2 : W ba) : RW c h b ba fb nb := by
  obtain ⟨n, n90, Dn⟩ := D
  exact Dn.out R o1 o2
theorem u_putSending (hX : Wx w c) (Rb : RW c h0 b ba fb nb) (o1 : W b) (o2 : W ba) : T w gw yX0_putSendingFrame cX0_putSendingFrame 6 (some .int) 6 (40 * 6) 0 0 [.ref u, .ref b] (BX c u ma an aa h0 W α f κ) (fun r g => (∃ v, r = some (.int v)) ∧ BX c u ma an aa h0 W α f κ g) := by
  have hW := hX.1
  refine TA.intro hW rfl (by decide +kernel) (Nat.le_of_ble_eq_true rfl) (fun z C Y E hn h D => ?_)
  obtain ⟨fr, co, B⟩ := D.uc
  have R := D.out Rb o1 o2
  have kat : ∀ {kc ks pc : Nat} {L : List (Option Value)} {st : List Value} {h : PH} (R : RW c h b ba fb nb) (x : Int32) (d : decode cX0_putSendingFrame pc = .ok (.invokevirtual 39, 3)) (hcat : (st.map fun v => v.category).sum ≤ 8) (k : X z kc ks (EQ h) (pc + 3) L (.int (rAt fb nb x) :: st)), X z kc ks (EQ h) pc L (.int x :: .ref b :: st) := fun R x d hcat k => u_callV C Y hW E.cs (r_at hW R x) md_X5_at wi_X5_at ws_X5_at wm_X0_39 d rfl (by decide) (by decide) R.2.1 rfl rfl hcat k
  refine x_aload_n C dX0_putSendingFrame_0 rfl ?_
  refine x_iconst (v := 5) C dX0_putSendingFrame_1 (by decide) ?_
  refine kat (st := []) R _ dX0_putSendingFrame_2 (by decide) ?_
  generalize rAt fb nb 5 = a
  refine o_istore_nE (L' := [some _, some _, some _, none, none, none]) C dX0_putSendingFrame_5 (by rw [hn]; decide) rfl ?_
  have LP : ∀ (r j : Nat) (x : Int32) (l5 : Option Value) (h : PH), j + r = 12 → BX c u ma an aa h0 W α f κ h → X z 0 0 (EQ h) 59 [some (.ref u), some (.ref b), some (.int a), some (.int x), some (.int (nI j)), l5] [] := by
    intro r
    induction r with
    | zero =>
      intro j x l5 h hj D
      obtain rfl : j = 12 := by omega
      obtain ⟨fr, co, B⟩ := D.uc
      have T124 : ∀ y : Int32, X z 0 0 (EQ h) 124 [some (.ref u), some (.ref b), some (.int a), some (.int x), some (.int (nI 12)), l5] [.int y, .ref u] := fun y => by
        refine k_callR (kc := 0) (ks := 0) (mc' := 0) (ms' := 0) (st := []) C Y hW E.cs (u_outcome hX y) D md_X0_outcome wi_X0_outcome ws_X0_outcome wm_X0_54 dX0_putSendingFrame_124 rfl (by decide) (by decide) B rfl rfl (by decide) (fun r g hg => ?_)
        obtain ⟨⟨v, rfl⟩, Dg⟩ := hg
        exact x_iret C E dX0_putSendingFrame_127 (fun q e => by subst e; exact ⟨⟨_, rfl⟩, Dg⟩)
      refine x_iload C dX0_putSendingFrame_59 rfl ?_
      refine x_bipush (v := 12) C dX0_putSendingFrame_61 (by decide) ?_
      refine x_icmp_ge (tgt := 111) C dX0_putSendingFrame_63 (by decide) (fun _ => ?_) (fun q => absurd (Int32.le_refl _) q)
      refine x_aload_n C dX0_putSendingFrame_111 rfl ?_
      refine x_iload_n C dX0_putSendingFrame_112 rfl ?_
      refine x_sipush (v := 255) C dX0_putSendingFrame_113 (by decide) ?_
      refine x_icmp_ne (tgt := 123) C dX0_putSendingFrame_116 (by decide) (fun _ => ?_) (fun _ => ?_)
      · exact x_iload_n C dX0_putSendingFrame_123 rfl (T124 _)
      · refine x_iconst (v := 0) C dX0_putSendingFrame_119 (by decide) ?_
        exact x_goto (tgt := 124) C dX0_putSendingFrame_120 (by decide) (T124 _)
    | succ r ih =>
      intro j x l5 h hj D
      obtain ⟨fr, co, B⟩ := D.uc
      have T105 : ∀ (x : Int32) (l5 : Option Value) (h : PH), BX c u ma an aa h0 W α f κ h → X z 0 0 (EQ h) 105 [some (.ref u), some (.ref b), some (.int a), some (.int x), some (.int (nI j)), l5] [] := fun x l5 h D => by
        refine o_iincE (v := nI (j + 1)) (L' := [some _, some _, some _, some _, some _, l5]) C dX0_putSendingFrame_105 rfl (nI_1 j) (by rw [hn]; decide) rfl ?_
        refine x_goto (tgt := 59) C dX0_putSendingFrame_108 (by decide) ?_
        exact ih (j + 1) x l5 h (by omega) D
      refine x_iload C dX0_putSendingFrame_59 rfl ?_
      refine x_bipush (v := 12) C dX0_putSendingFrame_61 (by decide) ?_
      refine x_icmp_ge (tgt := 111) C dX0_putSendingFrame_63 (by decide) (fun q => absurd q (Int32.not_le.mpr (nI_lt (show j < 12 by omega) (by decide)))) (fun _ => ?_)
      refine x_aload_n C dX0_putSendingFrame_66 rfl ?_
      refine e_get C Y kd_X0 0 (by decide) wf_X0_11 dX0_putSendingFrame_67 B rfl ?_
      refine x_iload C dX0_putSendingFrame_70 rfl ?_
      refine k_meter hX C E.cs D (show j < 12 by omega) dX0_putSendingFrame_72 (fun _ => ?_) (fun m em hm => ?_)
      · refine o_astoreN (L' := [some _, some _, some _, some _, some _, some _]) C dX0_putSendingFrame_73 (by rw [hn]; decide) rfl ?_
        refine x_aloadN C dX0_putSendingFrame_75 rfl ?_
        exact x_ifnullN (tgt := 105) C dX0_putSendingFrame_77 (by decide) (T105 _ _ _ D)
      · refine o_astoreE (L' := [some _, some _, some _, some _, some _, some _]) C dX0_putSendingFrame_73 (by rw [hn]; decide) rfl ?_
        refine x_aload C dX0_putSendingFrame_75 rfl ?_
        refine x_ifnull C dX0_putSendingFrame_77 ?_
        refine x_aload C dX0_putSendingFrame_80 rfl ?_
        refine x_iload_n C dX0_putSendingFrame_82 rfl ?_
        refine k_meant (st := []) hX C Y E.cs (by decide) hm D a dX0_putSendingFrame_83 (by decide) (fun y => ?_)
        refine x_if_eq (tgt := 105) C dX0_putSendingFrame_86 (by decide) (fun _ => T105 _ _ _ D) (fun _ => ?_)
        refine x_aload C dX0_putSendingFrame_89 rfl ?_
        refine x_aload_n C dX0_putSendingFrame_91 rfl ?_
        refine x_aload_n C dX0_putSendingFrame_92 rfl ?_
        refine e_get C Y kd_X0 1 (by decide) wf_X0_20 dX0_putSendingFrame_93 B rfl ?_
        refine k_long (st := []) hX C Y E.cs (by decide) hm D Rb o1 o2 dX0_putSendingFrame_96 (by decide) (fun g y2 Dg => ?_)
        refine x_if_eq (tgt := 105) C dX0_putSendingFrame_99 (by decide) (fun _ => T105 _ _ _ Dg) (fun _ => ?_)
        refine o_iincE (L' := [some _, some _, some _, some _, some _, some _]) C dX0_putSendingFrame_102 rfl rfl (by rw [hn]; decide) rfl ?_
        exact T105 _ _ _ Dg
  have T44 : X z 0 0 (EQ h) 44 [some (.ref u), some (.ref b), some (.int a), none, none, none] [] := by
    refine x_aload_n C dX0_putSendingFrame_44 rfl ?_
    refine x_dup C dX0_putSendingFrame_45 rfl ?_
    refine e_get C Y kd_X0 2 (by decide) wf_X0_24 dX0_putSendingFrame_46 B rfl ?_
    refine x_iconst (v := 1) C dX0_putSendingFrame_49 (by decide) ?_
    refine x_iadd C dX0_putSendingFrame_50 ?_
    refine e_put C Y kd_X0 2 (by decide) rfl wf_X0_24 dX0_putSendingFrame_51 B (Nat.le_of_ble_eq_true rfl) rfl rfl rfl ?_
    refine x_iconst (v := 0) C dX0_putSendingFrame_54 (by decide) ?_
    refine o_istore_nE (L' := [some _, some _, some _, some _, none, none]) C dX0_putSendingFrame_55 (by rw [hn]; decide) rfl ?_
    refine x_iconst (v := 0) C dX0_putSendingFrame_56 (by decide) ?_
    refine o_istoreE (L' := [some _, some _, some _, some _, some _, none]) C dX0_putSendingFrame_57 (by rw [hn]; decide) rfl ?_
    exact LP 12 0 _ _ _ rfl (D.putU _ _)
  refine x_aload_n C dX0_putSendingFrame_6 rfl ?_
  refine x_bipush (v := 6) C dX0_putSendingFrame_7 (by decide) ?_
  refine kat (st := []) R _ dX0_putSendingFrame_9 (by decide) ?_
  refine x_bipush (v := 82) C dX0_putSendingFrame_12 (by decide) ?_
  refine x_icmp_ne (tgt := 44) C dX0_putSendingFrame_14 (by decide) (fun _ => T44) (fun _ => ?_)
  refine x_aload_n C dX0_putSendingFrame_17 rfl ?_
  refine u_callV (st := []) C Y hW E.cs (r_dataSize hW R) md_X5_dataSize wi_X5_dataSize ws_X5_dataSize wm_X0_73 dX0_putSendingFrame_18 rfl (by decide) (by decide) R.2.1 rfl rfl (by decide) ?_
  refine x_bipush (v := 8) C dX0_putSendingFrame_21 (by decide) ?_
  refine x_icmp_ne (tgt := 44) C dX0_putSendingFrame_23 (by decide) (fun _ => T44) (fun _ => ?_)
  refine x_iload_n C dX0_putSendingFrame_26 rfl ?_
  refine x_sipush (v := 253) C dX0_putSendingFrame_27 (by decide) ?_
  refine x_icmp_ne (tgt := 44) C dX0_putSendingFrame_30 (by decide) (fun _ => T44) (fun _ => ?_)
  refine x_aload_n C dX0_putSendingFrame_33 rfl ?_
  refine x_aload_n C dX0_putSendingFrame_34 rfl ?_
  refine x_bipush (v := 7) C dX0_putSendingFrame_35 (by decide) ?_
  refine u_callV (st := [.ref u]) C Y hW E.cs (r_addressAt hW R 7 (by decide)) md_X5_addressAt wi_X5_addressAt ws_X5_addressAt wm_X0_77 dX0_putSendingFrame_37 rfl (by decide) (by decide) R.2.1 rfl rfl (by simp [Value.category]) ?_
  refine k_callR (kc := 0) (ks := 0) (mc' := 0) (ms' := 0) (st := []) C Y hW E.cs (u_putSelect hX _) D md_X0_putSelect wi_X0_putSelect ws_X0_putSelect wm_X0_81 dX0_putSendingFrame_40 rfl (by decide) (by decide) B rfl rfl (by decide) (fun r g hg => ?_)
  obtain ⟨⟨v, rfl⟩, Dg⟩ := hg
  exact x_iret C E dX0_putSendingFrame_43 (fun q e => by subst e; exact ⟨⟨_, rfl⟩, Dg⟩)
theorem u_put (hX : Wx w c) (Rb : RW c h0 b ba fb nb) (o1 : W b) (o2 : W ba) : T w gw yX0_put cX0_put 2 (some .int) 7 (40 * 7) 0 0 [.ref u, .ref b] (BX c u ma an aa h0 W α f κ) (fun r g => (∃ v, r = some (.int v)) ∧ BX c u ma an aa h0 W α f κ g) := by
  have hW := hX.1
  refine TA.intro hW rfl (by decide +kernel) (Nat.le_of_ble_eq_true rfl) (fun z C Y E hn h D => ?_)
  obtain ⟨fr, co, B⟩ := D.uc
  have R := D.out Rb o1 o2
  have kat : ∀ {kc ks pc : Nat} {L : List (Option Value)} {st : List Value} {h : PH} (R : RW c h b ba fb nb) (x : Int32) (d : decode cX0_put pc = .ok (.invokevirtual 39, 3)) (hcat : (st.map fun v => v.category).sum ≤ 8) (k : X z kc ks (EQ h) (pc + 3) L (.int (rAt fb nb x) :: st)), X z kc ks (EQ h) pc L (.int x :: .ref b :: st) := fun R x d hcat k => u_callV C Y hW E.cs (r_at hW R x) md_X5_at wi_X5_at ws_X5_at wm_X0_39 d rfl (by decide) (by decide) R.2.1 rfl rfl hcat k
  have T55 : X z 0 0 (EQ h) 55 [some (.ref u), some (.ref b)] [] := by
    refine x_aload_n C dX0_put_55 rfl ?_
    refine x_dup C dX0_put_56 rfl ?_
    refine e_get C Y kd_X0 2 (by decide) wf_X0_24 dX0_put_57 B rfl ?_
    refine x_iconst (v := 1) C dX0_put_60 (by decide) ?_
    refine x_iadd C dX0_put_61 ?_
    refine e_put C Y kd_X0 2 (by decide) rfl wf_X0_24 dX0_put_62 B (Nat.le_of_ble_eq_true rfl) rfl rfl rfl ?_
    refine x_aload_n C dX0_put_65 rfl ?_
    refine x_iconst (v := 0) C dX0_put_66 (by decide) ?_
    refine k_callR (kc := 0) (ks := 0) (mc' := 0) (ms' := 0) (st := []) C Y hW E.cs (u_outcome hX 0) (D.putU _ _) md_X0_outcome wi_X0_outcome ws_X0_outcome wm_X0_54 dX0_put_67 rfl (by decide) (by decide) (hs_self ..) rfl rfl (by decide) (fun r g hg => ?_)
    obtain ⟨⟨v, rfl⟩, Dg⟩ := hg
    exact x_iret C E dX0_put_70 (fun q e => by subst e; exact ⟨⟨_, rfl⟩, Dg⟩)
  have T49 : X z 0 0 (EQ h) 49 [some (.ref u), some (.ref b)] [] := by
    refine x_aload_n C dX0_put_49 rfl ?_
    refine x_aload_n C dX0_put_50 rfl ?_
    refine k_callR (kc := 0) (ks := 0) (mc' := 0) (ms' := 0) (st := []) C Y hW E.cs (u_putSending hX Rb o1 o2) D md_X0_putSendingFrame wi_X0_putSendingFrame ws_X0_putSendingFrame wm_X0_50 dX0_put_51 rfl (by decide) (by decide) B rfl rfl (by decide) (fun r g hg => ?_)
    obtain ⟨⟨v, rfl⟩, Dg⟩ := hg
    exact x_iret C E dX0_put_54 (fun q e => by subst e; exact ⟨⟨_, rfl⟩, Dg⟩)
  refine x_aload_n C dX0_put_0 rfl ?_
  refine u_callV (st := []) C Y hW E.cs (r_isShortFrame hW R) md_X5_isShortFrame wi_X5_isShortFrame ws_X5_isShortFrame wm_X0_35 dX0_put_1 rfl (by decide) (by decide) R.2.1 rfl rfl (by decide) ?_
  refine x_if_eq (tgt := 22) C dX0_put_4 (by decide) (fun _ => ?_) (fun _ => ?_)
  · refine x_aload_n C dX0_put_22 rfl ?_
    refine u_callV (st := []) C Y hW E.cs (r_isLongFrame hW R) md_X5_isLongFrame wi_X5_isLongFrame ws_X5_isLongFrame wm_X0_47 dX0_put_23 rfl (by decide) (by decide) R.2.1 rfl rfl (by decide) ?_
    refine x_if_eq (tgt := 55) C dX0_put_26 (by decide) (fun _ => T55) (fun _ => ?_)
    refine x_aload_n C dX0_put_29 rfl ?_
    refine x_iconst (v := 4) C dX0_put_30 (by decide) ?_
    refine kat (st := []) R _ dX0_put_31 (by decide) ?_
    refine x_bipush (v := 83) C dX0_put_34 (by decide) ?_
    refine x_icmp_eq (tgt := 49) C dX0_put_36 (by decide) (fun _ => T49) (fun _ => ?_)
    refine x_aload_n C dX0_put_39 rfl ?_
    refine x_iconst (v := 4) C dX0_put_40 (by decide) ?_
    refine kat (st := []) R _ dX0_put_41 (by decide) ?_
    refine x_bipush (v := 115) C dX0_put_44 (by decide) ?_
    exact x_icmp_ne (tgt := 55) C dX0_put_46 (by decide) (fun _ => T55) (fun _ => T49)
  · refine x_aload_n C dX0_put_7 rfl ?_
    refine x_aload_n C dX0_put_8 rfl ?_
    refine x_iconst (v := 1) C dX0_put_9 (by decide) ?_
    refine kat (st := [.ref u]) R _ dX0_put_10 (by simp [Value.category]) ?_
    refine x_aload_n C dX0_put_13 rfl ?_
    refine x_iconst (v := 2) C dX0_put_14 (by decide) ?_
    refine kat (st := [_, .ref u]) R _ dX0_put_15 (by simp [Value.category]) ?_
    refine k_callR (kc := 0) (ks := 0) (mc' := 0) (ms' := 0) (st := []) C Y hW E.cs (u_putShort hX _ _) D md_X0_putShort wi_X0_putShort ws_X0_putShort wm_X0_43 dX0_put_18 rfl (by decide) (by decide) B rfl rfl (by decide) (fun r g hg => ?_)
    obtain ⟨⟨v, rfl⟩, Dg⟩ := hg
    exact x_iret C E dX0_put_21 (fun q e => by subst e; exact ⟨⟨_, rfl⟩, Dg⟩)
end Frames
end Bus
