/-! Decoder: reads; how much it makes is bounded by the frame's length. -/
def Bc (r : Nat) : Nat := 3 * ((r + 1) / 2)
def Bs (r : Nat) : Nat := 21 * ((r + 1) / 2) + r
section Dec
variable {w : Wd} {c : Nat → ClassId} {h h0 : PH} {li ra de p b ba n : Nat} {W : Nat → Prop} {f : Nat → Int32}
theorem d_reads (hX : Wx w c) (R : RW c h0 b ba f n) (o1 : W b) (o2 : W ba) (hb : HB f n) : T w gw yX1_reads cX1_reads 5 (some .boolean) 7 (40 * 7) (Bc (n - 21)) (Bs (n - 21)) [.ref de, .ref b] (fun h => ∃ κ, DK c li ra de h0 W κ h) (fun r g => (r = some (.int 1) ∨ r = some (.int 0)) ∧ ∃ a e, DQ c li ra de h0 W b a e g) := by
  have hW := hX.1
  refine TA.intro hW rfl (by decide +kernel) (Nat.le_of_ble_eq_true rfl) (fun z C Y E hn h D => ?_)
  obtain ⟨κ, D⟩ := D
  obtain ⟨fr, at_, en, fa, pl, mo, B, hm1⟩ := D.2.2.1
  have lde : li ≠ de := D.2.2.2.2.1.2.2.2.2.1
  refine x_aload_n C dX1_reads_0 rfl ?_
  refine x_aload_n C dX1_reads_1 rfl ?_
  refine e_put C Y kd_X1 1 (by decide) rfl wf_X1_28 dX1_reads_2 B (Nat.le_of_ble_eq_true rfl) rfl rfl rfl ?_
  refine x_aload_n C dX1_reads_5 rfl ?_
  refine x_iconst (v := 0) C dX1_reads_6 (by decide) ?_
  refine e_put C Y kd_X1 6 (by decide) rfl wf_X1_24 dX1_reads_7 (hs_self ..) (Nat.le_of_ble_eq_true rfl) (by decide) (by decide) (hs_hs ..) ?_
  refine x_aload_n C dX1_reads_10 rfl ?_
  refine u_callV (st := []) C Y hW E.cs (d_forget hW (hs_self ..)) md_X1_forgetFault wi_X1_forgetFault ws_X1_forgetFault wm_X1_36 dX1_reads_11 rfl (by decide) (by decide) (hs_self ..) rfl rfl (by decide) ?_
  rw [hs_hs]
  have Q : DQ c li ra de h0 W b at_ en (hs h de (.inr (1, [.ref li, .ref b, .int at_, .int en, .int 0, .int (-1), .int 0]))) := ⟨⟨κ, D.putD _ _ _ _ _ _ (Or.inl rfl)⟩, 0, -1, 0, hs_self .., Or.inl rfl⟩
  change X z _ _ (EQ (hs h de (.inr (1, [.ref li, .ref b, .int at_, .int en, .int 0, .int (-1), .int 0])))) _ _ _
  generalize hs h de (.inr (1, [.ref li, .ref b, .int at_, .int en, .int 0, .int (-1), .int 0])) = h1 at Q ⊢
  clear B D κ
  obtain ⟨⟨κ, D⟩, fa1, pl1, mo1, B, hm2⟩ := id Q
  obtain ⟨nb, nb1, nb2⟩ := D.1
  refine x_aload_n C dX1_reads_14 rfl ?_
  refine e_get C Y kd_X1 0 (by decide) wf_X1_32 dX1_reads_15 B rfl ?_
  refine u_callV (st := []) C Y hW E.cs (l_size hW nb2) md_X4_size wi_X4_size ws_X4_size wm_X1_39 dX1_reads_18 rfl (by decide) (by decide) nb2 rfl rfl (by decide) ?_
  refine o_istore_nE (L' := [some _, some _, some _, none, none]) C dX1_reads_21 (by rw [hn]; decide) rfl ?_
  -- the ends
  have Y104 : ∀ (kc ks : Nat) (g : PH) (aa ee x : Int32) (l4 : Option Value), (x = 1 ∨ x = 0) → DQ c li ra de h0 W b aa ee g → X z kc ks (EQ g) 104 [some (.ref de), some (.ref b), some (.int (nI nb)), some (.int x), l4] [] := fun kc ks g aa ee x l4 hx D => by
    refine x_iload_n C dX1_reads_104 rfl ?_
    rcases hx with rfl | rfl
    · exact x_zret C E dX1_reads_105 (by decide) (fun q e => by subst e; exact ⟨Or.inl rfl, _, _, D⟩)
    · exact x_zret C E dX1_reads_105 (by decide) (fun q e => by subst e; exact ⟨Or.inr rfl, _, _, D⟩)
  have Y92 : ∀ (kc ks : Nat) (g : PH) (aa ee x : Int32) (l4 : Option Value), (x = 1 ∨ x = 0) → DQ c li ra de h0 W b aa ee g → X z kc ks (EQ g) 92 [some (.ref de), some (.ref b), some (.int (nI nb)), some (.int x), l4] [] := fun kc ks g aa ee x l4 hx D => by
    refine x_iload_n C dX1_reads_92 rfl ?_
    refine x_if_ne (tgt := 104) C dX1_reads_93 (by decide) (fun _ => Y104 kc ks g aa ee x l4 hx D) (fun _ => ?_)
    obtain ⟨⟨κ, Dk⟩, fa, pl, mo, B, hm⟩ := id D
    obtain ⟨nn, nn1, nn2⟩ := Dk.1
    refine x_aload_n C dX1_reads_96 rfl ?_
    refine e_get C Y kd_X1 0 (by decide) wf_X1_32 dX1_reads_97 B rfl ?_
    refine x_iload_n C dX1_reads_100 rfl ?_
    refine k_callR (kc := kc) (ks := ks) (mc' := 0) (ms' := 0) (st := []) C Y hW E.cs (l_cut hW nn1 nn2 (nI nb)) rfl md_X4_cutTo wi_X4_cutTo ws_X4_cutTo wm_X1_58 dX1_reads_101 rfl (by decide) (by decide) nn2 rfl rfl (by decide) (fun r g2 hg => ?_)
    obtain ⟨rfl, mm, mm1, rfl⟩ := hg
    exact Y104 kc ks _ aa ee x l4 hx ⟨⟨κ, Dk.putL mm1⟩, fa, pl, mo, by rw [hs_ne (Ne.symm lde)]; exact B, hm⟩
  have N58 : ∀ (kc ks : Nat) (g : PH) (aa ee : Int32) (k : Nat), k ≤ 300 → DQ c li ra de h0 W b aa ee g → X z kc ks (EQ g) 58 [some (.ref de), some (.ref b), some (.int (nI nb)), some (.int 0), some (.int (nI k))] [] := fun kc ks g aa ee k hk D => by
    refine x_iload C dX1_reads_58 rfl ?_
    refine x_sipush (v := 300) C dX1_reads_60 (by decide) ?_
    refine x_icmp_ge (tgt := 92) C dX1_reads_63 (by decide) (fun _ => Y92 kc ks g aa ee 0 _ (Or.inr rfl) D) (fun _ => ?_)
    refine x_iload_n C dX1_reads_66 rfl ?_
    exact x_if_eq (tgt := 92) C dX1_reads_67 (by decide) (fun _ => Y92 kc ks g aa ee 0 _ (Or.inr rfl) D) (fun q => absurd rfl q)
  have N48 : ∀ (kc ks : Nat) (g : PH) (aa ee : Int32), DQ c li ra de h0 W b aa ee g → X z kc ks (EQ g) 47 [some (.ref de), some (.ref b), some (.int (nI nb)), none, none] [] := fun kc ks g aa ee D => by
    obtain ⟨-, fa, pl, mo, B, hm⟩ := id D
    refine x_iconst (v := 0) C dX1_reads_47 (by decide) ?_
    refine o_istore_nE (L' := [some _, some _, some _, some _, none]) C dX1_reads_48 (by rw [hn]; decide) rfl ?_
    refine x_aload_n C dX1_reads_49 rfl ?_
    refine x_bipush (v := 19) C dX1_reads_50 (by decide) ?_
    refine e_put C Y kd_X1 2 (by decide) rfl wf_X1_9 dX1_reads_52 B (Nat.le_of_ble_eq_true rfl) rfl rfl rfl ?_
    refine x_iconst (v := 0) C dX1_reads_55 (by decide) ?_
    refine o_istoreE (L' := [some _, some _, some _, some _, some _]) C dX1_reads_56 (by rw [hn]; decide) rfl ?_
    exact N58 kc ks _ 19 ee 0 (by decide) (D.set (fa := fa) (pl := pl) (mo := mo) 19 ee fa pl mo b hm)
  refine x_aload_n C dX1_reads_22 rfl ?_
  refine k_callR (kc := Bc (n - 21)) (ks := Bs (n - 21)) (mc' := 0) (ms' := 0) (st := []) C Y hW E.cs (d_frame hW R o1 o2) Q md_X1_frameIsWell wi_X1_frameIsWell ws_X1_frameIsWell wm_X1_45 dX1_reads_23 rfl (by decide) (by decide) B rfl rfl (by decide) (fun r g hg => ?_)
  rcases hg with ⟨rfl, n21, n258, Dg⟩ | ⟨rfl, aa, ee, Dg⟩
  rotate_left
  · refine x_if_eq (tgt := 47) C dX1_reads_26 (by decide) (fun _ => N48 _ _ _ _ _ Dg) (fun q => absurd rfl q)
  refine x_if_eq (tgt := 47) C dX1_reads_26 (by decide) (fun q => absurd q (by decide)) (fun _ => ?_)
  obtain ⟨-, fa2, pl2, mo2, B2, hm3⟩ := id Dg
  refine x_aload_n C dX1_reads_29 rfl ?_
  refine k_callR (kc := Bc (n - 21)) (ks := Bs (n - 21)) (mc' := 0) (ms' := 0) (st := []) C Y hW E.cs (d_sum hW R o1 o2 (show n - 2 ≤ 256 by omega)) Dg md_X1_sumIsWell wi_X1_sumIsWell ws_X1_sumIsWell wm_X1_49 dX1_reads_30 rfl (by decide) (by decide) B2 rfl rfl (by decide) (fun r g hg => ?_)
  obtain ⟨hr, Dg⟩ := hg
  rcases hr with rfl | rfl
  rotate_left
  · refine x_if_eq (tgt := 47) C dX1_reads_33 (by decide) (fun _ => N48 _ _ _ _ _ Dg) (fun q => absurd rfl q)
  refine x_if_eq (tgt := 47) C dX1_reads_33 (by decide) (fun q => absurd q (by decide)) (fun _ => ?_)
  obtain ⟨-, fa3, pl3, mo3, B3, hm4⟩ := id Dg
  refine x_aload_n C dX1_reads_36 rfl ?_
  refine k_callR (kc := Bc (n - 21)) (ks := Bs (n - 21)) (mc' := 0) (ms' := 0) (st := []) C Y hW E.cs (d_ident hX R o1 o2) Dg md_X1_identIsWell wi_X1_identIsWell ws_X1_identIsWell wm_X1_52 dX1_reads_37 rfl (by decide) (by decide) B3 rfl rfl (by decide) (fun r g hg => ?_)
  obtain ⟨hr, Dg⟩ := hg
  rcases hr with rfl | rfl
  rotate_left
  · refine x_if_eq (tgt := 47) C dX1_reads_40 (by decide) (fun _ => N48 _ _ _ _ _ Dg) (fun q => absurd rfl q)
  refine x_if_eq (tgt := 47) C dX1_reads_40 (by decide) (fun q => absurd q (by decide)) (fun _ => ?_)
  obtain ⟨-, fa4, pl4, mo4, B4, hm5⟩ := id Dg
  have LP : ∀ (r k i : Nat) (g : PH), k + r = 300 → i ≤ n - 2 → DQ c li ra de h0 W b (nI i) (nI (n - 2)) g → X z (Bc (n - 2 - i)) (Bs (n - 2 - i)) (EQ g) 58 [some (.ref de), some (.ref b), some (.int (nI nb)), some (.int 1), some (.int (nI k))] [] := by
    intro r
    induction r with
    | zero =>
      intro k i g hk hi D
      obtain rfl : k = 300 := by omega
      refine x_iload C dX1_reads_58 rfl ?_
      refine x_sipush (v := 300) C dX1_reads_60 (by decide) ?_
      exact x_icmp_ge (tgt := 92) C dX1_reads_63 (by decide) (fun _ => Y92 _ _ g _ _ 1 _ (Or.inl rfl) D) (fun q => absurd (Int32.le_refl _) q)
    | succ r ih =>
      intro k i g hk hi D
      obtain ⟨-, fa, pl, mo, B, hm⟩ := id D
      refine x_iload C dX1_reads_58 rfl ?_
      refine x_sipush (v := 300) C dX1_reads_60 (by decide) ?_
      refine x_icmp_ge (tgt := 92) C dX1_reads_63 (by decide) (fun _ => Y92 _ _ g _ _ 1 _ (Or.inl rfl) D) (fun _ => ?_)
      refine x_iload_n C dX1_reads_66 rfl ?_
      refine x_if_eq (tgt := 92) C dX1_reads_67 (by decide) (fun q => absurd q (by decide)) (fun _ => ?_)
      refine x_aload_n C dX1_reads_70 rfl ?_
      refine e_get C Y kd_X1 2 (by decide) wf_X1_9 dX1_reads_71 B rfl ?_
      refine x_aload_n C dX1_reads_74 rfl ?_
      refine e_get C Y kd_X1 3 (by decide) wf_X1_15 dX1_reads_75 B rfl ?_
      refine x_icmp_ge (tgt := 92) C dX1_reads_78 (by decide) (fun _ => Y92 _ _ g _ _ 1 _ (Or.inl rfl) D) (fun q78 => ?_)
      have him : i < n - 2 := (nI_ltI (by omega) (by omega)).mp (Int32.not_le.mp q78)
      refine x_aload_n C dX1_reads_81 rfl ?_
      have back : ∀ (kc ks lo : Nat) (rr : Option Value) (g2 : PH), RQ c li ra de h0 W b lo (n - 2) rr g2 → (∀ i', lo ≤ i' → i' ≤ n - 2 → Bc (n - 2 - i') ≤ kc ∧ Bs (n - 2 - i') ≤ ks) → X z kc ks (EQ g2) 85 [some (.ref de), some (.ref b), some (.int (nI nb)), some (.int 1), some (.int (nI k))] (rr.toList ++ []) := fun kc ks lo rr g2 hr hk2 => by
        rcases hr with ⟨rfl, i', j1, j2, Dg⟩ | ⟨rfl, aa, Dg⟩
        · refine o_istore_nE (L' := [some _, some _, some _, some _, some _]) C dX1_reads_85 (by rw [hn]; decide) rfl ?_
          refine o_iincE (v := nI (k + 1)) (L' := [some _, some _, some _, some _, some _]) C dX1_reads_86 rfl (nI_1 k) (by rw [hn]; decide) rfl ?_
          refine x_goto (tgt := 58) C dX1_reads_89 (by decide) ?_
          exact (ih (k + 1) i' g2 (by omega) j2 Dg).room (hk2 i' j1 j2).1 (hk2 i' j1 j2).2
        · refine o_istore_nE (L' := [some _, some _, some _, some _, some _]) C dX1_reads_85 (by rw [hn]; decide) rfl ?_
          refine o_iincE (v := nI (k + 1)) (L' := [some _, some _, some _, some _, some _]) C dX1_reads_86 rfl (nI_1 k) (by rw [hn]; decide) rfl ?_
          refine x_goto (tgt := 58) C dX1_reads_89 (by decide) ?_
          exact N58 kc ks g2 aa _ (k + 1) (by omega) Dg
      by_cases hv : f i = 47 ∨ f i = 31
      · refine k_callR (kc := Bc (n - 2 - i)) (ks := Bs (n - 2 - i)) (mc' := 0) (ms' := 0) (st := []) C Y hW E.cs (d_item0 hX R o1 o2 him (by omega) (by omega) hv) D md_X1_readItem wi_X1_readItem ws_X1_readItem wm_X1_55 dX1_reads_82 rfl (by decide) (by decide) B rfl rfl (by decide) (fun rr g2 hg => back _ _ _ rr g2 hg (fun i' a1 a2 => ?_))
        unfold Bc Bs
        omega
      · have hv' : ¬ f i = 47 ∧ ¬ f i = 31 := ⟨fun q => hv (Or.inl q), fun q => hv (Or.inr q)⟩
        have vp := vpos_ge f i
        have cost : 3 ≤ Bc (n - 2 - i) ∧ 21 + itx f i (n - 2) ≤ Bs (n - 2 - i) := by
          unfold Bc Bs itx
          split <;> omega
        refine X.room (kc' := (Bc (n - 2 - i) - 3) + 3) (ks' := (Bs (n - 2 - i) - (21 + itx f i (n - 2))) + (21 + itx f i (n - 2))) ?_ (by omega) (by omega)
        refine k_callR (kc := Bc (n - 2 - i) - 3) (ks := Bs (n - 2 - i) - (21 + itx f i (n - 2))) (st := []) C Y hW E.cs (d_item hX R o1 o2 hb him (by omega) (by omega) hv') D md_X1_readItem wi_X1_readItem ws_X1_readItem wm_X1_55 dX1_reads_82 rfl (by decide) (by decide) B rfl rfl (by decide) (fun rr g2 hg => back _ _ _ rr g2 hg (fun i' a1 a2 => ?_))
        unfold ilo at a1
        unfold itx Bc Bs at *
        by_cases e15 : f i = 15
        · rw [if_pos e15] at a1 cost ⊢
          omega
        · rw [if_neg e15] at a1 cost ⊢
          omega
  refine x_iconst (v := 1) C dX1_reads_43 (by decide) ?_
  refine x_goto (tgt := 48) C dX1_reads_44 (by decide) ?_
  refine o_istore_nE (L' := [some _, some _, some _, some _, none]) C dX1_reads_48 (by rw [hn]; decide) rfl ?_
  refine x_aload_n C dX1_reads_49 rfl ?_
  refine x_bipush (v := 19) C dX1_reads_50 (by decide) ?_
  refine e_put C Y kd_X1 2 (by decide) rfl wf_X1_9 dX1_reads_52 B4 (Nat.le_of_ble_eq_true rfl) rfl rfl rfl ?_
  refine x_iconst (v := 0) C dX1_reads_55 (by decide) ?_
  refine o_istoreE (L' := [some _, some _, some _, some _, some _]) C dX1_reads_56 (by rw [hn]; decide) rfl ?_
  exact (LP 300 0 19 _ rfl (by omega) (Dg.set (fa := fa4) (pl := pl4) (mo := mo4) (nI 19) _ _ _ _ b hm5)).room (by rw [show n - 2 - 19 = n - 21 by omega]; exact Nat.le_refl _) (by rw [show n - 2 - 19 = n - 21 by omega]; exact Nat.le_refl _)
end Dec
