/-! The law's body from its entry. -/
section Law
variable {w : Wd} {c : Nat → ClassId} {z : Fx} {b : Nat} {xs : Nat → Int32} {a : Nat → Nat} {o : Nat} {ad : Nat → Nat} {u : Nat} {h : PH}
theorem out16 {x : Int32} (g : ¬ ((0 : Int32) ≤ x ∧ x ≤ 16)) : x.toInt < 0 ∨ 16 < x.toInt := by
  rw [Int32.le_iff_toInt_le, Int32.le_iff_toInt_le] at g
  have e0 : (0 : Int32).toInt = 0 := by decide
  have e5 : (16 : Int32).toInt = 16 := by decide
  rw [e0, e5] at g
  omega
theorem law_end (C : Cx z RL code gw) (hz : LZ z b) {kc ks : Nat} {A : PH → Prop} {L : List (Option Value)} : X z kc ks A 999 L [] := x_iconst (v := 1) C dL_law_999 (by decide) (w_ret C hz dL_law_1000)
theorem law_one (Q : LC w c z b xs a o ad u h) : X z 6 194 (EQ h) 33 [some (.ref b), some (.ref (a 0)), some (.ref o), some (.ref u), some (.int 0), none, none, none] [] := by
  have Q' := Q
  obtain ⟨hX, C, E, hz, S, I, K⟩ := Q'
  refine x_aload_n C dL_law_33 rfl ?_
  refine x_iload C dL_law_34 rfl ?_
  refine w_sld C hz S dL_law_36 (vp_in_nI (n := 0) (N := 7) (by decide) (by decide)) ?_
  refine x_bipush (v := 31) C dL_law_37 (by decide) ?_
  refine x_iand C dL_law_39 ?_
  generalize xs (0 : Int32).toNatClampNeg &&& 31 = v
  by_cases g : (0 : Int32) ≤ v ∧ v ≤ 16
  · obtain ⟨j, hj, rfl⟩ := nI_of (Int32.not_lt.mpr g.1)
    have hj2 : j ≤ 16 := Nat.le_of_not_lt (fun q => absurd (nI_lt q hj) (Int32.not_lt.mpr g.2))
    rcases (show j = 0 ∨ j = 1 ∨ j = 2 ∨ j = 3 ∨ j = 4 ∨ j = 5 ∨ j = 6 ∨ j = 7 ∨ j = 8 ∨ j = 9 ∨ j = 10 ∨ j = 11 ∨ j = 12 ∨ j = 13 ∨ j = 14 ∨ j = 15 ∨ j = 16 by omega) with rfl | rfl | rfl | rfl | rfl | rfl | rfl | rfl | rfl | rfl | rfl | rfl | rfl | rfl | rfl | rfl | rfl
    · exact x_tblIn (tgt := 124) (off := 84) C dL_law_40 (by decide) (by decide) (by decide) (by decide) (c_type Q)
    · exact x_tblIn (tgt := 224) (off := 184) C dL_law_40 (by decide) (by decide) (by decide) (by decide) (c_keep Q)
    · exact x_tblIn (tgt := 260) (off := 220) C dL_law_40 (by decide) (by decide) (by decide) (by decide) (c_typed Q)
    · exact x_tblIn (tgt := 316) (off := 276) C dL_law_40 (by decide) (by decide) (by decide) (by decide) (c_meter Q)
    · exact x_tblIn (tgt := 414) (off := 374) C dL_law_40 (by decide) (by decide) (by decide) (by decide) (c_remove Q)
    · exact x_tblIn (tgt := 477) (off := 437) C dL_law_40 (by decide) (by decide) (by decide) (by decide) (c_page Q)
    · exact x_tblIn (tgt := 545) (off := 505) C dL_law_40 (by decide) (by decide) (by decide) (by decide) (c_state Q)
    · exact x_tblIn (tgt := 613) (off := 573) C dL_law_40 (by decide) (by decide) (by decide) (by decide) (c_send Q)
    · exact x_tblIn (tgt := 626) (off := 586) C dL_law_40 (by decide) (by decide) (by decide) (by decide) (c_search Q)
    · exact x_tblIn (tgt := 639) (off := 599) C dL_law_40 (by decide) (by decide) (by decide) (by decide) (c_found Q)
    · exact x_tblIn (tgt := 707) (off := 667) C dL_law_40 (by decide) (by decide) (by decide) (by decide) (c_readOut Q)
    · exact x_tblIn (tgt := 763) (off := 723) C dL_law_40 (by decide) (by decide) (by decide) (by decide) (c_decode Q)
    · exact x_tblIn (tgt := 776) (off := 736) C dL_law_40 (by decide) (by decide) (by decide) (by decide) (c_place Q)
    · exact x_tblIn (tgt := 789) (off := 749) C dL_law_40 (by decide) (by decide) (by decide) (by decide) (c_clear Q)
    · exact x_tblIn (tgt := 802) (off := 762) C dL_law_40 (by decide) (by decide) (by decide) (by decide) (c_record Q)
    · exact x_tblIn (tgt := 869) (off := 829) C dL_law_40 (by decide) (by decide) (by decide) (by decide) (c_text Q)
    · exact x_tblIn (tgt := 937) (off := 897) C dL_law_40 (by decide) (by decide) (by decide) (by decide) (c_count Q)
  · exact x_tblOut (tgt := 993) C dL_law_40 (out16 g) (by decide) ((K _ _ _ _).room (Nat.zero_le _) (Nat.zero_le _))
theorem law_head (hX : Wx w c) (C : Cx z RL code gw) (E : Cs z w 2048 84000) (hz : LZ z b) {L : Nat} (hL : L ≤ 7) (S : va_X b L xs z.s z.s.heap) (I : LI c a o ad u h) : X z 6 194 (EQ h) 23 [some (.ref b), some (.ref (a 0)), some (.ref o), some (.ref u), some (.int 0), none, none, none] [] := by
  have hn : z.nL = 8 := hz.2.2.2.1
  refine x_iload C dL_law_23 rfl ?_
  refine x_aload_n C dL_law_25 rfl ?_
  refine w_slen C hz S dL_law_26 ?_
  refine x_bipush (v := 7) C dL_law_27 (by decide) ?_
  refine x_isub C dL_law_29 ?_
  refine x_icmp_gt (tgt := 999) C dL_law_30 (by decide) (fun _ => law_end C hz) (fun c30 => ?_)
  have h7 : L = 7 := by
    rcases (show L = 0 ∨ L = 1 ∨ L = 2 ∨ L = 3 ∨ L = 4 ∨ L = 5 ∨ L = 6 ∨ L = 7 by omega) with rfl | rfl | rfl | rfl | rfl | rfl | rfl | rfl
    all_goals first | rfl | exact absurd (by decide) c30
  subst h7
  refine law_one ⟨hX, C, E, hz, S, I, fun A l5 l6 l7 => ?_⟩
  refine o_iincE (v := 7) (L' := [some _, some _, some _, some _, some _, l5, l6, l7]) C dL_law_993 rfl (by decide) (by rw [hn]; decide) rfl ?_
  refine x_goto (tgt := 23) C dL_law_996 (by decide) ?_
  refine x_iload C dL_law_23 rfl ?_
  refine x_aload_n C dL_law_25 rfl ?_
  refine w_slen C hz S dL_law_26 ?_
  refine x_bipush (v := 7) C dL_law_27 (by decide) ?_
  refine x_isub C dL_law_29 ?_
  exact x_icmp_gt (tgt := 999) C dL_law_30 (by decide) (fun _ => law_end C hz) (fun c30 => absurd (by decide) c30)
theorem law_start (hX : Wx w c) (C : Cx z RL code gw) (E : Cs z w 2048 84000) (hz : LZ z b) {L : Nat} (hL : L ≤ 7) (S : va_X b L xs z.s z.s.heap) (h0 : PH) : X z 46 33370 (EQ h0) 0 [some (.ref b), none, none, none, none, none, none, none] [] := by
  have hn : z.nL = 8 := hz.2.2.2.1
  have Y := Cty.of hX.1 E
  obtain ⟨t0, ht0⟩ := hX.1.2.2.1
  obtain ⟨t1, ht1⟩ := hX.1.2.2.2.1
  obtain ⟨t2, ht2⟩ := hX.1.2.2.2.2
  refine e_new (kc := 45) (ks := 33364) (N := 6) C Y kd_X6 wc_L_8 wn_X6 wz_X6 dL_law_0 (fs := [.null, .null, .null, .null, .null, .int 0]) (fun j hj => by rcases (show j = 0 ∨ j = 1 ∨ j = 2 ∨ j = 3 ∨ j = 4 ∨ j = 5 by omega) with rfl | rfl | rfl | rfl | rfl | rfl <;> rfl) (fun x hx => ?_)
  have h1 := (HL.nil h0).new hx (.inr (6, [.null, .null, .null, .null, .null, .int 0]))
  refine x_dup C dL_law_3 rfl ?_
  refine X.heap (A' := HL _) ?_ (fun g e => by subst e; exact h1)
  refine k_callI (kc := 35) (ks := 32622) (st := [.ref x]) C E hX.1.1 gw_good (n_mb hX) md_X6_init rfl wi_X6_init wm_L_58 dL_law_4 rfl (by decide) (by decide) rfl (by simp [Value.category]) (fun r => X.opn (fun g hB => ?_))
  obtain ⟨rfl, a, ea, hF0⟩ := hB
  subst ea
  have hF : FR c a g := by
    rw [List.append_nil] at hF0
    exact hF0
  refine o_astore_nE (L' := [some _, some _, none, none, none, none, none, none]) C dL_law_7 (by rw [hn]; decide) rfl ?_
  refine e_new (kc := 34) (ks := 32580) (N := 42) C Y kd_X7 wc_L_59 wn_X7 wz_X7 dL_law_8 (fs := i_fs (fun _ => 0) 0 0) (by decide +kernel) (fun o ho => ?_)
  refine x_dup C dL_law_11 rfl ?_
  refine k_callI (kc := 7) (ks := 195) (st := [.ref o]) C E hX.1.1 gw_good (s_init hX.1.1 hX.1.2.1 ht0 ht1 ht2 (hs_self ..) rfl) md_X7_init rfl wi_X7_init wm_L_61 dL_law_12 rfl (by decide) (by decide) rfl (by simp [Value.category]) (fun r => X.opn (fun g2 hB => ?_))
  obtain ⟨rfl, ad, hok, hfr, hM⟩ := hB
  refine o_astore_nE (L' := [some _, some _, some _, none, none, none, none, none]) C dL_law_15 (by rw [hn]; decide) rfl ?_
  refine x_iconst (v := 1) C dL_law_16 (by decide) ?_
  refine e_newl (kc := 6) (ks := 194) (N := 1) C Y dL_law_17 (by decide) (by decide) (by decide) (fun u hu => ?_)
  refine o_astore_nE (L' := [some _, some _, some _, some _, none, none, none, none]) C dL_law_19 (by rw [hn]; decide) rfl ?_
  refine x_iconst (v := 0) C dL_law_20 (by decide) ?_
  refine o_istoreE (L' := [some _, some _, some _, some _, some _, none, none, none]) C dL_law_21 (by rw [hn]; decide) rfl ?_
  have old : ∀ q e, g q = some e → q ≠ o ∧ (∀ k, m_kd k ≠ 0 → q ≠ ad k) ∧ q ≠ u ∧ hs g2 u (.inl (c 1, 1, .inr (.inl (fun _ => 0)))) q = some e := fun q e hq => by
    have n1 : q ≠ o := fun e1 => by rw [e1, ho] at hq; exact nomatch hq
    have n2 : ∀ k, m_kd k ≠ 0 → q ≠ ad k := fun k hk e1 => by
      have := hfr k hk
      rw [← e1, hs_ne n1, hq] at this
      exact nomatch this
    have e2 : g2 q = some e := by
      rw [hM.2.2 q n1 n2]
      show hs g o _ q = some e
      rw [hs_ne n1]
      exact hq
    have n3 : q ≠ u := fun e1 => by rw [e1, hu] at e2; exact nomatch e2
    exact ⟨n1, n2, n3, by rw [hs_ne n3]; exact e2⟩
  have go : g2 o = some (.inr (7, m_fs ad Z0)) := hM.1
  have nuo : u ≠ o := fun e1 => by rw [← e1, hu] at go; exact nomatch go
  have nad : ∀ k, m_kd k ≠ 0 → ad k ≠ u := fun k hk e1 => by
    have := hM.2.1 k hk
    have e2 : g2 (ad k) = some (m_cell c Z0 k) := this
    rw [e1, hu] at e2
    exact nomatch e2
  have hcl : ∀ i, i < 11 → ∃ e, g (a i) = some e := fun i hi => by
    rcases (show i = 0 ∨ i = 1 ∨ i = 2 ∨ i = 3 ∨ i = 4 ∨ i = 5 ∨ i = 6 ∨ i = 7 ∨ i = 8 ∨ i = 9 ∨ i = 10 by omega) with rfl | rfl | rfl | rfl | rfl | rfl | rfl | rfl | rfl | rfl | rfl
    · exact ⟨_, HL.at hF 10 rfl⟩
    · exact ⟨_, HL.at hF 9 rfl⟩
    · exact ⟨_, HL.at hF 8 rfl⟩
    · exact ⟨_, HL.at hF 7 rfl⟩
    · exact ⟨_, HL.at hF 6 rfl⟩
    · exact ⟨_, HL.at hF 5 rfl⟩
    · exact ⟨_, HL.at hF 4 rfl⟩
    · exact ⟨_, HL.at hF 3 rfl⟩
    · exact ⟨_, HL.at hF 2 rfl⟩
    · exact ⟨_, HL.at hF 1 rfl⟩
    · exact ⟨_, HL.at hF 0 rfl⟩
  refine law_head hX C E hz hL S ⟨⟨fun p hp => (old p.1 p.2 (hF.1 p hp)).2.2.2, hF.2⟩, hs_self .., ⟨?_, fun k hk => ?_, fun _ _ _ => rfl⟩, hok, fun i hi => ?_, nuo, nad⟩
  · show hs g2 u _ o = _
    rw [hs_ne (Ne.symm nuo)]
    exact go
  · show hs g2 u _ (ad k) = _
    rw [hs_ne (nad k hk)]
    exact hM.2.1 k hk
  · obtain ⟨e, he⟩ := hcl i hi
    obtain ⟨q1, q2, q3, -⟩ := old (a i) e he
    exact ⟨Ne.symm q3, Ne.symm q1, fun k hk => Ne.symm (q2 k hk)⟩
end Law
