/-! The law from its entry: its loop. -/
section Init
variable {c : Nat → ClassId} {a : Nat → Nat} {V : Nat → Prop} {h : PH}
theorem ZZ.init (F : FR c a h) (hV : ∀ q, V q → (∀ i, i ≤ 10 → q ≠ a i) ∧ h q ≠ none) : ZZ c a h V (fun _ => 0) (fun _ => none) (fun _ => 0) (fun _ => 0) h := by
  have ad : ∀ i j, i ≤ 10 → j ≤ 10 → a i = a j → i = j := fun i j hi hj e => by
    have g : ∀ k, k ≤ 10 → ((clsL c a).map Prod.fst)[10 - k]? = some (a k) := fun k hk => by
      rcases (show k = 0 ∨ k = 1 ∨ k = 2 ∨ k = 3 ∨ k = 4 ∨ k = 5 ∨ k = 6 ∨ k = 7 ∨ k = 8 ∨ k = 9 ∨ k = 10 by omega) with rfl | rfl | rfl | rfl | rfl | rfl | rfl | rfl | rfl | rfl | rfl <;> rfl
    have := HL.inj F (g i hi) (by rw [e]; exact g j hj)
    omega
  have ne : ∀ i j, i ≤ 10 → j ≤ 10 → i ≠ j → a i ≠ a j := fun i j hi hj n e => n (ad i j hi hj e)
  have nb : HB (fun _ => 0) 0 := fun j hj => absurd hj (Nat.not_lt_zero j)
  refine ⟨⟨0, by omega, F.x⟩, ⟨_, 0, F.buf, nb⟩, ⟨_, HL.at F 0 rfl⟩, ⟨0, by omega, ⟨0, 0, F.bus.1⟩, F.bus.2, (fun k m e => nomatch e), ⟨_, F.ans, nb⟩, fun q => trivial, ⟨rfl, rfl, rfl, rfl, ne 3 4 (by omega) (by omega) (by omega), ne 3 5 (by omega) (by omega) (by omega), ne 3 6 (by omega) (by omega) (by omega), ne 4 5 (by omega) (by omega) (by omega), ne 4 6 (by omega) (by omega) (by omega)⟩, fun q hq => hq.elim⟩, ⟨⟨0, by omega, F.lst⟩, ⟨_, HL.at F 2 rfl, (fun j p e => nomatch e)⟩, ⟨_, _, _, _, _, _, F.dec, Or.inl rfl⟩, fun q => trivial, ⟨rfl, rfl, rfl, ne 7 8 (by omega) (by omega) (by omega), ne 7 9 (by omega) (by omega) (by omega), ne 8 9 (by omega) (by omega) (by omega)⟩, fun q hq => hq.elim⟩, fun q n => rfl, fun i hi => ⟨rfl, rfl⟩, ad, fun q hq => ⟨rfl, rfl, (hV q hq).1, (hV q hq).2, rfl⟩⟩
theorem RK.init : RK (fun _ => none) (fun _ => 0) Z0 := fun k _ => Or.inl ⟨rfl, rfl⟩
theorem ZI.init (F : FR c a h) (hV : ∀ q, V q → (∀ i, i ≤ 10 → q ≠ a i) ∧ h q ≠ none) : ZI c a h V (fun _ => 0) (fun _ => none) (fun _ => 0) (fun _ => 0) (fun _ => 0) (fun _ => 0) Z0 h := by
  refine ⟨ZZ.init F hV, RK.init, ⟨MH.init.1.mi.2.1, MH.init.1.mi.1⟩, ⟨fun q hq => absurd rfl hq, fun k _ m e => nomatch e⟩, F.bus.1, ⟨_, 0, F.buf, rfl, fun j hj => absurd hj (Nat.not_lt_zero j)⟩, ⟨0, _, F.x, rfl, by omega, HL.at F 0 rfl, fun k hk => absurd hk (Nat.not_lt_zero k)⟩, ⟨fun q hq => absurd rfl hq, 0, fun _ => none, F.lst, rfl, by omega, HL.at F 2 rfl, (fun i p _ e => nomatch e), fun i hi => absurd hi (Nat.not_lt_zero i), fun i hi => absurd hi (Nat.not_lt_zero i)⟩⟩
end Init
section Law
variable {w : Wd} {c : Nat → ClassId} {z : Fx} {b L : Nat} {xs : Nat → Int32} {a : Nat → Nat} {o : Nat} {ad : Nat → Nat} {u t kc ks : Nat} {h : PH} {l5 l6 l7 : Option Value}
theorem out16 {x : Int32} (g : ¬ ((0 : Int32) ≤ x ∧ x ≤ 16)) : x.toInt < 0 ∨ 16 < x.toInt := by
  rw [Int32.le_iff_toInt_le, Int32.le_iff_toInt_le] at g
  have e0 : (0 : Int32).toInt = 0 := by decide
  have e5 : (16 : Int32).toInt = 16 := by decide
  rw [e0, e5] at g
  omega
theorem law_end (C : Cx z RL code gw) (hz : LZ z b) {kc ks : Nat} {A : PH → Prop} {L : List (Option Value)} : X z kc ks A 691 L [] := x_iconst (v := 1) C dL_law_691 (by decide) (w_ret C hz dL_law_692)
theorem law_one (Q : LC5 w c z b L xs a o ad u t kc ks h) : X z (kc + 1050) (ks + 8040) (EQ h) 33 [some (.ref b), some (.ref (a 0)), some (.ref o), some (.ref u), some (.int (nI (7 * t))), l5, l6, l7] [] := by
  have Q' := Q
  obtain ⟨hX, C, E, hz, S, ⟨tL, L3⟩, I, K⟩ := Q'
  refine x_aload_n C dL_law_33 rfl ?_
  refine x_iload C dL_law_34 rfl ?_
  refine w_sld C hz S dL_law_36 (vp_in_nI (show 7 * t < L by omega) (by omega)) ?_
  refine x_bipush (v := 31) C dL_law_37 (by decide) ?_
  refine x_iand C dL_law_39 ?_
  generalize xs (nI (7 * t)).toNatClampNeg &&& 31 = v
  by_cases g : (0 : Int32) ≤ v ∧ v ≤ 16
  · obtain ⟨j, hj, rfl⟩ := nI_of (Int32.not_lt.mpr g.1)
    have hj2 : j ≤ 16 := Nat.le_of_not_lt (fun q => absurd (nI_lt q hj) (Int32.not_lt.mpr g.2))
    rcases (show j = 0 ∨ j = 1 ∨ j = 2 ∨ j = 3 ∨ j = 4 ∨ j = 5 ∨ j = 6 ∨ j = 7 ∨ j = 8 ∨ j = 9 ∨ j = 10 ∨ j = 11 ∨ j = 12 ∨ j = 13 ∨ j = 14 ∨ j = 15 ∨ j = 16 by omega) with rfl | rfl | rfl | rfl | rfl | rfl | rfl | rfl | rfl | rfl | rfl | rfl | rfl | rfl | rfl | rfl | rfl
    · exact x_tblIn (tgt := 124) (off := 84) C dL_law_40 (by decide) (by decide) (by decide) (by decide) (c6_type Q)
    · exact x_tblIn (tgt := 196) (off := 156) C dL_law_40 (by decide) (by decide) (by decide) (by decide) (c6_keep Q)
    · exact x_tblIn (tgt := 221) (off := 181) C dL_law_40 (by decide) (by decide) (by decide) (by decide) (c6_typed Q)
    · exact x_tblIn (tgt := 249) (off := 209) C dL_law_40 (by decide) (by decide) (by decide) (by decide) (c6_meter Q)
    · exact x_tblIn (tgt := 336) (off := 296) C dL_law_40 (by decide) (by decide) (by decide) (by decide) (c6_remove Q)
    · exact x_tblIn (tgt := 364) (off := 324) C dL_law_40 (by decide) (by decide) (by decide) (by decide) (c6_page Q)
    · exact x_tblIn (tgt := 404) (off := 364) C dL_law_40 (by decide) (by decide) (by decide) (by decide) (c6_state Q)
    · exact x_tblIn (tgt := 444) (off := 404) C dL_law_40 (by decide) (by decide) (by decide) (by decide) (c6_send Q)
    · exact x_tblIn (tgt := 457) (off := 417) C dL_law_40 (by decide) (by decide) (by decide) (by decide) (c6_search Q)
    · exact x_tblIn (tgt := 470) (off := 430) C dL_law_40 (by decide) (by decide) (by decide) (by decide) (c6_found Q)
    · exact x_tblIn (tgt := 510) (off := 470) C dL_law_40 (by decide) (by decide) (by decide) (by decide) (c6_readOut Q)
    · exact x_tblIn (tgt := 538) (off := 498) C dL_law_40 (by decide) (by decide) (by decide) (by decide) (c6_decode Q)
    · exact x_tblIn (tgt := 551) (off := 511) C dL_law_40 (by decide) (by decide) (by decide) (by decide) (c6_place Q)
    · exact x_tblIn (tgt := 564) (off := 524) C dL_law_40 (by decide) (by decide) (by decide) (by decide) (c6_clear Q)
    · exact x_tblIn (tgt := 577) (off := 537) C dL_law_40 (by decide) (by decide) (by decide) (by decide) (c6_record Q)
    · exact x_tblIn (tgt := 617) (off := 577) C dL_law_40 (by decide) (by decide) (by decide) (by decide) (c6_text Q)
    · exact x_tblIn (tgt := 657) (off := 617) C dL_law_40 (by decide) (by decide) (by decide) (by decide) (c6_count Q)
  · exact x_tblOut (tgt := 685) C dL_law_40 (out16 g) (by decide) ((K _ _ _ _ I).room (by omega) (by omega))
theorem law_cmp (hL : L ≤ 3584) (ht : t ≤ 600) : nI L - 7 < nI (7 * t) ↔ L < 7 * t + 7 := by
  by_cases q : 7 ≤ L
  · rw [show nI L - 7 = nI (L - 7) from nI_sub' q, nI_ltI (by omega) (by omega)]
    omega
  · refine ⟨fun _ => by omega, fun _ => Int32.lt_of_lt_of_le (b := 0) ?_ (nI_pos' (by omega))⟩
    rcases (show L = 0 ∨ L = 1 ∨ L = 2 ∨ L = 3 ∨ L = 4 ∨ L = 5 ∨ L = 6 by omega) with rfl | rfl | rfl | rfl | rfl | rfl | rfl <;> decide
theorem law_loop (hX : Wx w c) (C : Cx z RL code gw) (E : Cs z w 2048 84000) (hz : LZ z b) (hL : L ≤ 3584) (S : va_X b L xs z.s z.s.heap) : ∀ (r t : Nat) (h : PH) (l5 l6 l7 : Option Value), L ≤ 7 * (t + r) + 6 → t + r ≤ 512 → LJ c a o ad u h → X z (1050 * r) (8040 * r) (EQ h) 23 [some (.ref b), some (.ref (a 0)), some (.ref o), some (.ref u), some (.int (nI (7 * t))), l5, l6, l7] [] := by
  have hn : z.nL = 8 := hz.2.2.2.1
  intro r
  induction r with
  | zero =>
    intro t h l5 l6 l7 h1 h2 I
    refine x_iload C dL_law_23 rfl ?_
    refine x_aload_n C dL_law_25 rfl ?_
    refine w_slen C hz S dL_law_26 ?_
    refine x_bipush (v := 7) C dL_law_27 (by decide) ?_
    refine x_isub C dL_law_29 ?_
    exact x_icmp_gt (tgt := 691) C dL_law_30 (by decide) (fun _ => law_end C hz) (fun c30 => absurd ((law_cmp hL (by omega)).mpr (by omega)) c30)
  | succ r ih =>
    intro t h l5 l6 l7 h1 h2 I
    refine x_iload C dL_law_23 rfl ?_
    refine x_aload_n C dL_law_25 rfl ?_
    refine w_slen C hz S dL_law_26 ?_
    refine x_bipush (v := 7) C dL_law_27 (by decide) ?_
    refine x_isub C dL_law_29 ?_
    refine x_icmp_gt (tgt := 691) C dL_law_30 (by decide) (fun _ => law_end C hz) (fun c30 => ?_)
    have tL : 7 * t + 7 ≤ L := Nat.le_of_not_lt (fun q => c30 ((law_cmp hL (by omega)).mpr q))
    refine law_one (kc := 1050 * r) (ks := 8040 * r) ⟨hX, C, E, hz, S, ⟨tL, hL⟩, I, fun g l5 l6 l7 Ig => ?_⟩
    refine o_iincE (v := nI (7 * (t + 1))) (L' := [some _, some _, some _, some _, some _, l5, l6, l7]) C dL_law_685 rfl (by rw [show (Int32.ofInt 7) = nI 7 from rfl, nI_add]; exact congrArg nI (by omega)) (by rw [hn]; decide) rfl ?_
    refine x_goto (tgt := 23) C dL_law_688 (by decide) ?_
    exact ih (t + 1) g l5 l6 l7 (by omega) (by omega) Ig
theorem law_start (hX : Wx w c) (C : Cx z RL code gw) (E : Cs z w 2048 84000) (hz : LZ z b) (hL : L ≤ 3584) (S : va_X b L xs z.s z.s.heap) (h0 : PH) : X z 537640 4149656 (EQ h0) 0 [some (.ref b), none, none, none, none, none, none, none] [] := by
  have hn : z.nL = 8 := hz.2.2.2.1
  have Y := Cty.of hX.1 E
  obtain ⟨t0, ht0⟩ := hX.1.2.2.1
  obtain ⟨t1, ht1⟩ := hX.1.2.2.2.1
  obtain ⟨t2, ht2⟩ := hX.1.2.2.2.2
  refine e_new (kc := 537639) (ks := 4149650) (N := 6) C Y kd_X6 wc_L_8 wn_X6 wz_X6 dL_law_0 (fs := [.null, .null, .null, .null, .null, .int 0]) (fun j hj => by rcases (show j = 0 ∨ j = 1 ∨ j = 2 ∨ j = 3 ∨ j = 4 ∨ j = 5 by omega) with rfl | rfl | rfl | rfl | rfl | rfl <;> rfl) (fun x hx => ?_)
  have h1 := (HL.nil h0).new hx (.inr (6, [.null, .null, .null, .null, .null, .int 0]))
  refine x_dup C dL_law_3 rfl ?_
  refine X.heap (A' := HL _) ?_ (fun g e => by subst e; exact h1)
  refine k_callI (kc := 537629) (ks := 4148908) (st := [.ref x]) C E hX.1.1 gw_good (n_mb hX) md_X6_init rfl wi_X6_init wm_L_58 dL_law_4 rfl (by decide) (by decide) rfl (by simp [Value.category]) (fun r => X.opn (fun g hB => ?_))
  obtain ⟨rfl, a, ea, hF0⟩ := hB
  subst ea
  have hF : FR c a g := by
    rw [List.append_nil] at hF0
    exact hF0
  refine o_astore_nE (L' := [some _, some _, none, none, none, none, none, none]) C dL_law_7 (by rw [hn]; decide) rfl ?_
  refine e_new (kc := 537628) (ks := 4148866) (N := 42) C Y kd_X7 wc_L_59 wn_X7 wz_X7 dL_law_8 (fs := i_fs (fun _ => 0) 0 0) (by decide +kernel) (fun o ho => ?_)
  refine x_dup C dL_law_11 rfl ?_
  refine k_callI (kc := 537601) (ks := 4116481) (st := [.ref o]) C E hX.1.1 gw_good (s_init hX.1.1 hX.1.2.1 ht0 ht1 ht2 (hs_self ..) rfl) md_X7_init rfl wi_X7_init wm_L_61 dL_law_12 rfl (by decide) (by decide) rfl (by simp [Value.category]) (fun r => X.opn (fun g2 hB => ?_))
  obtain ⟨rfl, ad, hok, hfr, hM⟩ := hB
  refine o_astore_nE (L' := [some _, some _, some _, none, none, none, none, none]) C dL_law_15 (by rw [hn]; decide) rfl ?_
  refine x_iconst (v := 1) C dL_law_16 (by decide) ?_
  refine e_newl (kc := 537600) (ks := 4116480) (N := 1) C Y dL_law_17 (by decide) (by decide) (by decide) (fun u hu => ?_)
  refine o_astore_nE (L' := [some _, some _, some _, some _, none, none, none, none]) C dL_law_19 (by rw [hn]; decide) rfl ?_
  refine x_iconst (v := nI (7 * 0)) C dL_law_20 (by decide) ?_
  refine o_istoreE (L' := [some _, some _, some _, some _, some _, none, none, none]) C dL_law_21 (by rw [hn]; decide) rfl ?_
  have old : ∀ q e, g q = some e → q ≠ o ∧ (∀ k, m_kd k ≠ 0 → q ≠ ad k) ∧ q ≠ u ∧ hs g2 u (.inl (c 1, 1, .inr (.inl (fun _ => 0)))) q = some e := fun q e hq => by
    have n1 : q ≠ o := fun e1 => by rw [e1, ho] at hq; exact nomatch hq
    have n2 : ∀ k, m_kd k ≠ 0 → q ≠ ad k := fun k hk e1 => by
      have := hfr k hk
      rw [← e1, hs_ne n1, hq] at this
      exact nomatch this
    have e2 : g2 q = some e := by
      rw [hM.2.2 q n1 n2]
      show hs g o _ q = some e
      rw [hs_ne n1]
      exact hq
    have n3 : q ≠ u := fun e1 => by rw [e1, hu] at e2; exact nomatch e2
    exact ⟨n1, n2, n3, by rw [hs_ne n3]; exact e2⟩
  have go : g2 o = some (.inr (7, m_fs ad Z0)) := hM.1
  have nuo : u ≠ o := fun e1 => by rw [← e1, hu] at go; exact nomatch go
  have nad : ∀ k, m_kd k ≠ 0 → ad k ≠ u := fun k hk e1 => by
    have := hM.2.1 k hk
    have e2 : g2 (ad k) = some (m_cell c Z0 k) := this
    rw [e1, hu] at e2
    exact nomatch e2
  have hcl : ∀ i, i < 11 → ∃ e, g (a i) = some e := fun i hi => by
    rcases (show i = 0 ∨ i = 1 ∨ i = 2 ∨ i = 3 ∨ i = 4 ∨ i = 5 ∨ i = 6 ∨ i = 7 ∨ i = 8 ∨ i = 9 ∨ i = 10 by omega) with rfl | rfl | rfl | rfl | rfl | rfl | rfl | rfl | rfl | rfl | rfl
    · exact ⟨_, HL.at hF 10 rfl⟩
    · exact ⟨_, HL.at hF 9 rfl⟩
    · exact ⟨_, HL.at hF 8 rfl⟩
    · exact ⟨_, HL.at hF 7 rfl⟩
    · exact ⟨_, HL.at hF 6 rfl⟩
    · exact ⟨_, HL.at hF 5 rfl⟩
    · exact ⟨_, HL.at hF 4 rfl⟩
    · exact ⟨_, HL.at hF 3 rfl⟩
    · exact ⟨_, HL.at hF 2 rfl⟩
    · exact ⟨_, HL.at hF 1 rfl⟩
    · exact ⟨_, HL.at hF 0 rfl⟩
  have hF2 : FR c a (hs g2 u (.inl (c 1, 1, .inr (.inl (fun _ => 0))))) := ⟨fun p hp => (old p.1 p.2 (hF.1 p hp)).2.2.2, hF.2⟩
  have eo : hs g2 u (.inl (c 1, 1, .inr (.inl (fun _ => 0)))) o = some (.inr (7, m_fs ad Z0)) := by rw [hs_ne (Ne.symm nuo)]; exact go
  have ea : ∀ k, m_kd k ≠ 0 → hs g2 u (.inl (c 1, 1, .inr (.inl (fun _ => 0)))) (ad k) = some (m_cell c Z0 k) := fun k hk => by rw [hs_ne (nad k hk)]; exact hM.2.1 k hk
  have ap : ∀ i, i ≤ 10 → u ≠ a i ∧ o ≠ a i ∧ ∀ k, m_kd k ≠ 0 → ad k ≠ a i := fun i hi => by
    obtain ⟨e, he⟩ := hcl i (by omega)
    obtain ⟨q1, q2, q3, -⟩ := old (a i) e he
    exact ⟨Ne.symm q3, Ne.symm q1, fun k hk => Ne.symm (q2 k hk)⟩
  refine law_loop hX C E hz hL S 512 0 _ _ _ _ (by omega) (by omega) ⟨Z0, ⟨MH.init, _, _, _, _, _, _, ZI.init hF2 (fun q hq => ?_)⟩, ⟨_, hs_self ..⟩, ⟨eo, ea, fun _ _ _ => rfl⟩, hok, nuo, nad⟩
  rcases hq with rfl | rfl | ⟨k, hk, rfl⟩
  · exact ⟨fun i hi => (ap i hi).1, by rw [hs_self]; exact fun q => nomatch q⟩
  · exact ⟨fun i hi => (ap i hi).2.1, nn_of eo⟩
  · exact ⟨fun i hi => (ap i hi).2.2 k hk, nn_of (ea k hk)⟩
end Law
