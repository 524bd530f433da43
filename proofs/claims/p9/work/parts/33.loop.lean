section
/-! The law from its entry: its loop. -/
section Init
variable {c : Nat → ClassId} {a : Nat → Nat} {V : Nat → Prop} {h : PH}
theorem ZZ.init (F : FR c a h) (hV : ∀ q, V q → (∀ i, i ≤ 10 → q ≠ a i) ∧ h q ≠ none) : ZZ c a h V (fun _ => 0) (fun _ => none) (fun _ => 0) (fun _ => 0) h := by
  have ad : ∀ i j, i ≤ 10 → j ≤ 10 → a i = a j → i = j := fun i j hi hj e => by
    have g : ∀ k, k ≤ 10 → ((clsL c a).map Prod.fst)[10 - k]? = some (a k) := fun k hk => by
      rcases (show k = 0 ∨ k = 1 ∨ k = 2 ∨ k = 3 ∨ k = 4 ∨ k = 5 ∨ k = 6 ∨ k = 7 ∨ k = 8 ∨ k = 9 ∨ k = 10 by omega) with rfl | rfl | rfl | rfl | rfl | rfl | rfl | rfl | rfl | rfl | rfl <;> rfl
    have := HL.inj F (g i hi) (by rw [e]; exact g j hj)
    omega
  have ne : ∀ i j, i ≤ 10 → j ≤ 10 → i ≠ j → a i ≠ a j := fun i j hi hj n e => n (ad i j hi hj e)
  have nb : HB (fun _ => 0) 0 := fun j hj => absurd hj (Nat.not_lt_zero j)
  refine ⟨⟨0, by omega, F.x⟩, ⟨_, 0, F.buf, nb⟩, ⟨_, HL.at F 0 rfl⟩, ⟨0, by omega, ⟨0, 0, F.bus.1⟩, F.bus.2, (fun k m e => nomatch e), ⟨_, F.ans, nb⟩, fun q => trivial, ⟨rfl, rfl, rfl, rfl, ne 3 4 (by omega) (by omega) (by omega), ne 3 5 (by omega) (by omega) (by omega), ne 3 6 (by omega) (by omega) (by omega), ne 4 5 (by omega) (by omega) (by omega), ne 4 6 (by omega) (by omega) (by omega)⟩, fun q hq => hq.elim⟩, ⟨⟨0, by omega, F.lst⟩, ⟨_, HL.at F 2 rfl, (fun j p e => nomatch e)⟩, ⟨_, _, _, _, _, _, F.dec, Or.inl rfl⟩, fun q => trivial, ⟨rfl, rfl, rfl, ne 7 8 (by omega) (by omega) (by omega), ne 7 9 (by omega) (by omega) (by omega), ne 8 9 (by omega) (by omega) (by omega)⟩, fun q hq => hq.elim⟩, fun q n => rfl, fun i hi => ⟨rfl, rfl⟩, ad, fun q hq => ⟨rfl, rfl, (hV q hq).1, (hV q hq).2, rfl⟩⟩
theorem RK.init : RK (fun _ => none) (fun _ => 0) Z0 := fun k _ => Or.inl ⟨rfl, rfl⟩
theorem ZI.init (F : FR c a h) (hV : ∀ q, V q → (∀ i, i ≤ 10 → q ≠ a i) ∧ h q ≠ none) : ZI c a h V (fun _ => 0) (fun _ => none) (fun _ => 0) (fun _ => 0) (fun _ => 0) (fun _ => 0) Z0 h := by
  refine ⟨ZZ.init F hV, RK.init, ⟨MH.init.1.mi.2.1, MH.init.1.mi.1⟩, ⟨fun q hq => absurd rfl hq, fun k _ m e => nomatch e⟩, F.bus.1, ⟨_, 0, F.buf, rfl, fun j hj => absurd hj (Nat.not_lt_zero j)⟩, ⟨0, _, F.x, rfl, by omega, HL.at F 0 rfl, fun k hk => absurd hk (Nat.not_lt_zero k)⟩, ⟨fun q hq => absurd rfl hq, 0, fun _ => none, F.lst, rfl, by omega, HL.at F 2 rfl, (fun i p _ e => nomatch e), fun i hi => absurd hi (Nat.not_lt_zero i), fun i hi => absurd hi (Nat.not_lt_zero i)⟩⟩
end Init
section Law
variable {w : Wd} {c : Nat → ClassId} {z : Fx} {b L : Nat} {xs : Nat → Int32} {a : Nat → Nat} {o : Nat} {ad : Nat → Nat} {u t kc ks : Nat} {h : PH} {l5 l6 l7 : Option Value}
theorem out16 {x : Int32} (g : ¬ ((0 : Int32) ≤ x ∧ x ≤ 16)) : x.toInt < 0 ∨ 16 < x.toInt := by
  rw [Int32.le_iff_toInt_le, Int32.le_iff_toInt_le] at g
  have e0 : (0 : Int32).toInt = 0 := by decide
  have e5 : (16 : Int32).toInt = 16 := by decide
  rw [e0, e5] at g
  omega
theorem law_end (C : Cx z RL code gw) (hz : LZ z b) {kc ks : Nat} {A : PH → Prop} {L : List (Option Value)} : X z kc ks A 691 L [] := x_iconst (v := 1) C dL_law_691 (by decide) (w_ret C hz dL_law_692)
theorem law_one (Q : LC5 w c z b L xs a o ad u t kc ks h) : X z (kc + 1050) (ks + 8040) (EQ h) 33 [some (.ref b), some (.ref (a 0)), some (.ref o), some (.ref u), some (.int (nI (7 * t))), l5, l6, l7] [] := by
  have Q' := Q
  obtain ⟨hX, C, E, hz, S, ⟨tL, L3⟩, I, K⟩ := Q'
  refine x_aload_n C dL_law_33 rfl ?_
  refine x_iload C dL_law_34 rfl ?_
  refine w_sld C hz S dL_law_36 (vp_in_nI (show 7 * t < L by omega) (by omega)) ?_
  refine x_bipush (v := 31) C dL_law_37 (by decide) ?_
  refine x_iand C dL_law_39 ?_
  generalize xs (nI (7 * t)).toNatClampNeg &&& 31 = v
  by_cases g : (0 : Int32) ≤ v ∧ v ≤ 16
  · obtain ⟨j, hj, rfl⟩ := nI_of (Int32.not_lt.mpr g.1)
    have hj2 : j ≤ 16 := Nat.le_of_not_lt (fun q => absurd (nI_lt q hj) (Int32.not_lt.mpr g.2))
    rcases (show j = 0 ∨ j = 1 ∨ j = 2 ∨ j = 3 ∨ j = 4 ∨ j = 5 ∨ j = 6 ∨ j = 7 ∨ j = 8 ∨ j = 9 ∨ j = 10 ∨ j = 11 ∨ j = 12 ∨ j = 13 ∨ j = 14 ∨ j = 15 ∨ j = 16 by omega) with rfl | rfl | rfl | rfl | rfl | rfl | rfl | rfl | rfl | rfl | rfl | rfl | rfl | rfl | rfl | rfl | rfl
    · exact x_tblIn (tgt := 124) (off := 84) C dL_law_40 (by decide) (by decide) (by decide) (by decide) (c6_type Q)
    · exact x_tblIn (tgt := 196) (off := 156) C dL_law_40 (by decide) (by decide) (by decide) (by decide) (c6_keep Q)
    · exact x_tblIn (tgt := 221) (off := 181) C dL_law_40 (by decide) (by decide) (by decide) (by decide) (c6_typed Q)
    · exact x_tblIn (tgt := 249) (off := 209) C dL_law_40 (by decide) (by decide) (by decide) (by decide) (c6_meter Q)
    · exact x_tblIn (tgt := 336) (off := 296) C dL_law_40 (by decide) (by decide) (by decide) (by decide) (c6_remove Q)
    · exact x_tblIn (tgt := 364) (off := 324) C dL_law_40 (by decide) (by decide) (by decide) (by decide) (c6_page Q)
    · exact x_tblIn (tgt := 404) (off := 364) C dL_law_40 (by decide) (by decide) (by decide) (by decide) (c6_state Q)
    · exact x_tblIn (tgt := 444) (off := 404) C dL_law_40 (by decide) (by decide) (by decide) (by decide) (c6_send Q)
    · exact x_tblIn (tgt := 457) (off := 417) C dL_law_40 (by decide) (by decide) (by decide) (by decide) (c6_search Q)
    · exact x_tblIn (tgt := 470) (off := 430) C dL_law_40 (by decide) (by decide) (by decide) (by decide) (c6_found Q)
    · exact x_tblIn (tgt := 510) (off := 470) C dL_law_40 (by decide) (by decide) (by decide) (by decide) (c6_readOut Q)
    · exact x_tblIn (tgt := 538) (off := 498) C dL_law_40 (by decide) (by decide) (by decide) (by decide) (c6_decode Q)
    · exact x_tblIn (tgt := 551) (off := 511) C dL_law_40 (by decide) (by decide) (by decide) (by decide) (c6_place Q)
    · exact x_tblIn (tgt := 564) (off := 524) C dL_law_40 (by decide) (by decide) (by decide) (by decide) (c6_clear Q)
    · exact x_tblIn (tgt := 577) (off := 537) C dL_law_40 (by decide) (by decide) (by decide) (by decide) (c6_record Q)
    · exact x_tblIn (tgt := 617) (off := 577) C dL_law_40 (by decide) (by decide) (by decide) (by decide) (c6_text Q)
    · exact x_tblIn (tgt := 657) (off := 617) C dL_law_40 (by decide) (by decide) (by decide) (by decide) (c6_count Q)
  · exact x_tblOut (tgt := 685) C dL_law_40 (out16 g) (by decide) ((K _ _ _ _ I).room (by omega) (by omega))
theorem law_cmp (hL : L ≤ 3584) (ht : t ≤ 600) : nI L - 7 < nI (7 * t) ↔ L < 7 * t + 7 := by
  by_cases q : 7 ≤ L
  · rw [show nI L - 7 = nI (L - 7) from nI_sub' q, nI_ltI (by omega) (by omega)]
    omega
  · refine ⟨fun _ => by omega, fun _ => Int32.lt_of_lt_of_le (b := 0) ?_ (nI_pos' (by omega))⟩
    rcases (show L = 0 ∨ L = 1 ∨ L = 2 ∨ L = 3 ∨ L = 4 ∨ L = 5 ∨ L = 6 by omega) with rfl | rfl | rfl | rfl | rfl | rfl | rfl <;> decide
theorem law_loop (hX : Wx w c) (C : Cx z RL code gw) (E : Cs z w 2048 84000) (hz : LZ z b) (hL : L ≤ 3584) (S : va_X b L xs z.s z.s.heap) : ∀ (r t : Nat) (h : PH) (l5 l6 l7 : Option Value), L ≤ 7 * (t + r) + 6 → t + r ≤ 512 → LJ c a o ad u h → X z (1050 * r) (8040 * r) (EQ h) 23 [some (.ref b), some (.ref (a 0)), some (.ref o), some (.ref u), some (.int (nI (7 * t))), l5, l6, l7] [] := by
  have hn : z.nL = 8 := hz.2.2.2.1
  intro r
  induction r with
  | zero =>
    intro t h l5 l6 l7 h1 h2 I
    refine x_iload C dL_law_23 rfl ?_
    refine x_aload_n C dL_law_25 rfl ?_
    refine w_slen C hz S dL_law_26 ?_
    refine x_bipush (v := 7) C dL_law_27 (by decide) ?_
    refine x_isub C dL_law_29 ?_
    exact x_icmp_gt (tgt := 691) C dL_law_30 (by decide) (fun _ => law_end C hz) (fun c30 => absurd ((law_cmp hL (by omega)).mpr (by omega)) c30)
  | succ r ih =>
    intro t h l5 l6 l7 h1 h2 I
    refine x_iload C dL_law_23 rfl ?_
    refine x_aload_n C dL_law_25 rfl ?_
    refine w_slen C hz S dL_law_26 ?_
    refine x_bipush (v := 7) C dL_law_27 (by decide) ?_
    refine x_isub C dL_law_29 ?_
    refine x_icmp_gt (tgt := 691) C dL_law_30 (by decide) (fun _ => law_end C hz) (fun c30 => ?_)
    have tL : 7 * t + 7 ≤ L := Nat.le_of_not_lt (fun q => c30 ((law_cmp hL (by omega)).mpr q))
    refine law_one (kc := 1050 * r) (ks := 8040 * r) ⟨hX, C, E, hz, S, ⟨tL, hL⟩, I, fun g l5 l6 l7 Ig => ?_⟩
    refine o_iincE (v := nI (7 * (t + 1))) (L' := [some _, some _, some _, some _, some _, l5, l6, l7]) C dL_law_685 rfl (by rw [show (Int32.ofInt 7) = nI 7 from rfl, nI_add]; exact congrArg nI (by omega)) (by rw [hn]; decide) rfl ?_
    refine x_goto (tgt := 23) C dL_law_688 (by decide) ?_
    exact ih (t + 1) g l5 l6 l7 (by omega) (by omega) Ig
theorem law_start (hX : Wx w c) (C : Cx z RL code gw) (E : Cs z w 2048 84000) (hz : LZ z b) (hL : L ≤ 3584) (S : va_X b L xs z.s z.s.heap) (h0 : PH) : X z 537640 4149656 (EQ h0) 0 [some (.ref b), none, none, none, none, none, none, none] [] := by
  have hn : z.nL = 8 := hz.2.2.2.1
  have Y := Cty.of hX.1 E
  obtain ⟨t0, ht0⟩ := hX.1.2.2.1
  obtain ⟨t1, ht1⟩ := hX.1.2.2.2.1
  obtain ⟨t2, ht2⟩ := hX.1.2.2.2.2
  refine e_new (kc := 537639) (ks := 4149650) (N := 6) C Y kd_X6 wc_L_8 wn_X6 wz_X6 dL_law_0 (fs := [.null, .null, .null, .null, .null, .int 0]) (fun j hj => by rcases (show j = 0 ∨ j = 1 ∨ j = 2 ∨ j = 3 ∨ j = 4 ∨ j = 5 by omega) with rfl | rfl | rfl | rfl | rfl | rfl <;> rfl) (fun x hx => ?_)
  have h1 := (HL.nil h0).new hx (.inr (6, [.null, .null, .null, .null, .null, .int 0]))
  refine x_dup C dL_law_3 rfl ?_
  refine X.heap (A' := HL _) ?_ (fun g e => by subst e; exact h1)
  refine k_callI (kc := 537629) (ks := 4148908) (st := [.ref x]) C E hX.1.1 gw_good (n_mb hX) md_X6_init rfl wi_X6_init wm_L_58 dL_law_4 rfl (by decide) (by decide) rfl (by simp [Value.category]) (fun r => X.opn (fun g hB => ?_))
  obtain ⟨rfl, a, ea, hF0⟩ := hB
  subst ea
  have hF : FR c a g := by
    rw [List.append_nil] at hF0
    exact hF0
  refine o_astore_nE (L' := [some _, some _, none, none, none, none, none, none]) C dL_law_7 (by rw [hn]; decide) rfl ?_
  refine e_new (kc := 537628) (ks := 4148866) (N := 42) C Y kd_X7 wc_L_59 wn_X7 wz_X7 dL_law_8 (fs := i_fs (fun _ => 0) 0 0) (by decide +kernel) (fun o ho => ?_)
  refine x_dup C dL_law_11 rfl ?_
  refine k_callI (kc := 537601) (ks := 4116481) (st := [.ref o]) C E hX.1.1 gw_good (s_init hX.1.1 hX.1.2.1 ht0 ht1 ht2 (hs_self ..) rfl) md_X7_init rfl wi_X7_init wm_L_61 dL_law_12 rfl (by decide) (by decide) rfl (by simp [Value.category]) (fun r => X.opn (fun g2 hB => ?_))
  obtain ⟨rfl, ad, hok, hfr, hM⟩ := hB
  refine o_astore_nE (L' := [some _, some _, some _, none, none, none, none, none]) C dL_law_15 (by rw [hn]; decide) rfl ?_
  refine x_iconst (v := 1) C dL_law_16 (by decide) ?_
  refine e_newl (kc := 537600) (ks := 4116480) (N := 1) C Y dL_law_17 (by decide) (by decide) (by decide) (fun u hu => ?_)
  refine o_astore_nE (L' := [some _, some _, some _, some _, none, none, none, none]) C dL_law_19 (by rw [hn]; decide) rfl ?_
  refine x_iconst (v := nI (7 * 0)) C dL_law_20 (by decide) ?_
  refine o_istoreE (L' := [some _, some _, some _, some _, some _, none, none, none]) C dL_law_21 (by rw [hn]; decide) rfl ?_
  have old : ∀ q e, g q = some e → q ≠ o ∧ (∀ k, m_kd k ≠ 0 → q ≠ ad k) ∧ q ≠ u ∧ hs g2 u (.inl (c 1, 1, .inr (.inl (fun _ => 0)))) q = some e := fun q e hq => by
    have n1 : q ≠ o := fun e1 => by rw [e1, ho] at hq; exact nomatch hq
    have n2 : ∀ k, m_kd k ≠ 0 → q ≠ ad k := fun k hk e1 => by
      have := hfr k hk
      rw [← e1, hs_ne n1, hq] at this
      exact nomatch this
    have e2 : g2 q = some e := by
      rw [hM.2.2 q n1 n2]
      show hs g o _ q = some e
      rw [hs_ne n1]
      exact hq
    have n3 : q ≠ u := fun e1 => by rw [e1, hu] at e2; exact nomatch e2
    exact ⟨n1, n2, n3, by rw [hs_ne n3]; exact e2⟩
  have go : g2 o = some (.inr (7, m_fs ad Z0)) := hM.1
  have nuo : u ≠ o := fun e1 => by rw [← e1, hu] at go; exact nomatch go
  have nad : ∀ k, m_kd k ≠ 0 → ad k ≠ u := fun k hk e1 => by
    have := hM.2.1 k hk
    have e2 : g2 (ad k) = some (m_cell c Z0 k) := this
    rw [e1, hu] at e2
    exact nomatch e2
  have hcl : ∀ i, i < 11 → ∃ e, g (a i) = some e := fun i hi => by
    rcases (show i = 0 ∨ i = 1 ∨ i = 2 ∨ i = 3 ∨ i = 4 ∨ i = 5 ∨ i = 6 ∨ i = 7 ∨ i = 8 ∨ i = 9 ∨ i = 10 by omega) with rfl | rfl | rfl | rfl | rfl | rfl | rfl | rfl | rfl | rfl | rfl
    · exact ⟨_, HL.at hF 10 rfl⟩
    · exact ⟨_, HL.at hF 9 rfl⟩
    · exact ⟨_, HL.at hF 8 rfl⟩
    · exact ⟨_, HL.at hF 7 rfl⟩
    · exact ⟨_, HL.at hF 6 rfl⟩
    · exact ⟨_, HL.at hF 5 rfl⟩
    · exact ⟨_, HL.at hF 4 rfl⟩
    · exact ⟨_, HL.at hF 3 rfl⟩
    · exact ⟨_, HL.at hF 2 rfl⟩
    · exact ⟨_, HL.at hF 1 rfl⟩
    · exact ⟨_, HL.at hF 0 rfl⟩
  have hF2 : FR c a (hs g2 u (.inl (c 1, 1, .inr (.inl (fun _ => 0))))) := ⟨fun p hp => (old p.1 p.2 (hF.1 p hp)).2.2.2, hF.2⟩
  have eo : hs g2 u (.inl (c 1, 1, .inr (.inl (fun _ => 0)))) o = some (.inr (7, m_fs ad Z0)) := by rw [hs_ne (Ne.symm nuo)]; exact go
  have ea : ∀ k, m_kd k ≠ 0 → hs g2 u (.inl (c 1, 1, .inr (.inl (fun _ => 0)))) (ad k) = some (m_cell c Z0 k) := fun k hk => by rw [hs_ne (nad k hk)]; exact hM.2.1 k hk
  have ap : ∀ i, i ≤ 10 → u ≠ a i ∧ o ≠ a i ∧ ∀ k, m_kd k ≠ 0 → ad k ≠ a i := fun i hi => by
    obtain ⟨e, he⟩ := hcl i (by omega)
    obtain ⟨q1, q2, q3, -⟩ := old (a i) e he
    exact ⟨Ne.symm q3, Ne.symm q1, fun k hk => Ne.symm (q2 k hk)⟩
  refine law_loop hX C E hz hL S 512 0 _ _ _ _ (by omega) (by omega) ⟨Z0, ⟨MH.init, _, _, _, _, _, _, ZI.init hF2 (fun q hq => ?_)⟩, ⟨_, hs_self ..⟩, ⟨eo, ea, fun _ _ _ => rfl⟩, hok, nuo, nad⟩
  rcases hq with rfl | rfl | ⟨k, hk, rfl⟩
  · exact ⟨fun i hi => (ap i hi).1, by rw [hs_self]; exact fun q => nomatch q⟩
  · exact ⟨fun i hi => (ap i hi).2.1, nn_of eo⟩
  · exact ⟨fun i hi => (ap i hi).2.2 k hk, nn_of (ea k hk)⟩
end Law
end
section
/-! THE LAW, from its entry: the world is made out of what the Statement gives. -/
theorem lt_T : Cond.initialized Bundle.tN ∈ lw_tbl := List.mem_of_getElem? (i := 61) (by decide +kernel)
theorem arr_of {s : State} {args : Array Value} {t : FieldType} (h : (Cond.arrayClass t).before args s = true) (ho : ∀ C, t ≠ .object C) : ∃ cA : ClassId, ArrOfT s cA t ∧ va_RA s cA t := by
  obtain ⟨cA, k, comp, h1, h2, h3⟩ := Cond.arrayClass_spec h
  refine ⟨cA, fun N z => ⟨(fun q hq => by cases hq), k, h2, comp, h3⟩, ?_⟩
  cases t <;> first | exact h1 | exact absurd rfl (ho _)
theorem arr_ofO {s : State} {args : Array Value} {n : String} (h : (Cond.arrayOver (.object n)).before args s = true) : ∃ cA : ClassId, ArrOfT s cA (.object n) ∧ va_RA s cA (.object n) := by
  obtain ⟨comp, cA, k, h1, h2, h3, h4, h5⟩ := Cond.arrayOver_spec h
  exact ⟨cA, fun N z => ⟨(fun q hq => by cases hq), k, h3, comp, h4⟩, k, comp, h3, h4, h1, h5⟩
theorem arr_ofA {s : State} {args : Array Value} {t : FieldType} (h : (Cond.arrayOver (.array t)).before args s = true) : ∃ cA : ClassId, ArrOfT s cA (.array t) ∧ va_RA s cA (.array t) := by
  obtain ⟨comp, cA, k, h1, h2, h3, h4⟩ := Cond.arrayOver_specA h
  exact ⟨cA, fun N z => ⟨(fun q hq => by cases hq), k, h2, comp, h3⟩, h4⟩
set_option maxHeartbeats 4000000 in
theorem gx_of {s : State} {b : Nat} (hts : ∀ w ∈ lw_tbl, w.before #[Value.ref b] s = true) (hgv : (Jvm.Cond.and given_1 narrow_1).before #[Value.ref b] s = true) (h6 : ∃ c6, s.vm.findClass RX6 = some c6) : Gx s.heap.size s s.heap := by
  have hs := flat_of_before _ hgv
  have hA : ∀ a : Nat, a < s.heap.size → ¬ (fun q : Nat => s.heap.size ≤ q) a := fun a h => Nat.not_le.mpr h
  have tx : ∀ {k : Nat} {t : String}, Cond.stringRef RX6 k t ∈ lw_tbl → ∃ sa : Nat, vk_R RX6 k t sa s := fun {k t} m => by
    obtain ⟨c6, e6⟩ := h6
    obtain ⟨_, _, _, a, _, _, _, _, _, ev⟩ := Cond.stringRef_spec (args := #[Value.ref b]) (first := s) (o := none) (idx := []) e6 (hts _ m)
    exact ⟨a, vk_R.of (hts _ m) ev⟩
  refine ⟨vx_Zqof (hts _ lt_U) (hts _ lt_T) (hs _ (by decide +kernel)) hA, vx_Zqof (hts _ lt_N) (hts _ lt_T) (hs _ (by decide +kernel)) hA, ?_, ?_, ⟨?_, ?_⟩, ?_, va_AO.of (hts _ lt_oX2), va_AO.of (hts _ lt_oX3), hts _ lt_oI⟩
  · intro E hE
    simp only [exs, List.mem_cons, List.not_mem_nil, or_false] at hE
    rcases hE with rfl | rfl | rfl
    · exact va_Nw.of rfl (hts _ lt_cIAE)
    · exact va_Nw.of rfl (hts _ lt_cUOE)
    · exact va_Nw.of rfl (hts _ lt_cIOOBE)
  · intro E hE F hF n
    simp only [exs, List.mem_cons, List.not_mem_nil, or_false] at hE hF
    rcases hE with rfl | rfl | rfl <;> rcases hF with rfl | rfl | rfl
    all_goals first | exact absurd rfl n | exact va_Nc.of (hs _ (by decide +kernel))
  · intro q hq
    simp only [txts, List.mem_cons, List.not_mem_nil, or_false] at hq
    rcases hq with rfl | rfl | rfl | rfl | rfl | rfl | rfl | rfl | rfl | rfl | rfl | rfl | rfl | rfl | rfl | rfl
    · exact tx lt_s49
    · exact tx lt_s60
    · exact tx lt_s67
    · exact tx lt_s74
    · exact tx lt_s85
    · exact tx lt_s90
    · exact tx lt_s95
    · exact tx lt_s103
    · exact tx lt_s118
    · exact tx lt_s120
    · exact tx lt_s129
    · exact tx lt_s154
    · exact tx lt_s156
    · exact tx lt_s193
    · exact tx lt_s201
    · exact tx lt_s215
  · intro n hn
    simp only [decl, List.mem_cons, List.not_mem_nil, or_false] at hn
    rcases hn with rfl | rfl | rfl
    · exact va_Nw.of rfl (hts _ lt_dRuntimeException)
    · exact va_Nw.of rfl (hts _ lt_dException)
    · exact va_Nw.of rfl (hts _ lt_dThrowable)
  · intro q hq
    simp only [nst, List.mem_cons, List.not_mem_nil, or_false] at hq
    rcases hq with rfl | rfl | rfl | rfl | rfl | rfl
    · exact va_Nw.of rfl (hts _ lt_X6_9)
    · exact va_Nw.of rfl (hts _ lt_X6_18)
    · exact va_Nw.of rfl (hts _ lt_X0_19)
    · exact va_Nw.of rfl (hts _ lt_X6_25)
    · exact va_Nw.of rfl (hts _ lt_X1_81)
    · exact va_Nw.of rfl (hts _ lt_X4_27)
set_option maxHeartbeats 4000000 in
set_option maxRecDepth 100000 in
theorem whole_start {p : Program} {e : Env} {s : State} {m : MethodId} {below : List Frame} {meth : Method} {c : Code} (l : Launch) (hfl : l.stackTraces = false) {b L : Nat} {xs : Nat → Int32} (hL : L ≤ 3584) (C0 : lw_At p s m meth c b L xs) : W p l e room_1 s m #[Value.ref b] below meth c s.heap [] 0 0 (lw_Z below #[Value.ref b] s) (entryFrame m ([Value.ref b] : List Value).toArray 8) := by
  obtain ⟨hx, hb, hr, hml, hown, hts, hX, hbl, hlocks, hgv⟩ := id C0
  have htg : ∀ w ∈ gw, w.before #[Value.ref b] s = true := fun w hw => hts w (List.mem_filter.mp hw).1

  obtain ⟨c0, i0, k0⟩ := u_known (C := RX0) (T := TX0) (N := 4) (n := 4) htg in_X0 (htg _ wn_X0)
  obtain ⟨c1, i1, k1⟩ := u_known (C := RX1) (T := TX1) (N := 7) (n := 7) htg in_X1 (htg _ wn_X1)
  obtain ⟨c2, i2, k2⟩ := u_known (C := RX2) (T := TX2) (N := 8) (n := 8) htg in_X2 (htg _ wn_X2)
  obtain ⟨c3, i3, k3⟩ := u_known (C := RX3) (T := TX3) (N := 10) (n := 10) htg in_X3 (htg _ wn_X3)
  obtain ⟨c4, i4, k4⟩ := u_known (C := RX4) (T := TX4) (N := 2) (n := 2) htg in_X4 (htg _ wn_X4)
  obtain ⟨c5, i5, k5⟩ := u_known (C := RX5) (T := TX5) (N := 2) (n := 2) htg in_X5 (htg _ wn_X5)
  obtain ⟨c6, i6, k6⟩ := u_known (C := RX6) (T := TX6) (N := 6) (n := 6) htg in_X6 (htg _ wn_X6)
  obtain ⟨c7, i7, k7⟩ := u_known (C := RX7) (T := TX7) (N := 42) (n := 42) htg in_X7 (htg _ wn_X7)
  obtain ⟨dC, dI, hKc⟩ : ∃ (dC : Nat → ClassId) (dI : Nat → Nat → Nat), ∀ (k : Nat) (q : vw_C), vwCl[k]? = some q → u_Kn s q.1 q.2.1 q.2.2 (dC k) (dI k) := by
    refine ⟨fun k => match k with | 0 => c0 | 1 => c1 | 2 => c2 | 3 => c3 | 4 => c4 | 5 => c5 | 6 => c6 | _ => c7, fun k => match k with | 0 => i0 | 1 => i1 | 2 => i2 | 3 => i3 | 4 => i4 | 5 => i5 | 6 => i6 | _ => i7, ?_⟩
    intro k q hq
    match k, hq with
    | 0, hq => cases hq; exact k0
    | 1, hq => cases hq; exact k1
    | 2, hq => cases hq; exact k2
    | 3, hq => cases hq; exact k3
    | 4, hq => cases hq; exact k4
    | 5, hq => cases hq; exact k5
    | 6, hq => cases hq; exact k6
    | 7, hq => cases hq; exact k7
    | k + 8, hq => simp [vwCl] at hq
  obtain ⟨d0, a0⟩ := arr_of (htg _ wa_int) (fun C h => by cases h)
  obtain ⟨d1, a1⟩ := arr_of (htg _ wa_long) (fun C h => by cases h)
  obtain ⟨d2, a2⟩ := arr_of (htg _ wa_boolean) (fun C h => by cases h)
  obtain ⟨d3, a3⟩ := arr_ofO (hts _ lt_oX2)
  obtain ⟨d4, a4⟩ := arr_ofO (hts _ lt_oX3)
  obtain ⟨d5, a5⟩ := arr_ofA (hts _ lt_oI)
  have hG := gx_of hts hgv ⟨c6, k6.2.1⟩
  have hK : va_K (dC, dI) vwCl [(d0, .int), (d1, .long), (d2, .boolean), (d3, .object RX2), (d4, .object RX3), (d5, .array .int)] s := by
    refine ⟨hKc, fun k q hq => ?_⟩
    match k, hq with
    | 0, hq => cases hq; exact a0
    | 1, hq => cases hq; exact a1
    | 2, hq => cases hq; exact a2
    | 3, hq => cases hq; exact a3
    | 4, hq => cases hq; exact a4
    | 5, hq => cases hq; exact a5
    | k + 6, hq => simp at hq
  have hWx : Wx (l, (dC, dI), vwCl, [(d0, .int), (d1, .long), (d2, .boolean), (d3, .object RX2), (d4, .object RX3), (d5, .array .int)], s.heap.size, Gx s.heap.size) (fun i => match i with | 0 => d0 | 1 => d1 | 2 => d2 | 3 => d3 | 4 => d4 | _ => d5) :=
    ⟨⟨⟨fun u U H H1 hW hq g => Gx.warm hW hq g, fun u U H h g => Gx.same h g⟩, rfl, ⟨0, rfl⟩, ⟨1, rfl⟩, ⟨2, rfl⟩⟩, hfl, rfl, ⟨3, rfl⟩, ⟨4, rfl⟩, ⟨5, rfl⟩⟩
  have hl := lv_entry ([.ref b]) (n := 8) (Nat.le_of_ble_eq_true rfl)
  rw [lg_entry_eq]
  generalize (lg_sl ([.ref b]) ++ List.replicate (8 - (lg_sl ([.ref b])).length) Slot.unset).toArray = ls at hl ⊢
  have K := law_start (z := ((p, l, e, room_1, s), (m, #[Value.ref b], below, meth, c), ((dC, dI), vwCl, [(d0, .int), (d1, .long), (d2, .boolean), (d3, .object RX2), (d4, .object RX3), (d5, .array .int)], s.heap.size), (8, 601024, 7293034), lw_Z below #[Value.ref b] s)) hWx
    ⟨hx, hb, hml, hown, htg, hK, Nat.le_refl _, Nat.le_refl _, Nat.le_refl _⟩ ⟨rfl, rfl, rfl, rfl, rfl, rfl, rfl, hG⟩ ⟨rfl, rfl, rfl, rfl, rfl, rfl, rfl, hr, hlocks, hbl⟩ hL hX (fun _ => none)
  refine K s.heap [] ls 0 0 ⟨fun _ => none, rfl, [], fun _ => .inr (0, []), fun a e h => (nomatch h), fun k q h => by simp [va_pl] at h, ⟨fun i j p q h => by simp [va_pl] at h, fun k q h => by simp [va_pl] at h⟩⟩ va_S.rf ⟨hl.1, hl.2.1, fun i v g => ?_⟩ (show 0 + 537640 ≤ 601024 by decide) (show 0 + 4149656 ≤ 7293034 by decide)
  have g' : (lent 8 [Value.ref b])[i]? = some (some v) := g
  have := lent_get (k := 0) g'
  rw [Nat.zero_add] at this
  exact hl.2.2 (i, v) this
end
