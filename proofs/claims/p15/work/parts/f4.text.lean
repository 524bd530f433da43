/-! The decoder against the model: signed digits, texts. -/
section Dec
variable {w : Wd} {c : Nat → ClassId} {h h0 : PH} {li de p v b ba nb r : Nat} {fb : Nat → Int32} {lt : Value} {S : MS}
theorem d_signedX (hX : Wx w c) (F : FX c de p v b ba h0 fb nb) (D : DX c li de p v b h0 r lt S h) {i m s : Nat} (A : DA fb nb S i m r) (s1 : 1 ≤ s) (hs9 : s ≤ 9) : T w gw yX1_readSignedBcd cX1_readSignedBcd 4 (some .boolean) 3 (40 * 3) 0 0 [.ref de, .ref p, .int (nI s)] (EQ h)
    (fun q g => (q = some (.int 1) ∧ i + s ≤ m ∧ (∀ k, k < s → ¬ f_bd S i s (f_mi S i s true) k) ∧ DVx c li de p v b h0 r lt S (f_dig S i s true) (nI (i + s)) g) ∨ (q = some (.int 0) ∧ (¬ i + s ≤ m ∨ ∃ k, k < s ∧ f_bd S i s (f_mi S i s true) k) ∧ DFx c li de p v b h0 lt g)) := by
  have hW := hX.1
  refine TA.intro hW rfl (by decide +kernel) (Nat.le_of_ble_eq_true rfl) (fun z C Y E hn h1 hA => ?_)
  rw [show h1 = h from hA]
  clear hA
  obtain ⟨⟨fa, pl, B⟩, d2, ⟨fv, d3, d3'⟩, d4⟩ := id D
  obtain ⟨A1, A2, A3, A4, A5, A6, A7, A8, A9, A10⟩ := id A
  have Rh := D.row F
  have T40 : ∀ (x y : Int32) (mb : Bool), (x = 0 ↔ mb = false) → (y = if mb then -1 else 1) → (i + s ≤ m → mb = f_mi S i s true) → X z 0 0 (EQ h) 40 [some (.ref de), some (.ref p), some (.int (nI s)), some (.int x)] [.int y, .int (nI s), .ref p, .ref de] := fun x y mb hx hy hmb => by
    refine x_iload_n C dX1_readSignedBcd_40 rfl ?_
    refine k_callR (kc := 0) (ks := 0) (mc' := 0) (ms' := 0) (st := []) C Y hW E.cs (d_bcdX hX F D A hs9 y mb hx) rfl md_X1_readBcd wi_X1_readBcd ws_X1_readBcd wm_X1_136 dX1_readSignedBcd_41 rfl (by decide) (by decide) B rfl rfl (by decide) (fun q g hg => ?_)
    rcases hg with ⟨rfl, j1, j2, Dg⟩ | ⟨rfl, j1, Dg⟩
    · have em := hmb j1
      subst em
      refine x_zret C E dX1_readSignedBcd_44 (by decide) (fun q e => ?_)
      rw [show q = _ from e]
      refine Or.inl ⟨rfl, j1, j2, ?_⟩
      have ev : y.toInt64 * f_dv S i s (f_mi S i s true) s 0 = f_dig S i s true := by
        unfold f_dig
        rw [hy]
        by_cases q : f_mi S i s true = true
        · rw [if_pos q, if_pos q]
          exact neg_ring _
        · rw [if_neg q, if_neg q]
          show (1 : Int64) * _ = _
          grind
      rw [← ev]
      exact Dg
    · refine x_zret C E dX1_readSignedBcd_44 (by decide) (fun q e => ?_)
      rw [show q = _ from e]
      refine Or.inr ⟨rfl, ?_, Dg⟩
      by_cases q : i + s ≤ m
      · rw [← hmb q]
        exact j1
      · exact Or.inl q
  have T27 : ∀ (x : Int32) (mb : Bool), (x = 0 ↔ mb = false) → (i + s ≤ m → mb = f_mi S i s true) → X z 0 0 (EQ h) 27 [some (.ref de), some (.ref p), some (.int (nI s)), none] [.int x] := fun x mb hx hmb => by
    refine o_istore_nE (L' := [some _, some _, some _, some _]) C dX1_readSignedBcd_27 (by rw [hn]; decide) rfl ?_
    refine x_aload_n C dX1_readSignedBcd_28 rfl ?_
    refine x_aload_n C dX1_readSignedBcd_29 rfl ?_
    refine x_iload_n C dX1_readSignedBcd_30 rfl ?_
    refine x_iload_n C dX1_readSignedBcd_31 rfl ?_
    refine x_if_eq (tgt := 39) C dX1_readSignedBcd_32 (by decide) (fun q => ?_) (fun q => ?_)
    · exact x_iconst (v := 1) C dX1_readSignedBcd_39 (by decide) (T40 _ _ mb hx (by rw [hx.mp q]; rfl) hmb)
    · refine x_iconst (v := -1) C dX1_readSignedBcd_35 (by decide) ?_
      refine x_goto (tgt := 40) C dX1_readSignedBcd_36 (by decide) (T40 _ _ mb hx ?_ hmb)
      cases mb with
      | true => rfl
      | false => exact absurd (hx.mpr rfl) q
  have key : i + s ≤ m → (rAt fb nb (S.i 40 + nI s - 1) = S.a 38 (i + s - 1)) := fun y => by rw [A3, nI_add, show nI (i + s) - 1 = nI (i + s - 1) from nI_sub' (v := i + s) (b := 1) (by omega), rAt_in (show i + s - 1 < nb by omega) Rh.2.2.2, A1 _ (by omega)]
  refine x_aload_n C dX1_readSignedBcd_0 rfl ?_
  refine e_get C Y kd_X1 1 (by decide) wf_X1_28 dX1_readSignedBcd_1 B rfl ?_
  refine x_aload_n C dX1_readSignedBcd_4 rfl ?_
  refine e_get C Y kd_X1 2 (by decide) wf_X1_9 dX1_readSignedBcd_5 B rfl ?_
  refine x_iload_n C dX1_readSignedBcd_8 rfl ?_
  refine x_iadd C dX1_readSignedBcd_9 ?_
  refine x_iconst (v := 1) C dX1_readSignedBcd_10 (by decide) ?_
  refine x_isub C dX1_readSignedBcd_11 ?_
  refine k_at (st := []) C Y hW E.cs (by decide) Rh _ dX1_readSignedBcd_12 (by decide) ?_
  refine x_iconst (v := 4) C dX1_readSignedBcd_15 (by decide) ?_
  refine x_ishr C dX1_readSignedBcd_16 ?_
  refine x_bipush (v := 15) C dX1_readSignedBcd_17 (by decide) ?_
  refine x_icmp_ne (tgt := 26) C dX1_readSignedBcd_19 (by decide) (fun q => ?_) (fun q => ?_)
  · refine x_iconst (v := 0) C dX1_readSignedBcd_26 (by decide) (T27 0 false ⟨fun _ => rfl, fun _ => rfl⟩ (fun y => ?_))
    rw [key y] at q
    exact (decide_eq_false (fun z => q z.2.2)).symm
  · refine x_iconst (v := 1) C dX1_readSignedBcd_22 (by decide) ?_
    refine x_goto (tgt := 27) C dX1_readSignedBcd_23 (by decide) (T27 1 true ⟨fun q => absurd q (by decide), fun q => nomatch q⟩ (fun y => ?_))
    rw [key y] at q
    exact (decide_eq_true ⟨rfl, by omega, q⟩).symm
end Dec
section Rd
variable {w : Wd} {c : Nat → ClassId} {h : PH} {p v b ba nb : Nat} {va sg : Int64} {co fu ta un vn ln : Int32} {lt : Value} {fb : Nat → Int32}
/-- the letters of a reading: one row, if any -/
def LK (c : Nat → ClassId) (h : PH) (lt : Value) : Prop := lt = .null ∨ ∃ (t m : Nat) (fl : Nat → Int32), lt = .ref t ∧ m ≤ 300 ∧ h t = some (.inl (c 0, m, .inl fl))
/-- behind setText -/
def STx (c : Nat → ClassId) (h : PH) (p v : Nat) (co fu : Int32) (sg : Int64) (ta un vn : Int32) (lt : Value) (fb : Nat → Int32) (i s : Nat) (g : PH) : Prop := ∃ lt' : Value, (lt' = lt ∨ ∃ t, lt' = .ref t ∧ h t = none) ∧ g p = some (.inr (3, rdL (nI s).toInt64 co fu sg ta un v vn lt' (nI s))) ∧ LK c g lt' ∧ (0 < s → ∃ (t m : Nat) (fl : Nat → Int32), lt' = .ref t ∧ g t = some (.inl (c 0, m, .inl fl)) ∧ s ≤ m ∧ ∀ j, j < s → fl j = fb (i + j)) ∧ ∀ q, q ≠ p → lt' ≠ .ref q → g q = h q
theorem q_setTextX (hW : Wc w c) (B : h p = some (.inr (3, rdL va co fu sg ta un v vn lt ln))) (K : LK c h lt) (np : lt ≠ .ref p) (R : RW c h b ba fb nb) (rb : b ≠ p ∧ ba ≠ p ∧ lt ≠ .ref b ∧ lt ≠ .ref ba) {i s : Nat} (his : i + s ≤ nb) (hs3 : s ≤ 300) : T w gw yX3_setText cX3_setText 5 none 1 (40 * 1) 1 s [.ref p, .ref b, .int (nI i), .int (nI s)] (EQ h) (fun q g => q = none ∧ STx c h p v co fu sg ta un vn lt fb i s g) := by
  refine TA.intro hW rfl (by decide +kernel) (Nat.le_of_ble_eq_true rfl) (fun z C Y E hn h1 hA => ?_)
  rw [show h1 = h from hA]
  clear hA
  have hn3 := R.2.2.2
  obtain ⟨t0, ht0⟩ := Y.2.1
  have T74 : ∀ (kc ks : Nat) (g : PH) (l4 : Option Value) (lt' : Value) (va' : Int64) (ln' : Int32), (lt' = lt ∨ ∃ t, lt' = .ref t ∧ h t = none) → g p = some (.inr (3, rdL va' co fu sg ta un v vn lt' ln')) → lt' ≠ .ref p → LK c g lt' → (0 < s → ∃ (t m : Nat) (fl : Nat → Int32), lt' = .ref t ∧ g t = some (.inl (c 0, m, .inl fl)) ∧ s ≤ m ∧ ∀ j, j < s → fl j = fb (i + j)) → (∀ q, q ≠ p → lt' ≠ .ref q → g q = h q) → X z kc ks (EQ g) 74 [some (.ref p), some (.ref b), some (.int (nI i)), some (.int (nI s)), l4] [] := fun kc ks g l4 lt' va' ln' x1 B x2 x3 x4 x5 => by
    refine x_aload_n C dX3_setText_74 rfl ?_
    refine x_iload_n C dX3_setText_75 rfl ?_
    refine e_put C Y kd_X3 9 (by decide) rfl wf_X3_41 dX3_setText_76 B (Nat.le_of_ble_eq_true rfl) rfl rfl rfl ?_
    refine x_aload_n C dX3_setText_79 rfl ?_
    refine x_iload_n C dX3_setText_80 rfl ?_
    refine x_i2l C dX3_setText_81 ?_
    refine e_put C Y kd_X3 0 (by decide) rfl wf_X3_9 dX3_setText_82 (hs_self ..) (Nat.le_of_ble_eq_true rfl) rfl rfl (hs_hs ..) ?_
    refine x_vret C E dX3_setText_85 (fun q e => ⟨rfl, lt', x1, ?_⟩)
    rw [show q = _ from e]
    have ne : ∀ t, lt' = .ref t → t ≠ p := fun t e1 e2 => x2 (by rw [e1, e2])
    refine ⟨hs_self .., ?_, fun s0 => ?_, fun q q1 q2 => by rw [hs_ne q1]; exact x5 q q1 q2⟩
    · rcases x3 with y | ⟨t, m, fl, y1, y2, y3⟩
      · exact Or.inl y
      · exact Or.inr ⟨t, m, fl, y1, y2, by rw [hs_ne (ne t y1)]; exact y3⟩
    · obtain ⟨t, m, fl, y1, y2, y3, y4⟩ := x4 s0
      exact ⟨t, m, fl, y1, by rw [hs_ne (ne t y1)]; exact y2, y3, y4⟩
  -- a row t of m letters is there
  have LP : ∀ (t m : Nat) (va' : Int64) (ln' : Int32), (Value.ref t = lt ∨ h t = none) → t ≠ p → m ≤ 300 → s ≤ m → b ≠ t → ba ≠ t → ∀ (rem j : Nat) (fl : Nat → Int32) (g : PH), j + rem = s → g p = some (.inr (3, rdL va' co fu sg ta un v vn (.ref t) ln')) → g t = some (.inl (c 0, m, .inl fl)) → (∀ k, k < j → fl k = fb (i + k)) → (∀ q, q ≠ p → q ≠ t → g q = h q) → X z 0 0 (EQ g) 30 [some (.ref p), some (.ref b), some (.int (nI i)), some (.int (nI s)), some (.int (nI j))] [] := by
    intro t m va' ln' ht tp m3 sm bt bat rem
    have x1 : Value.ref t = lt ∨ ∃ t', Value.ref t = .ref t' ∧ h t' = none := ht.imp id (fun e => ⟨t, rfl, e⟩)
    induction rem with
    | zero =>
      intro j fl g hj Bg Tg ok fr
      obtain rfl : j = s := by omega
      refine x_iload C dX3_setText_30 rfl ?_
      refine x_iload_n C dX3_setText_32 rfl ?_
      exact x_icmp_ge (tgt := 74) C dX3_setText_33 (by decide) (fun _ => T74 0 0 g _ (.ref t) va' ln' x1 Bg (fun e => tp (Value.ref.inj e)) (Or.inr ⟨t, m, fl, rfl, m3, Tg⟩) (fun _ => ⟨t, m, fl, rfl, Tg, sm, ok⟩) (fun q q1 q2 => fr q q1 (fun e => q2 (by rw [e])))) (fun q => absurd (Int32.le_refl _) q)
    | succ rem ih =>
      intro j fl g hj Bg Tg ok fr
      have Rh : RW c g b ba fb nb := ⟨R.1, by rw [fr b rb.1 bt]; exact R.2.1, by rw [fr ba rb.2.1 bat]; exact R.2.2.1, hn3⟩
      refine x_iload C dX3_setText_30 rfl ?_
      refine x_iload_n C dX3_setText_32 rfl ?_
      refine x_icmp_ge (tgt := 74) C dX3_setText_33 (by decide) (fun q => absurd q (Int32.not_le.mpr (nI_lt (show j < s by omega) (by omega)))) (fun _ => ?_)
      refine x_aload_n C dX3_setText_36 rfl ?_
      refine e_get C Y kd_X3 8 (by decide) wf_X3_38 dX3_setText_37 Bg rfl ?_
      refine x_ifnull C dX3_setText_40 ?_
      refine x_iload C dX3_setText_43 rfl ?_
      refine x_aload_n C dX3_setText_45 rfl ?_
      refine e_get C Y kd_X3 8 (by decide) wf_X3_38 dX3_setText_46 Bg rfl ?_
      refine x_alen C ht0 dX3_setText_49 (v := nI m) (fun q e => by rw [e]; exact Tg) rfl ?_
      refine x_icmp_ge (tgt := 74) C dX3_setText_50 (by decide) (fun q => absurd q (Int32.not_le.mpr (nI_lt (show j < m by omega) (by omega)))) (fun c50 => ?_)
      have ra := r_at hW Rh (nI i + nI j)
      rw [nI_add, rAt_in (show i + j < nb by omega) hn3] at ra
      refine x_aload_n C dX3_setText_53 rfl ?_
      refine e_get C Y kd_X3 8 (by decide) wf_X3_38 dX3_setText_54 Bg rfl ?_
      refine x_iload C dX3_setText_57 rfl ?_
      refine x_aload_n C dX3_setText_59 rfl ?_
      refine x_iload_n C dX3_setText_60 rfl ?_
      refine x_iload C dX3_setText_61 rfl ?_
      refine x_iadd C dX3_setText_63 ?_
      rw [nI_add]
      refine u_callV (st := [.int (nI j), .ref t]) C Y hW E.cs ra md_X5_at wi_X5_at ws_X5_at wm_X3_44 dX3_setText_64 rfl (by decide) (by decide) Rh.2.1 rfl rfl (by simp [Value.category]) ?_
      refine e_ist C Y dX3_setText_67 Tg (vp_in_nI (show j < m by omega) (by omega)) rfl ?_
      rw [nI_clamp (by omega)]
      refine o_iincE (v := nI (j + 1)) (L' := [some _, some _, some _, some _, some _]) C dX3_setText_68 rfl (nI_1 j) (by rw [hn]; decide) rfl ?_
      refine x_goto (tgt := 30) C dX3_setText_71 (by decide) ?_
      refine ih (j + 1) (upd fl j (fb (i + j))) _ (by omega) (by rw [hs_ne (Ne.symm tp)]; exact Bg) (hs_self ..) (fun k hk => ?_) (fun q q1 q2 => by rw [hs_ne q2]; exact fr q q1 q2)
      by_cases e : k = j
      · subst e; simp [upd]
      · rw [show upd fl j (fb (i + j)) k = fl k from by simp [upd, e]]
        exact ok k (by omega)
  have T20 : 0 < s → X z 1 s (EQ h) 20 [some (.ref p), some (.ref b), some (.int (nI i)), some (.int (nI s)), none] [] := fun s0 => by
    refine x_aload_n C dX3_setText_20 rfl ?_
    refine x_iload_n C dX3_setText_21 rfl ?_
    refine X.room (kc' := 0 + 1) (ks' := 0 + s) ?_ (by omega) (by omega)
    refine e_newi (kc := 0) (ks := 0) (N := s) C Y dX3_setText_22 (nI_pos (by omega)) (nI_clamp (by omega)) (by omega) (fun q hq => ?_)
    have npq : p ≠ q := fun e => by rw [e, hq] at B; exact nomatch B
    refine e_put C Y kd_X3 8 (by decide) rfl wf_X3_38 dX3_setText_24 (by rw [hs_ne npq]; exact B) (Nat.le_of_ble_eq_true rfl) rfl rfl rfl ?_
    refine x_iconst (v := 0) C dX3_setText_27 (by decide) ?_
    refine o_istoreE (L' := [some _, some _, some _, some _, some _]) C dX3_setText_28 (by rw [hn]; decide) rfl ?_
    exact LP q s _ _ (Or.inr hq) (Ne.symm npq) hs3 (Nat.le_refl _) (fun e => by have := R.2.1; rw [e, hq] at this; exact nomatch this) (fun e => by have := R.2.2.1; rw [e, hq] at this; exact nomatch this) s 0 (fun _ => 0) _ (Nat.zero_add s) (hs_self ..) (by rw [hs_ne (Ne.symm npq), hs_self]) (fun k hk => absurd hk (Nat.not_lt_zero k)) (fun x q1 q2 => by rw [hs_ne q1, hs_ne q2])
  refine x_iload_n C dX3_setText_0 rfl ?_
  refine x_if_le (tgt := 27) C dX3_setText_1 (by decide) (fun q1 => ?_) (fun q1 => ?_)
  · obtain rfl : s = 0 := Nat.eq_zero_of_not_pos (fun y => absurd (nI_lt (a := 0) y (by omega)) (Int32.not_lt.mpr q1))
    refine x_iconst (v := 0) C dX3_setText_27 (by decide) ?_
    refine o_istoreE (L' := [some _, some _, some _, some _, some _]) C dX3_setText_28 (by rw [hn]; decide) rfl ?_
    refine x_iload C dX3_setText_30 rfl ?_
    refine x_iload_n C dX3_setText_32 rfl ?_
    exact x_icmp_ge (tgt := 74) C dX3_setText_33 (by decide) (fun _ => T74 1 0 h _ lt va ln (Or.inl rfl) B np K (fun y => absurd y (Nat.lt_irrefl 0)) (fun _ _ _ => rfl)) (fun q => absurd (Int32.le_refl _) q)
  have s0 : 0 < s := Nat.pos_of_ne_zero (fun e => q1 (by rw [e]; decide))
  refine x_aload_n C dX3_setText_4 rfl ?_
  refine e_get C Y kd_X3 8 (by decide) wf_X3_38 dX3_setText_5 B rfl ?_
  rcases K with rfl | ⟨t, m, fl, rfl, m3, Tt⟩
  · exact x_ifnullN (tgt := 20) C dX3_setText_8 (by decide) (T20 s0)
  · refine x_ifnull C dX3_setText_8 ?_
    refine x_aload_n C dX3_setText_11 rfl ?_
    refine e_get C Y kd_X3 8 (by decide) wf_X3_38 dX3_setText_12 B rfl ?_
    refine x_alen C ht0 dX3_setText_15 (v := nI m) (fun q e => by rw [e]; exact Tt) rfl ?_
    refine x_iload_n C dX3_setText_16 rfl ?_
    refine x_icmp_ge (tgt := 27) C dX3_setText_17 (by decide) (fun q => ?_) (fun _ => T20 s0)
    have sm : s ≤ m := (nI_leI (by omega) (by omega)).mp q
    refine x_iconst (v := 0) C dX3_setText_27 (by decide) ?_
    refine o_istoreE (L' := [some _, some _, some _, some _, some _]) C dX3_setText_28 (by rw [hn]; decide) rfl ?_
    exact (LP t m va ln (Or.inl rfl) (fun e => np (by rw [e])) m3 sm (fun e => rb.2.2.1 (by rw [e])) (fun e => rb.2.2.2 (by rw [e])) s 0 fl h (Nat.zero_add s) B Tt (fun k hk => absurd hk (Nat.not_lt_zero k)) (fun _ _ _ => rfl)).room (Nat.zero_le _) (Nat.zero_le _)
end Rd
