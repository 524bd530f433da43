/-! Decoder: VIFs, numbers, digits, texts. -/
section Dec
variable {w : Wd} {c : Nat → ClassId} {h h0 : PH} {li ra de p b ba n : Nat} {W : Nat → Prop} {f : Nat → Int32} {co : Int32}
theorem d_vifs (hW : Wc w c) (R : RW c h0 b ba f n) (o1 : W b) (o2 : W ba) {i m : Nat} (hi : i ≤ m) (hm : m ≤ 256) (hmn : m ≤ n) : T w gw yX1_readVifs cX1_readVifs 4 (some .boolean) 2 (40 * 2) 0 0 [.ref de, .ref p] (DE c li ra de h0 W p co b (nI i) (nI m)) (RE c li ra de h0 W p co b (exD f 12 128 i) m) := by
  refine TA.intro hW rfl (by decide +kernel) (Nat.le_of_ble_eq_true rfl) (fun z C Y E hn h D => ?_)
  have T63 : ∀ (h : PH) (j : Nat) (l2 l3 : Option Value), exD f 12 128 i = j → j ≤ m → DE c li ra de h0 W p co b (nI j) (nI m) h → X z 0 0 (EQ h) 63 [some (.ref de), some (.ref p), l2, l3] [] := fun h j l2 l3 h1 h2 D => by
    refine x_iconst (v := 1) C dX1_readVifs_63 (by decide) ?_
    exact x_zret C E dX1_readVifs_64 (by decide) (fun g e => by subst e; exact Or.inl ⟨rfl, by rw [h1]; exact h2, by rw [h1]; exact D⟩)
  have LP : ∀ (r k j : Nat) (la : Int32) (h : PH), k + r = 12 → exD f 12 128 i = exD f r la j → j ≤ m → DE c li ra de h0 W p co b (nI j) (nI m) h → X z 0 0 (EQ h) 6 [some (.ref de), some (.ref p), some (.int la), some (.int (nI k))] [] := by
    intro r
    induction r with
    | zero =>
      intro k j la h hk h1 h2 D
      obtain rfl : k = 12 := by omega
      refine x_iload_n C dX1_readVifs_6 rfl ?_
      refine x_bipush (v := 11) C dX1_readVifs_7 (by decide) ?_
      exact x_icmp_gt (tgt := 63) C dX1_readVifs_9 (by decide) (fun _ => T63 h j _ _ h1 h2 D) (fun q => absurd (by decide) q)
    | succ r ih =>
      intro k j la h hk h1 h2 D
      refine x_iload_n C dX1_readVifs_6 rfl ?_
      refine x_bipush (v := 11) C dX1_readVifs_7 (by decide) ?_
      refine x_icmp_gt (tgt := 63) C dX1_readVifs_9 (by decide) (fun q => absurd q (Int32.not_lt.mpr (nI_le (show k ≤ 11 by omega) (by decide)))) (fun _ => ?_)
      refine x_iload_n C dX1_readVifs_12 rfl ?_
      refine x_sipush (v := 128) C dX1_readVifs_13 (by decide) ?_
      refine x_iand C dX1_readVifs_16 ?_
      refine x_if_eq (tgt := 63) C dX1_readVifs_17 (by decide) (fun q => T63 h j _ _ (by rw [h1]; exact if_pos q) h2 D) (fun q17 => ?_)
      refine x_aload_n C dX1_readVifs_20 rfl ?_
      refine x_iconst (v := 1) C dX1_readVifs_21 (by decide) ?_
      refine k_there (s := 1) (st := []) C Y hW E.cs (by decide) h2 hm (by decide) D dX1_readVifs_22 (by decide) (fun hj1 => ?_) (fun g Dg => ?_)
      · refine x_if_ne (tgt := 30) C dX1_readVifs_25 (by decide) (fun _ => ?_) (fun q => absurd q (by decide))
        refine x_iload_n C dX1_readVifs_30 rfl ?_
        refine x_bipush (v := 10) C dX1_readVifs_31 (by decide) ?_
        refine x_icmp_le (tgt := 47) C dX1_readVifs_33 (by decide) (fun _ => ?_) (fun _ => ?_)
        · refine x_aload_n C dX1_readVifs_47 rfl ?_
          refine k_take (st := []) C Y hW E.cs (by decide) R o1 o2 D dX1_readVifs_48 (by decide) (fun g Dg => ?_)
          rw [nI_1] at Dg
          refine o_istore_nE (L' := [some _, some _, some _, some _]) C dX1_readVifs_51 (by rw [hn]; decide) rfl ?_
          refine x_aload_n C dX1_readVifs_52 rfl ?_
          refine x_iload_n C dX1_readVifs_53 rfl ?_
          obtain ⟨κ, Dk, hp, va, sg, fu, ta, un, ln, v, vn, lt, B, v1, v2, v3⟩ := Dg.1.get
          obtain ⟨fv, V⟩ := Dk.vf v1
          have npv : p ≠ v := fun e => by rw [e, v1] at hp; exact absurd hp (by decide)
          refine k_callV (kc := 0) (ks := 0) (mc' := 0) (ms' := 0) (st := []) C E.cs hW.1 gw_good (q_addVif hW v2 B V npv _) md_X3_addVif wi_X3_addVif ws_X3_addVif wm_X1_124 dX1_readVifs_54 rfl (by decide) (by decide) (fun q e => by rw [e]; exact B) (by rw [Y.1]; rfl) rfl (by decide) (fun r => X.opn (fun g2 hg => ?_))
          obtain ⟨rfl, f', k', hk', e2⟩ := hg
          have D2 : DE c li ra de h0 W p co b (nI (j + 1)) (nI m) g2 := by
            rw [e2]
            refine Dg.rd ⟨κ, (Dk.putVf v1 f').putRd hp ⟨va, sg, co, fu, ta, un, ln, v, k', lt, rfl, v1, hk', v3⟩, hp, _, _, hs_self ..⟩ ?_
            rw [hs_ne (Dk.pd (by omega)), hs_ne (Dk.pd (by omega))]
          refine o_iincE (v := nI (k + 1)) (L' := [some _, some _, some _, some _]) C dX1_readVifs_57 rfl (nI_1 k) (by rw [hn]; decide) rfl ?_
          refine x_goto (tgt := 6) C dX1_readVifs_60 (by decide) ?_
          rw [rAt_in (by omega) R.2.2.2]
          exact ih (k + 1) (j + 1) _ g2 (by omega) (by rw [h1]; exact if_neg q17) hj1 D2
        · obtain ⟨-, fa, pl, mo, B, hm1⟩ := id D
          refine x_aload_n C dX1_readVifs_36 rfl ?_
          refine x_bipush (v := 6) C dX1_readVifs_37 (by decide) ?_
          refine x_aload_n C dX1_readVifs_39 rfl ?_
          refine e_get C Y kd_X1 2 (by decide) wf_X1_9 dX1_readVifs_40 B rfl ?_
          refine k_wrong (st := []) C Y hW E.cs (by decide) D dX1_readVifs_43 (by decide) (fun g Dg => ?_)
          exact x_zret C E dX1_readVifs_46 (by decide) (fun q e => by subst e; exact RE.no Dg)
      · refine x_if_ne (tgt := 30) C dX1_readVifs_25 (by decide) (fun q => absurd rfl q) (fun _ => ?_)
        refine x_iconst (v := 0) C dX1_readVifs_28 (by decide) ?_
        exact x_zret C E dX1_readVifs_29 (by decide) (fun q e => by subst e; exact RE.no Dg)
  refine x_sipush (v := 128) C dX1_readVifs_0 (by decide) ?_
  refine o_istore_nE (L' := [some _, some _, some _, none]) C dX1_readVifs_3 (by rw [hn]; decide) rfl ?_
  refine x_iconst (v := 0) C dX1_readVifs_4 (by decide) ?_
  refine o_istore_nE (L' := [some _, some _, some _, some _]) C dX1_readVifs_5 (by rw [hn]; decide) rfl ?_
  exact LP 12 0 i 128 h rfl rfl hi D
section Fin
variable {z : Fx} {cc : ByteArray} {kc ks pc : Nat} {L : List (Option Value)} {st : List Value} {lvl : Nat}
/-- draft.setValue, and what comes behind it -/
theorem k_setValue (C : Cx z RX1 cc gw) (Y : Cty z c) (hW : Wc w c) (E : Cs z w lvl (40 * lvl)) (hl : 0 < lvl) {a e : Int32} (D : DE c li ra de h0 W p co b a e h) (x : Int64) (d : decode cc pc = .ok (.invokevirtual 146, 3)) (hcat : (st.map fun v => v.category).sum ≤ 8)
    (k : ∀ g, DE c li ra de h0 W p co b a e g → X z kc ks (EQ g) (pc + 3) L st) : X z kc ks (EQ h) pc L (.long x :: .ref p :: st) := by
  obtain ⟨κ, Dk, hp, va, sg, fu, ta, un, ln, v, vn, lt, B, v1, v2, v3⟩ := D.1.get
  refine u_callV (st := st) C Y hW E (q_setValue hW B x) md_X3_setValue wi_X3_setValue ws_X3_setValue wm_X1_146 d rfl hl (by decide) B rfl rfl hcat ?_
  exact k _ (D.setValue B x)
/-- frame.at, and what comes behind it -/
theorem k_at (C : Cx z RX1 cc gw) (Y : Cty z c) (hW : Wc w c) (E : Cs z w lvl (40 * lvl)) (hl : 0 < lvl) (R : RW c h b ba f n) (x : Int32) (d : decode cc pc = .ok (.invokevirtual 62, 3)) (hcat : (st.map fun v => v.category).sum ≤ 8)
    (k : X z kc ks (EQ h) (pc + 3) L (.int (rAt f n x) :: st)) : X z kc ks (EQ h) pc L (.int x :: .ref b :: st) :=
  u_callV (st := st) C Y hW E (r_at hW R x) md_X5_at wi_X5_at ws_X5_at wm_X1_62 d rfl hl (by decide) R.2.1 rfl rfl hcat k
end Fin
theorem d_number (hW : Wc w c) (R : RW c h0 b ba f n) (o1 : W b) (o2 : W ba) {i m s : Nat} (hi : i ≤ m) (hm : m ≤ 256) (hs8 : s ≤ 8) : T w gw yX1_readNumber cX1_readNumber 7 (some .boolean) 2 (40 * 2) 0 0 [.ref de, .ref p, .int (nI s)] (DE c li ra de h0 W p co b (nI i) (nI m)) (RS c li ra de h0 W p co b i m) := by
  refine TA.intro hW rfl (by decide +kernel) (Nat.le_of_ble_eq_true rfl) (fun z C Y E hn h D => ?_)
  refine x_aload_n C dX1_readNumber_0 rfl ?_
  refine x_iload_n C dX1_readNumber_1 rfl ?_
  refine k_there (s := s) (st := []) C Y hW E.cs (by decide) hi hm (by omega) D dX1_readNumber_2 (by decide) (fun hj1 => ?_) (fun g Dg => ?_)
  rotate_left
  · refine x_if_ne (tgt := 10) C dX1_readNumber_5 (by decide) (fun q => absurd rfl q) (fun _ => ?_)
    refine x_iconst (v := 0) C dX1_readNumber_8 (by decide) ?_
    exact x_zret C E dX1_readNumber_9 (by decide) (fun q e => by subst e; exact RS.no Dg)
  refine x_if_ne (tgt := 10) C dX1_readNumber_5 (by decide) (fun _ => ?_) (fun q => absurd q (by decide))
  have Rh := D.1.row R o1 o2
  obtain ⟨-, fa, pl, mo, B, hm1⟩ := id D
  have LP : ∀ (r : Nat) (x3 : Int32) (v : Int64), r ≤ s → X z 0 0 (EQ h) 60 [some (.ref de), some (.ref p), some (.int (nI s)), some (.int x3), some (.long v), none, some (.int (nI r - 1))] [] := by
    intro r
    induction r with
    | zero =>
      intro x3 v hr
      refine x_iload C dX1_readNumber_60 rfl ?_
      refine x_if_lt (tgt := 94) C dX1_readNumber_62 (by decide) (fun _ => ?_) (fun q => absurd (by decide) q)
      refine x_aload_n C dX1_readNumber_94 rfl ?_
      refine x_lload C dX1_readNumber_95 rfl ?_
      refine k_setValue (st := []) C Y hW E.cs (by decide) D v dX1_readNumber_97 (by decide) (fun g Dg => ?_)
      obtain ⟨-, fa2, pl2, mo2, B2, hm2⟩ := id Dg
      refine x_aload_n C dX1_readNumber_100 rfl ?_
      refine x_dup C dX1_readNumber_101 rfl ?_
      refine e_get C Y kd_X1 2 (by decide) wf_X1_9 dX1_readNumber_102 B2 rfl ?_
      refine x_iload_n C dX1_readNumber_105 rfl ?_
      refine x_iadd C dX1_readNumber_106 ?_
      rw [nI_add]
      refine e_put C Y kd_X1 2 (by decide) rfl wf_X1_9 dX1_readNumber_107 B2 (Nat.le_of_ble_eq_true rfl) rfl rfl rfl ?_
      refine x_iconst (v := 1) C dX1_readNumber_110 (by decide) ?_
      exact x_zret C E dX1_readNumber_111 (by decide) (fun q e => by subst e; exact RS.yes (by omega) hj1 (Dg.set B2 _ _ _))
    | succ r ih =>
      intro x3 v hr
      have e1 : nI (r + 1) - 1 = nI r := by rw [← nI_1]; exact Int32.add_sub_cancel ..
      rw [e1]
      refine x_iload C dX1_readNumber_60 rfl ?_
      refine x_if_lt (tgt := 94) C dX1_readNumber_62 (by decide) (fun q => absurd q (nI_pos (by omega))) (fun _ => ?_)
      refine x_lload C dX1_readNumber_65 rfl ?_
      refine x_bipush (v := 8) C dX1_readNumber_67 (by decide) ?_
      refine x_lshl C dX1_readNumber_69 ?_
      refine x_aload_n C dX1_readNumber_70 rfl ?_
      refine e_get C Y kd_X1 1 (by decide) wf_X1_28 dX1_readNumber_71 B rfl ?_
      refine x_aload_n C dX1_readNumber_74 rfl ?_
      refine e_get C Y kd_X1 2 (by decide) wf_X1_9 dX1_readNumber_75 B rfl ?_
      refine x_iload C dX1_readNumber_78 rfl ?_
      refine x_iadd C dX1_readNumber_80 ?_
      refine k_at (st := [_]) C Y hW E.cs (by decide) Rh _ dX1_readNumber_81 (by simp [Value.category]) ?_
      refine x_i2l C dX1_readNumber_84 ?_
      refine x_lor C dX1_readNumber_85 ?_
      refine o_lstoreE (L' := [some _, some _, some _, some _, some _, none, some _]) C dX1_readNumber_86 (by rw [hn]; decide) rfl ?_
      refine o_iincE (v := nI r - 1) (L' := [some _, some _, some _, some _, some _, none, some _]) C dX1_readNumber_88 rfl (by rw [Int32.sub_eq_add_neg]; rfl) (by rw [hn]; decide) rfl ?_
      refine x_goto (tgt := 60) C dX1_readNumber_91 (by decide) ?_
      exact ih x3 _ (by omega)
  have T53 : ∀ (x3 : Int32) (v : Int64), X z 0 0 (EQ h) 53 [some (.ref de), some (.ref p), some (.int (nI s)), some (.int x3), none, none, none] [.long v] := fun x3 v => by
    refine o_lstoreE (L' := [some _, some _, some _, some _, some _, none, none]) C dX1_readNumber_53 (by rw [hn]; decide) rfl ?_
    refine x_iload_n C dX1_readNumber_55 rfl ?_
    refine x_iconst (v := 1) C dX1_readNumber_56 (by decide) ?_
    refine x_isub C dX1_readNumber_57 ?_
    refine o_istoreE (L' := [some _, some _, some _, some _, some _, none, some _]) C dX1_readNumber_58 (by rw [hn]; decide) rfl ?_
    exact LP s x3 v (Nat.le_refl _)
  have T41 : ∀ x3 : Int32, X z 0 0 (EQ h) 41 [some (.ref de), some (.ref p), some (.int (nI s)), none, none, none, none] [.int x3] := fun x3 => by
    refine o_istore_nE (L' := [some _, some _, some _, some _, none, none, none]) C dX1_readNumber_41 (by rw [hn]; decide) rfl ?_
    refine x_iload_n C dX1_readNumber_42 rfl ?_
    refine x_if_eq (tgt := 52) C dX1_readNumber_43 (by decide) (fun _ => ?_) (fun _ => ?_)
    · exact x_lconst (v := 0) C dX1_readNumber_52 (by decide) (T53 _ _)
    · refine x_ldc2 C wk_X1_144 dX1_readNumber_46 ?_
      exact x_goto (tgt := 53) C dX1_readNumber_49 (by decide) (T53 _ _)
  have T40 : X z 0 0 (EQ h) 40 [some (.ref de), some (.ref p), some (.int (nI s)), none, none, none, none] [] := x_iconst (v := 0) C dX1_readNumber_40 (by decide) (T41 0)
  refine x_iload_n C dX1_readNumber_10 rfl ?_
  refine x_if_le (tgt := 40) C dX1_readNumber_11 (by decide) (fun _ => T40) (fun _ => ?_)
  refine x_aload_n C dX1_readNumber_14 rfl ?_
  refine e_get C Y kd_X1 1 (by decide) wf_X1_28 dX1_readNumber_15 B rfl ?_
  refine x_aload_n C dX1_readNumber_18 rfl ?_
  refine e_get C Y kd_X1 2 (by decide) wf_X1_9 dX1_readNumber_19 B rfl ?_
  refine x_iload_n C dX1_readNumber_22 rfl ?_
  refine x_iadd C dX1_readNumber_23 ?_
  refine x_iconst (v := 1) C dX1_readNumber_24 (by decide) ?_
  refine x_isub C dX1_readNumber_25 ?_
  refine k_at (st := []) C Y hW E.cs (by decide) Rh _ dX1_readNumber_26 (by decide) ?_
  refine x_sipush (v := 128) C dX1_readNumber_29 (by decide) ?_
  refine x_iand C dX1_readNumber_32 ?_
  refine x_if_eq (tgt := 40) C dX1_readNumber_33 (by decide) (fun _ => T40) (fun _ => ?_)
  refine x_iconst (v := 1) C dX1_readNumber_36 (by decide) ?_
  exact x_goto (tgt := 41) C dX1_readNumber_37 (by decide) (T41 1)
end Dec
