/-! Decoder: digits, texts, values. -/
theorem T.pre {w : Wd} {gw : List Cond} {y : MethodName} {cc : ByteArray} {n : Nat} {rt : Option FieldType} {fr lo mc ms : Nat} {as : List Value} {A A' : PH → Prop} {P : Option Value → PH → Prop} (M : T w gw y cc n rt fr lo mc ms as A' P) (h : ∀ g, A g → A' g) : T w gw y cc n rt fr lo mc ms as A P := fun p e ha hc hk s m args below hf happ hP hK => M p e ha hc hk s m args below hf happ ⟨hP.1, hP.2.1, hP.2.2.1, hP.2.2.2.1, by obtain ⟨g, g1, g2⟩ := hP.2.2.2.2; exact ⟨g, h g g1, g2⟩⟩ hK
section Rows
variable {z : Fx} {own : String} {cc : ByteArray} {kc ks pc : Nat} {L : List (Option Value)} {st : List Value} {w : Wd} {c : Nat → ClassId} {fr lo : Nat} {h : PH}
/-- a call of a method whose contract is over an assertion, the heap being told -/
theorem k_callR (C : Cx z own cc gw) (Y : Cty z c) (hW : Wc w c) (E : Cs z w fr lo) {y' : MethodName} {cc' : ByteArray} {n' np ci index fr' lo' mc' ms' b : Nat} {rt' : Option FieldType} {As fs stk : List Value} {Tu : u_T} {N : Nat} {A' : PH → Prop} {P' : Option Value → PH → Prop}
    (M : T w gw y' cc' n' rt' fr' lo' mc' ms' (.ref b :: As) A' P') (hA : A' h) (md : Md gw y' cc' n' rt' np) (wi : Cond.instanceMethod y' ∈ gw) (wse : Cond.selects y'.cls y' y' ∈ gw) (wl : Cond.methodLink own index y' ∈ gw) (d : decode cc pc = .ok (.invokevirtual index, 3)) (hn : As.length = np) (hf : fr' + 1 ≤ fr) (hlo : 8 + (n' + 11) + lo' ≤ lo)
    (gb : h b = some (.inr (ci, fs))) (hcl : vwCl[ci]? = some (y'.cls, Tu, N)) (hs : stk = As.reverse ++ .ref b :: st) (hcat : (st.map fun v => v.category).sum ≤ 8)
    (k : ∀ (r : Option Value) (g : PH), P' r g → X z kc ks (EQ g) (pc + 3) L (r.toList ++ st)) : X z (kc + mc') (ks + ms') (EQ h) pc L stk :=
  k_callV C E hW.1 gw_good (M.pre (fun g e => by subst e; exact hA)) md wi wse wl d hn hf hlo (fun q e => by rw [e]; exact gb) (by rw [Y.1]; exact hcl) hs hcat (fun r => X.opn (fun g hg => k r g hg))
end Rows
section Dec
variable {w : Wd} {c : Nat → ClassId} {h h0 : PH} {li ra de p b ba n : Nat} {W : Nat → Prop} {f : Nat → Int32} {co : Int32}
theorem d_bcd (hX : Wx w c) (R : RW c h0 b ba f n) (o1 : W b) (o2 : W ba) {i m s : Nat} (hi : i ≤ m) (hm : m ≤ 256) (hs9 : s ≤ 9) (sn mi : Int32) : T w gw yX1_readBcd cX1_readBcd 11 (some .boolean) 2 (40 * 2) 0 0 [.ref de, .ref p, .int (nI s), .int sn, .int mi] (DE c li ra de h0 W p co b (nI i) (nI m)) (RS c li ra de h0 W p co b i m) := by
  have hW := hX.1
  refine TA.intro hW rfl (by decide +kernel) (Nat.le_of_ble_eq_true rfl) (fun z C Y E hn h D => ?_)
  refine x_aload_n C dX1_readBcd_0 rfl ?_
  refine x_iload_n C dX1_readBcd_1 rfl ?_
  refine k_there (s := s) (st := []) C Y hW E.cs (by decide) hi hm (by omega) D dX1_readBcd_2 (by decide) (fun hj1 => ?_) (fun g Dg => ?_)
  rotate_left
  · refine x_if_ne (tgt := 10) C dX1_readBcd_5 (by decide) (fun q => absurd rfl q) (fun _ => ?_)
    refine x_iconst (v := 0) C dX1_readBcd_8 (by decide) ?_
    exact x_zret C E dX1_readBcd_9 (by decide) (fun q e => by subst e; exact RS.no Dg)
  refine x_if_ne (tgt := 10) C dX1_readBcd_5 (by decide) (fun _ => ?_) (fun q => absurd q (by decide))
  have Rh := D.1.row R o1 o2
  obtain ⟨-, fa, pl, mo, B, hm1⟩ := id D
  have LP : ∀ (r k : Nat) (v u : Int64) (l10 : Option Value), k + r = s → X z 0 0 (EQ h) 19 [some (.ref de), some (.ref p), some (.int (nI s)), some (.int sn), some (.int mi), some (.long v), none, some (.long u), none, some (.int (nI k)), l10] [] := by
    intro r
    induction r with
    | zero =>
      intro k v u l10 hk
      obtain rfl : k = s := by omega
      refine x_iload C dX1_readBcd_19 rfl ?_
      refine x_iload_n C dX1_readBcd_21 rfl ?_
      refine x_icmp_ge (tgt := 119) C dX1_readBcd_22 (by decide) (fun _ => ?_) (fun q => absurd (Int32.le_refl _) q)
      refine x_aload_n C dX1_readBcd_119 rfl ?_
      refine x_iload_n C dX1_readBcd_120 rfl ?_
      refine x_i2l C dX1_readBcd_121 ?_
      refine x_lload C dX1_readBcd_122 rfl ?_
      refine x_lmul C dX1_readBcd_124 ?_
      refine k_setValue (st := []) C Y hW E.cs (by decide) D _ dX1_readBcd_125 (by decide) (fun g Dg => ?_)
      obtain ⟨-, fa2, pl2, mo2, B2, hm2⟩ := id Dg
      refine x_aload_n C dX1_readBcd_128 rfl ?_
      refine x_dup C dX1_readBcd_129 rfl ?_
      refine e_get C Y kd_X1 2 (by decide) wf_X1_9 dX1_readBcd_130 B2 rfl ?_
      refine x_iload_n C dX1_readBcd_133 rfl ?_
      refine x_iadd C dX1_readBcd_134 ?_
      rw [nI_add]
      refine e_put C Y kd_X1 2 (by decide) rfl wf_X1_9 dX1_readBcd_135 B2 (Nat.le_of_ble_eq_true rfl) rfl rfl rfl ?_
      refine x_iconst (v := 1) C dX1_readBcd_138 (by decide) ?_
      exact x_zret C E dX1_readBcd_139 (by decide) (fun q e => by subst e; exact RS.yes (by omega) hj1 (Dg.set B2 _ _ _))
    | succ r ih =>
      intro k v u l10 hk
      refine x_iload C dX1_readBcd_19 rfl ?_
      refine x_iload_n C dX1_readBcd_21 rfl ?_
      refine x_icmp_ge (tgt := 119) C dX1_readBcd_22 (by decide) (fun q => absurd q (Int32.not_le.mpr (nI_lt (show k < s by omega) (by omega)))) (fun _ => ?_)
      refine x_aload_n C dX1_readBcd_25 rfl ?_
      refine e_get C Y kd_X1 1 (by decide) wf_X1_28 dX1_readBcd_26 B rfl ?_
      refine x_aload_n C dX1_readBcd_29 rfl ?_
      refine e_get C Y kd_X1 2 (by decide) wf_X1_9 dX1_readBcd_30 B rfl ?_
      refine x_iload C dX1_readBcd_33 rfl ?_
      refine x_iadd C dX1_readBcd_35 ?_
      refine k_at (st := []) C Y hW E.cs (by decide) Rh _ dX1_readBcd_36 (by decide) ?_
      have T61 : ∀ x : Int32, X z 0 0 (EQ h) 61 [some (.ref de), some (.ref p), some (.int (nI s)), some (.int sn), some (.int mi), some (.long v), none, some (.long u), none, some (.int (nI k)), some (.int x)] [] := fun x => by
        refine x_iload C dX1_readBcd_61 rfl ?_
        refine k_callSN (kc := 0) (ks := 0) (mc' := 0) (ms' := 0) (st := []) C E.cs hW.1 gw_good (m_areDigits hW x) md_X6_areDigits wt_X6_areDigits (E.cs.nest hX (q := (RX1, 81, yX6_areDigits)) (by simp [nst])) dX1_readBcd_63 rfl (by decide) (by decide) rfl (by decide) (fun r => X.opn (fun g hg => ?_))
        obtain ⟨rfl, e⟩ := hg
        subst e
        refine x_if_ne (tgt := 83) C dX1_readBcd_66 (by decide) (fun _ => ?_) (fun _ => ?_)
        · refine x_lload C dX1_readBcd_83 rfl ?_
          refine x_lload C dX1_readBcd_85 rfl ?_
          refine x_iload C dX1_readBcd_87 rfl ?_
          refine x_iconst (v := 4) C dX1_readBcd_89 (by decide) ?_
          refine x_ishr C dX1_readBcd_90 ?_
          refine x_bipush (v := 10) C dX1_readBcd_91 (by decide) ?_
          refine x_imul C dX1_readBcd_93 ?_
          refine x_iload C dX1_readBcd_94 rfl ?_
          refine x_bipush (v := 15) C dX1_readBcd_96 (by decide) ?_
          refine x_iand C dX1_readBcd_98 ?_
          refine x_iadd C dX1_readBcd_99 ?_
          refine x_i2l C dX1_readBcd_100 ?_
          refine x_lmul C dX1_readBcd_101 ?_
          refine x_ladd C dX1_readBcd_102 ?_
          refine o_lstoreE (L' := [some _, some _, some _, some _, some _, some _, none, some _, none, some _, some _]) C dX1_readBcd_103 (by rw [hn]; decide) rfl ?_
          refine x_lload C dX1_readBcd_105 rfl ?_
          refine x_ldc2 C wk_X1_150 dX1_readBcd_107 ?_
          refine x_lmul C dX1_readBcd_110 ?_
          refine o_lstoreE (L' := [some _, some _, some _, some _, some _, some _, none, some _, none, some _, some _]) C dX1_readBcd_111 (by rw [hn]; decide) rfl ?_
          refine o_iincE (v := nI (k + 1)) (L' := [some _, some _, some _, some _, some _, some _, none, some _, none, some _, some _]) C dX1_readBcd_113 rfl (nI_1 k) (by rw [hn]; decide) rfl ?_
          refine x_goto (tgt := 19) C dX1_readBcd_116 (by decide) ?_
          exact ih (k + 1) _ _ _ (by omega)
        · refine x_aload_n C dX1_readBcd_69 rfl ?_
          refine x_bipush (v := 7) C dX1_readBcd_70 (by decide) ?_
          refine x_aload_n C dX1_readBcd_72 rfl ?_
          refine e_get C Y kd_X1 2 (by decide) wf_X1_9 dX1_readBcd_73 B rfl ?_
          refine x_iload C dX1_readBcd_76 rfl ?_
          refine x_iadd C dX1_readBcd_78 ?_
          refine k_wrong (st := []) C Y hW E.cs (by decide) D dX1_readBcd_79 (by decide) (fun g Dg => ?_)
          exact x_zret C E dX1_readBcd_82 (by decide) (fun q e => by subst e; exact RS.no Dg)
      refine o_istoreE (L' := [some _, some _, some _, some _, some _, some _, none, some _, none, some _, some _]) C dX1_readBcd_39 (by rw [hn]; decide) rfl ?_
      refine x_iload C dX1_readBcd_41 rfl ?_
      refine x_if_eq (tgt := 61) C dX1_readBcd_43 (by decide) (fun _ => T61 _) (fun _ => ?_)
      refine x_iload C dX1_readBcd_46 rfl ?_
      refine x_iload_n C dX1_readBcd_48 rfl ?_
      refine x_iconst (v := 1) C dX1_readBcd_49 (by decide) ?_
      refine x_isub C dX1_readBcd_50 ?_
      refine x_icmp_ne (tgt := 61) C dX1_readBcd_51 (by decide) (fun _ => T61 _) (fun _ => ?_)
      refine x_iload C dX1_readBcd_54 rfl ?_
      refine x_bipush (v := 15) C dX1_readBcd_56 (by decide) ?_
      refine x_iand C dX1_readBcd_58 ?_
      refine o_istoreE (L' := [some _, some _, some _, some _, some _, some _, none, some _, none, some _, some _]) C dX1_readBcd_59 (by rw [hn]; decide) rfl ?_
      exact T61 _
  refine x_lconst (v := 0) C dX1_readBcd_10 (by decide) ?_
  refine o_lstoreE (L' := [some _, some _, some _, some _, some _, some _, none, none, none, none, none]) C dX1_readBcd_11 (by rw [hn]; decide) rfl ?_
  refine x_lconst (v := 1) C dX1_readBcd_13 (by decide) ?_
  refine o_lstoreE (L' := [some _, some _, some _, some _, some _, some _, none, some _, none, none, none]) C dX1_readBcd_14 (by rw [hn]; decide) rfl ?_
  refine x_iconst (v := 0) C dX1_readBcd_16 (by decide) ?_
  refine o_istoreE (L' := [some _, some _, some _, some _, some _, some _, none, some _, none, some _, none]) C dX1_readBcd_17 (by rw [hn]; decide) rfl ?_
  exact LP s 0 _ _ _ (Nat.zero_add s)
theorem d_signed (hX : Wx w c) (R : RW c h0 b ba f n) (o1 : W b) (o2 : W ba) {i m s : Nat} (hi : i ≤ m) (hm : m ≤ 256) (hs9 : s ≤ 9) : T w gw yX1_readSignedBcd cX1_readSignedBcd 4 (some .boolean) 3 (40 * 3) 0 0 [.ref de, .ref p, .int (nI s)] (DE c li ra de h0 W p co b (nI i) (nI m)) (RS c li ra de h0 W p co b i m) := by
  have hW := hX.1
  refine TA.intro hW rfl (by decide +kernel) (Nat.le_of_ble_eq_true rfl) (fun z C Y E hn h D => ?_)
  have Rh := D.1.row R o1 o2
  obtain ⟨-, fa, pl, mo, B, hm1⟩ := id D
  have T40 : ∀ x y : Int32, X z 0 0 (EQ h) 40 [some (.ref de), some (.ref p), some (.int (nI s)), some (.int x)] [.int y, .int (nI s), .ref p, .ref de] := fun x y => by
    refine x_iload_n C dX1_readSignedBcd_40 rfl ?_
    refine k_callR (kc := 0) (ks := 0) (mc' := 0) (ms' := 0) (st := []) C Y hW E.cs (d_bcd hX R o1 o2 hi hm hs9 y x) D md_X1_readBcd wi_X1_readBcd ws_X1_readBcd wm_X1_136 dX1_readSignedBcd_41 rfl (by decide) (by decide) B rfl rfl (by decide) (fun r g hg => ?_)
    rcases hg with ⟨rfl, j, j1, j2, Dg⟩ | ⟨rfl, aa, Dg⟩
    · exact x_zret C E dX1_readSignedBcd_44 (by decide) (fun q e => by subst e; exact RS.yes j1 j2 Dg)
    · exact x_zret C E dX1_readSignedBcd_44 (by decide) (fun q e => by subst e; exact RS.no Dg)
  have T27 : ∀ x : Int32, X z 0 0 (EQ h) 27 [some (.ref de), some (.ref p), some (.int (nI s)), none] [.int x] := fun x => by
    refine o_istore_nE (L' := [some _, some _, some _, some _]) C dX1_readSignedBcd_27 (by rw [hn]; decide) rfl ?_
    refine x_aload_n C dX1_readSignedBcd_28 rfl ?_
    refine x_aload_n C dX1_readSignedBcd_29 rfl ?_
    refine x_iload_n C dX1_readSignedBcd_30 rfl ?_
    refine x_iload_n C dX1_readSignedBcd_31 rfl ?_
    refine x_if_eq (tgt := 39) C dX1_readSignedBcd_32 (by decide) (fun _ => ?_) (fun _ => ?_)
    · exact x_iconst (v := 1) C dX1_readSignedBcd_39 (by decide) (T40 _ _)
    · refine x_iconst (v := -1) C dX1_readSignedBcd_35 (by decide) ?_
      exact x_goto (tgt := 40) C dX1_readSignedBcd_36 (by decide) (T40 _ _)
  refine x_aload_n C dX1_readSignedBcd_0 rfl ?_
  refine e_get C Y kd_X1 1 (by decide) wf_X1_28 dX1_readSignedBcd_1 B rfl ?_
  refine x_aload_n C dX1_readSignedBcd_4 rfl ?_
  refine e_get C Y kd_X1 2 (by decide) wf_X1_9 dX1_readSignedBcd_5 B rfl ?_
  refine x_iload_n C dX1_readSignedBcd_8 rfl ?_
  refine x_iadd C dX1_readSignedBcd_9 ?_
  refine x_iconst (v := 1) C dX1_readSignedBcd_10 (by decide) ?_
  refine x_isub C dX1_readSignedBcd_11 ?_
  refine k_at (st := []) C Y hW E.cs (by decide) Rh _ dX1_readSignedBcd_12 (by decide) ?_
  refine x_iconst (v := 4) C dX1_readSignedBcd_15 (by decide) ?_
  refine x_ishr C dX1_readSignedBcd_16 ?_
  refine x_bipush (v := 15) C dX1_readSignedBcd_17 (by decide) ?_
  refine x_icmp_ne (tgt := 26) C dX1_readSignedBcd_19 (by decide) (fun _ => ?_) (fun _ => ?_)
  · exact x_iconst (v := 0) C dX1_readSignedBcd_26 (by decide) (T27 _)
  · refine x_iconst (v := 1) C dX1_readSignedBcd_22 (by decide) ?_
    exact x_goto (tgt := 27) C dX1_readSignedBcd_23 (by decide) (T27 _)
theorem d_text (hX : Wx w c) (R : RW c h0 b ba f n) (o1 : W b) (o2 : W ba) {i m s : Nat} (hi : i ≤ m) (hm : m ≤ 256) (hs3 : s ≤ 300) : T w gw yX1_readText cX1_readText 3 (some .boolean) 2 (40 * 2) 1 (min s (m - i)) [.ref de, .ref p, .int (nI s)] (DE c li ra de h0 W p co b (nI i) (nI m)) (RS c li ra de h0 W p co b (i + s) m) := by
  have hW := hX.1
  refine TA.intro hW rfl (by decide +kernel) (Nat.le_of_ble_eq_true rfl) (fun z C Y E hn h D => ?_)
  refine x_aload_n C dX1_readText_0 rfl ?_
  refine x_iload_n C dX1_readText_1 rfl ?_
  refine k_there (s := s) (st := []) C Y hW E.cs (by decide) hi hm hs3 D dX1_readText_2 (by decide) (fun hj1 => ?_) (fun g Dg => ?_)
  rotate_left
  · refine x_if_ne (tgt := 10) C dX1_readText_5 (by decide) (fun q => absurd rfl q) (fun _ => ?_)
    refine x_iconst (v := 0) C dX1_readText_8 (by decide) ?_
    exact x_zret C E dX1_readText_9 (by decide) (fun q e => by subst e; exact RS.no Dg)
  refine x_if_ne (tgt := 10) C dX1_readText_5 (by decide) (fun _ => ?_) (fun q => absurd q (by decide))
  obtain ⟨D1, fa, pl, mo, B, hm1⟩ := id D
  refine x_aload_n C dX1_readText_10 rfl ?_
  refine x_aload_n C dX1_readText_11 rfl ?_
  refine e_get C Y kd_X1 1 (by decide) wf_X1_28 dX1_readText_12 B rfl ?_
  refine x_aload_n C dX1_readText_15 rfl ?_
  refine e_get C Y kd_X1 2 (by decide) wf_X1_9 dX1_readText_16 B rfl ?_
  refine x_iload_n C dX1_readText_19 rfl ?_
  refine X.room (kc' := 0 + 1) (ks' := 0 + s) ?_ (by omega) (by omega)
  obtain ⟨κ, Dk, hp, va, sg, fu, ta, un, ln, v, vn, lt, Bp, v1, v2, v3⟩ := D1.get
  refine k_callR (kc := 0) (ks := 0) (st := []) C Y hW E.cs (q_setText hW R o1 o2 _ s hs3 _ _) D md_X3_setText wi_X3_setText ws_X3_setText wm_X1_140 dX1_readText_20 rfl (by decide) (by decide) Bp rfl rfl (by decide) (fun r g hg => ?_)
  obtain ⟨rfl, Dg⟩ := hg
  obtain ⟨-, fa2, pl2, mo2, B2, hm2⟩ := id Dg
  refine x_aload_n C dX1_readText_23 rfl ?_
  refine x_dup C dX1_readText_24 rfl ?_
  refine e_get C Y kd_X1 2 (by decide) wf_X1_9 dX1_readText_25 B2 rfl ?_
  refine x_iload_n C dX1_readText_28 rfl ?_
  refine x_iadd C dX1_readText_29 ?_
  rw [nI_add]
  refine e_put C Y kd_X1 2 (by decide) rfl wf_X1_9 dX1_readText_30 B2 (Nat.le_of_ble_eq_true rfl) rfl rfl rfl ?_
  refine x_iconst (v := 1) C dX1_readText_33 (by decide) ?_
  exact x_zret C E dX1_readText_34 (by decide) (fun q e => by subst e; exact RS.yes (Nat.le_refl _) hj1 (Dg.set B2 _ _ _))
end Dec
