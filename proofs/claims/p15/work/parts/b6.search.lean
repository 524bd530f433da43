/-! MeterBus at any time: the search. -/
section Search
variable {w : Wd} {c : Nat → ClassId} {a : Nat → Nat} {h9 : PH} {V : Nat → Prop} {h : PH} {α : Nat → Int64} {f : Nat → Option Nat} {κ κd : Nat → Nat}
theorem zz_withPart (hX : Wx w c) (mk : Int64) (n v : Int32) : T w gw yX6_withPart cX6_withPart 5 (some .long) 0 (40 * 0) 0 0 [.long mk, .int n, .int v] (EQ h) (fun r g => (∃ v, r = some (.long v)) ∧ g = h) := by
  have hW := hX.1
  refine TA.intro hW rfl (by decide +kernel) (Nat.le_of_ble_eq_true rfl) (fun z C Y E hn h1 hA => ?_)
  rw [show h1 = h from hA]
  clear hA
  refine x_iload_n C dX6_withPart_0 rfl ?_
  refine x_bipush (v := 8) C dX6_withPart_1 (by decide) ?_
  refine x_icmp_ge (tgt := 33) C dX6_withPart_3 (by decide) (fun _ => ?_) (fun _ => ?_)
  · refine x_bipush (v := 32) C dX6_withPart_33 (by decide) ?_
    refine x_bipush (v := 8) C dX6_withPart_35 (by decide) ?_
    refine x_iload_n C dX6_withPart_37 rfl ?_
    refine x_bipush (v := 8) C dX6_withPart_38 (by decide) ?_
    refine x_isub C dX6_withPart_40 ?_
    refine x_imul C dX6_withPart_41 ?_
    refine x_iadd C dX6_withPart_42 ?_
    refine o_istoreE (L' := [some _, none, some _, some _, some _]) C dX6_withPart_43 (by rw [hn]; decide) rfl ?_
    refine x_lload_n C dX6_withPart_45 rfl ?_
    refine x_ldc2 C wk_X6_234 dX6_withPart_46 ?_
    refine x_iload C dX6_withPart_49 rfl ?_
    refine x_lshl C dX6_withPart_51 ?_
    refine x_ldc2 C wk_X6_146 dX6_withPart_52 ?_
    refine x_lxor C dX6_withPart_55 ?_
    refine x_land C dX6_withPart_56 ?_
    refine x_iload_n C dX6_withPart_57 rfl ?_
    refine x_i2l C dX6_withPart_58 ?_
    refine x_iload C dX6_withPart_59 rfl ?_
    refine x_lshl C dX6_withPart_61 ?_
    refine x_lor C dX6_withPart_62 ?_
    exact x_lret C E dX6_withPart_63 (fun g e => ⟨⟨_, rfl⟩, e⟩)
  · refine x_iconst (v := 4) C dX6_withPart_6 (by decide) ?_
    refine x_bipush (v := 7) C dX6_withPart_7 (by decide) ?_
    refine x_iload_n C dX6_withPart_9 rfl ?_
    refine x_isub C dX6_withPart_10 ?_
    refine x_imul C dX6_withPart_11 ?_
    refine o_istoreE (L' := [some _, none, some _, some _, some _]) C dX6_withPart_12 (by rw [hn]; decide) rfl ?_
    refine x_lload_n C dX6_withPart_14 rfl ?_
    refine x_ldc2 C wk_X6_232 dX6_withPart_15 ?_
    refine x_iload C dX6_withPart_18 rfl ?_
    refine x_lshl C dX6_withPart_20 ?_
    refine x_ldc2 C wk_X6_146 dX6_withPart_21 ?_
    refine x_lxor C dX6_withPart_24 ?_
    refine x_land C dX6_withPart_25 ?_
    refine x_iload_n C dX6_withPart_26 rfl ?_
    refine x_i2l C dX6_withPart_27 ?_
    refine x_iload C dX6_withPart_28 rfl ?_
    refine x_lshl C dX6_withPart_30 ?_
    refine x_lor C dX6_withPart_31 ?_
    exact x_lret C E dX6_withPart_32 (fun g e => ⟨⟨_, rfl⟩, e⟩)
theorem zz_addFound (hX : Wx w c) : T w gw yX6_addFound cX6_addFound 2 none 6 (40 * 6) 0 0 [.ref (a 0)] (ZE c a h9 V α f) (fun r g => r = none ∧ ZE c a h9 V α f g) := by
  have hW := hX.1
  refine TA.intro hW rfl (by decide +kernel) (Nat.le_of_ble_eq_true rfl) (fun z C Y E hn h hZ => ?_)
  obtain ⟨κ, κd, Z⟩ := hZ
  obtain ⟨fn, f1, Bx⟩ := Z.x
  refine x_aload_n C dX6_addFound_0 rfl ?_
  refine e_get C Y kd_X6 1 (by decide) wf_X6_19 dX6_addFound_1 Bx rfl ?_
  refine x_bipush (v := 91) C dX6_addFound_4 (by decide) ?_
  refine x_sipush (v := 253) C dX6_addFound_6 (by decide) ?_
  refine k_bus (st := []) hX C Y E.cs Z (u_putShort hX 91 253) md_X0_putShort wi_X0_putShort ws_X0_putShort wm_X6_166 dX6_addFound_9 rfl (by decide) (by decide) rfl rfl (by decide) (fun v g Zg => ?_)
  obtain ⟨fn, f1, Bx⟩ := Zg.x
  obtain ⟨fr1, co, B⟩ := Zg.bus.uc
  obtain ⟨na, na90, -, -, -, ⟨ga, Ra, hba⟩, -⟩ := Zg.bus
  obtain ⟨gf, Bf⟩ := Zg.fa
  have T57 : X z 0 0 (EQ g) 57 [some (.ref (a 0)), some (.int v)] [] := x_vret C E dX6_addFound_57 (fun g e => ⟨rfl, by rw [e]; exact ⟨κ, κd, Zg⟩⟩)
  refine o_istore_nE (L' := [some _, some _]) C dX6_addFound_12 (by rw [hn]; decide) rfl ?_
  refine x_iload_n C dX6_addFound_13 rfl ?_
  refine x_if_le (tgt := 57) C dX6_addFound_14 (by decide) (fun _ => T57) (fun _ => ?_)
  refine x_aload_n C dX6_addFound_17 rfl ?_
  refine e_get C Y kd_X6 5 (by decide) wf_X6_43 dX6_addFound_18 Bx rfl ?_
  refine x_bipush (v := 12) C dX6_addFound_21 (by decide) ?_
  refine x_icmp_ge (tgt := 57) C dX6_addFound_23 (by decide) (fun _ => T57) (fun c23 => ?_)
  have f2 : fn < 12 := (nI_ltI (by omega) (by decide)).mp (Int32.not_le.mp c23)
  refine x_aload_n C dX6_addFound_26 rfl ?_
  refine e_get C Y kd_X6 4 (by decide) wf_X6_39 dX6_addFound_27 Bx rfl ?_
  refine x_aload_n C dX6_addFound_30 rfl ?_
  refine e_get C Y kd_X6 5 (by decide) wf_X6_43 dX6_addFound_31 Bx rfl ?_
  refine x_aload_n C dX6_addFound_34 rfl ?_
  refine e_get C Y kd_X6 1 (by decide) wf_X6_19 dX6_addFound_35 Bx rfl ?_
  refine u_callV (st := [.int (nI fn), .ref (a 10)]) C Y hW E.cs (u_lastAnswer hX B) md_X0_lastAnswer wi_X0_lastAnswer ws_X0_lastAnswer wm_X6_138 dX6_addFound_38 rfl (by decide) (by decide) B rfl rfl (by simp [Value.category]) ?_
  refine x_bipush (v := 7) C dX6_addFound_41 (by decide) ?_
  refine u_callV (st := [.int (nI fn), .ref (a 10)]) C Y hW E.cs (r_addressAt hW Ra 7 (by decide)) md_X5_addressAt wi_X5_addressAt ws_X5_addressAt wm_X6_236 dX6_addFound_43 rfl (by decide) (by decide) Ra.2.1 rfl rfl (by simp [Value.category]) ?_
  refine e_lst C Y dX6_addFound_46 Bf (vp_in_nI f2 (by decide)) ?_
  have Z2 := Zg.putF (vp_updL gf (nI fn).toNatClampNeg (adA ga na 7 8))
  have Bx2 : hs g (a 10) (.inl (c 1, 12, .inr (.inl (vp_updL gf (nI fn).toNatClampNeg (adA ga na 7 8))))) (a 0) = _ := (hs_ne (Zg.dif 0 10 (by omega) (by omega) (by omega))).trans Bx
  refine x_aload_n C dX6_addFound_47 rfl ?_
  refine x_dup C dX6_addFound_48 rfl ?_
  refine e_get C Y kd_X6 5 (by decide) wf_X6_43 dX6_addFound_49 Bx2 rfl ?_
  refine x_iconst (v := 1) C dX6_addFound_52 (by decide) ?_
  refine x_iadd C dX6_addFound_53 ?_
  rw [nI_1]
  refine e_put C Y kd_X6 5 (by decide) rfl wf_X6_43 dX6_addFound_54 Bx2 (Nat.le_of_ble_eq_true rfl) rfl rfl rfl ?_
  exact x_vret C E dX6_addFound_57 (fun g e => ⟨rfl, by rw [e]; exact ⟨κ, κd, Z2.putX f2⟩⟩)
theorem zz_isSelected (hX : Wx w c) (mk : Int64) : T w gw yX6_isSelected cX6_isSelected 4 (some .boolean) 7 (40 * 7) 0 0 [.ref (a 0), .long mk] (ZE c a h9 V α f) (fun r g => (r = some (.int 0) ∨ r = some (.int 1)) ∧ ZE c a h9 V α f g) := by
  have hW := hX.1
  refine TA.intro hW rfl (by decide +kernel) (Nat.le_of_ble_eq_true rfl) (fun z C Y E hn h hZ => ?_)
  obtain ⟨κ, κd, Z⟩ := hZ
  obtain ⟨fn, f1, Bx⟩ := Z.x
  refine x_aload_n C dX6_isSelected_0 rfl ?_
  refine e_get C Y kd_X6 1 (by decide) wf_X6_19 dX6_isSelected_1 Bx rfl ?_
  refine x_lload_n C dX6_isSelected_4 rfl ?_
  refine k_bus (st := []) hX C Y E.cs Z (u_putSelect hX mk) md_X0_putSelect wi_X0_putSelect ws_X0_putSelect wm_X6_217 dX6_isSelected_5 rfl (by decide) (by decide) rfl rfl (by decide) (fun v g Zg => ?_)
  obtain ⟨fn, f1, Bx⟩ := Zg.x
  refine x_iconst (v := 1) C dX6_isSelected_8 (by decide) ?_
  refine x_icmp_ne (tgt := 16) C dX6_isSelected_9 (by decide) (fun _ => ?_) (fun _ => ?_)
  · refine x_iconst (v := 0) C dX6_isSelected_16 (by decide) ?_
    refine o_istore_nE (L' := [some _, some _, none, some _]) C dX6_isSelected_17 (by rw [hn]; decide) rfl ?_
    refine x_iload_n C dX6_isSelected_18 rfl ?_
    refine x_if_eq (tgt := 27) C dX6_isSelected_19 (by decide) (fun _ => ?_) (fun q => absurd rfl q)
    refine x_iload_n C dX6_isSelected_27 rfl ?_
    exact x_zret C E dX6_isSelected_28 (by decide) (fun g e => ⟨Or.inl rfl, by rw [e]; exact ⟨κ, κd, Zg⟩⟩)
  · refine x_iconst (v := 1) C dX6_isSelected_12 (by decide) ?_
    refine x_goto (tgt := 17) C dX6_isSelected_13 (by decide) ?_
    refine o_istore_nE (L' := [some _, some _, none, some _]) C dX6_isSelected_17 (by rw [hn]; decide) rfl ?_
    refine x_iload_n C dX6_isSelected_18 rfl ?_
    refine x_if_eq (tgt := 27) C dX6_isSelected_19 (by decide) (fun q => absurd q (by decide)) (fun _ => ?_)
    refine x_aload_n C dX6_isSelected_22 rfl ?_
    refine x_lload_n C dX6_isSelected_23 rfl ?_
    refine k_callR (kc := 0) (ks := 0) (mc' := 0) (ms' := 0) (st := []) C Y hW E.cs (zz_reset hX mk) ⟨κ, κd, Zg⟩ md_X6_resetSelected wi_X6_resetSelected ws_X6_resetSelected wm_X6_221 dX6_isSelected_24 rfl (by decide) (by decide) Bx rfl rfl (by decide) (fun r g2 hg => ?_)
    obtain ⟨rfl, Z2⟩ := hg
    refine x_iload_n C dX6_isSelected_27 rfl ?_
    exact x_zret C E dX6_isSelected_28 (by decide) (fun g e => ⟨Or.inr rfl, by rw [e]; exact Z2⟩)
/-- PROBE n, m = 12 - n: as deep as it goes -/
theorem zz_probe (hX : Wx w c) : ∀ (m n : Nat) (mk : Int64), n + m = 12 → T w gw yX6_probe cX6_probe 7 none (7 + m) (40 * (7 + m)) 0 0 [.ref (a 0), .int (nI n), .long mk] (ZE c a h9 V α f) (fun r g => r = none ∧ ZE c a h9 V α f g) := by
  intro m
  induction m with
  | zero =>
    intro n mk hm
    obtain rfl : n = 12 := by omega
    have hW := hX.1
    refine TA.intro hW rfl (by decide +kernel) (Nat.le_of_ble_eq_true rfl) (fun z C Y E hn h hZ => ?_)
    obtain ⟨κ, κd, Z⟩ := hZ
    obtain ⟨fn, f1, Bx⟩ := Z.x
    refine x_aload_n C dX6_probe_0 rfl ?_
    refine e_get C Y kd_X6 1 (by decide) wf_X6_19 dX6_probe_1 Bx rfl ?_
    refine x_lload_n C dX6_probe_4 rfl ?_
    refine k_bus (st := []) hX C Y E.cs Z (u_putSelect hX mk) md_X0_putSelect wi_X0_putSelect ws_X0_putSelect wm_X6_217 dX6_probe_5 rfl (by decide) (by decide) rfl rfl (by decide) (fun v g Zg => ?_)
    obtain ⟨fn, f1, Bx⟩ := Zg.x
    refine o_istoreE (L' := [some _, some _, some _, none, some _, none, none]) C dX6_probe_8 (by rw [hn]; decide) rfl ?_
    refine x_iload C dX6_probe_10 rfl ?_
    refine x_iconst (v := 1) C dX6_probe_12 (by decide) ?_
    have T87 : ∀ (g : PH) (L : List (Option Value)), ZE c a h9 V α f g → X z 0 0 (EQ g) 87 L [] := fun g L Z => x_vret C E dX6_probe_87 (fun g e => ⟨rfl, by rw [e]; exact Z⟩)
    refine x_icmp_ne (tgt := 28) C dX6_probe_13 (by decide) (fun _ => ?_) (fun _ => ?_)
    · refine x_iload C dX6_probe_28 rfl ?_
      refine x_bipush (v := (-2)) C dX6_probe_30 (by decide) ?_
      refine x_icmp_ne (tgt := 87) C dX6_probe_32 (by decide) (fun _ => T87 _ _ ⟨κ, κd, Zg⟩) (fun _ => ?_)
      refine x_iload_n C dX6_probe_35 rfl ?_
      refine x_bipush (v := 12) C dX6_probe_36 (by decide) ?_
      exact x_icmp_ge (tgt := 87) C dX6_probe_38 (by decide) (fun _ => T87 _ _ ⟨κ, κd, Zg⟩) (fun q => absurd (Int32.le_refl _) q)
    · refine x_aload_n C dX6_probe_16 rfl ?_
      refine x_lload_n C dX6_probe_17 rfl ?_
      refine k_callR (kc := 0) (ks := 0) (mc' := 0) (ms' := 0) (st := []) C Y hW E.cs (zz_reset hX mk) ⟨κ, κd, Zg⟩ md_X6_resetSelected wi_X6_resetSelected ws_X6_resetSelected wm_X6_221 dX6_probe_18 rfl (by decide) (by decide) Bx rfl rfl (by decide) (fun r g2 hg => ?_)
      obtain ⟨rfl, κ2, κd2, Z2⟩ := hg
      obtain ⟨fn, f1, Bx⟩ := Z2.x
      refine x_aload_n C dX6_probe_21 rfl ?_
      refine k_callR (kc := 0) (ks := 0) (mc' := 0) (ms' := 0) (st := []) C Y hW E.cs (zz_addFound hX) ⟨κ2, κd2, Z2⟩ md_X6_addFound wi_X6_addFound ws_X6_addFound wm_X6_225 dX6_probe_22 rfl (by decide) (by decide) Bx rfl rfl (by decide) (fun r g3 hg => ?_)
      obtain ⟨rfl, Z3⟩ := hg
      exact x_goto (tgt := 87) C dX6_probe_25 (by decide) (T87 _ _ Z3)
  | succ m ih =>
    intro n mk hm
    have hW := hX.1
    refine TA.intro hW rfl (by decide +kernel) (Nat.le_of_ble_eq_true rfl) (fun z C Y E hn h hZ => ?_)
    obtain ⟨κ, κd, Z⟩ := hZ
    obtain ⟨fn, f1, Bx⟩ := Z.x
    refine x_aload_n C dX6_probe_0 rfl ?_
    refine e_get C Y kd_X6 1 (by decide) wf_X6_19 dX6_probe_1 Bx rfl ?_
    refine x_lload_n C dX6_probe_4 rfl ?_
    refine k_bus (st := []) hX C Y E.cs Z (u_putSelect hX mk) md_X0_putSelect wi_X0_putSelect ws_X0_putSelect wm_X6_217 dX6_probe_5 rfl (by omega) (by omega) rfl rfl (by decide) (fun v g Zg => ?_)
    obtain ⟨fn, f1, Bx⟩ := Zg.x
    refine o_istoreE (L' := [some _, some _, some _, none, some _, none, none]) C dX6_probe_8 (by rw [hn]; decide) rfl ?_
    refine x_iload C dX6_probe_10 rfl ?_
    refine x_iconst (v := 1) C dX6_probe_12 (by decide) ?_
    have T87 : ∀ (g : PH) (L : List (Option Value)), ZE c a h9 V α f g → X z 0 0 (EQ g) 87 L [] := fun g L Z => x_vret C E dX6_probe_87 (fun g e => ⟨rfl, by rw [e]; exact Z⟩)
    refine x_icmp_ne (tgt := 28) C dX6_probe_13 (by decide) (fun _ => ?_) (fun _ => ?_)
    · refine x_iload C dX6_probe_28 rfl ?_
      refine x_bipush (v := (-2)) C dX6_probe_30 (by decide) ?_
      refine x_icmp_ne (tgt := 87) C dX6_probe_32 (by decide) (fun _ => T87 _ _ ⟨κ, κd, Zg⟩) (fun _ => ?_)
      refine x_iload_n C dX6_probe_35 rfl ?_
      refine x_bipush (v := 12) C dX6_probe_36 (by decide) ?_
      refine x_icmp_ge (tgt := 87) C dX6_probe_38 (by decide) (fun _ => T87 _ _ ⟨κ, κd, Zg⟩) (fun _ => ?_)
      have LP : ∀ (r j k : Nat) (g : PH), k ≤ 255 → j + r = k → ZE c a h9 V α f g → X z 0 0 (EQ g) 60 [some (.ref (a 0)), some (.int (nI n)), some (.long mk), none, some (.int v), some (.int (nI k)), some (.int (nI j))] [] := by
        intro r
        induction r with
        | zero =>
          intro j k g hk hj Zg
          obtain rfl : j = k := by omega
          refine x_iload C dX6_probe_60 rfl ?_
          refine x_iload C dX6_probe_62 rfl ?_
          exact x_icmp_ge (tgt := 87) C dX6_probe_64 (by decide) (fun _ => T87 _ _ Zg) (fun q => absurd (Int32.le_refl _) q)
        | succ r ih2 =>
          intro j k g hk hj Zg
          obtain ⟨κ1, κd1, Z1⟩ := Zg
          obtain ⟨fn, f1, Bx⟩ := Z1.x
          refine x_iload C dX6_probe_60 rfl ?_
          refine x_iload C dX6_probe_62 rfl ?_
          refine x_icmp_ge (tgt := 87) C dX6_probe_64 (by decide) (fun _ => T87 _ _ ⟨κ1, κd1, Z1⟩) (fun _ => ?_)
          refine x_aload_n C dX6_probe_67 rfl ?_
          refine x_iload_n C dX6_probe_68 rfl ?_
          refine x_iconst (v := 1) C dX6_probe_69 (by decide) ?_
          refine x_iadd C dX6_probe_70 ?_
          rw [nI_1]
          refine x_lload_n C dX6_probe_71 rfl ?_
          refine x_iload_n C dX6_probe_72 rfl ?_
          refine x_iload C dX6_probe_73 rfl ?_
          refine k_callS (kc := 0) (ks := 0) (mc' := 0) (ms' := 0) (st := [.int (nI (n + 1)), .ref (a 0)]) C E.cs hW.1 gw_good (zz_withPart hX mk (nI n) (nI j)) md_X6_withPart wt_X6_withPart wm_X6_228 dX6_probe_75 rfl (by omega) (by omega) rfl (by simp [Value.category]) (fun r => X.opn (fun g2 hg => ?_))
          obtain ⟨⟨mk2, rfl⟩, rfl⟩ := hg
          refine k_callR (kc := 0) (ks := 0) (mc' := 0) (ms' := 0) (st := []) C Y hW E.cs (ih (n + 1) mk2 (by omega)) ⟨κ1, κd1, Z1⟩ md_X6_probe wi_X6_probe ws_X6_probe wm_X6_148 dX6_probe_78 rfl (by omega) (by omega) Bx rfl rfl (by decide) (fun r g3 hg => ?_)
          obtain ⟨rfl, Z3⟩ := hg
          refine o_iincE (v := nI (j + 1)) (L' := [some _, some _, some _, none, some _, some _, some _]) C dX6_probe_81 rfl (nI_1 j) (by rw [hn]; decide) rfl ?_
          refine x_goto (tgt := 60) C dX6_probe_84 (by decide) ?_
          exact ih2 (j + 1) k _ hk (by omega) Z3
      have T55 : ∀ k : Nat, k ≤ 255 → X z 0 0 (EQ g) 55 [some (.ref (a 0)), some (.int (nI n)), some (.long mk), none, some (.int v), none, none] [.int (nI k)] := fun k hk => by
        refine o_istoreE (L' := [some _, some _, some _, none, some _, some _, none]) C dX6_probe_55 (by rw [hn]; decide) rfl ?_
        refine x_iconst (v := 0) C dX6_probe_57 (by decide) ?_
        refine o_istoreE (L' := [some _, some _, some _, none, some _, some _, some _]) C dX6_probe_58 (by rw [hn]; decide) rfl ?_
        exact LP k 0 k g hk (by omega) ⟨κ, κd, Zg⟩
      refine x_iload_n C dX6_probe_41 rfl ?_
      refine x_bipush (v := 8) C dX6_probe_42 (by decide) ?_
      refine x_icmp_ge (tgt := 52) C dX6_probe_44 (by decide) (fun _ => ?_) (fun _ => ?_)
      · exact x_sipush (v := nI 255) C dX6_probe_52 (by decide) (T55 255 (by omega))
      · refine x_bipush (v := nI 10) C dX6_probe_47 (by decide) ?_
        exact x_goto (tgt := 55) C dX6_probe_49 (by decide) (T55 10 (by omega))
    · refine x_aload_n C dX6_probe_16 rfl ?_
      refine x_lload_n C dX6_probe_17 rfl ?_
      refine k_callR (kc := 0) (ks := 0) (mc' := 0) (ms' := 0) (st := []) C Y hW E.cs (zz_reset hX mk) ⟨κ, κd, Zg⟩ md_X6_resetSelected wi_X6_resetSelected ws_X6_resetSelected wm_X6_221 dX6_probe_18 rfl (by omega) (by omega) Bx rfl rfl (by decide) (fun r g2 hg => ?_)
      obtain ⟨rfl, κ2, κd2, Z2⟩ := hg
      obtain ⟨fn, f1, Bx⟩ := Z2.x
      refine x_aload_n C dX6_probe_21 rfl ?_
      refine k_callR (kc := 0) (ks := 0) (mc' := 0) (ms' := 0) (st := []) C Y hW E.cs (zz_addFound hX) ⟨κ2, κd2, Z2⟩ md_X6_addFound wi_X6_addFound ws_X6_addFound wm_X6_225 dX6_probe_22 rfl (by omega) (by omega) Bx rfl rfl (by decide) (fun r g3 hg => ?_)
      obtain ⟨rfl, Z3⟩ := hg
      exact x_goto (tgt := 87) C dX6_probe_25 (by decide) (T87 _ _ Z3)
theorem zz_search (hX : Wx w c) : T w gw yX6_search cX6_search 1 (some .int) 20 (40 * 20) 0 0 [.ref (a 0)] (ZE c a h9 V α f) (fun r g => (∃ v, r = some (.int v)) ∧ ZE c a h9 V α f g) := by
  have hW := hX.1
  refine TA.intro hW rfl (by decide +kernel) (Nat.le_of_ble_eq_true rfl) (fun z C Y E hn h hZ => ?_)
  obtain ⟨κ, κd, Z⟩ := hZ
  obtain ⟨fn, f1, Bx⟩ := Z.x
  refine x_aload_n C dX6_search_0 rfl ?_
  refine x_iconst (v := 0) C dX6_search_1 (by decide) ?_
  refine e_put C Y kd_X6 5 (by decide) rfl wf_X6_43 dX6_search_2 Bx (Nat.le_of_ble_eq_true rfl) rfl rfl rfl ?_
  have Z1 := Z.putX (fn := 0) (by omega)
  obtain ⟨fn1, f2, Bx1⟩ := Z1.x
  refine x_aload_n C dX6_search_5 rfl ?_
  refine x_iconst (v := 0) C dX6_search_6 (by decide) ?_
  refine x_ldc2 C wk_X6_146 dX6_search_7 ?_
  refine k_callR (kc := 0) (ks := 0) (mc' := 0) (ms' := 0) (st := []) C Y hW E.cs (zz_probe hX 12 0 (-1) rfl) ⟨κ, κd, Z1⟩ md_X6_probe wi_X6_probe ws_X6_probe wm_X6_148 dX6_search_10 rfl (by decide) (by decide) Bx1 rfl rfl (by decide) (fun r g hg => ?_)
  obtain ⟨rfl, κ2, κd2, Z2⟩ := hg
  obtain ⟨fn, f1, Bx⟩ := Z2.x
  refine x_aload_n C dX6_search_13 rfl ?_
  refine e_get C Y kd_X6 5 (by decide) wf_X6_43 dX6_search_14 Bx rfl ?_
  exact x_iret C E dX6_search_17 (fun g e => ⟨⟨_, rfl⟩, by rw [e]; exact ⟨κ2, κd2, Z2⟩⟩)
end Search
