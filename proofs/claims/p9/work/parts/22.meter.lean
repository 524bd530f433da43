section
/-! MeterBus at any time: meter, found, readOut, record, text, count. -/
/-- a secondary address as the class has it -/
def adr (i mk v d : Int32) : Int64 := i.toInt64 &&& 4294967295 ||| mk.toInt64 <<< ((32 : Int32).toInt64 &&& 63) ||| v.toInt64 <<< ((48 : Int32).toInt64 &&& 63) ||| d.toInt64 <<< ((56 : Int32).toInt64 &&& 63)
section Calls
variable {w : Wd} {c : Nat → ClassId} {a : Nat → Nat} {h9 : PH} {V : Nat → Prop} {h : PH} {α : Nat → Int64} {f : Nat → Option Nat} {κ κd : Nat → Nat}
theorem zz_meter (hX : Wx w c) (Z : ZZ c a h9 V α f κ κd h) (k ad i mk v d : Int32) : TCX w yX6_meter cX6_meter 9 none 6 194 [.ref (a 0), .int k, .int ad, .int i, .int mk, .int v, .int d] h
    (fun r g => r = none ∧ ∃ j p, j < 12 ∧ k = nI j ∧ k_good ad i mk v d ∧ ¬ oth f α k (adr i mk v d) ∧ (∀ q m, f q = some m → m ≠ p) ∧ ZE c a h9 V (va_up α p (adr i mk v d)) (va_up f j (some p)) g)
    (fun En g => (¬ ((0 : Int32) ≤ k ∧ k < 12) ∧ En = IOE ∧ g = h) ∨ (((0 : Int32) ≤ k ∧ k < 12) ∧ (¬ k_good ad i mk v d ∨ oth f α k (adr i mk v d))) ∧ En = IAE ∧ g = h) := by
  have hW := hX.1
  obtain ⟨fn, f1, Bx⟩ := Z.x
  obtain ⟨fr1, co, B⟩ := Z.bus.uc
  refine TCX.intro hX.1 rfl (by decide +kernel) (Nat.le_of_ble_eq_true rfl) (fun z C Y E hn => ?_)
  refine x_iload_n C dX6_meter_0 rfl ?_
  refine u_callS C hW E.1 (m_isMeterNumber hW k) md_X6_isMeterNumber wt_X6_isMeterNumber wm_X6_81 dX6_meter_1 rfl (by decide) (by decide) rfl (by simp [Value.category]) ?_
  refine x_if_ne (tgt := 17) C dX6_meter_4 (by decide) (fun c4 => ?_) (fun c4 => ?_)
  rotate_left
  · exact u_thr (kc := 5) (ks := 188) hX C E exs_IOE at_76 wc_X6_72 wz_IndexOutOfBoundsException (show (85, "no such meter") ∈ txts by simp [txts]) dX6_meter_7 dX6_meter_10 dX6_meter_11 dX6_meter_13 dX6_meter_16 (by decide) (fun g e => Or.inl ⟨fun q => absurd (bI_t q) (by rw [c4]; decide), rfl, e⟩)
  have g0 : (0 : Int32) ≤ k ∧ k < 12 := Decidable.of_not_not (fun g => c4 (bI_f g))
  have T35 : ¬ k_good ad i mk v d → X z 6 194 (EQ h) 35 [some (.ref (a 0)), some (.int k), some (.int ad), some (.int i), some (.int mk), some (.int v), some (.int d), none, none] [] := fun g1 => u_thr (kc := 5) (ks := 188) hX C E exs_IAE at_51 wc_X6_47 wz_IllegalArgumentException (show (90, "the primary address or the ident is not as said") ∈ txts by simp [txts]) dX6_meter_35 dX6_meter_38 dX6_meter_39 dX6_meter_41 dX6_meter_44 (by decide) (fun g e => Or.inr ⟨⟨g0, Or.inl g1⟩, rfl, e⟩)
  have T84 : ¬ k_good ad i mk v d → X z 6 194 (EQ h) 84 [some (.ref (a 0)), some (.int k), some (.int ad), some (.int i), some (.int mk), some (.int v), some (.int d), none, none] [] := fun g1 => u_thr (kc := 5) (ks := 188) hX C E exs_IAE at_51 wc_X6_47 wz_IllegalArgumentException (show (95, "maker, version or medium is not as said") ∈ txts by simp [txts]) dX6_meter_84 dX6_meter_87 dX6_meter_88 dX6_meter_90 dX6_meter_93 (by decide) (fun g e => Or.inr ⟨⟨g0, Or.inl g1⟩, rfl, e⟩)
  refine x_iload_n C dX6_meter_17 rfl ?_
  refine x_if_lt (tgt := 35) C dX6_meter_18 (by decide) (fun c1 => T35 (fun g => absurd g.1.1.1 (Int32.not_le.mpr c1))) (fun c18 => ?_)
  refine x_iload_n C dX6_meter_21 rfl ?_
  refine x_sipush (v := 250) C dX6_meter_22 (by decide) ?_
  refine x_icmp_gt (tgt := 35) C dX6_meter_25 (by decide) (fun c1 => T35 (fun g => absurd g.1.1.2 (Int32.not_le.mpr c1))) (fun c25 => ?_)
  refine x_iload_n C dX6_meter_28 rfl ?_
  refine u_callS C hW E.1 (m_areDigits hW i) md_X6_areDigits wt_X6_areDigits wm_X6_87 dX6_meter_29 rfl (by decide) (by decide) rfl (by simp [Value.category]) ?_
  refine x_if_ne (tgt := 45) C dX6_meter_32 (by decide) (fun c32 => ?_) (fun c1 => T35 (fun g => absurd (bI_t g.1.2) (by rw [c1]; decide)))
  have g32 : g_dig i 8 = true := Decidable.of_not_not (fun g => c32 (bI_f g))
  refine x_iload C dX6_meter_45 rfl ?_
  refine x_sipush (v := 255) C dX6_meter_47 (by decide) ?_
  refine x_iand C dX6_meter_50 ?_
  refine u_callS C hW E.1 (m_isAddressByte hW (mk &&& 255)) md_X6_isAddressByte wt_X6_isAddressByte wm_X6_92 dX6_meter_51 rfl (by decide) (by decide) rfl (by simp [Value.category]) ?_
  refine x_if_eq (tgt := 84) C dX6_meter_54 (by decide) (fun c1 => T84 (fun g => absurd (bI_t g.2.1) (by rw [c1]; decide))) (fun c54 => ?_)
  have g54 := Decidable.of_not_not (fun g => c54 (bI_f g))
  refine x_iload C dX6_meter_57 rfl ?_
  refine x_bipush (v := 8) C dX6_meter_59 (by decide) ?_
  refine x_ishr C dX6_meter_61 ?_
  refine u_callS C hW E.1 (m_isAddressByte hW (mk >>> ((8 : Int32) &&& 31))) md_X6_isAddressByte wt_X6_isAddressByte wm_X6_92 dX6_meter_62 rfl (by decide) (by decide) rfl (by simp [Value.category]) ?_
  refine x_if_eq (tgt := 84) C dX6_meter_65 (by decide) (fun c1 => T84 (fun g => absurd (bI_t g.2.2.1) (by rw [c1]; decide))) (fun c65 => ?_)
  have g65 := Decidable.of_not_not (fun g => c65 (bI_f g))
  refine x_iload C dX6_meter_68 rfl ?_
  refine u_callS C hW E.1 (m_isAddressByte hW v) md_X6_isAddressByte wt_X6_isAddressByte wm_X6_92 dX6_meter_70 rfl (by decide) (by decide) rfl (by simp [Value.category]) ?_
  refine x_if_eq (tgt := 84) C dX6_meter_73 (by decide) (fun c1 => T84 (fun g => absurd (bI_t g.2.2.2.1) (by rw [c1]; decide))) (fun c73 => ?_)
  have g73 := Decidable.of_not_not (fun g => c73 (bI_f g))
  refine x_iload C dX6_meter_76 rfl ?_
  refine u_callS C hW E.1 (m_isAddressByte hW d) md_X6_isAddressByte wt_X6_isAddressByte wm_X6_92 dX6_meter_78 rfl (by decide) (by decide) rfl (by simp [Value.category]) ?_
  refine x_if_ne (tgt := 94) C dX6_meter_81 (by decide) (fun c81 => ?_) (fun c1 => T84 (fun g => absurd (bI_t g.2.2.2.2) (by rw [c1]; decide)))
  have g81 := Decidable.of_not_not (fun g => c81 (bI_f g))
  have gg : k_good ad i mk v d := ⟨⟨⟨Int32.not_lt.mp c18, Int32.not_lt.mp c25⟩, g32⟩, g54, g65, g73, g81⟩
  refine x_iload_n C dX6_meter_94 rfl ?_
  refine x_i2l C dX6_meter_95 ?_
  refine x_ldc2 C wk_X6_97 dX6_meter_96 ?_
  refine x_land C dX6_meter_99 ?_
  refine x_iload C dX6_meter_100 rfl ?_
  refine x_i2l C dX6_meter_102 ?_
  refine x_bipush (v := 32) C dX6_meter_103 (by decide) ?_
  refine x_lshl C dX6_meter_105 ?_
  refine x_lor C dX6_meter_106 ?_
  refine x_iload C dX6_meter_107 rfl ?_
  refine x_i2l C dX6_meter_109 ?_
  refine x_bipush (v := 48) C dX6_meter_110 (by decide) ?_
  refine x_lshl C dX6_meter_112 ?_
  refine x_lor C dX6_meter_113 ?_
  refine x_iload C dX6_meter_114 rfl ?_
  refine x_i2l C dX6_meter_116 ?_
  refine x_bipush (v := 56) C dX6_meter_117 (by decide) ?_
  refine x_lshl C dX6_meter_119 ?_
  refine x_lor C dX6_meter_120 ?_
  refine o_lstoreE (L' := [some _, some _, some _, some _, some _, some _, some _, some (.long (adr i mk v d)), none]) C dX6_meter_121 (by rw [hn]; decide) rfl ?_
  refine x_aload_n C dX6_meter_123 rfl ?_
  refine e_get C Y kd_X6 1 (by decide) wf_X6_19 dX6_meter_124 Bx rfl ?_
  refine x_iload_n C dX6_meter_127 rfl ?_
  refine x_lload C dX6_meter_128 rfl ?_
  refine k_callR (kc := 6) (ks := 194) (mc' := 0) (ms' := 0) (st := []) C Y hW E.1 (u_hasAnother hX Z.bus k (adr i mk v d)) rfl md_X0_hasAnother wi_X0_hasAnother ws_X0_hasAnother wm_X6_99 dX6_meter_130 rfl (by decide) (by decide) B rfl rfl (by decide) (fun r g hg => ?_)
  obtain ⟨eg, hg⟩ := hg
  rw [eg]
  rcases hg with ⟨rfl, ho⟩ | ⟨rfl, ho⟩
  · refine x_if_eq (tgt := 146) C dX6_meter_133 (by decide) (fun q => absurd q (by decide)) (fun _ => ?_)
    exact u_thr (kc := 5) (ks := 188) hX C E exs_IAE at_51 wc_X6_47 wz_IllegalArgumentException (show (103, "another meter has that secondary address") ∈ txts by simp [txts]) dX6_meter_136 dX6_meter_139 dX6_meter_140 dX6_meter_142 dX6_meter_145 (by decide) (fun g e => Or.inr ⟨⟨g0, Or.inr ho⟩, rfl, e⟩)
  refine x_if_eq (tgt := 146) C dX6_meter_133 (by decide) (fun _ => ?_) (fun q => absurd rfl q)
  refine E.go C Y (fun z' C Y E hn1 => ?_)
  rw [hn] at hn1
  have hn := hn1
  obtain ⟨j, hj, rfl⟩ := nI_of (Int32.not_lt.mpr g0.1)
  have hj2 : j < 12 := (nI_ltI hj (by decide)).mp g0.2
  refine x_aload_n C dX6_meter_146 rfl ?_
  refine e_get C Y kd_X6 1 (by decide) wf_X6_19 dX6_meter_147 Bx rfl ?_
  refine x_iload_n C dX6_meter_150 rfl ?_
  refine e_new (kc := 5) (ks := 186) (N := 8) C Y kd_X2 wc_X6_105 wn_X2 wz_X2 dX6_meter_151 (fs := [.long 0, .int 0, .int 0, .null, .null, .int 0, .int 0, .int 0]) (fun j hj => by rcases (show j = 0 ∨ j = 1 ∨ j = 2 ∨ j = 3 ∨ j = 4 ∨ j = 5 ∨ j = 6 ∨ j = 7 by omega) with rfl | rfl | rfl | rfl | rfl | rfl | rfl | rfl <;> rfl) (fun p hp => ?_)
  refine x_dup C dX6_meter_154 rfl ?_
  refine x_iload_n C dX6_meter_155 rfl ?_
  refine x_lload C dX6_meter_156 rfl ?_
  refine k_callI (kc := 0) (ks := 0) (st := [.ref p, .int (nI j), .ref (a 3)]) C E.cs hX.1.1 gw_good (n_meter hX (hs_self ..) ad (adr i mk v d)) md_X2_init rfl wi_X2_init wm_X6_107 dX6_meter_158 rfl (by decide) (by decide) rfl (by simp [Value.category]) (fun r => X.opn (fun g hB => ?_))
  obtain ⟨rfl, M⟩ := hB
  obtain ⟨n, n90, D⟩ := Z.bus
  obtain ⟨κ', Dg, kp, kx, ky⟩ := D.meter hp M
  obtain ⟨fr2, co2, B2⟩ := Dg.1
  obtain ⟨q1, ps1, r1, Bp, -⟩ := id M
  refine u_callV (st := []) C Y hW E.cs (u_plug hX ⟨n, n90, Dg⟩ hj2 Bp) md_X0_plug wi_X0_plug ws_X0_plug wm_X6_110 dX6_meter_161 rfl (by decide) (by decide) B2 rfl rfl (by decide) ?_
  refine x_vret C E dX6_meter_164 (fun g2 e => ⟨rfl, j, p, hj2, rfl, gg, ho, fun q m e1 e2 => ?_, ?_⟩)
  · exact Z.bus.nn.2 m (by rw [D.2.2.1 q m e1]; decide) (by rw [e2]; exact hp)
  · rw [e]
    refine ⟨κ', κd, Z.ofB ⟨n, n90, Dg.plug (fun q m hq => ?_)⟩ ky⟩
    by_cases e1 : q = j
    · subst e1; rw [va_up_self] at hq; cases hq; exact kp
    · rw [va_up_ne _ _ e1] at hq; exact Dg.2.2.1 q m hq
theorem zz_isFound (hX : Wx w c) (Z : ZZ c a h9 V α f κ κd h) (k : Int32) : T w gw yX6_isFoundOne cX6_isFoundOne 2 (some .boolean) 0 (40 * 0) 0 0 [.ref (a 0), .int k] (EQ h) (fun r g => g = h ∧ (r = some (.int 0) ∨ (r = some (.int 1) ∧ ∃ j, j < 12 ∧ k = nI j))) := by
  obtain ⟨fn, f1, Bx⟩ := Z.x
  refine TA.intro hX.1 rfl (by decide +kernel) (Nat.le_of_ble_eq_true rfl) (fun z C Y E hn h1 hA => ?_)
  rw [show h1 = h from hA]
  clear hA
  have T22 : X z 0 0 (EQ h) 22 [some (.ref (a 0)), some (.int k)] [] := by
    refine x_iconst (v := 0) C dX6_isFoundOne_22 (by decide) ?_
    exact x_zret C E dX6_isFoundOne_23 (by decide) (fun g e => ⟨e, Or.inl rfl⟩)
  refine x_iload_n C dX6_isFoundOne_0 rfl ?_
  refine x_if_lt (tgt := 22) C dX6_isFoundOne_1 (by decide) (fun _ => T22) (fun c1 => ?_)
  refine x_iload_n C dX6_isFoundOne_4 rfl ?_
  refine x_aload_n C dX6_isFoundOne_5 rfl ?_
  refine e_get C Y kd_X6 5 (by decide) wf_X6_43 dX6_isFoundOne_6 Bx rfl ?_
  refine x_icmp_ge (tgt := 22) C dX6_isFoundOne_9 (by decide) (fun _ => T22) (fun _ => ?_)
  refine x_iload_n C dX6_isFoundOne_12 rfl ?_
  refine x_bipush (v := 12) C dX6_isFoundOne_13 (by decide) ?_
  refine x_icmp_ge (tgt := 22) C dX6_isFoundOne_15 (by decide) (fun _ => T22) (fun c2 => ?_)
  obtain ⟨j, hj, rfl⟩ := nI_of c1
  have hj2 : j < 12 := (nI_ltI hj (by decide)).mp (Int32.not_le.mp c2)
  refine x_iconst (v := 1) C dX6_isFoundOne_18 (by decide) ?_
  refine x_goto (tgt := 23) C dX6_isFoundOne_19 (by decide) ?_
  exact x_zret C E dX6_isFoundOne_23 (by decide) (fun g e => ⟨e, Or.inr ⟨rfl, j, hj2, rfl⟩⟩)
theorem zz_found (hX : Wx w c) (Z : ZZ c a h9 V α f κ κd h) (k i : Int32) : TCX w yX6_found cX6_found 3 (some .int) 1 6 [.ref (a 0), .int k, .int i] h (PI c a h9 V α f) (fun En g => En = IOE ∧ g = h) := by
  have hW := hX.1
  obtain ⟨fn, f1, Bx⟩ := Z.x
  obtain ⟨gf, Bf⟩ := Z.fa
  refine TCX.intro hX.1 rfl (by decide +kernel) (Nat.le_of_ble_eq_true rfl) (fun z C Y E hn => ?_)
  have T18 : X z 1 6 (EQ h) 18 [some (.ref (a 0)), some (.int k), some (.int i)] [] := u_thr (kc := 0) (ks := 0) hX C E exs_IOE at_76 wc_X6_72 wz_IndexOutOfBoundsException (show (154, "no such found one or byte") ∈ txts by simp [txts]) dX6_found_18 dX6_found_21 dX6_found_22 dX6_found_24 dX6_found_27 (by decide) (fun g e => ⟨rfl, e⟩)
  obtain ⟨t1, ht1⟩ := Y.2.2.1
  refine x_aload_n C dX6_found_0 rfl ?_
  refine x_iload_n C dX6_found_1 rfl ?_
  refine k_callR (kc := 1) (ks := 6) (mc' := 0) (ms' := 0) (st := []) C Y hW E.1 (zz_isFound hX Z k) rfl md_X6_isFoundOne wi_X6_isFoundOne ws_X6_isFoundOne wm_X6_151 dX6_found_2 rfl (by decide) (by decide) Bx rfl rfl (by decide) (fun r g hg => ?_)
  obtain ⟨eg, hg⟩ := hg
  rw [eg]
  rcases hg with rfl | ⟨rfl, j, hj, rfl⟩
  · exact x_if_eq (tgt := 18) C dX6_found_5 (by decide) (fun _ => T18) (fun q => absurd rfl q)
  refine x_if_eq (tgt := 18) C dX6_found_5 (by decide) (fun q => absurd q (by decide)) (fun _ => ?_)
  refine x_iload_n C dX6_found_8 rfl ?_
  refine x_if_lt (tgt := 18) C dX6_found_9 (by decide) (fun _ => T18) (fun _ => ?_)
  refine x_iload_n C dX6_found_12 rfl ?_
  refine x_bipush (v := 8) C dX6_found_13 (by decide) ?_
  refine x_icmp_lt (tgt := 28) C dX6_found_15 (by decide) (fun _ => ?_) (fun _ => T18)
  refine x_aload_n C dX6_found_28 rfl ?_
  refine e_get C Y kd_X6 4 (by decide) wf_X6_39 dX6_found_29 Bx rfl ?_
  refine x_iload_n C dX6_found_32 rfl ?_
  refine x_lald C ht1 dX6_found_33 (fun q e => by rw [e]; exact Bf) (vp_in_nI hj (by decide)) ?_
  refine x_bipush (v := 8) C dX6_found_34 (by decide) ?_
  refine x_iload_n C dX6_found_36 rfl ?_
  refine x_imul C dX6_found_37 ?_
  refine x_lushr C dX6_found_38 ?_
  refine x_l2i C dX6_found_39 ?_
  refine x_sipush (v := 255) C dX6_found_40 (by decide) ?_
  refine x_iand C dX6_found_43 ?_
  exact E.go C Y (fun z' C Y E hn => x_iret C E dX6_found_44 (fun g e => ⟨⟨_, rfl⟩, by rw [e]; exact ⟨κ, κd, Z⟩⟩))
theorem zz_readOut (hX : Wx w c) (Z : ZZ c a h9 V α f κ κd h) (k : Int32) : TCX w yX6_readOut cX6_readOut 4 (some .int) 1050 8040 [.ref (a 0), .int k] h (PI c a h9 V α f) (fun En g => En = IOE ∧ g = h) := by
  have hW := hX.1
  obtain ⟨fn, f1, Bx⟩ := Z.x
  refine TCX.intro hX.1 rfl (by decide +kernel) (Nat.le_of_ble_eq_true rfl) (fun z C Y E hn => ?_)
  refine x_aload_n C dX6_readOut_0 rfl ?_
  refine x_iload_n C dX6_readOut_1 rfl ?_
  refine k_callR (kc := 1050) (ks := 8040) (mc' := 0) (ms' := 0) (st := []) C Y hW E.1 (zz_isFound hX Z k) rfl md_X6_isFoundOne wi_X6_isFoundOne ws_X6_isFoundOne wm_X6_151 dX6_readOut_2 rfl (by decide) (by decide) Bx rfl rfl (by decide) (fun r g hg => ?_)
  obtain ⟨eg, hg⟩ := hg
  rw [eg]
  rcases hg with rfl | ⟨rfl, j, hj, rfl⟩
  · refine x_if_ne (tgt := 18) C dX6_readOut_5 (by decide) (fun q => absurd rfl q) (fun _ => ?_)
    exact u_thr (kc := 1049) (ks := 8034) hX C E exs_IOE at_76 wc_X6_72 wz_IndexOutOfBoundsException (show (156, "no such found one") ∈ txts by simp [txts]) dX6_readOut_8 dX6_readOut_11 dX6_readOut_12 dX6_readOut_14 dX6_readOut_17 (by decide) (fun g e => ⟨rfl, e⟩)
  refine x_if_ne (tgt := 18) C dX6_readOut_5 (by decide) (fun _ => ?_) (fun q => absurd q (by decide))
  refine E.go C Y (fun z' C Y E hn1 => ?_)
  rw [hn] at hn1
  have hn := hn1
  obtain ⟨t1, ht1⟩ := Y.2.2.1
  refine x_aload_n C dX6_readOut_18 rfl ?_
  refine e_get C Y kd_X6 2 (by decide) wf_X6_26 dX6_readOut_19 Bx rfl ?_
  refine x_iconst (v := 0) C dX6_readOut_22 (by decide) ?_
  refine k_cut (st := []) hX C Y E.cs (by decide) (by decide) Z 0 dX6_readOut_23 (by decide) (fun g Zg _ => ?_)
  clear Bx f1
  obtain ⟨fn, f1, Bx⟩ := Zg.x
  obtain ⟨-, -, ⟨fr, at_, en, fa, pl, mo, Bd, hmo⟩, -⟩ := Zg.dec
  refine x_aload_n C dX6_readOut_26 rfl ?_
  refine e_get C Y kd_X6 3 (by decide) wf_X6_35 dX6_readOut_27 Bx rfl ?_
  refine u_callV (st := []) C Y hW E.cs (d_forget hW Bd) md_X1_forgetFault wi_X1_forgetFault ws_X1_forgetFault wm_X6_159 dX6_readOut_30 rfl (by decide) (by decide) Bd rfl rfl (by decide) ?_
  have Z2 := Zg.ofD (Zg.dec.putD fr at_ en 0 (-1) mo hmo)
  obtain ⟨fn2, f2, Bx2⟩ := Z2.x
  obtain ⟨gf2, Bf2⟩ := Z2.fa
  refine x_aload_n C dX6_readOut_33 rfl ?_
  refine x_aload_n C dX6_readOut_34 rfl ?_
  refine e_get C Y kd_X6 4 (by decide) wf_X6_39 dX6_readOut_35 Bx2 rfl ?_
  refine x_iload_n C dX6_readOut_38 rfl ?_
  refine x_lald C ht1 dX6_readOut_39 (fun q e => by rw [e]; exact Bf2) (vp_in_nI hj (by decide)) ?_
  refine k_callR (kc := 1050) (ks := 8040) (mc' := 0) (ms' := 0) (st := []) C Y hW E.cs (zz_isSelected hX _) ⟨κ, κd, Z2⟩ md_X6_isSelected wi_X6_isSelected ws_X6_isSelected wm_X6_162 dX6_readOut_40 rfl (by decide) (by decide) Bx2 rfl rfl (by decide) (fun r g3 hg => ?_)
  obtain ⟨hr, Z3⟩ := hg
  have LP : ∀ (r i : Nat) (more : Int32) (h : PH), i + r = 10 → ZE c a h9 V α f h → X z' (105 * r) (804 * r) (EQ h) 52 [some (.ref (a 0)), some (.int (nI j)), some (.int more), some (.int (nI i))] [] := by
    intro r
    have T148 : ∀ (kc ks : Nat) (h : PH) (L2 : List (Option Value)), ZE c a h9 V α f h → X z' kc ks (EQ h) 148 (some (.ref (a 0)) :: L2) [] := fun kc ks h L2 hZ => by
      obtain ⟨κ, κd, Z⟩ := hZ
      obtain ⟨fn, f1, Bx⟩ := Z.x
      obtain ⟨⟨n, n1, Bl⟩, -⟩ := Z.dec
      refine x_aload_n C dX6_readOut_148 rfl ?_
      refine e_get C Y kd_X6 2 (by decide) wf_X6_26 dX6_readOut_149 Bx rfl ?_
      refine u_callV (st := []) C Y hW E.cs (l_size hW Bl) md_X4_size wi_X4_size ws_X4_size wm_X6_181 dX6_readOut_152 rfl (by decide) (by decide) Bl rfl rfl (by decide) ?_
      exact x_iret C E dX6_readOut_155 (fun g e => ⟨⟨_, rfl⟩, by rw [e]; exact ⟨κ, κd, Z⟩⟩)
    induction r with
    | zero =>
      intro i more h hi Z
      obtain rfl : i = 10 := by omega
      refine x_iload_n C dX6_readOut_52 rfl ?_
      refine x_bipush (v := 10) C dX6_readOut_53 (by decide) ?_
      exact x_icmp_ge (tgt := 148) C dX6_readOut_55 (by decide) (fun _ => T148 _ _ _ _ Z) (fun q => absurd (Int32.le_refl _) q)
    | succ r ih =>
      intro i more h hi hZ
      obtain ⟨κ, κd, Z⟩ := hZ
      obtain ⟨fn, f1, Bx⟩ := Z.x
      refine x_iload_n C dX6_readOut_52 rfl ?_
      refine x_bipush (v := 10) C dX6_readOut_53 (by decide) ?_
      refine x_icmp_ge (tgt := 148) C dX6_readOut_55 (by decide) (fun _ => T148 _ _ _ _ ⟨κ, κd, Z⟩) (fun _ => ?_)
      refine x_iload_n C dX6_readOut_58 rfl ?_
      refine x_if_eq (tgt := 148) C dX6_readOut_59 (by decide) (fun _ => T148 _ _ _ _ ⟨κ, κd, Z⟩) (fun _ => ?_)
      have T79 : ∀ x : Int32, X z' (105 * (r + 1)) (804 * (r + 1)) (EQ h) 79 [some (.ref (a 0)), some (.int (nI j)), some (.int more), some (.int (nI i))] [.int x, .ref (a 3)] := fun x => by
        refine x_sipush (v := 253) C dX6_readOut_79 (by decide) ?_
        refine k_bus (st := []) hX C Y E.cs Z (u_putShort hX x 253) md_X0_putShort wi_X0_putShort ws_X0_putShort wm_X6_166 dX6_readOut_82 rfl (by decide) (by decide) rfl rfl (by decide) (fun v g Zg => ?_)
        obtain ⟨fn, f1, Bx⟩ := Zg.x
        obtain ⟨fr1, co, B⟩ := Zg.bus.uc
        refine x_if_gt (tgt := 98) C dX6_readOut_85 (by decide) (fun _ => ?_) (fun _ => ?_)
        · obtain ⟨na, na90, -, -, -, ⟨ga, Ra, hba⟩, -⟩ := Zg.bus
          obtain ⟨-, -, ⟨fr, at_, en, fa, pl, mo, Bd, -⟩, -⟩ := Zg.dec
          refine x_aload_n C dX6_readOut_98 rfl ?_
          refine e_get C Y kd_X6 3 (by decide) wf_X6_35 dX6_readOut_99 Bx rfl ?_
          refine x_aload_n C dX6_readOut_102 rfl ?_
          refine e_get C Y kd_X6 1 (by decide) wf_X6_19 dX6_readOut_103 Bx rfl ?_
          refine u_callV (st := [.ref (a 9)]) C Y hW E.cs (u_lastAnswer hX B) md_X0_lastAnswer wi_X0_lastAnswer ws_X0_lastAnswer wm_X6_138 dX6_readOut_106 rfl (by decide) (by decide) B rfl rfl (by simp [Value.category]) ?_
          refine X.room (kc' := 105 * r + Bc (na - 21)) (ks' := 804 * r + Bs (na - 21)) ?_ (by unfold Bc; omega) (by unfold Bs; omega)
          refine k_callR (kc := 105 * r) (ks := 804 * r) (st := []) C Y hW E.cs (d_reads hX Ra (Zg.wd (i := 5) (by omega)) (Zg.wd (i := 6) (by omega)) hba) ⟨κd, Zg.dec⟩ md_X1_reads wi_X1_reads ws_X1_reads wm_X6_170 dX6_readOut_109 rfl (by decide) (by decide) Bd rfl rfl (by decide) (fun r4 g4 hg => ?_)
          obtain ⟨hr, at9, e9, ⟨κ9, D9⟩, -⟩ := hg
          have Z4 : ZZ c a h9 V α f κ κ9 g4 := Zg.ofD D9
          clear Bx f1 Bd
          obtain ⟨fn, f1, Bx⟩ := Z4.x
          obtain ⟨-, -, ⟨fr, at_, en, fa, pl, mo, Bd, hmo⟩, -⟩ := Z4.dec
          have T112 : ∀ x : Int32, X z' (105 * r) (804 * r) (EQ g4) 112 [some (.ref (a 0)), some (.int (nI j)), some (.int more), some (.int (nI i))] [.int x] := fun x => by
            refine x_if_ne (tgt := 134) C dX6_readOut_112 (by decide) (fun _ => ?_) (fun _ => ?_)
            · refine x_aload_n C dX6_readOut_134 rfl ?_
              refine e_get C Y kd_X6 3 (by decide) wf_X6_35 dX6_readOut_135 Bx rfl ?_
              refine u_callV (st := []) C Y hW E.cs (d_more hW hmo Bd) md_X1_endsByMore wi_X1_endsByMore ws_X1_endsByMore wm_X6_177 dX6_readOut_138 rfl (by decide) (by decide) Bd rfl rfl (by decide) ?_
              refine o_istore_nE (L' := [some _, some _, some _, some _]) C dX6_readOut_141 (by rw [hn]; decide) rfl ?_
              refine o_iincE (v := nI (i + 1)) (L' := [some _, some _, some _, some _]) C dX6_readOut_142 rfl (nI_1 i) (by rw [hn]; decide) rfl ?_
              refine x_goto (tgt := 52) C dX6_readOut_145 (by decide) ?_
              exact ih (i + 1) mo g4 (by omega) ⟨κ, κ9, Z4⟩
            · refine x_aload_n C dX6_readOut_115 rfl ?_
              refine e_get C Y kd_X6 2 (by decide) wf_X6_26 dX6_readOut_116 Bx rfl ?_
              refine x_iconst (v := 0) C dX6_readOut_119 (by decide) ?_
              refine k_cut (st := []) hX C Y E.cs (by decide) (by decide) Z4 0 dX6_readOut_120 (by decide) (fun g5 Z5 _ => ?_)
              clear Bx f1 Bd
              obtain ⟨fn, f1, Bx⟩ := Z5.x
              obtain ⟨-, -, ⟨fr, at_, en, fa, pl, mo, Bd, hmo⟩, -⟩ := Z5.dec
              refine x_bipush (v := (-2)) C dX6_readOut_123 (by decide) ?_
              refine x_aload_n C dX6_readOut_125 rfl ?_
              refine e_get C Y kd_X6 3 (by decide) wf_X6_35 dX6_readOut_126 Bx rfl ?_
              refine u_callV (st := [.int (-2)]) C Y hW E.cs (d_faultOf hW rfl Bd) md_X1_lastFault wi_X1_lastFault ws_X1_lastFault wm_X6_174 dX6_readOut_129 rfl (by decide) (by decide) Bd rfl rfl (by simp [Value.category]) ?_
              refine x_isub C dX6_readOut_132 ?_
              exact x_iret C E dX6_readOut_133 (fun g e => ⟨⟨_, rfl⟩, by rw [e]; exact ⟨κ, κ9, Z5⟩⟩)
          rcases hr with rfl | rfl
          · exact T112 _
          · exact T112 _
        · refine x_aload_n C dX6_readOut_88 rfl ?_
          refine e_get C Y kd_X6 2 (by decide) wf_X6_26 dX6_readOut_89 Bx rfl ?_
          refine x_iconst (v := 0) C dX6_readOut_92 (by decide) ?_
          refine k_cut (st := []) hX C Y E.cs (by decide) (by decide) Zg 0 dX6_readOut_93 (by decide) (fun g5 Z5 _ => ?_)
          refine x_iconst (v := -1) C dX6_readOut_96 (by decide) ?_
          exact x_iret C E dX6_readOut_97 (fun g e => ⟨⟨_, rfl⟩, by rw [e]; exact ⟨κ, κd, Z5⟩⟩)
      refine x_aload_n C dX6_readOut_62 rfl ?_
      refine e_get C Y kd_X6 1 (by decide) wf_X6_19 dX6_readOut_63 Bx rfl ?_
      refine x_iload_n C dX6_readOut_66 rfl ?_
      refine x_iconst (v := 2) C dX6_readOut_67 (by decide) ?_
      refine x_irem C dX6_readOut_68 (by decide) ?_
      refine x_if_ne (tgt := 77) C dX6_readOut_69 (by decide) (fun _ => ?_) (fun _ => ?_)
      · exact x_bipush (v := 91) C dX6_readOut_77 (by decide) (T79 _)
      · refine x_bipush (v := 123) C dX6_readOut_72 (by decide) ?_
        exact x_goto (tgt := 79) C dX6_readOut_74 (by decide) (T79 _)
  rcases hr with rfl | rfl
  · refine x_if_ne (tgt := 48) C dX6_readOut_43 (by decide) (fun q => absurd rfl q) (fun _ => ?_)
    refine x_iconst (v := -1) C dX6_readOut_46 (by decide) ?_
    exact x_iret C E dX6_readOut_47 (fun g e => ⟨⟨_, rfl⟩, by rw [e]; exact Z3⟩)
  · refine x_if_ne (tgt := 48) C dX6_readOut_43 (by decide) (fun _ => ?_) (fun q => absurd q (by decide))
    refine x_iconst (v := 1) C dX6_readOut_48 (by decide) ?_
    refine o_istore_nE (L' := [some _, some _, some _, none]) C dX6_readOut_49 (by rw [hn]; decide) rfl ?_
    refine x_iconst (v := 0) C dX6_readOut_50 (by decide) ?_
    refine o_istore_nE (L' := [some _, some _, some _, some _]) C dX6_readOut_51 (by rw [hn]; decide) rfl ?_
    exact LP 10 0 1 g3 rfl Z3
end Calls
end
section
/-! MeterBus at any time: record, text, count. -/
section Calls
variable {w : Wd} {c : Nat → ClassId} {a : Nat → Nat} {h9 : PH} {V : Nat → Prop} {h : PH} {α : Nat → Int64} {f : Nat → Option Nat} {κ κd : Nat → Nat}
theorem zz_record (hX : Wx w c) (Z : ZZ c a h9 V α f κ κd h) (k i : Int32) : TCX w yX6_record cX6_record 4 (some .long) 1 6 [.ref (a 0), .int k, .int i] h (fun r g => (∃ v, r = some (.long v)) ∧ ZE c a h9 V α f g) (fun En g => En = IOE ∧ g = h) := by
  have hW := hX.1
  obtain ⟨fn, f1, Bx⟩ := Z.x
  have Bl : ∃ vs, h (a 7) = some (.inr (4, vs)) := by
    obtain ⟨⟨n, n1, Bl⟩, -⟩ := Z.dec
    exact ⟨_, Bl⟩
  obtain ⟨vs, Bl⟩ := Bl
  refine TCX.intro hX.1 rfl (by decide +kernel) (Nat.le_of_ble_eq_true rfl) (fun z C Y E hn => ?_)
  have T28 : ∀ l : Option Value, X z 1 6 (EQ h) 28 [some (.ref (a 0)), some (.int k), some (.int i), l] [] := fun l => u_thr (kc := 0) (ks := 0) hX C E exs_IOE at_76 wc_X6_72 wz_IndexOutOfBoundsException (show (193, "no such record or what") ∈ txts by simp [txts]) dX6_record_28 dX6_record_31 dX6_record_32 dX6_record_34 dX6_record_37 (by decide) (fun g e => ⟨rfl, e⟩)
  refine x_aload_n C dX6_record_0 rfl ?_
  refine e_get C Y kd_X6 2 (by decide) wf_X6_26 dX6_record_1 Bx rfl ?_
  refine x_iload_n C dX6_record_4 rfl ?_
  refine k_callR (kc := 1) (ks := 6) (mc' := 0) (ms' := 0) (st := []) C Y hW E.1 (l_at hX Z.dec k) rfl md_X4_at wi_X4_at ws_X4_at wm_X6_185 dX6_record_5 rfl (by decide) (by decide) Bl rfl rfl (by decide) (fun r g hg => ?_)
  obtain ⟨eg, hg⟩ := hg
  rw [eg]
  rcases hg with rfl | ⟨p, rfl, hp⟩
  · refine o_astore_nN (L' := [some _, some _, some _, some _]) C dX6_record_8 (by rw [hn]; decide) rfl ?_
    refine x_aload_nN C dX6_record_9 rfl ?_
    exact x_ifnullN (tgt := 28) C dX6_record_10 (by decide) (T28 _)
  have Br : ∃ (va sg : Int64) (co fu ta un ln : Int32) (v vn : Nat) (lt : Value), h p = some (.inr (3, rdL va co fu sg ta un v (nI vn) lt ln)) := by
    obtain ⟨e, B, va, sg, co, fu, ta, un, ln, v, vn, lt, rfl, -⟩ := Z.dec.rd hp
    exact ⟨va, sg, co, fu, ta, un, ln, v, vn, lt, B⟩
  obtain ⟨va, sg, co, fu, ta, un, ln, v, vn, lt, B⟩ := Br
  refine o_astore_nE (L' := [some _, some _, some _, some _]) C dX6_record_8 (by rw [hn]; decide) rfl ?_
  refine x_aload_n C dX6_record_9 rfl ?_
  refine x_ifnull C dX6_record_10 ?_
  refine x_iload_n C dX6_record_13 rfl ?_
  refine x_if_lt (tgt := 28) C dX6_record_14 (by decide) (fun _ => T28 _) (fun _ => ?_)
  refine x_iload_n C dX6_record_17 rfl ?_
  refine x_bipush (v := 7) C dX6_record_18 (by decide) ?_
  refine x_aload_n C dX6_record_20 rfl ?_
  refine u_callV (st := [.int 7, .int i]) C Y hW E.1 (q_vifNumber hW B) md_X3_vifNumber wi_X3_vifNumber ws_X3_vifNumber wm_X6_188 dX6_record_21 rfl (by decide) (by decide) B rfl rfl (by simp [Value.category]) ?_
  refine x_iadd C dX6_record_24 ?_
  refine x_icmp_lt (tgt := 38) C dX6_record_25 (by decide) (fun _ => ?_) (fun _ => T28 _)
  refine x_aload_n C dX6_record_38 rfl ?_
  refine x_iload_n C dX6_record_39 rfl ?_
  refine k_callR (kc := 1) (ks := 6) (mc' := 0) (ms' := 0) (st := []) C Y hW E.1 (q_detail hX Z.dec hp i) rfl md_X3_detail wi_X3_detail ws_X3_detail wm_X6_195 dX6_record_40 rfl (by decide) (by decide) B rfl rfl (by decide) (fun r g2 hg => ?_)
  obtain ⟨eg2, v2, rfl⟩ := hg
  rw [eg2]
  exact E.go C Y (fun z' C Y E hn => x_lret C E dX6_record_43 (fun g e => ⟨⟨_, rfl⟩, by rw [e]; exact ⟨κ, κd, Z⟩⟩))
theorem zz_text (hX : Wx w c) (Z : ZZ c a h9 V α f κ κd h) (k i : Int32) : TCX w yX6_text cX6_text 4 (some .int) 1 6 [.ref (a 0), .int k, .int i] h (PI c a h9 V α f) (fun En g => En = IOE ∧ g = h) := by
  have hW := hX.1
  obtain ⟨fn, f1, Bx⟩ := Z.x
  have Bl : ∃ vs, h (a 7) = some (.inr (4, vs)) := by
    obtain ⟨⟨n, n1, Bl⟩, -⟩ := Z.dec
    exact ⟨_, Bl⟩
  obtain ⟨vs, Bl⟩ := Bl
  refine TCX.intro hX.1 rfl (by decide +kernel) (Nat.le_of_ble_eq_true rfl) (fun z C Y E hn => ?_)
  have T25 : ∀ l : Option Value, X z 1 6 (EQ h) 25 [some (.ref (a 0)), some (.int k), some (.int i), l] [] := fun l => u_thr (kc := 0) (ks := 0) hX C E exs_IOE at_76 wc_X6_72 wz_IndexOutOfBoundsException (show (201, "no such record or byte of a text") ∈ txts by simp [txts]) dX6_text_25 dX6_text_28 dX6_text_29 dX6_text_31 dX6_text_34 (by decide) (fun g e => ⟨rfl, e⟩)
  refine x_aload_n C dX6_text_0 rfl ?_
  refine e_get C Y kd_X6 2 (by decide) wf_X6_26 dX6_text_1 Bx rfl ?_
  refine x_iload_n C dX6_text_4 rfl ?_
  refine k_callR (kc := 1) (ks := 6) (mc' := 0) (ms' := 0) (st := []) C Y hW E.1 (l_at hX Z.dec k) rfl md_X4_at wi_X4_at ws_X4_at wm_X6_185 dX6_text_5 rfl (by decide) (by decide) Bl rfl rfl (by decide) (fun r g hg => ?_)
  obtain ⟨eg, hg⟩ := hg
  rw [eg]
  rcases hg with rfl | ⟨p, rfl, hp⟩
  · refine o_astore_nN (L' := [some _, some _, some _, some _]) C dX6_text_8 (by rw [hn]; decide) rfl ?_
    refine x_aload_nN C dX6_text_9 rfl ?_
    exact x_ifnullN (tgt := 25) C dX6_text_10 (by decide) (T25 _)
  have Br : ∃ (va sg : Int64) (co fu ta un ln : Int32) (v vn : Nat) (lt : Value), h p = some (.inr (3, rdL va co fu sg ta un v (nI vn) lt ln)) := by
    obtain ⟨e, B, va, sg, co, fu, ta, un, ln, v, vn, lt, rfl, -⟩ := Z.dec.rd hp
    exact ⟨va, sg, co, fu, ta, un, ln, v, vn, lt, B⟩
  obtain ⟨va, sg, co, fu, ta, un, ln, v, vn, lt, B⟩ := Br
  refine o_astore_nE (L' := [some _, some _, some _, some _]) C dX6_text_8 (by rw [hn]; decide) rfl ?_
  refine x_aload_n C dX6_text_9 rfl ?_
  refine x_ifnull C dX6_text_10 ?_
  refine x_iload_n C dX6_text_13 rfl ?_
  refine x_if_lt (tgt := 25) C dX6_text_14 (by decide) (fun _ => T25 _) (fun _ => ?_)
  refine x_iload_n C dX6_text_17 rfl ?_
  refine x_aload_n C dX6_text_18 rfl ?_
  refine u_callV (st := [.int i]) C Y hW E.1 (q_textSize hW B) md_X3_textSize wi_X3_textSize ws_X3_textSize wm_X6_198 dX6_text_19 rfl (by decide) (by decide) B rfl rfl (by simp [Value.category]) ?_
  refine x_icmp_lt (tgt := 35) C dX6_text_22 (by decide) (fun _ => ?_) (fun _ => T25 _)
  refine x_aload_n C dX6_text_35 rfl ?_
  refine x_iload_n C dX6_text_36 rfl ?_
  refine k_callR (kc := 1) (ks := 6) (mc' := 0) (ms' := 0) (st := []) C Y hW E.1 (q_textAt hX Z.dec hp i) rfl md_X3_textAt wi_X3_textAt ws_X3_textAt wm_X6_203 dX6_text_37 rfl (by decide) (by decide) B rfl rfl (by decide) (fun r g2 hg => ?_)
  obtain ⟨eg2, v2, rfl⟩ := hg
  rw [eg2]
  exact E.go C Y (fun z' C Y E hn => x_iret C E dX6_text_40 (fun g e => ⟨⟨_, rfl⟩, by rw [e]; exact ⟨κ, κd, Z⟩⟩))
theorem zz_count (hX : Wx w c) (Z : ZZ c a h9 V α f κ κd h) (x : Int32) : TCX w yX6_count cX6_count 2 (some .int) 1 6 [.ref (a 0), .int x] h (PI c a h9 V α f) (fun En g => En = IOE ∧ g = h) := by
  have hW := hX.1
  obtain ⟨fn, f1, Bx⟩ := Z.x
  obtain ⟨fr1, co, B⟩ := Z.bus.uc
  obtain ⟨gb, nb, R, hb⟩ := Z.buf
  obtain ⟨⟨nl, n1, Bl⟩, -⟩ := Z.dec
  refine TCX.intro hX.1 rfl (by decide +kernel) (Nat.le_of_ble_eq_true rfl) (fun z C Y E hn => ?_)
  refine x_iload_n C dX6_count_0 rfl ?_
  by_cases g0 : (0 : Int32) ≤ x ∧ x ≤ 5
  · obtain ⟨j, hj, rfl⟩ := nI_of (Int32.not_lt.mpr g0.1)
    have hj2 : j ≤ 5 := Nat.le_of_not_lt (fun g => absurd (nI_lt g hj) (Int32.not_lt.mpr g0.2))
    refine E.go C Y (fun z' C Y E hn1 => ?_)
    have fin : ∀ (g : PH), g = h → ∀ v : Int32, PI c a h9 V α f (some (.int v)) g := fun g e v => ⟨⟨_, rfl⟩, by rw [e]; exact ⟨κ, κd, Z⟩⟩
    rcases (show j = 0 ∨ j = 1 ∨ j = 2 ∨ j = 3 ∨ j = 4 ∨ j = 5 by omega) with rfl | rfl | rfl | rfl | rfl | rfl
    · refine x_tblIn (tgt := 40) (off := 39) C dX6_count_1 (by decide) (by decide) (by decide) (by decide) ?_
      refine x_aload_n C dX6_count_40 rfl ?_
      refine e_get C Y kd_X6 1 (by decide) wf_X6_19 dX6_count_41 Bx rfl ?_
      refine k_callR (kc := 1) (ks := 6) (mc' := 0) (ms' := 0) (st := []) C Y hW E.cs (u_meterNumber hX Z.bus) rfl md_X0_meterNumber wi_X0_meterNumber ws_X0_meterNumber wm_X6_206 dX6_count_44 rfl (by decide) (by decide) B rfl rfl (by decide) (fun r g hg => ?_)
      obtain ⟨eg, v, rfl⟩ := hg
      rw [eg]
      exact x_iret C E dX6_count_47 (fun g e => fin g e _)
    · refine x_tblIn (tgt := 48) (off := 47) C dX6_count_1 (by decide) (by decide) (by decide) (by decide) ?_
      refine x_aload_n C dX6_count_48 rfl ?_
      refine e_get C Y kd_X6 0 (by decide) wf_X6_10 dX6_count_49 Bx rfl ?_
      refine u_callV (st := []) C Y hW E.cs (r_size hW R) md_X5_size wi_X5_size ws_X5_size wm_X6_54 dX6_count_52 rfl (by decide) (by decide) R.2.1 rfl rfl (by decide) ?_
      exact x_iret C E dX6_count_55 (fun g e => fin g e _)
    · refine x_tblIn (tgt := 56) (off := 55) C dX6_count_1 (by decide) (by decide) (by decide) (by decide) ?_
      refine x_aload_n C dX6_count_56 rfl ?_
      refine e_get C Y kd_X6 5 (by decide) wf_X6_43 dX6_count_57 Bx rfl ?_
      exact x_iret C E dX6_count_60 (fun g e => fin g e _)
    · refine x_tblIn (tgt := 61) (off := 60) C dX6_count_1 (by decide) (by decide) (by decide) (by decide) ?_
      refine x_aload_n C dX6_count_61 rfl ?_
      refine e_get C Y kd_X6 2 (by decide) wf_X6_26 dX6_count_62 Bx rfl ?_
      refine u_callV (st := []) C Y hW E.cs (l_size hW Bl) md_X4_size wi_X4_size ws_X4_size wm_X6_181 dX6_count_65 rfl (by decide) (by decide) Bl rfl rfl (by decide) ?_
      exact x_iret C E dX6_count_68 (fun g e => fin g e _)
    · refine x_tblIn (tgt := 69) (off := 68) C dX6_count_1 (by decide) (by decide) (by decide) (by decide) ?_
      refine x_aload_n C dX6_count_69 rfl ?_
      refine e_get C Y kd_X6 1 (by decide) wf_X6_19 dX6_count_70 Bx rfl ?_
      refine u_callV (st := []) C Y hW E.cs (u_frameNumber hX B) md_X0_frameNumber wi_X0_frameNumber ws_X0_frameNumber wm_X6_209 dX6_count_73 rfl (by decide) (by decide) B rfl rfl (by decide) ?_
      exact x_iret C E dX6_count_76 (fun g e => fin g e _)
    · refine x_tblIn (tgt := 77) (off := 76) C dX6_count_1 (by decide) (by decide) (by decide) (by decide) ?_
      refine x_aload_n C dX6_count_77 rfl ?_
      refine e_get C Y kd_X6 1 (by decide) wf_X6_19 dX6_count_78 Bx rfl ?_
      refine u_callV (st := []) C Y hW E.cs (u_collisionNumber hX B) md_X0_collisionNumber wi_X0_collisionNumber ws_X0_collisionNumber wm_X6_212 dX6_count_81 rfl (by decide) (by decide) B rfl rfl (by decide) ?_
      exact x_iret C E dX6_count_84 (fun g e => fin g e _)
  · refine x_tblOut (tgt := 85) C dX6_count_1 (outR g0) (by decide) ?_
    exact u_thr (kc := 0) (ks := 0) hX C E exs_IOE at_76 wc_X6_72 wz_IndexOutOfBoundsException (show (215, "no such what") ∈ txts by simp [txts]) dX6_count_85 dX6_count_88 dX6_count_89 dX6_count_91 dX6_count_94 (by decide) (fun g e => ⟨rfl, e⟩)
end Calls
end
section
/-! The model's side of a call, told weakly: it ends, MH holds, who is there and the addresses stay. -/
section Mod
variable {w : Wd} {M : MW} {S : MS}
theorem SM.s0 (S : MS) (v : Int32) : SM S (S.si 0 v) := ⟨fun _ => rfl, fun _ => rfl⟩
def MK (S S' : MS) : Prop := MH S' ∧ SM S S'
theorem MK.s0 (h : MH S) (v : Int32) : MK S (S.si 0 v) := ⟨h.s0 v, SM.s0 S v⟩
theorem v_type (hW : Wm w M) (h : MH S) (b : Int64) (n : Int32) : ∃ v S', TF w M yX7_type cX7_type 5 (some .int) 1 [.long b, .int n] S (some (.int v)) S' ∧ MK S S' := by
  by_cases g : (1 : Int32) ≤ n ∧ n ≤ 8
  · obtain ⟨m, hm, rfl⟩ := nI_of (x := n) (Int32.not_lt.mpr (Int32.le_trans (by decide) g.1))
    have hm8 : m ≤ 8 := Nat.le_of_not_lt (fun q => absurd (nI_lt q hm) (Int32.not_lt.mpr g.2))
    have hm1 : 1 ≤ m := Nat.le_of_not_lt (fun q => absurd (nI_lt q (by decide)) (Int32.not_lt.mpr g.1))
    obtain ⟨s, s1, s2⟩ := h.1.buf
    by_cases q : s + m ≤ 300
    · exact ⟨_, _, s_type_t hW b m s ⟨hm1, hm8⟩ s1 q, h.type s1 q, fun _ => ty_a (by decide) m s _, fun _ => ty_a (by decide) m s _⟩
    · exact ⟨_, _, s_type_u hW b m s ⟨hm1, hm8⟩ s1 s2 q, MK.s0 h 2⟩
  · exact ⟨_, _, s_type_f hW b n g, MK.s0 h 1⟩
theorem v_keep (hW : Wm w M) (h : MH S) (n : Int32) : ∃ S', TF w M yX7_keep cX7_keep 2 none 1 [.int n] S none S' ∧ MK S S' := by
  refine ⟨_, s_keep hW n, ?_⟩
  split
  · rename_i g
    obtain ⟨s, s1, s2⟩ := h.1.buf
    obtain ⟨m, hm, rfl⟩ := nI_of (Int32.not_lt.mpr g.1)
    have h2 := g.2
    rw [s1] at h2
    have hms : m ≤ s := (nI_leI hm (by omega)).mp h2
    exact ⟨h.keep (Nat.le_trans hms s2), fun _ => rfl, fun _ => rfl⟩
  · exact MK.s0 h 1
theorem v_typed (hW : Wm w M) (h : MH S) (i : Int32) : ∃ v S', TF w M yX7_typed cX7_typed 2 (some .int) 1 [.int i] S (some (.int v)) S' ∧ MK S S' := by
  obtain ⟨s, s1, s2⟩ := h.1.buf
  exact ⟨_, _, s_typed hW s s1 s2 i, MK.s0 h _⟩
theorem v_page (hW : Wm w M) (h : MH S) (k i : Int32) : ∃ v S', TF w M yX7_page cX7_page 4 (some .int) 2 [.int k, .int i] S (some (.int v)) S' ∧ MK S S' := by
  obtain ⟨s, s1, s2⟩ := h.1.buf
  by_cases g : q_page S k i ∧ s ≤ 60
  · obtain ⟨g1, g2⟩ := g
    unfold q_page at g1
    obtain ⟨j, hj, rfl⟩ := nI_of (Int32.not_lt.mpr g1.1.1.1)
    obtain ⟨t, ht, rfl⟩ := nI_of (Int32.not_lt.mpr g1.2.1)
    have hj2 : j < 12 := Nat.lt_succ_of_le ((nI_leI hj (by decide)).mp g1.1.1.2)
    have ht2 : t < 3 := Nat.lt_succ_of_le ((nI_leI ht (by decide)).mp g1.2.2)
    have g3 := g1.1.2
    rw [nI_clamp hj] at g3
    exact ⟨_, _, s_page_t hW j t s hj2 ht2 g3 s1 g2, h.page g2, fun _ => page_a (by decide) (by decide), fun _ => page_a (by decide) (by decide)⟩
  · exact ⟨_, _, s_page_x hW k i s s1 s2 g, MK.s0 h _⟩
theorem v_state (hW : Wm w M) (h : MH S) (k x : Int32) : ∃ v S', TF w M yX7_state cX7_state 3 (some .int) 1 [.int k, .int x] S (some (.int v)) S' ∧ MK S S' := by
  by_cases g : ((0 : Int32) ≤ k ∧ k ≤ 11) ∧ ((0 : Int32) ≤ x ∧ x ≤ 6)
  · obtain ⟨j, hj, rfl⟩ := nI_of (Int32.not_lt.mpr g.1.1)
    have hj2 : j < 12 := Nat.lt_succ_of_le ((nI_leI hj (by decide)).mp g.1.2)
    by_cases q : S.a 10 j = 0
    · exact ⟨_, _, s_state_n hW j hj2 x g.2 q, MK.s0 h 0⟩
    · obtain ⟨t, ht, rfl⟩ := nI_of (Int32.not_lt.mpr g.2.1)
      have ht2 : t ≤ 6 := (nI_leI ht (by decide)).mp g.2.2
      rcases (show t = 0 ∨ t = 1 ∨ t = 2 ∨ t = 3 ∨ t = 4 ∨ t = 5 ∨ t = 6 by omega) with rfl | rfl | rfl | rfl | rfl | rfl | rfl
      · exact ⟨_, _, s_state_0 hW j hj2 q, MK.s0 h 0⟩
      · exact ⟨_, _, s_state_1 hW j hj2 q, MK.s0 h 0⟩
      · exact ⟨_, _, s_state_2 hW j hj2 q, MK.s0 h 0⟩
      · exact ⟨_, _, s_state_3 hW j hj2 q, MK.s0 h 0⟩
      · exact ⟨_, _, s_state_4 hW j hj2 q, MK.s0 h 0⟩
      · exact ⟨_, _, s_state_5 hW j hj2 q, MK.s0 h 0⟩
      · exact ⟨_, _, s_state_6 hW j hj2 q, MK.s0 h 0⟩
  · exact ⟨_, _, s_state_f hW k x g, MK.s0 h 1⟩
theorem v_send (hW : Wm w M) (h : MH S) : ∃ v S', TF w M yX7_send cX7_send 2 (some .int) 4 [] S (some (.int v)) S' ∧ MK S S' := by
  obtain ⟨s, s1, s2⟩ := h.1.buf
  exact ⟨_, _, s_send hW h.1.mi.2.1 s s1 s2, h.send, fun _ => send_a rfl (by decide) (by decide), fun _ => send_a rfl (by decide) (by decide)⟩
theorem v_search (hW : Wm w M) (h : MH S) : ∃ v S', TF w M yX7_search cX7_search 3 (some .int) 6 [] S (some (.int v)) S' ∧ MK S S' := by
  refine ⟨_, _, g_search hW h.1, h.search, ?_⟩
  obtain ⟨S', e, -⟩ := search_ok h.1.mi.1 h.1.mi.2.1 h.1.ds
  rw [search_eq e]
  have hz : ∀ q j, pz q = false → S'.a q j = S.a q j := fun q j hq => by
    rw [PRo_pz hq _ _ _ _ e]
    unfold f_sr0
    rw [ff_a _ (pz_ne hq rfl)]
    rfl
  exact ⟨fun j => hz 10 j rfl, fun j => hz 12 j rfl⟩
theorem v_found (hW : Wm w M) (h : MH S) (k x : Int32) : ∃ v S', TF w M yX7_found cX7_found 3 (some .int) 1 [.int k, .int x] S (some (.int v)) S' ∧ MK S S' := by
  obtain ⟨f, f1, f2⟩ := h.1.fnd
  exact ⟨_, _, s_found hW f f1 (by omega) k x, MK.s0 h _⟩
theorem ro_sm {t q : Nat} : ∀ {S : MS}, SM S (f_ro t q S).2 := by
  induction t generalizing q with
  | zero => intro S; exact ⟨fun _ => rfl, fun _ => rfl⟩
  | succ t ih =>
    intro S
    have h1 : SM S (f_putS S (f_roC q)) := ⟨fun _ => putS_bz rfl (by decide), fun _ => putS_bz rfl (by decide)⟩
    rw [f_ro]
    generalize f_putS S (f_roC q) = S1 at h1 ⊢
    have h2 : SM S (f_da S1 5 (f_m S1)) := h1.tr ⟨fun _ => da_a S1 5 _ rfl (by decide), fun _ => da_a S1 5 _ rfl (by decide)⟩
    generalize f_da S1 5 (f_m S1) = S2 at h2 ⊢
    split
    · split
      · exact h2.tr ⟨fun _ => rfl, fun _ => rfl⟩
      · split
        · exact h2
        · exact h2.tr ih
    · exact h1.tr ⟨fun _ => rfl, fun _ => rfl⟩
theorem readOut_sm {k : Nat} : SM S (f_readOut S k).2 := by
  have h00 : SM S (f_rm ((((S.si 0 0).si 23 0).si 34 0).si 36 (-1)) k 8) := ⟨fun _ => (rm_a _ k (by decide) 8).trans rfl, fun _ => (rm_a _ k (by decide) 8).trans rfl⟩
  have h0 : SM S (f_ro0 S k) := by
    unfold f_ro0
    exact h00.tr (putM_sm _)
  unfold f_readOut
  generalize f_ro0 S k = S1 at h0 ⊢
  split
  · exact (h0.tr ((show SM S1 (f_putS S1 64) from ⟨fun _ => putS_bz rfl (by decide), fun _ => putS_bz rfl (by decide)⟩).tr (putM_sm _))).tr ro_sm
  · exact h0
theorem v_readOut (hW : Wm w M) (h : MH S) (k : Int32) : ∃ v S', TF w M yX7_readOut cX7_readOut 4 (some .int) 5 [.int k] S (some (.int v)) S' ∧ MK S S' := by
  obtain ⟨f, f1, f2⟩ := h.1.fnd
  by_cases g : (0 : Int32) ≤ k ∧ k ≤ S.i 20 - 1
  · obtain ⟨j, hj, rfl⟩ := nI_of (Int32.not_lt.mpr g.1)
    have h2 := g.2
    rw [f1] at h2
    have hf0 : 1 ≤ f := Nat.le_of_not_lt (fun q => by
      obtain rfl : f = 0 := by omega
      exact absurd (Int32.le_trans g.1 h2) (by decide))
    rw [show nI f - 1 = nI (f - 1) from nI_sub' hf0] at h2
    have hj2 : j ≤ f - 1 := (nI_leI hj (by omega)).mp h2
    exact ⟨_, _, g_readOut hW h j f f1 (by omega) f2, h.readOut, readOut_sm⟩
  · exact ⟨_, _, s_readOut_f hW k g, MK.s0 h 1⟩
theorem v_decode (hW : Wm w M) (h : MH S) : ∃ v S', TF w M yX7_decode cX7_decode 2 (some .int) 5 [] S (some (.int v)) S' ∧ MK S S' := by
  obtain ⟨s, s1, s2⟩ := h.1.buf
  exact ⟨_, _, g_decode hW h s s1 s2, h.decode s, (SM.s0 S 0).tr ⟨fun _ => da_a _ 1 _ rfl (by decide), fun _ => da_a _ 1 _ rfl (by decide)⟩⟩
theorem v_place (hW : Wm w M) (h : MH S) : ∃ v S', TF w M yX7_place cX7_place 1 (some .int) 0 [] S (some (.int v)) S' ∧ MK S S' := ⟨_, _, s_place hW, MK.s0 h 0⟩
theorem v_clear (hW : Wm w M) (h : MH S) : ∃ v S', TF w M yX7_clear cX7_clear 2 (some .int) 0 [] S (some (.int v)) S' ∧ MK S S' := ⟨_, _, s_clear hW, h.clear, fun _ => rfl, fun _ => rfl⟩
theorem v_count (hW : Wm w M) (h : MH S) (x : Int32) : ∃ v S', TF w M yX7_count cX7_count 4 (some .int) 1 [.int x] S (some (.int v)) S' ∧ MK S S' := by
  by_cases g : (0 : Int32) ≤ x ∧ x ≤ 5
  · exact ⟨_, _, s_count_t hW x g, MK.s0 h 0⟩
  · exact ⟨_, _, s_count_f hW x g, MK.s0 h 1⟩
theorem v_rec {S : MS} (h : MH S) {i : Int32} (g : q_rec S i) : ∃ r j, S.i 23 = nI r ∧ r ≤ 100 ∧ j < r ∧ i = nI j ∧ RO S j := by
  obtain ⟨r, l1, l2, l3⟩ := h.list
  obtain ⟨j, hj, rfl⟩ := nI_of (Int32.not_lt.mpr g.1)
  have h2 := g.2
  rw [l1] at h2
  have hf0 : 1 ≤ r := Nat.le_of_not_lt (fun q => by
    obtain rfl : r = 0 := by omega
    exact absurd (Int32.le_trans g.1 h2) (by decide))
  rw [show nI r - 1 = nI (r - 1) from nI_sub' hf0] at h2
  have hj2 : j ≤ r - 1 := (nI_leI hj (by omega)).mp h2
  exact ⟨r, j, l1, l2, by omega, rfl, l3 j (by omega)⟩
theorem v_record (hW : Wm w M) (h : MH S) (i x : Int32) : ∃ v S', TF w M yX7_record cX7_record 4 (some .long) 1 [.int i, .int x] S (some (.long v)) S' ∧ MK S S' := by
  by_cases g : q_record S i x
  · obtain ⟨r, j, e1, e2, e3, rfl, ⟨nv, n1, n2⟩, -⟩ := v_rec h g.1
    obtain ⟨t, ht, rfl⟩ := nI_of g.2.1
    have h2 := g.2.2
    rw [nI_clamp (by omega), n1, show (7 : Int32) = nI 7 from rfl, nI_add] at h2
    have ht2 : t < 7 + nv := (nI_ltI ht (by omega)).mp h2
    exact ⟨_, _, g_record hW h r j t nv e1 e2 e3 n1 n2 ht2, MK.s0 h 0⟩
  · obtain ⟨r, l1, l2, -⟩ := h.list
    exact ⟨_, _, s_record_x hW r l1 l2 i x g, MK.s0 h 1⟩
theorem v_text (hW : Wm w M) (h : MH S) (i x : Int32) : ∃ v S', TF w M yX7_text cX7_text 4 (some .int) 1 [.int i, .int x] S (some (.int v)) S' ∧ MK S S' := by
  by_cases g : q_text S i x
  · obtain ⟨r, j, e1, e2, e3, rfl, -, n, n1, n2, -⟩ := v_rec h g.1
    obtain ⟨t, ht, rfl⟩ := nI_of (Int32.not_lt.mpr g.2.1)
    have h2 := g.2.2
    rw [nI_clamp (by omega), n1] at h2
    have hf0 : 1 ≤ n := Nat.le_of_not_lt (fun q => by
      obtain rfl : n = 0 := by omega
      exact absurd (Int32.le_trans g.2.1 h2) (by decide))
    rw [show nI n - 1 = nI (n - 1) from nI_sub' hf0] at h2
    have ht2 : t ≤ n - 1 := (nI_leI ht (by omega)).mp h2
    exact ⟨_, _, g_text hW h r j t n e1 e2 e3 n1 n2 (by omega), MK.s0 h 0⟩
  · obtain ⟨r, l1, l2, -⟩ := h.list
    exact ⟨_, _, s_text_x hW r l1 l2 i x g, MK.s0 h 1⟩
end Mod
end
section
/-! Who is there, with which address: the class against the model. -/
def bl (x : Int64) (i : Nat) : Bool := x.toBitVec.getLsbD i
theorem bl_or (x y : Int64) (i : Nat) : bl (x ||| y) i = (bl x i || bl y i) := by unfold bl; rw [Int64.toBitVec_or, BitVec.getLsbD_or]
theorem bl_and (x y : Int64) (i : Nat) : bl (x &&& y) i = (bl x i && bl y i) := by unfold bl; rw [Int64.toBitVec_and, BitVec.getLsbD_and]
theorem bl_m (i : Nat) : bl 4294967295 i = decide (i < 32) := by
  rcases Nat.lt_or_ge i 64 with h | h
  · exact (by decide +kernel : ∀ i, i < 64 → bl 4294967295 i = decide (i < 32)) i h
  · rw [show bl 4294967295 i = false from BitVec.getLsbD_of_ge _ _ h, decide_eq_false (by omega)]
theorem bl_i2l (x : Int32) {i : Nat} (hi : i < 64) : bl x.toInt64 i = if i < 32 then bt x i else bt x 31 := by
  unfold bl bt
  rw [Int32.toBitVec_toInt64, BitVec.getLsbD_signExtend, BitVec.msb_eq_getLsbD_last]
  simp [hi]
theorem bl_shl (x : Int64) (y : Int32) (n : Nat) (hy : ((y.toInt64 &&& 63).toBitVec.smod 64).toNat = n) {i : Nat} (hi : i < 64) : bl (x <<< (y.toInt64 &&& 63)) i = (decide (n ≤ i) && bl x (i - n)) := by
  unfold bl
  rw [Int64.toBitVec_shiftLeft]
  show (x.toBitVec <<< ((y.toInt64 &&& 63).toBitVec.smod 64).toNat).getLsbD i = _
  rw [hy, BitVec.getLsbD_shiftLeft]
  rcases Nat.lt_or_ge i n with h | h
  · simp [h, Nat.not_le.mpr h]
  · simp [hi, h, Nat.not_lt.mpr h]
theorem nbits {x : Int32} {M : Int32} {N e : Nat} (hM : M = nI N) (hN : N < 2 ^ e) (he : e < 31) (h0 : (0 : Int32) ≤ x) (h1 : x ≤ M) : ∀ t, e ≤ t → bt x t = false := by
  intro t ht
  obtain ⟨n, hn, rfl⟩ := nI_of (Int32.not_lt.mpr h0)
  subst hM
  have hp : 2 ^ e ≤ 2 ^ 30 := Nat.pow_le_pow_right (by decide) (by omega)
  have hn2 : n ≤ N := (nI_leI hn (by omega)).mp h1
  unfold bt
  show (BitVec.ofNat 32 n).getLsbD t = false
  rw [BitVec.getLsbD_ofNat, Nat.testBit_lt_two_pow (Nat.lt_of_lt_of_le (Nat.lt_of_le_of_lt hn2 hN) (Nat.pow_le_pow_right (by decide) ht))]
  simp
/-- what the class has asked of maker, version, medium -/
def rng (mk v d : Int32) : Prop := ((0 : Int32) ≤ mk ∧ mk ≤ 65535) ∧ ((0 : Int32) ≤ v ∧ v ≤ 254) ∧ ((0 : Int32) ≤ d ∧ d ≤ 254)
section Bits
variable {i mk v d i' mk' v' d' : Int32}
theorem rng.mm (h : rng mk v d) : ∀ t, 16 ≤ t → bt mk t = false := nbits (N := 65535) rfl (by decide) (by decide) h.1.1 h.1.2
theorem rng.vv (h : rng mk v d) : ∀ t, 8 ≤ t → bt v t = false := nbits (N := 254) rfl (by decide) (by decide) h.2.1.1 h.2.1.2
theorem rng.dd (h : rng mk v d) : ∀ t, 8 ≤ t → bt d t = false := nbits (N := 254) rfl (by decide) (by decide) h.2.2.1 h.2.2.2
theorem adr_bit (h : rng mk v d) {t : Nat} (ht : t < 64) : bl (adr i mk v d) t = if t < 32 then bt i t else if t < 48 then bt mk (t - 32) else if t < 56 then bt v (t - 48) else bt d (t - 56) := by
  unfold adr
  rw [bl_or, bl_or, bl_or, bl_and, bl_m, bl_i2l _ ht, bl_shl _ 32 32 (by decide) ht, bl_shl _ 48 48 (by decide) ht, bl_shl _ 56 56 (by decide) ht]
  by_cases h1 : t < 32
  · rw [if_pos h1, if_pos h1, decide_eq_false (show ¬ 32 ≤ t by omega), decide_eq_false (show ¬ 48 ≤ t by omega), decide_eq_false (show ¬ 56 ≤ t by omega), decide_eq_true h1]
    simp
  rw [if_neg h1, if_neg h1, decide_eq_false h1, decide_eq_true (show 32 ≤ t by omega), bl_i2l mk (show t - 32 < 64 by omega), if_pos (show t - 32 < 32 by omega)]
  by_cases h2 : t < 48
  · rw [if_pos h2, decide_eq_false (show ¬ 48 ≤ t by omega), decide_eq_false (show ¬ 56 ≤ t by omega)]
    simp
  rw [if_neg h2, decide_eq_true (show 48 ≤ t by omega), h.mm (t - 32) (by omega), bl_i2l v (show t - 48 < 64 by omega), if_pos (show t - 48 < 32 by omega)]
  by_cases h3 : t < 56
  · rw [if_pos h3, decide_eq_false (show ¬ 56 ≤ t by omega)]
    simp
  rw [if_neg h3, decide_eq_true (show 56 ≤ t by omega), h.vv (t - 48) (by omega), bl_i2l d (show t - 56 < 64 by omega), if_pos (show t - 56 < 32 by omega)]
  simp
theorem adr_inj (h : rng mk v d) (h' : rng mk' v' d') (e : adr i mk v d = adr i' mk' v' d') : i = i' ∧ mk = mk' ∧ v = v' ∧ d = d' := by
  have b : ∀ t, t < 64 → (if t < 32 then bt i t else if t < 48 then bt mk (t - 32) else if t < 56 then bt v (t - 48) else bt d (t - 56)) = (if t < 32 then bt i' t else if t < 48 then bt mk' (t - 32) else if t < 56 then bt v' (t - 48) else bt d' (t - 56)) := fun t ht => by rw [← adr_bit h ht, ← adr_bit h' ht, e]
  refine ⟨b_ext (fun t ht => ?_), b_ext (fun t ht => ?_), b_ext (fun t ht => ?_), b_ext (fun t ht => ?_)⟩
  · have := b t (by omega)
    rw [if_pos ht, if_pos ht] at this
    exact this
  · by_cases q : t < 16
    · have := b (t + 32) (by omega)
      simp only [if_neg (show ¬ t + 32 < 32 by omega), if_pos (show t + 32 < 48 by omega), show t + 32 - 32 = t by omega] at this
      exact this
    · rw [h.mm t (by omega), h'.mm t (by omega)]
  · by_cases q : t < 8
    · have := b (t + 48) (by omega)
      simp only [if_neg (show ¬ t + 48 < 32 by omega), if_neg (show ¬ t + 48 < 48 by omega), if_pos (show t + 48 < 56 by omega), show t + 48 - 48 = t by omega] at this
      exact this
    · rw [h.vv t (by omega), h'.vv t (by omega)]
  · by_cases q : t < 8
    · have := b (t + 56) (by omega)
      simp only [if_neg (show ¬ t + 56 < 32 by omega), if_neg (show ¬ t + 56 < 48 by omega), if_neg (show ¬ t + 56 < 56 by omega), show t + 56 - 56 = t by omega] at this
      exact this
    · rw [h.dd t (by omega), h'.dd t (by omega)]
theorem byte_inj (h : rng mk v d) (h' : rng mk' v' d') (e : ∀ b, b < 8 → f_byte b i mk v d = f_byte b i' mk' v' d') : i = i' ∧ mk = mk' ∧ v = v' ∧ d = d' := by
  refine ⟨b_ext (fun t ht => ?_), b_ext (fun t ht => ?_), e 6 (by decide), e 7 (by decide)⟩
  · have := e (t / 8) (by omega)
    unfold f_byte at this
    rw [if_pos (show t / 8 < 4 by omega), if_pos (show t / 8 < 4 by omega), show (8 : Int32) * nI (t / 8) = nI (8 * (t / 8)) from pk_mul 8 (t / 8)] at this
    have hx : ∀ x : Int32, bt ((x >>> (nI (8 * (t / 8)) &&& 31)) &&& 255) (t % 8) = bt x t := fun x => by
      rw [b_and, b_sshr _ (show 8 * (t / 8) < 32 by omega) _ (show t % 8 < 32 by omega), if_pos (show 8 * (t / 8) + t % 8 < 32 by omega), b_255, decide_eq_true (show t % 8 < 8 by omega), Bool.and_true, show 8 * (t / 8) + t % 8 = t by omega]
    rw [← hx i, ← hx i', this]
  · by_cases q : t < 8
    · have e4 : mk &&& 255 = mk' &&& 255 := e 4 (by decide)
      have hx : ∀ x : Int32, bt (x &&& 255) t = bt x t := fun x => by rw [b_and, b_255, decide_eq_true q, Bool.and_true]
      rw [← hx mk, ← hx mk', e4]
    · by_cases q3 : t < 16
      · have e5 : mk >>> ((8 : Int32) &&& 31) = mk' >>> ((8 : Int32) &&& 31) := e 5 (by decide)
        have q2 := congrArg (fun x => bt x (t - 8)) e5
        have r1 := b_sshr 8 (by omega) mk (i := t - 8) (by omega)
        have r2 := b_sshr 8 (by omega) mk' (i := t - 8) (by omega)
        rw [if_pos (show 8 + (t - 8) < 32 by omega), show 8 + (t - 8) = t by omega] at r1 r2
        exact r1.symm.trans (q2.trans r2)
      · rw [h.mm t (by omega), h'.mm t (by omega)]
end Bits
/-- the meters of the class are the model's -/
def RK (f : Nat → Option Nat) (α : Nat → Int64) (S : MS) : Prop := ∀ k, k < 12 → (f k = none ∧ S.a 10 k = 0) ∨ ∃ p i mk v d, f k = some p ∧ ¬ S.a 10 k = 0 ∧ α p = adr i mk v d ∧ rng mk v d ∧ ∀ b, b < 8 → S.a 12 (8 * k + b) = f_byte b i mk v d
section Rel
variable {f : Nat → Option Nat} {α : Nat → Int64} {S S' : MS} {k ad i mk v d : Int32}
theorem RK.sm (h : RK f α S) (g : SM S S') : RK f α S' := fun k hk => by
  rcases h k hk with ⟨h1, h2⟩ | ⟨p, i, mk, v, d, h1, h2, h3, h4, h5⟩
  · exact Or.inl ⟨h1, by rw [g.1]; exact h2⟩
  · exact Or.inr ⟨p, i, mk, v, d, h1, by rw [g.1]; exact h2, h3, h4, fun b hb => by rw [g.2]; exact h5 b hb⟩
theorem g_sb_iff {m n : Nat} : g_sb S m i mk v d n = true ↔ ∀ b, b < n → S.a 12 (8 * m + b) = f_byte b i mk v d := by
  unfold g_sb
  rw [List.all_eq_true]
  exact ⟨fun h b hb => of_decide_eq_true (h b (List.mem_range.mpr hb)), fun h b hb => decide_eq_true (h b (List.mem_range.mp hb))⟩
theorem RK.othr (h : RK f α S) (g : rng mk v d) : oth f α k (adr i mk v d) ↔ ¬ g_free S k i mk v d 12 = true := by
  constructor
  · intro ⟨j, m, h1, h2, h3, h4⟩ q
    unfold g_free at q
    rw [List.all_eq_true] at q
    refine of_decide_eq_true (q j (List.mem_range.mpr h1)) ?_
    rcases h j h1 with ⟨e1, -⟩ | ⟨p, i', mk', v', d', e1, e2, e3, e4, e5⟩
    · rw [h3] at e1; exact nomatch e1
    · obtain rfl : m = p := by rw [h3] at e1; exact Option.some.inj e1
      obtain ⟨rfl, rfl, rfl, rfl⟩ := adr_inj e4 g (e3.symm.trans h4)
      exact ⟨⟨e2, h2⟩, g_sb_iff.mpr e5⟩
  · intro q
    refine Classical.byContradiction fun no => q ?_
    unfold g_free
    rw [List.all_eq_true]
    intro j hj
    refine decide_eq_true (fun gs => no ?_)
    obtain ⟨⟨s1, s2⟩, s3⟩ := gs
    have hj2 := List.mem_range.mp hj
    rcases h j hj2 with ⟨-, e1⟩ | ⟨p, i', mk', v', d', e1, e2, e3, e4, e5⟩
    · exact absurd e1 s1
    · have s4 := g_sb_iff.mp s3
      obtain ⟨rfl, rfl, rfl, rfl⟩ := byte_inj e4 g (fun b hb => (e5 b hb).symm.trans (s4 b hb))
      exact ⟨j, p, hj2, s2, e1, e3⟩
theorem k_rng (g : k_good ad i mk v d) : rng mk v d := ⟨mk_rng g.2.2.1.1 g.2.2.1.2, g.2.2.2⟩
theorem RK.good (h : RK f α S) : g_good S k ad i mk v d ↔ k_good ad i mk v d ∧ ¬ oth f α k (adr i mk v d) := by
  constructor
  · intro g
    have kg : k_good ad i mk v d := ⟨⟨g.1.1.1, g.1.2⟩, g.1.1.2.2.1, g.1.1.2.2.2.1, g.1.1.2.2.2.2⟩
    exact ⟨kg, fun o => (h.othr (k_rng kg)).mp o g.2⟩
  · intro ⟨g, o⟩
    exact ⟨⟨⟨g.1.1, mk_rng g.2.2.1.1 g.2.2.1.2, g.2.1, g.2.2.1, g.2.2.2⟩, g.1.2⟩, Classical.byContradiction fun q => o ((h.othr (k_rng g)).mpr q)⟩
theorem RK.meter (h : RK f α S) {j p : Nat} (g : k_good ad i mk v d) (old : ∀ q m, f q = some m → m ≠ p) : RK (va_up f j (some p)) (va_up α p (adr i mk v d)) (f_meter S j ad i mk v d) := fun q hq => by
  by_cases e : q = j
  · subst e
    refine Or.inr ⟨p, i, mk, v, d, va_up_self .., ?_, va_up_self .., k_rng g, fun b hb => ?_⟩
    · rw [meter_10, if_pos rfl]; decide
    · rw [meter_12, if_pos (by omega), show 8 * q + b - 8 * q = b by omega]
  · rcases h q hq with ⟨h1, h2⟩ | ⟨p', i', mk', v', d', h1, h2, h3, h4, h5⟩
    · exact Or.inl ⟨by rw [va_up_ne _ _ e]; exact h1, by rw [meter_10, if_neg e]; exact h2⟩
    · refine Or.inr ⟨p', i', mk', v', d', by rw [va_up_ne _ _ e]; exact h1, by rw [meter_10, if_neg e]; exact h2, by rw [va_up_ne _ _ (old q p' h1)]; exact h3, h4, fun b hb => ?_⟩
      rw [meter_12, if_neg (by omega)]
      exact h5 b hb
theorem RK.remove (h : RK f α S) (j : Nat) : RK (va_up f j none) α ((S.si 0 0).sa 10 j 0) := fun q hq => by
  have a10 : ∀ q, ((S.si 0 0).sa 10 j 0).a 10 q = if q = j then 0 else S.a 10 q := fun q => by
    rw [MS.sa_a]
    by_cases e : q = j
    · simp [e]
    · simp [e]
      rfl
  have a12 : ∀ q, ((S.si 0 0).sa 10 j 0).a 12 q = S.a 12 q := fun q => by rw [sa_ne (by decide)]; rfl
  by_cases e : q = j
  · subst e
    exact Or.inl ⟨va_up_self .., by rw [a10, if_pos rfl]⟩
  · rcases h q hq with ⟨h1, h2⟩ | ⟨p', i', mk', v', d', h1, h2, h3, h4, h5⟩
    · exact Or.inl ⟨by rw [va_up_ne _ _ e]; exact h1, by rw [a10, if_neg e]; exact h2⟩
    · exact Or.inr ⟨p', i', mk', v', d', by rw [va_up_ne _ _ e]; exact h1, by rw [a10, if_neg e]; exact h2, h3, h4, fun b hb => by rw [a12]; exact h5 b hb⟩
end Rel
end
section
/-! Meter: what it tells, told whole. -/
def lstF (g : Nat → Int32) (l : List Int32) : Nat → Int32 := fun i => if i < l.length then l.getD i 0 else g i
theorem lstF_add (g : Nat → Int32) (l : List Int32) (x : Int32) : upd (lstF g l) l.length x = lstF g (l ++ [x]) := by
  funext j
  unfold lstF
  simp only [upd, List.length_append, List.length_singleton, List.getD_eq_getElem?_getD]
  by_cases q : j = l.length
  · subst q; simp
  · by_cases q2 : j < l.length
    · simp [q, q2, List.getElem?_append_left, Nat.lt_succ_of_lt q2]
    · simp [q, q2, show ¬ j < l.length + 1 by omega]
theorem lstF_nil (g : Nat → Int32) : lstF g [] = g := by funext i; simp [lstF]
theorem lstF_at {g : Nat → Int32} {l : List Int32} {i : Nat} (h : i < l.length) : lstF g l i = l.getD i 0 := if_pos h
/-- the row an (bytes aa, before: g) holds the list -/
abbrev rl (c : Nat → ClassId) (h : PH) (an aa : Nat) (g : Nat → Int32) (l : List Int32) : PH := rowh c h an aa (lstF g l) l.length
theorem rl_RW {c : Nat → ClassId} {h : PH} {an aa : Nat} {g : Nat → Int32} {l : List Int32} (n0 : an ≠ aa) (hl : l.length ≤ 300) : RW c (rl c h an aa g l) an aa (lstF g l) l.length := RW.of n0 hl
theorem rl_add {c : Nat → ClassId} {h : PH} {an aa : Nat} {g : Nat → Int32} {l : List Int32} (n0 : an ≠ aa) (hl : l.length < 300) (x : Int32) : rowh c (rl c h an aa g l) an aa (rAdd (lstF g l) l.length x) (rNum l.length) = rl c h an aa g (l ++ [x &&& 255]) := by
  rw [rw_rw n0, show rNum l.length = l.length + 1 from if_pos hl, show rAdd (lstF g l) l.length x = lstF g (l ++ [x &&& 255]) from (if_pos hl).trans (lstF_add ..)]
  show _ = rowh c h an aa (lstF g (l ++ [x &&& 255])) (l ++ [x &&& 255]).length
  rw [List.length_append]
  rfl
def addrL (ad : Int64) (n : Nat) : List Int32 := (List.range n).map (fun k => by8 ad k &&& 255)
theorem addrL_len (ad : Int64) (n : Nat) : (addrL ad n).length = n := by simp [addrL]
theorem addrL_s (ad : Int64) (n : Nat) : addrL ad (n + 1) = addrL ad n ++ [by8 ad n &&& 255] := by simp [addrL, List.range_succ]
theorem adF_l (ad : Int64) (g : Nat → Int32) (l : List Int32) (hl : l.length ≤ 200) : ∀ k, k ≤ 8 → adF ad (lstF g l) l.length k = (lstF g (l ++ addrL ad k), (l ++ addrL ad k).length)
  | 0, _ => by simp [adF, addrL]
  | k + 1, hk => by
    have hL : (l ++ addrL ad k).length < 300 := by rw [List.length_append, addrL_len]; omega
    rw [adF, adF_l ad g l hl k (by omega), addrL_s, ← List.append_assoc]
    rw [show rNum (l ++ addrL ad k).length = (l ++ addrL ad k).length + 1 from if_pos hL, show rAdd (lstF g (l ++ addrL ad k)) (l ++ addrL ad k).length (by8 ad k) = _ from (if_pos hL).trans (lstF_add ..)]
    rw [List.length_append (as := l ++ addrL ad k)]
    rfl
def pgL (P : Nat → Int32) (n : Nat) : List Int32 := (List.range n).map (fun k => P k &&& 255)
theorem pgL_len (P : Nat → Int32) (n : Nat) : (pgL P n).length = n := by simp [pgL]
theorem pgL_s (P : Nat → Int32) (n : Nat) : pgL P (n + 1) = pgL P n ++ [P n &&& 255] := by simp [pgL, List.range_succ]
def lenC (N : Nat) (mo : Bool) : Int32 := 15 + nI N + if mo then 1 else 0
def hdC (ad : Int64) (pr ac x : Int32) : List Int32 := [] ++ [104 &&& 255] ++ [x &&& 255] ++ [x &&& 255] ++ [104 &&& 255] ++ [8 &&& 255] ++ [pr &&& 255] ++ [114 &&& 255] ++ addrL ad 8 ++ [ac &&& 255] ++ pgL (fun _ => 0) 3
theorem hdC_len (ad : Int64) (pr ac x : Int32) : (hdC ad pr ac x).length = 19 := by simp [hdC, addrL_len, pgL_len]
def bodyC (ad : Int64) (pr ac : Int32) (P : Nat → Int32) (N : Nat) (mo : Bool) : List Int32 := hdC ad pr ac (lenC N mo) ++ pgL P N ++ if mo then [31 &&& 255] else []
def finC (g : Nat → Int32) (l : List Int32) : List Int32 := l ++ [(sumR (lstF g l) 4 (l.length - 4) &&& 255) &&& 255] ++ [22 &&& 255]
section Met
variable {w : Wd} {c : Nat → ClassId} {h : PH} {m an aa pg sz t n j N : Nat} {ad : Int64} {pr se bt ac : Int32} {g s P : Nat → Int32} {gp : Nat → Option Nat} {l : List Int32}
section Rows
variable {z : Fx} {cc : ByteArray} {kc ks pc : Nat} {L : List (Option Value)} {st : List Value} {lvl : Nat}
theorem k_addX (C : Cx z RX2 cc gw) (Y : Cty z c) (hW : Wc w c) (E : Cs z w lvl (40 * lvl)) (hl : 0 < lvl) (n0 : an ≠ aa) (hn : l.length < 300) (x : Int32) (d : decode cc pc = .ok (.invokevirtual 80, 3)) (hcat : (st.map fun v => v.category).sum ≤ 8)
    (k : X z kc ks (EQ (rl c h an aa g (l ++ [x &&& 255]))) (pc + 3) L st) : X z kc ks (EQ (rl c h an aa g l)) pc L (.int x :: .ref an :: st) := by
  have R : RW c (rl c h an aa g l) an aa (lstF g l) l.length := rl_RW n0 (by omega)
  have ra := r_add hW R x
  rw [rl_add n0 hn x] at ra
  exact u_callV (st := st) C Y hW E ra md_X5_add wi_X5_add ws_X5_add wm_X2_80 d rfl hl (by decide) R.2.1 rfl rfl hcat k
end Rows
theorem t_writeX (hX : Wx w c) (B : h m = some (mF ad pr se pg sz (nI j) bt ac)) (hj : j < 3) (Bs : h sz = some (.inl (c 0, 3, .inl s))) (hN : s j = nI N) (N60 : N ≤ 60) (Bp : h pg = some (.inl (c 5, 3, .inr (.inr (.inr (.inr gp)))))) (gt : gp j = some t) (Bt : h t = some (.inl (c 0, 60, .inl P))) (R : RW c h an aa g n)
    (am : m ≠ an ∧ m ≠ aa) (az : sz ≠ an ∧ sz ≠ aa) (ap : pg ≠ an ∧ pg ≠ aa) (at_ : t ≠ an ∧ t ≠ aa) :
    TC w yX2_writeAnswer cX2_writeAnswer 6 none 3 [.ref m, .ref an] h none (rl c h an aa g (finC g (bodyC ad pr ac P N (decide (nI j + 1 < mPages s))))) := by
  have hW := hX.1
  have n0 := R.1
  refine TC.intro hW rfl (by decide +kernel) (Nat.le_of_ble_eq_true rfl) (fun z C Y E hn => ?_)
  obtain ⟨t5, ht5⟩ : ∃ t : Nat, z.tys[t]? = some (c 5, .array .int) := by rw [E.2.2.2.1]; exact hX.2.2.2.2.2
  have Br : ∀ l, rl c h an aa g l m = some (mF ad pr se pg sz (nI j) bt ac) := fun l => (rw_ne am.1 am.2).trans B
  have Bsr : ∀ l, rl c h an aa g l sz = some (.inl (c 0, 3, .inl s)) := fun l => (rw_ne az.1 az.2).trans Bs
  have Bpr : ∀ l, rl c h an aa g l pg = some (.inl (c 5, 3, .inr (.inr (.inr (.inr gp))))) := fun l => (rw_ne ap.1 ap.2).trans Bp
  have Btr : ∀ l, rl c h an aa g l t = some (.inl (c 0, 60, .inl P)) := fun l => (rw_ne at_.1 at_.2).trans Bt
  generalize hmo : decide (nI j + 1 < mPages s) = mo at E
  have T39 : ∀ x3 : Int32, (x3 = 0 ↔ mo = false) → X z 0 0 (EQ h) 39 [some (.ref m), some (.ref an), some (.int (nI j)), none, none, none] [.int x3] := fun x3 hx3 => by
    refine o_istore_nE (L' := [some _, some _, some _, some _, none, none]) C dX2_writeAnswer_39 (by rw [hn]; decide) rfl ?_
    refine x_bipush (v := 15) C dX2_writeAnswer_40 (by decide) ?_
    refine x_aload_n C dX2_writeAnswer_42 rfl ?_
    refine e_get C Y kd_X2 4 (by decide) wf_X2_20 dX2_writeAnswer_43 B rfl ?_
    refine x_iload_n C dX2_writeAnswer_46 rfl ?_
    refine e_ild C Y dX2_writeAnswer_47 Bs (vp_in_nI hj (by decide)) ?_
    refine x_iadd C dX2_writeAnswer_48 ?_
    refine x_iload_n C dX2_writeAnswer_49 rfl ?_
    rw [nI_clamp (by omega), hN]
    have T58 : ∀ x : Int32, (x = if mo then 1 else 0) → X z 0 0 (EQ h) 58 [some (.ref m), some (.ref an), some (.int (nI j)), some (.int x3), none, none] [.int x, .int (15 + nI N)] := fun x hx => by
      refine x_iadd C dX2_writeAnswer_58 ?_
      rw [hx, show (15 : Int32) + nI N + (if mo then 1 else 0) = lenC N mo from rfl]
      refine o_istoreE (L' := [some _, some _, some _, some _, some _, none]) C dX2_writeAnswer_59 (by rw [hn]; decide) rfl ?_
      have rc := r_cutTo hW R 0
      have e0 : rCut n 0 = 0 := by
        unfold rCut
        split
        · rfl
        · rename_i q
          exact Decidable.byContradiction fun q2 => q ⟨Int32.le_refl _, nI_lt (a := 0) (show 0 < n by omega) (by have := R.2.2.2; omega)⟩
      rw [e0, show rowh c h an aa g 0 = rl c h an aa g [] from by show _ = rowh c h an aa (lstF g []) 0; rw [lstF_nil]] at rc
      refine x_aload_n C dX2_writeAnswer_61 rfl ?_
      refine x_iconst (v := 0) C dX2_writeAnswer_62 (by decide) ?_
      refine u_callV (st := []) C Y hW E.cs rc md_X5_cutTo wi_X5_cutTo ws_X5_cutTo wm_X2_76 dX2_writeAnswer_63 rfl (by decide) (by decide) R.2.1 rfl rfl (by decide) ?_
      refine x_aload_n C dX2_writeAnswer_66 rfl ?_
      refine x_bipush (v := 104) C dX2_writeAnswer_67 (by decide) ?_
      refine k_addX (st := []) C Y hW E.cs (by decide) n0 (by simp) _ dX2_writeAnswer_69 (by decide) ?_
      refine x_aload_n C dX2_writeAnswer_72 rfl ?_
      refine x_iload C dX2_writeAnswer_73 rfl ?_
      refine k_addX (st := []) C Y hW E.cs (by decide) n0 (by simp) _ dX2_writeAnswer_75 (by decide) ?_
      refine x_aload_n C dX2_writeAnswer_78 rfl ?_
      refine x_iload C dX2_writeAnswer_79 rfl ?_
      refine k_addX (st := []) C Y hW E.cs (by decide) n0 (by simp) _ dX2_writeAnswer_81 (by decide) ?_
      refine x_aload_n C dX2_writeAnswer_84 rfl ?_
      refine x_bipush (v := 104) C dX2_writeAnswer_85 (by decide) ?_
      refine k_addX (st := []) C Y hW E.cs (by decide) n0 (by simp) _ dX2_writeAnswer_87 (by decide) ?_
      refine x_aload_n C dX2_writeAnswer_90 rfl ?_
      refine x_bipush (v := 8) C dX2_writeAnswer_91 (by decide) ?_
      refine k_addX (st := []) C Y hW E.cs (by decide) n0 (by simp) _ dX2_writeAnswer_93 (by decide) ?_
      refine x_aload_n C dX2_writeAnswer_96 rfl ?_
      refine x_aload_n C dX2_writeAnswer_97 rfl ?_
      refine e_get C Y kd_X2 1 (by decide) wf_X2_34 dX2_writeAnswer_98 (Br _) rfl ?_
      refine k_addX (st := []) C Y hW E.cs (by decide) n0 (by simp) _ dX2_writeAnswer_101 (by decide) ?_
      refine x_aload_n C dX2_writeAnswer_104 rfl ?_
      refine x_bipush (v := 114) C dX2_writeAnswer_105 (by decide) ?_
      refine k_addX (st := []) C Y hW E.cs (by decide) n0 (by simp) _ dX2_writeAnswer_107 (by decide) ?_
      have e7 : ([] ++ [104 &&& 255] ++ [lenC N mo &&& 255] ++ [lenC N mo &&& 255] ++ [104 &&& 255] ++ [8 &&& 255] ++ [pr &&& 255] ++ [114 &&& 255] : List Int32).length = 7 := rfl
      generalize hl7 : ([] ++ [104 &&& 255] ++ [lenC N mo &&& 255] ++ [lenC N mo &&& 255] ++ [104 &&& 255] ++ [8 &&& 255] ++ [pr &&& 255] ++ [114 &&& 255] : List Int32) = l7 at e7 ⊢
      have R7 : RW c (rl c h an aa g l7) an aa (lstF g l7) l7.length := rl_RW n0 (by omega)
      have ra := r_addAddress hW R7 ad
      rw [adF_l ad g l7 (by omega) 8 (Nat.le_refl _), rw_rw n0] at ra
      refine x_aload_n C dX2_writeAnswer_110 rfl ?_
      refine x_aload_n C dX2_writeAnswer_111 rfl ?_
      refine e_get C Y kd_X2 0 (by decide) wf_X2_37 dX2_writeAnswer_112 (Br _) rfl ?_
      refine u_callV (st := []) C Y hW E.cs ra md_X5_addAddress wi_X5_addAddress ws_X5_addAddress wm_X2_83 dX2_writeAnswer_115 rfl (by decide) (by decide) R7.2.1 rfl rfl (by decide) ?_
      have e15 : (l7 ++ addrL ad 8).length = 15 := by rw [List.length_append, e7, addrL_len]
      refine x_aload_n C dX2_writeAnswer_118 rfl ?_
      refine x_aload_n C dX2_writeAnswer_119 rfl ?_
      refine e_get C Y kd_X2 7 (by decide) wf_X2_31 dX2_writeAnswer_120 (Br (l7 ++ addrL ad 8)) rfl ?_
      refine k_addX (l := l7 ++ addrL ad 8) (st := []) C Y hW E.cs (by decide) n0 (by omega) _ dX2_writeAnswer_123 (by decide) ?_
      have e16 : (l7 ++ addrL ad 8 ++ [ac &&& 255]).length = 16 := by rw [List.length_append, e15]; rfl
      have T196 : ∀ (l : List Int32) (l5 : Option Value), 4 ≤ l.length → l.length ≤ 80 → l = bodyC ad pr ac P N mo → X z 0 0 (EQ (rl c h an aa g l)) 196 [some (.ref m), some (.ref an), some (.int (nI j)), some (.int x3), some (.int (lenC N mo)), l5] [] := fun l l5 hl4 hl el => by
        have Rl : RW c (rl c h an aa g l) an aa (lstF g l) l.length := rl_RW n0 (by omega)
        have rs := r_sum hW Rl 4 l.length (by decide) (by omega)
        rw [Nat.min_self] at rs
        refine x_aload_n C dX2_writeAnswer_196 rfl ?_
        refine x_aload_n C dX2_writeAnswer_197 rfl ?_
        refine x_iconst (v := 4) C dX2_writeAnswer_198 (by decide) ?_
        refine x_aload_n C dX2_writeAnswer_199 rfl ?_
        refine u_callV (st := [.int 4, .ref an, .ref an]) C Y hW E.cs (r_size hW Rl) md_X5_size wi_X5_size ws_X5_size wm_X2_41 dX2_writeAnswer_200 rfl (by decide) (by decide) Rl.2.1 rfl rfl (by simp [Value.category]) ?_
        refine u_callV (st := [.ref an]) C Y hW E.cs rs md_X5_sum wi_X5_sum ws_X5_sum wm_X2_87 dX2_writeAnswer_203 rfl (by decide) (by decide) Rl.2.1 rfl rfl (by simp [Value.category]) ?_
        refine k_addX (st := []) C Y hW E.cs (by decide) n0 (by omega) _ dX2_writeAnswer_206 (by decide) ?_
        refine x_aload_n C dX2_writeAnswer_209 rfl ?_
        refine x_bipush (v := 22) C dX2_writeAnswer_210 (by decide) ?_
        refine k_addX (st := []) C Y hW E.cs (by decide) n0 (by rw [List.length_append, List.length_singleton]; omega) _ dX2_writeAnswer_212 (by decide) ?_
        exact e_vret C E dX2_writeAnswer_215 rfl (by rw [← el]; rfl)
      have T186 : ∀ (l : List Int32) (l5 : Option Value), l = hdC ad pr ac (lenC N mo) ++ pgL P N → X z 0 0 (EQ (rl c h an aa g l)) 186 [some (.ref m), some (.ref an), some (.int (nI j)), some (.int x3), some (.int (lenC N mo)), l5] [] := fun l l5 el => by
        have hl : l.length = 19 + N := by rw [el, List.length_append, hdC_len, pgL_len]
        refine x_iload_n C dX2_writeAnswer_186 rfl ?_
        refine x_if_eq (tgt := 196) C dX2_writeAnswer_187 (by decide) (fun q => T196 l l5 (by omega) (by omega) (by rw [el, bodyC, hx3.mp q]; simp)) (fun q => ?_)
        have hmt : mo = true := by cases mo with
          | true => rfl
          | false => exact absurd (hx3.mpr rfl) q
        refine x_aload_n C dX2_writeAnswer_190 rfl ?_
        refine x_bipush (v := 31) C dX2_writeAnswer_191 (by decide) ?_
        refine k_addX (st := []) C Y hW E.cs (by decide) n0 (by omega) _ dX2_writeAnswer_193 (by decide) ?_
        exact T196 _ l5 (by rw [List.length_append, List.length_singleton]; omega) (by rw [List.length_append, List.length_singleton]; omega) (by rw [el, bodyC, hmt]; simp)
      have LP : ∀ (r i : Nat) (l : List Int32), i + r = N → l = hdC ad pr ac (lenC N mo) ++ pgL P i → X z 0 0 (EQ (rl c h an aa g l)) 149 [some (.ref m), some (.ref an), some (.int (nI j)), some (.int x3), some (.int (lenC N mo)), some (.int (nI i))] [] := by
        intro r
        induction r with
        | zero =>
          intro i l hi el
          obtain rfl : i = N := by omega
          refine x_iload C dX2_writeAnswer_149 rfl ?_
          refine x_aload_n C dX2_writeAnswer_151 rfl ?_
          refine e_get C Y kd_X2 4 (by decide) wf_X2_20 dX2_writeAnswer_152 (Br _) rfl ?_
          refine x_iload_n C dX2_writeAnswer_155 rfl ?_
          refine e_ild C Y dX2_writeAnswer_156 (Bsr _) (vp_in_nI hj (by decide)) ?_
          rw [nI_clamp (by omega), hN]
          exact x_icmp_ge (tgt := 186) C dX2_writeAnswer_157 (by decide) (fun _ => T186 l _ el) (fun q => absurd (Int32.le_refl _) q)
        | succ r ih =>
          intro i l hi el
          have hl : l.length = 19 + i := by rw [el, List.length_append, hdC_len, pgL_len]
          refine x_iload C dX2_writeAnswer_149 rfl ?_
          refine x_aload_n C dX2_writeAnswer_151 rfl ?_
          refine e_get C Y kd_X2 4 (by decide) wf_X2_20 dX2_writeAnswer_152 (Br _) rfl ?_
          refine x_iload_n C dX2_writeAnswer_155 rfl ?_
          refine e_ild C Y dX2_writeAnswer_156 (Bsr _) (vp_in_nI hj (by decide)) ?_
          rw [nI_clamp (by omega), hN]
          refine x_icmp_ge (tgt := 186) C dX2_writeAnswer_157 (by decide) (fun q => absurd q (Int32.not_le.mpr (nI_lt (show i < N by omega) (by omega)))) (fun _ => ?_)
          refine x_iload C dX2_writeAnswer_160 rfl ?_
          refine x_bipush (v := 60) C dX2_writeAnswer_162 (by decide) ?_
          refine x_icmp_ge (tgt := 186) C dX2_writeAnswer_164 (by decide) (fun q => absurd q (Int32.not_le.mpr (nI_lt (show i < 60 by omega) (by decide)))) (fun _ => ?_)
          refine x_aload_n C dX2_writeAnswer_167 rfl ?_
          refine x_aload_n C dX2_writeAnswer_168 rfl ?_
          refine e_get C Y kd_X2 3 (by decide) wf_X2_17 dX2_writeAnswer_169 (Br _) rfl ?_
          refine x_iload_n C dX2_writeAnswer_172 rfl ?_
          refine e_ald2 C ht5 dX2_writeAnswer_173 (Bpr _) rfl hj (by decide) gt ?_
          refine x_iload C dX2_writeAnswer_174 rfl ?_
          refine e_ild C Y dX2_writeAnswer_176 (Btr _) (vp_in_nI (show i < 60 by omega) (by decide)) ?_
          rw [nI_clamp (by omega)]
          refine k_addX (st := []) C Y hW E.cs (by decide) n0 (by omega) _ dX2_writeAnswer_177 (by decide) ?_
          refine o_iincE (v := nI (i + 1)) (L' := [some _, some _, some _, some _, some _, some _]) C dX2_writeAnswer_180 rfl (nI_1 i) (by rw [hn]; decide) rfl ?_
          refine x_goto (tgt := 149) C dX2_writeAnswer_183 (by decide) ?_
          exact ih (i + 1) _ (by omega) (by rw [el, pgL_s, List.append_assoc])
      have LZ3 : ∀ (r i : Nat) (l : List Int32), i + r = 3 → l = l7 ++ addrL ad 8 ++ [ac &&& 255] ++ pgL (fun _ => 0) i → X z 0 0 (EQ (rl c h an aa g l)) 129 [some (.ref m), some (.ref an), some (.int (nI j)), some (.int x3), some (.int (lenC N mo)), some (.int (nI i))] [] := by
        intro r
        induction r with
        | zero =>
          intro i l hi el
          obtain rfl : i = 3 := by omega
          refine x_iload C dX2_writeAnswer_129 rfl ?_
          refine x_iconst (v := 3) C dX2_writeAnswer_131 (by decide) ?_
          refine x_icmp_ge (tgt := 146) C dX2_writeAnswer_132 (by decide) (fun _ => ?_) (fun q => absurd (Int32.le_refl _) q)
          refine x_iconst (v := 0) C dX2_writeAnswer_146 (by decide) ?_
          refine o_istoreE (L' := [some _, some _, some _, some _, some _, some _]) C dX2_writeAnswer_147 (by rw [hn]; decide) rfl ?_
          exact LP N 0 l (by omega) (by rw [el, ← hl7]; simp [hdC, pgL])
        | succ r ih =>
          intro i l hi el
          have hl : l.length = 16 + i := by rw [el, List.length_append, e16, pgL_len]
          refine x_iload C dX2_writeAnswer_129 rfl ?_
          refine x_iconst (v := 3) C dX2_writeAnswer_131 (by decide) ?_
          refine x_icmp_ge (tgt := 146) C dX2_writeAnswer_132 (by decide) (fun q => absurd q (Int32.not_le.mpr (nI_lt (show i < 3 by omega) (by decide)))) (fun _ => ?_)
          refine x_aload_n C dX2_writeAnswer_135 rfl ?_
          refine x_iconst (v := 0) C dX2_writeAnswer_136 (by decide) ?_
          refine k_addX (st := []) C Y hW E.cs (by decide) n0 (by omega) _ dX2_writeAnswer_137 (by decide) ?_
          refine o_iincE (v := nI (i + 1)) (L' := [some _, some _, some _, some _, some _, some _]) C dX2_writeAnswer_140 rfl (nI_1 i) (by rw [hn]; decide) rfl ?_
          refine x_goto (tgt := 129) C dX2_writeAnswer_143 (by decide) ?_
          exact ih (i + 1) _ (by omega) (by rw [el, pgL_s, List.append_assoc])
      refine x_iconst (v := 0) C dX2_writeAnswer_126 (by decide) ?_
      refine o_istoreE (L' := [some _, some _, some _, some _, some _, some _]) C dX2_writeAnswer_127 (by rw [hn]; decide) rfl ?_
      exact LZ3 3 0 _ rfl (by simp [pgL])
    refine x_if_eq (tgt := 57) C dX2_writeAnswer_50 (by decide) (fun q => ?_) (fun q => ?_)
    · exact x_iconst (v := 0) C dX2_writeAnswer_57 (by decide) (T58 _ (by rw [hx3.mp q]; rfl))
    · refine x_iconst (v := 1) C dX2_writeAnswer_53 (by decide) ?_
      refine x_goto (tgt := 58) C dX2_writeAnswer_54 (by decide) (T58 _ ?_)
      cases mo with
      | true => rfl
      | false => exact absurd (hx3.mpr rfl) q
  have T23 : X z 0 0 (EQ h) 23 [some (.ref m), some (.ref an), none, none, none, none] [.int (nI j)] := by
    refine o_istore_nE (L' := [some _, some _, some _, none, none, none]) C dX2_writeAnswer_23 (by rw [hn]; decide) rfl ?_
    refine x_iload_n C dX2_writeAnswer_24 rfl ?_
    refine x_iconst (v := 1) C dX2_writeAnswer_25 (by decide) ?_
    refine x_iadd C dX2_writeAnswer_26 ?_
    refine x_aload_n C dX2_writeAnswer_27 rfl ?_
    refine u_callV (st := [_]) C Y hW E.cs (t_pageNumber hW B Bs) md_X2_pageNumber wi_X2_pageNumber ws_X2_pageNumber wm_X2_57 dX2_writeAnswer_28 rfl (by decide) (by decide) B rfl rfl (by simp [Value.category]) ?_
    refine x_icmp_ge (tgt := 38) C dX2_writeAnswer_31 (by decide) (fun q => ?_) (fun q => ?_)
    · refine x_iconst (v := 0) C dX2_writeAnswer_38 (by decide) (T39 _ ⟨fun _ => ?_, fun _ => rfl⟩)
      rw [← hmo]
      exact decide_eq_false (Int32.not_lt.mpr q)
    · refine x_iconst (v := 1) C dX2_writeAnswer_34 (by decide) ?_
      refine x_goto (tgt := 39) C dX2_writeAnswer_35 (by decide) (T39 _ ⟨fun q1 => absurd q1 (by decide), fun q1 => ?_⟩)
      rw [← hmo] at q1
      exact absurd (Int32.not_le.mp q) (of_decide_eq_false q1)
  refine x_aload_n C dX2_writeAnswer_0 rfl ?_
  refine e_get C Y kd_X2 5 (by decide) wf_X2_24 dX2_writeAnswer_1 B rfl ?_
  refine x_if_lt (tgt := 22) C dX2_writeAnswer_4 (by decide) (fun q => absurd q (nI_pos (by omega))) (fun q1 => ?_)
  refine x_aload_n C dX2_writeAnswer_7 rfl ?_
  refine e_get C Y kd_X2 5 (by decide) wf_X2_24 dX2_writeAnswer_8 B rfl ?_
  refine x_iconst (v := 3) C dX2_writeAnswer_11 (by decide) ?_
  refine x_icmp_ge (tgt := 22) C dX2_writeAnswer_12 (by decide) (fun q => absurd q (Int32.not_le.mpr (nI_lt hj (by decide)))) (fun q2 => ?_)
  refine x_aload_n C dX2_writeAnswer_15 rfl ?_
  refine e_get C Y kd_X2 5 (by decide) wf_X2_24 dX2_writeAnswer_16 B rfl ?_
  exact x_goto (tgt := 23) C dX2_writeAnswer_19 (by decide) T23
end Met
end
section
/-! Meter: asked, and its page written, told whole. -/
section Met
variable {w : Wd} {c : Nat → ClassId} {h : PH} {m an aa pg sz t n j N : Nat} {ad : Int64} {pr se pt bt ac nb : Int32} {g s P : Nat → Int32} {gp : Nat → Option Nat}
theorem t_askX (hX : Wx w c) (B : h m = some (mF ad pr se pg sz pt bt ac)) (hj : j < 3) (Bs : h sz = some (.inl (c 0, 3, .inl s))) (hp : (if mPg0 pt bt nb < mPages s then mPg0 pt bt nb else 0) = nI j) (hN : s j = nI N) (N60 : N ≤ 60) (Bp : h pg = some (.inl (c 5, 3, .inr (.inr (.inr (.inr gp)))))) (gt : gp j = some t) (Bt : h t = some (.inl (c 0, 60, .inl P))) (R : RW c h an aa g n)
    (am : m ≠ an ∧ m ≠ aa) (az : sz ≠ an ∧ sz ≠ aa) (ap : pg ≠ an ∧ pg ≠ aa) (at_ : t ≠ an ∧ t ≠ aa) (d1 : sz ≠ m) (d2 : pg ≠ m) (d3 : t ≠ m) (k a : Int32) (hk : (k = 91 ∧ nb = 0) ∨ (k = 123 ∧ nb = 1)) :
    TC w yX2_hearsShort cX2_hearsShort 5 (some .boolean) 4 [.ref m, .int k, .int a, .ref an] h (some (.int 1)) (hs (rl c (hs h m (mF ad pr se pg sz (nI j) nb ac)) an aa g (finC g (bodyC ad pr ac P N (decide (nI j + 1 < mPages s))))) m (mF ad pr se pg sz (nI j) nb ((ac + 1) &&& 255))) := by
  have hW := hX.1
  refine TC.intro hW rfl (by decide +kernel) (Nat.le_of_ble_eq_true rfl) (fun z C Y E hn => ?_)
  have Q1 : RW c (hs h m (mF ad pr se pg sz (nI j) nb ac)) an aa g n := ⟨R.1, (hs_ne (Ne.symm am.1)).trans R.2.1, (hs_ne (Ne.symm am.2)).trans R.2.2.1, R.2.2.2⟩
  have tw := t_writeX hX (h := hs h m (mF ad pr se pg sz (nI j) nb ac)) (bt := nb) (hs_self ..) hj ((hs_ne d1).trans Bs) hN N60 ((hs_ne d2).trans Bp) gt ((hs_ne d3).trans Bt) Q1 am az ap at_
  generalize finC g (bodyC ad pr ac P N (decide (nI j + 1 < mPages s))) = FT at E tw
  have T51 : X z 0 0 (EQ h) 51 [some (.ref m), some (.int k), some (.int a), some (.ref an), none] [] := by
    refine x_iload_n C dX2_hearsShort_51 rfl ?_
    refine x_iconst (v := 5) C dX2_hearsShort_52 (by decide) ?_
    refine x_ishr C dX2_hearsShort_53 ?_
    refine x_iconst (v := 1) C dX2_hearsShort_54 (by decide) ?_
    refine x_iand C dX2_hearsShort_55 ?_
    have ek : k >>> ((5 : Int32) &&& 31) &&& 1 = nb := by rcases hk with ⟨rfl, rfl⟩ | ⟨rfl, rfl⟩ <;> decide
    rw [ek]
    refine o_istoreE (L' := [some _, some _, some _, some _, some _]) C dX2_hearsShort_56 (by rw [hn]; decide) rfl ?_
    refine x_aload_n C dX2_hearsShort_58 rfl ?_
    refine x_aload_n C dX2_hearsShort_59 rfl ?_
    refine x_iload C dX2_hearsShort_60 rfl ?_
    have tp := t_pageToTell hW B Bs nb
    rw [hp] at tp
    refine u_callV (st := [.ref m]) C Y hW E.cs tp md_X2_pageToTell wi_X2_pageToTell ws_X2_pageToTell wm_X2_66 dX2_hearsShort_62 rfl (by decide) (by decide) B rfl rfl (by simp [Value.category]) ?_
    refine e_put C Y kd_X2 5 (by decide) rfl wf_X2_24 dX2_hearsShort_65 B (Nat.le_of_ble_eq_true rfl) rfl rfl rfl ?_
    refine x_aload_n C dX2_hearsShort_68 rfl ?_
    refine x_iload C dX2_hearsShort_69 rfl ?_
    refine e_put C Y kd_X2 6 (by decide) rfl wf_X2_28 dX2_hearsShort_71 (hs_self ..) (Nat.le_of_ble_eq_true rfl) rfl rfl (hs_hs ..) ?_
    refine x_aload_n C dX2_hearsShort_74 rfl ?_
    refine x_aload_n C dX2_hearsShort_75 rfl ?_
    refine u_callV (st := []) C Y hW E.cs tw md_X2_writeAnswer wi_X2_writeAnswer ws_X2_writeAnswer wm_X2_69 dX2_hearsShort_76 rfl (by decide) (by decide) (hs_self ..) rfl rfl (by decide) ?_
    have B2 : rl c (hs h m (mF ad pr se pg sz (nI j) nb ac)) an aa g FT m = some (mF ad pr se pg sz (nI j) nb ac) := (rw_ne am.1 am.2).trans (hs_self ..)
    refine x_aload_n C dX2_hearsShort_79 rfl ?_
    refine x_aload_n C dX2_hearsShort_80 rfl ?_
    refine e_get C Y kd_X2 7 (by decide) wf_X2_31 dX2_hearsShort_81 B2 rfl ?_
    refine x_iconst (v := 1) C dX2_hearsShort_84 (by decide) ?_
    refine x_iadd C dX2_hearsShort_85 ?_
    refine x_sipush (v := 255) C dX2_hearsShort_86 (by decide) ?_
    refine x_iand C dX2_hearsShort_89 ?_
    refine e_put C Y kd_X2 7 (by decide) rfl wf_X2_31 dX2_hearsShort_90 B2 (Nat.le_of_ble_eq_true rfl) rfl rfl rfl ?_
    refine x_iconst (v := 1) C dX2_hearsShort_93 (by decide) ?_
    exact e_zret C E dX2_hearsShort_94 (by decide) rfl rfl
  refine x_iload_n C dX2_hearsShort_0 rfl ?_
  refine x_bipush (v := 64) C dX2_hearsShort_1 (by decide) ?_
  refine x_icmp_ne (tgt := 39) C dX2_hearsShort_3 (by decide) (fun _ => ?_) (fun q => by rcases hk with ⟨rfl, -⟩ | ⟨rfl, -⟩ <;> exact absurd q (by decide))
  refine x_iload_n C dX2_hearsShort_39 rfl ?_
  refine x_bipush (v := 91) C dX2_hearsShort_40 (by decide) ?_
  refine x_icmp_eq (tgt := 51) C dX2_hearsShort_42 (by decide) (fun _ => T51) (fun q => ?_)
  refine x_iload_n C dX2_hearsShort_45 rfl ?_
  refine x_bipush (v := 123) C dX2_hearsShort_46 (by decide) ?_
  exact x_icmp_ne (tgt := 95) C dX2_hearsShort_48 (by decide) (fun q2 => absurd (hk.resolve_left (fun q3 => q q3.1)).1 q2) (fun _ => T51)
def pcF (P fb : Nat → Int32) (i : Nat) : Nat → Int32 := fun b => if b < i then fb b else P b
theorem pcF_s (P fb : Nat → Int32) (i : Nat) : upd (pcF P fb i) i (fb i) = pcF P fb (i + 1) := by
  funext b
  unfold pcF
  simp only [upd]
  by_cases q : b = i
  · subst q; simp
  · by_cases q2 : b < i
    · simp [q, q2, Nat.lt_succ_of_lt q2]
    · simp [q, q2, show ¬ b < i + 1 by omega]
theorem t_setPageX (hX : Wx w c) (B : h m = some (mF ad pr se pg sz pt bt ac)) (hj : j < 3) (Bs : h sz = some (.inl (c 0, 3, .inl s))) (Bp : h pg = some (.inl (c 5, 3, .inr (.inr (.inr (.inr gp)))))) (gt : gp j = some t) (Bt : h t = some (.inl (c 0, 60, .inl P))) {b ba : Nat} {fb : Nat → Int32} (R : RW c h b ba fb N) (N60 : N ≤ 60)
    (d1 : m ≠ t) (d2 : sz ≠ t) (d3 : pg ≠ t) (d4 : b ≠ t) (d5 : ba ≠ t) : TC w yX2_setPage cX2_setPage 5 none 2 [.ref m, .int (nI j), .ref b] h none (hs (hs h t (.inl (c 0, 60, .inl (pcF P fb N)))) sz (.inl (c 0, 3, .inl (upd s j (nI N))))) := by
  have hW := hX.1
  refine TC.intro hW rfl (by decide +kernel) (Nat.le_of_ble_eq_true rfl) (fun z C Y E hn => ?_)
  obtain ⟨t5, ht5⟩ : ∃ t : Nat, z.tys[t]? = some (c 5, .array .int) := by rw [E.2.2.2.1]; exact hX.2.2.2.2.2
  have es : (if (60 : Int32) < nI N then (60 : Int32) else nI N) = nI N := if_neg (fun q => absurd ((nI_ltI (a := 60) (by decide) (by omega)).mp q) (by omega))
  have LP : ∀ (r i : Nat), i + r = N → X z 0 0 (EQ (hs h t (.inl (c 0, 60, .inl (pcF P fb i))))) 23 [some (.ref m), some (.int (nI j)), some (.ref b), some (.int (nI N)), some (.int (nI i))] [] := by
    intro r
    induction r with
    | zero =>
      intro i hi
      obtain rfl : i = N := by omega
      refine x_iload C dX2_setPage_23 rfl ?_
      refine x_iload_n C dX2_setPage_25 rfl ?_
      refine x_icmp_ge (tgt := 50) C dX2_setPage_26 (by decide) (fun _ => ?_) (fun q => absurd (Int32.le_refl _) q)
      refine x_aload_n C dX2_setPage_50 rfl ?_
      refine e_get C Y kd_X2 4 (by decide) wf_X2_20 dX2_setPage_51 ((hs_ne d1).trans B) rfl ?_
      refine x_iload_n C dX2_setPage_54 rfl ?_
      refine x_iload_n C dX2_setPage_55 rfl ?_
      refine e_ist C Y dX2_setPage_56 ((hs_ne d2).trans Bs) (vp_in_nI hj (by decide)) rfl ?_
      rw [nI_clamp (by omega)]
      exact e_vret C E dX2_setPage_57 rfl rfl
    | succ r ih =>
      intro i hi
      have Rh : RW c (hs h t (.inl (c 0, 60, .inl (pcF P fb i)))) b ba fb N := ⟨R.1, (hs_ne d4).trans R.2.1, (hs_ne d5).trans R.2.2.1, R.2.2.2⟩
      have ra := r_at hW Rh (nI i)
      rw [rAt_in (show i < N by omega) R.2.2.2] at ra
      refine x_iload C dX2_setPage_23 rfl ?_
      refine x_iload_n C dX2_setPage_25 rfl ?_
      refine x_icmp_ge (tgt := 50) C dX2_setPage_26 (by decide) (fun q => absurd q (Int32.not_le.mpr (nI_lt (show i < N by omega) (by omega)))) (fun _ => ?_)
      refine x_aload_n C dX2_setPage_29 rfl ?_
      refine e_get C Y kd_X2 3 (by decide) wf_X2_17 dX2_setPage_30 ((hs_ne d1).trans B) rfl ?_
      refine x_iload_n C dX2_setPage_33 rfl ?_
      refine e_ald2 C ht5 dX2_setPage_34 ((hs_ne d3).trans Bp) rfl hj (by decide) gt ?_
      refine x_iload C dX2_setPage_35 rfl ?_
      refine x_aload_n C dX2_setPage_37 rfl ?_
      refine x_iload C dX2_setPage_38 rfl ?_
      refine u_callV (st := [.int (nI i), .ref t]) C Y hW E.cs ra md_X5_at wi_X5_at ws_X5_at wm_X2_53 dX2_setPage_40 rfl (by decide) (by decide) Rh.2.1 rfl rfl (by simp [Value.category]) ?_
      refine e_ist C Y dX2_setPage_43 (hs_self ..) (vp_in_nI (show i < 60 by omega) (by decide)) (hs_hs ..) ?_
      rw [nI_clamp (by omega), pcF_s]
      refine o_iincE (v := nI (i + 1)) (L' := [some _, some _, some _, some _, some _]) C dX2_setPage_44 rfl (nI_1 i) (by rw [hn]; decide) rfl ?_
      refine x_goto (tgt := 23) C dX2_setPage_47 (by decide) ?_
      exact ih (i + 1) (by omega)
  refine x_iload_n C dX2_setPage_0 rfl ?_
  refine x_if_lt (tgt := 9) C dX2_setPage_1 (by decide) (fun q => absurd q (nI_pos (by omega))) (fun _ => ?_)
  refine x_iload_n C dX2_setPage_4 rfl ?_
  refine x_iconst (v := 3) C dX2_setPage_5 (by decide) ?_
  refine x_icmp_lt (tgt := 10) C dX2_setPage_6 (by decide) (fun _ => ?_) (fun q => absurd (nI_lt hj (by decide)) q)
  refine x_aload_n C dX2_setPage_10 rfl ?_
  refine u_callV (st := []) C Y hW E.cs (r_size hW R) md_X5_size wi_X5_size ws_X5_size wm_X2_41 dX2_setPage_11 rfl (by decide) (by decide) R.2.1 rfl rfl (by decide) ?_
  refine x_bipush (v := 60) C dX2_setPage_14 (by decide) ?_
  refine x_min C wm_X2_47 dX2_setPage_16 (by rw [E.fr_]; decide) (by rw [E.lo_]; decide) ?_
  rw [es]
  refine o_istore_nE (L' := [some _, some _, some _, some _, none]) C dX2_setPage_19 (by rw [hn]; decide) rfl ?_
  refine x_iconst (v := 0) C dX2_setPage_20 (by decide) ?_
  refine o_istoreE (L' := [some _, some _, some _, some _, some _]) C dX2_setPage_21 (by rw [hn]; decide) rfl ?_
  have := LP N 0 (by omega)
  rw [show hs h t (.inl (c 0, 60, .inl (pcF P fb 0))) = h from hs_same (by rw [Bt]; rfl)] at this
  exact this
end Met
end
