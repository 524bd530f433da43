/-! MeterBus at any time: meter, found, readOut, record, text, count. -/
/-- a secondary address as the class has it -/
def adr (i mk v d : Int32) : Int64 := i.toInt64 &&& 4294967295 ||| mk.toInt64 <<< ((32 : Int32).toInt64 &&& 63) ||| v.toInt64 <<< ((48 : Int32).toInt64 &&& 63) ||| d.toInt64 <<< ((56 : Int32).toInt64 &&& 63)
section Calls
variable {w : Wd} {c : Nat → ClassId} {a : Nat → Nat} {h9 : PH} {V : Nat → Prop} {h : PH} {α : Nat → Int64} {f : Nat → Option Nat} {κ κd : Nat → Nat}
theorem zz_meter (hX : Wx w c) (Z : ZZ c a h9 V α f κ κd h) (k ad i mk v d : Int32) : TCX w yX6_meter cX6_meter 9 none 6 194 [.ref (a 0), .int k, .int ad, .int i, .int mk, .int v, .int d] h
    (fun r g => r = none ∧ ∃ j p, j < 12 ∧ k = nI j ∧ k_good ad i mk v d ∧ ¬ oth f α k (adr i mk v d) ∧ (∀ q m, f q = some m → m ≠ p) ∧ ZE c a h9 V (va_up α p (adr i mk v d)) (va_up f j (some p)) g)
    (fun En g => (¬ ((0 : Int32) ≤ k ∧ k < 12) ∧ En = IOE ∧ g = h) ∨ (((0 : Int32) ≤ k ∧ k < 12) ∧ (¬ k_good ad i mk v d ∨ oth f α k (adr i mk v d))) ∧ En = IAE ∧ g = h) := by
  have hW := hX.1
  obtain ⟨fn, f1, Bx⟩ := Z.x
  obtain ⟨fr1, co, B⟩ := Z.bus.uc
  refine TCX.intro hX.1 rfl (by decide +kernel) (Nat.le_of_ble_eq_true rfl) (fun z C Y E hn => ?_)
  refine x_iload_n C dX6_meter_0 rfl ?_
  refine u_callS C hW E.1 (m_isMeterNumber hW k) md_X6_isMeterNumber wt_X6_isMeterNumber wm_X6_81 dX6_meter_1 rfl (by decide) (by decide) rfl (by simp [Value.category]) ?_
  refine x_if_ne (tgt := 17) C dX6_meter_4 (by decide) (fun c4 => ?_) (fun c4 => ?_)
  rotate_left
  · exact u_thr (kc := 5) (ks := 188) hX C E exs_IOE at_76 wc_X6_72 wz_IndexOutOfBoundsException (show (85, "no such meter") ∈ txts by simp [txts]) dX6_meter_7 dX6_meter_10 dX6_meter_11 dX6_meter_13 dX6_meter_16 (by decide) (fun g e => Or.inl ⟨fun q => absurd (bI_t q) (by rw [c4]; decide), rfl, e⟩)
  have g0 : (0 : Int32) ≤ k ∧ k < 12 := Decidable.of_not_not (fun g => c4 (bI_f g))
  have T35 : ¬ k_good ad i mk v d → X z 6 194 (EQ h) 35 [some (.ref (a 0)), some (.int k), some (.int ad), some (.int i), some (.int mk), some (.int v), some (.int d), none, none] [] := fun g1 => u_thr (kc := 5) (ks := 188) hX C E exs_IAE at_51 wc_X6_47 wz_IllegalArgumentException (show (90, "the primary address or the ident is not as said") ∈ txts by simp [txts]) dX6_meter_35 dX6_meter_38 dX6_meter_39 dX6_meter_41 dX6_meter_44 (by decide) (fun g e => Or.inr ⟨⟨g0, Or.inl g1⟩, rfl, e⟩)
  have T84 : ¬ k_good ad i mk v d → X z 6 194 (EQ h) 84 [some (.ref (a 0)), some (.int k), some (.int ad), some (.int i), some (.int mk), some (.int v), some (.int d), none, none] [] := fun g1 => u_thr (kc := 5) (ks := 188) hX C E exs_IAE at_51 wc_X6_47 wz_IllegalArgumentException (show (95, "maker, version or medium is not as said") ∈ txts by simp [txts]) dX6_meter_84 dX6_meter_87 dX6_meter_88 dX6_meter_90 dX6_meter_93 (by decide) (fun g e => Or.inr ⟨⟨g0, Or.inl g1⟩, rfl, e⟩)
  refine x_iload_n C dX6_meter_17 rfl ?_
  refine x_if_lt (tgt := 35) C dX6_meter_18 (by decide) (fun c1 => T35 (fun g => absurd g.1.1.1 (Int32.not_le.mpr c1))) (fun c18 => ?_)
  refine x_iload_n C dX6_meter_21 rfl ?_
  refine x_sipush (v := 250) C dX6_meter_22 (by decide) ?_
  refine x_icmp_gt (tgt := 35) C dX6_meter_25 (by decide) (fun c1 => T35 (fun g => absurd g.1.1.2 (Int32.not_le.mpr c1))) (fun c25 => ?_)
  refine x_iload_n C dX6_meter_28 rfl ?_
  refine u_callS C hW E.1 (m_areDigits hW i) md_X6_areDigits wt_X6_areDigits wm_X6_87 dX6_meter_29 rfl (by decide) (by decide) rfl (by simp [Value.category]) ?_
  refine x_if_ne (tgt := 45) C dX6_meter_32 (by decide) (fun c32 => ?_) (fun c1 => T35 (fun g => absurd (bI_t g.1.2) (by rw [c1]; decide)))
  have g32 : g_dig i 8 = true := Decidable.of_not_not (fun g => c32 (bI_f g))
  refine x_iload C dX6_meter_45 rfl ?_
  refine x_sipush (v := 255) C dX6_meter_47 (by decide) ?_
  refine x_iand C dX6_meter_50 ?_
  refine u_callS C hW E.1 (m_isAddressByte hW (mk &&& 255)) md_X6_isAddressByte wt_X6_isAddressByte wm_X6_92 dX6_meter_51 rfl (by decide) (by decide) rfl (by simp [Value.category]) ?_
  refine x_if_eq (tgt := 84) C dX6_meter_54 (by decide) (fun c1 => T84 (fun g => absurd (bI_t g.2.1) (by rw [c1]; decide))) (fun c54 => ?_)
  have g54 := Decidable.of_not_not (fun g => c54 (bI_f g))
  refine x_iload C dX6_meter_57 rfl ?_
  refine x_bipush (v := 8) C dX6_meter_59 (by decide) ?_
  refine x_ishr C dX6_meter_61 ?_
  refine u_callS C hW E.1 (m_isAddressByte hW (mk >>> ((8 : Int32) &&& 31))) md_X6_isAddressByte wt_X6_isAddressByte wm_X6_92 dX6_meter_62 rfl (by decide) (by decide) rfl (by simp [Value.category]) ?_
  refine x_if_eq (tgt := 84) C dX6_meter_65 (by decide) (fun c1 => T84 (fun g => absurd (bI_t g.2.2.1) (by rw [c1]; decide))) (fun c65 => ?_)
  have g65 := Decidable.of_not_not (fun g => c65 (bI_f g))
  refine x_iload C dX6_meter_68 rfl ?_
  refine u_callS C hW E.1 (m_isAddressByte hW v) md_X6_isAddressByte wt_X6_isAddressByte wm_X6_92 dX6_meter_70 rfl (by decide) (by decide) rfl (by simp [Value.category]) ?_
  refine x_if_eq (tgt := 84) C dX6_meter_73 (by decide) (fun c1 => T84 (fun g => absurd (bI_t g.2.2.2.1) (by rw [c1]; decide))) (fun c73 => ?_)
  have g73 := Decidable.of_not_not (fun g => c73 (bI_f g))
  refine x_iload C dX6_meter_76 rfl ?_
  refine u_callS C hW E.1 (m_isAddressByte hW d) md_X6_isAddressByte wt_X6_isAddressByte wm_X6_92 dX6_meter_78 rfl (by decide) (by decide) rfl (by simp [Value.category]) ?_
  refine x_if_ne (tgt := 94) C dX6_meter_81 (by decide) (fun c81 => ?_) (fun c1 => T84 (fun g => absurd (bI_t g.2.2.2.2) (by rw [c1]; decide)))
  have g81 := Decidable.of_not_not (fun g => c81 (bI_f g))
  have gg : k_good ad i mk v d := ⟨⟨⟨Int32.not_lt.mp c18, Int32.not_lt.mp c25⟩, g32⟩, g54, g65, g73, g81⟩
  refine x_iload_n C dX6_meter_94 rfl ?_
  refine x_i2l C dX6_meter_95 ?_
  refine x_ldc2 C wk_X6_97 dX6_meter_96 ?_
  refine x_land C dX6_meter_99 ?_
  refine x_iload C dX6_meter_100 rfl ?_
  refine x_i2l C dX6_meter_102 ?_
  refine x_bipush (v := 32) C dX6_meter_103 (by decide) ?_
  refine x_lshl C dX6_meter_105 ?_
  refine x_lor C dX6_meter_106 ?_
  refine x_iload C dX6_meter_107 rfl ?_
  refine x_i2l C dX6_meter_109 ?_
  refine x_bipush (v := 48) C dX6_meter_110 (by decide) ?_
  refine x_lshl C dX6_meter_112 ?_
  refine x_lor C dX6_meter_113 ?_
  refine x_iload C dX6_meter_114 rfl ?_
  refine x_i2l C dX6_meter_116 ?_
  refine x_bipush (v := 56) C dX6_meter_117 (by decide) ?_
  refine x_lshl C dX6_meter_119 ?_
  refine x_lor C dX6_meter_120 ?_
  refine o_lstoreE (L' := [some _, some _, some _, some _, some _, some _, some _, some (.long (adr i mk v d)), none]) C dX6_meter_121 (by rw [hn]; decide) rfl ?_
  refine x_aload_n C dX6_meter_123 rfl ?_
  refine e_get C Y kd_X6 1 (by decide) wf_X6_19 dX6_meter_124 Bx rfl ?_
  refine x_iload_n C dX6_meter_127 rfl ?_
  refine x_lload C dX6_meter_128 rfl ?_
  refine k_callR (kc := 6) (ks := 194) (mc' := 0) (ms' := 0) (st := []) C Y hW E.1 (u_hasAnother hX Z.bus k (adr i mk v d)) rfl md_X0_hasAnother wi_X0_hasAnother ws_X0_hasAnother wm_X6_99 dX6_meter_130 rfl (by decide) (by decide) B rfl rfl (by decide) (fun r g hg => ?_)
  obtain ⟨eg, hg⟩ := hg
  rw [eg]
  rcases hg with ⟨rfl, ho⟩ | ⟨rfl, ho⟩
  · refine x_if_eq (tgt := 146) C dX6_meter_133 (by decide) (fun q => absurd q (by decide)) (fun _ => ?_)
    exact u_thr (kc := 5) (ks := 188) hX C E exs_IAE at_51 wc_X6_47 wz_IllegalArgumentException (show (103, "another meter has that secondary address") ∈ txts by simp [txts]) dX6_meter_136 dX6_meter_139 dX6_meter_140 dX6_meter_142 dX6_meter_145 (by decide) (fun g e => Or.inr ⟨⟨g0, Or.inr ho⟩, rfl, e⟩)
  refine x_if_eq (tgt := 146) C dX6_meter_133 (by decide) (fun _ => ?_) (fun q => absurd rfl q)
  refine E.go C Y (fun z' C Y E hn1 => ?_)
  rw [hn] at hn1
  have hn := hn1
  obtain ⟨j, hj, rfl⟩ := nI_of (Int32.not_lt.mpr g0.1)
  have hj2 : j < 12 := (nI_ltI hj (by decide)).mp g0.2
  refine x_aload_n C dX6_meter_146 rfl ?_
  refine e_get C Y kd_X6 1 (by decide) wf_X6_19 dX6_meter_147 Bx rfl ?_
  refine x_iload_n C dX6_meter_150 rfl ?_
  refine e_new (kc := 5) (ks := 186) (N := 8) C Y kd_X2 wc_X6_105 wn_X2 wz_X2 dX6_meter_151 (fs := [.long 0, .int 0, .int 0, .null, .null, .int 0, .int 0, .int 0]) (fun j hj => by rcases (show j = 0 ∨ j = 1 ∨ j = 2 ∨ j = 3 ∨ j = 4 ∨ j = 5 ∨ j = 6 ∨ j = 7 by omega) with rfl | rfl | rfl | rfl | rfl | rfl | rfl | rfl <;> rfl) (fun p hp => ?_)
  refine x_dup C dX6_meter_154 rfl ?_
  refine x_iload_n C dX6_meter_155 rfl ?_
  refine x_lload C dX6_meter_156 rfl ?_
  refine k_callI (kc := 0) (ks := 0) (st := [.ref p, .int (nI j), .ref (a 3)]) C E.cs hX.1.1 gw_good (n_meter hX (hs_self ..) ad (adr i mk v d)) md_X2_init rfl wi_X2_init wm_X6_107 dX6_meter_158 rfl (by decide) (by decide) rfl (by simp [Value.category]) (fun r => X.opn (fun g hB => ?_))
  obtain ⟨rfl, M⟩ := hB
  obtain ⟨n, n90, D⟩ := Z.bus
  obtain ⟨κ', Dg, kp, kx, ky⟩ := D.meter hp M
  obtain ⟨fr2, co2, B2⟩ := Dg.1
  obtain ⟨q1, ps1, r1, Bp, -⟩ := id M
  refine u_callV (st := []) C Y hW E.cs (u_plug hX ⟨n, n90, Dg⟩ hj2 Bp) md_X0_plug wi_X0_plug ws_X0_plug wm_X6_110 dX6_meter_161 rfl (by decide) (by decide) B2 rfl rfl (by decide) ?_
  refine x_vret C E dX6_meter_164 (fun g2 e => ⟨rfl, j, p, hj2, rfl, gg, ho, fun q m e1 e2 => ?_, ?_⟩)
  · exact Z.bus.nn.2 m (by rw [D.2.2.1 q m e1]; decide) (by rw [e2]; exact hp)
  · rw [e]
    refine ⟨κ', κd, Z.ofB ⟨n, n90, Dg.plug (fun q m hq => ?_)⟩ ky⟩
    by_cases e1 : q = j
    · subst e1; rw [va_up_self] at hq; cases hq; exact kp
    · rw [va_up_ne _ _ e1] at hq; exact Dg.2.2.1 q m hq
theorem zz_isFound (hX : Wx w c) (Z : ZZ c a h9 V α f κ κd h) (k : Int32) : T w gw yX6_isFoundOne cX6_isFoundOne 2 (some .boolean) 0 (40 * 0) 0 0 [.ref (a 0), .int k] (EQ h) (fun r g => g = h ∧ (r = some (.int 0) ∨ (r = some (.int 1) ∧ ∃ j, j < 12 ∧ k = nI j))) := by
  obtain ⟨fn, f1, Bx⟩ := Z.x
  refine TA.intro hX.1 rfl (by decide +kernel) (Nat.le_of_ble_eq_true rfl) (fun z C Y E hn h1 hA => ?_)
  rw [show h1 = h from hA]
  clear hA
  have T22 : X z 0 0 (EQ h) 22 [some (.ref (a 0)), some (.int k)] [] := by
    refine x_iconst (v := 0) C dX6_isFoundOne_22 (by decide) ?_
    exact x_zret C E dX6_isFoundOne_23 (by decide) (fun g e => ⟨e, Or.inl rfl⟩)
  refine x_iload_n C dX6_isFoundOne_0 rfl ?_
  refine x_if_lt (tgt := 22) C dX6_isFoundOne_1 (by decide) (fun _ => T22) (fun c1 => ?_)
  refine x_iload_n C dX6_isFoundOne_4 rfl ?_
  refine x_aload_n C dX6_isFoundOne_5 rfl ?_
  refine e_get C Y kd_X6 5 (by decide) wf_X6_43 dX6_isFoundOne_6 Bx rfl ?_
  refine x_icmp_ge (tgt := 22) C dX6_isFoundOne_9 (by decide) (fun _ => T22) (fun _ => ?_)
  refine x_iload_n C dX6_isFoundOne_12 rfl ?_
  refine x_bipush (v := 12) C dX6_isFoundOne_13 (by decide) ?_
  refine x_icmp_ge (tgt := 22) C dX6_isFoundOne_15 (by decide) (fun _ => T22) (fun c2 => ?_)
  obtain ⟨j, hj, rfl⟩ := nI_of c1
  have hj2 : j < 12 := (nI_ltI hj (by decide)).mp (Int32.not_le.mp c2)
  refine x_iconst (v := 1) C dX6_isFoundOne_18 (by decide) ?_
  refine x_goto (tgt := 23) C dX6_isFoundOne_19 (by decide) ?_
  exact x_zret C E dX6_isFoundOne_23 (by decide) (fun g e => ⟨e, Or.inr ⟨rfl, j, hj2, rfl⟩⟩)
theorem zz_found (hX : Wx w c) (Z : ZZ c a h9 V α f κ κd h) (k i : Int32) : TCX w yX6_found cX6_found 3 (some .int) 1 6 [.ref (a 0), .int k, .int i] h (PI c a h9 V α f) (fun En g => En = IOE ∧ g = h) := by
  have hW := hX.1
  obtain ⟨fn, f1, Bx⟩ := Z.x
  obtain ⟨gf, Bf⟩ := Z.fa
  refine TCX.intro hX.1 rfl (by decide +kernel) (Nat.le_of_ble_eq_true rfl) (fun z C Y E hn => ?_)
  have T18 : X z 1 6 (EQ h) 18 [some (.ref (a 0)), some (.int k), some (.int i)] [] := u_thr (kc := 0) (ks := 0) hX C E exs_IOE at_76 wc_X6_72 wz_IndexOutOfBoundsException (show (154, "no such found one or byte") ∈ txts by simp [txts]) dX6_found_18 dX6_found_21 dX6_found_22 dX6_found_24 dX6_found_27 (by decide) (fun g e => ⟨rfl, e⟩)
  obtain ⟨t1, ht1⟩ := Y.2.2.1
  refine x_aload_n C dX6_found_0 rfl ?_
  refine x_iload_n C dX6_found_1 rfl ?_
  refine k_callR (kc := 1) (ks := 6) (mc' := 0) (ms' := 0) (st := []) C Y hW E.1 (zz_isFound hX Z k) rfl md_X6_isFoundOne wi_X6_isFoundOne ws_X6_isFoundOne wm_X6_151 dX6_found_2 rfl (by decide) (by decide) Bx rfl rfl (by decide) (fun r g hg => ?_)
  obtain ⟨eg, hg⟩ := hg
  rw [eg]
  rcases hg with rfl | ⟨rfl, j, hj, rfl⟩
  · exact x_if_eq (tgt := 18) C dX6_found_5 (by decide) (fun _ => T18) (fun q => absurd rfl q)
  refine x_if_eq (tgt := 18) C dX6_found_5 (by decide) (fun q => absurd q (by decide)) (fun _ => ?_)
  refine x_iload_n C dX6_found_8 rfl ?_
  refine x_if_lt (tgt := 18) C dX6_found_9 (by decide) (fun _ => T18) (fun _ => ?_)
  refine x_iload_n C dX6_found_12 rfl ?_
  refine x_bipush (v := 8) C dX6_found_13 (by decide) ?_
  refine x_icmp_lt (tgt := 28) C dX6_found_15 (by decide) (fun _ => ?_) (fun _ => T18)
  refine x_aload_n C dX6_found_28 rfl ?_
  refine e_get C Y kd_X6 4 (by decide) wf_X6_39 dX6_found_29 Bx rfl ?_
  refine x_iload_n C dX6_found_32 rfl ?_
  refine x_lald C ht1 dX6_found_33 (fun q e => by rw [e]; exact Bf) (vp_in_nI hj (by decide)) ?_
  refine x_bipush (v := 8) C dX6_found_34 (by decide) ?_
  refine x_iload_n C dX6_found_36 rfl ?_
  refine x_imul C dX6_found_37 ?_
  refine x_lushr C dX6_found_38 ?_
  refine x_l2i C dX6_found_39 ?_
  refine x_sipush (v := 255) C dX6_found_40 (by decide) ?_
  refine x_iand C dX6_found_43 ?_
  exact E.go C Y (fun z' C Y E hn => x_iret C E dX6_found_44 (fun g e => ⟨⟨_, rfl⟩, by rw [e]; exact ⟨κ, κd, Z⟩⟩))
theorem zz_readOut (hX : Wx w c) (Z : ZZ c a h9 V α f κ κd h) (k : Int32) : TCX w yX6_readOut cX6_readOut 4 (some .int) 1050 8040 [.ref (a 0), .int k] h (PI c a h9 V α f) (fun En g => En = IOE ∧ g = h) := by
  have hW := hX.1
  obtain ⟨fn, f1, Bx⟩ := Z.x
  refine TCX.intro hX.1 rfl (by decide +kernel) (Nat.le_of_ble_eq_true rfl) (fun z C Y E hn => ?_)
  refine x_aload_n C dX6_readOut_0 rfl ?_
  refine x_iload_n C dX6_readOut_1 rfl ?_
  refine k_callR (kc := 1050) (ks := 8040) (mc' := 0) (ms' := 0) (st := []) C Y hW E.1 (zz_isFound hX Z k) rfl md_X6_isFoundOne wi_X6_isFoundOne ws_X6_isFoundOne wm_X6_151 dX6_readOut_2 rfl (by decide) (by decide) Bx rfl rfl (by decide) (fun r g hg => ?_)
  obtain ⟨eg, hg⟩ := hg
  rw [eg]
  rcases hg with rfl | ⟨rfl, j, hj, rfl⟩
  · refine x_if_ne (tgt := 18) C dX6_readOut_5 (by decide) (fun q => absurd rfl q) (fun _ => ?_)
    exact u_thr (kc := 1049) (ks := 8034) hX C E exs_IOE at_76 wc_X6_72 wz_IndexOutOfBoundsException (show (156, "no such found one") ∈ txts by simp [txts]) dX6_readOut_8 dX6_readOut_11 dX6_readOut_12 dX6_readOut_14 dX6_readOut_17 (by decide) (fun g e => ⟨rfl, e⟩)
  refine x_if_ne (tgt := 18) C dX6_readOut_5 (by decide) (fun _ => ?_) (fun q => absurd q (by decide))
  refine E.go C Y (fun z' C Y E hn1 => ?_)
  rw [hn] at hn1
  have hn := hn1
  obtain ⟨t1, ht1⟩ := Y.2.2.1
  refine x_aload_n C dX6_readOut_18 rfl ?_
  refine e_get C Y kd_X6 2 (by decide) wf_X6_26 dX6_readOut_19 Bx rfl ?_
  refine x_iconst (v := 0) C dX6_readOut_22 (by decide) ?_
  refine k_cut (st := []) hX C Y E.cs (by decide) (by decide) Z 0 dX6_readOut_23 (by decide) (fun g Zg _ => ?_)
  clear Bx f1
  obtain ⟨fn, f1, Bx⟩ := Zg.x
  obtain ⟨-, -, ⟨fr, at_, en, fa, pl, mo, Bd, hmo⟩, -⟩ := Zg.dec
  refine x_aload_n C dX6_readOut_26 rfl ?_
  refine e_get C Y kd_X6 3 (by decide) wf_X6_35 dX6_readOut_27 Bx rfl ?_
  refine u_callV (st := []) C Y hW E.cs (d_forget hW Bd) md_X1_forgetFault wi_X1_forgetFault ws_X1_forgetFault wm_X6_159 dX6_readOut_30 rfl (by decide) (by decide) Bd rfl rfl (by decide) ?_
  have Z2 := Zg.ofD (Zg.dec.putD fr at_ en 0 (-1) mo hmo)
  obtain ⟨fn2, f2, Bx2⟩ := Z2.x
  obtain ⟨gf2, Bf2⟩ := Z2.fa
  refine x_aload_n C dX6_readOut_33 rfl ?_
  refine x_aload_n C dX6_readOut_34 rfl ?_
  refine e_get C Y kd_X6 4 (by decide) wf_X6_39 dX6_readOut_35 Bx2 rfl ?_
  refine x_iload_n C dX6_readOut_38 rfl ?_
  refine x_lald C ht1 dX6_readOut_39 (fun q e => by rw [e]; exact Bf2) (vp_in_nI hj (by decide)) ?_
  refine k_callR (kc := 1050) (ks := 8040) (mc' := 0) (ms' := 0) (st := []) C Y hW E.cs (zz_isSelected hX _) ⟨κ, κd, Z2⟩ md_X6_isSelected wi_X6_isSelected ws_X6_isSelected wm_X6_162 dX6_readOut_40 rfl (by decide) (by decide) Bx2 rfl rfl (by decide) (fun r g3 hg => ?_)
  obtain ⟨hr, Z3⟩ := hg
  have LP : ∀ (r i : Nat) (more : Int32) (h : PH), i + r = 10 → ZE c a h9 V α f h → X z' (105 * r) (804 * r) (EQ h) 52 [some (.ref (a 0)), some (.int (nI j)), some (.int more), some (.int (nI i))] [] := by
    intro r
    have T148 : ∀ (kc ks : Nat) (h : PH) (L2 : List (Option Value)), ZE c a h9 V α f h → X z' kc ks (EQ h) 148 (some (.ref (a 0)) :: L2) [] := fun kc ks h L2 hZ => by
      obtain ⟨κ, κd, Z⟩ := hZ
      obtain ⟨fn, f1, Bx⟩ := Z.x
      obtain ⟨⟨n, n1, Bl⟩, -⟩ := Z.dec
      refine x_aload_n C dX6_readOut_148 rfl ?_
      refine e_get C Y kd_X6 2 (by decide) wf_X6_26 dX6_readOut_149 Bx rfl ?_
      refine u_callV (st := []) C Y hW E.cs (l_size hW Bl) md_X4_size wi_X4_size ws_X4_size wm_X6_181 dX6_readOut_152 rfl (by decide) (by decide) Bl rfl rfl (by decide) ?_
      exact x_iret C E dX6_readOut_155 (fun g e => ⟨⟨_, rfl⟩, by rw [e]; exact ⟨κ, κd, Z⟩⟩)
    induction r with
    | zero =>
      intro i more h hi Z
      obtain rfl : i = 10 := by omega
      refine x_iload_n C dX6_readOut_52 rfl ?_
      refine x_bipush (v := 10) C dX6_readOut_53 (by decide) ?_
      exact x_icmp_ge (tgt := 148) C dX6_readOut_55 (by decide) (fun _ => T148 _ _ _ _ Z) (fun q => absurd (Int32.le_refl _) q)
    | succ r ih =>
      intro i more h hi hZ
      obtain ⟨κ, κd, Z⟩ := hZ
      obtain ⟨fn, f1, Bx⟩ := Z.x
      refine x_iload_n C dX6_readOut_52 rfl ?_
      refine x_bipush (v := 10) C dX6_readOut_53 (by decide) ?_
      refine x_icmp_ge (tgt := 148) C dX6_readOut_55 (by decide) (fun _ => T148 _ _ _ _ ⟨κ, κd, Z⟩) (fun _ => ?_)
      refine x_iload_n C dX6_readOut_58 rfl ?_
      refine x_if_eq (tgt := 148) C dX6_readOut_59 (by decide) (fun _ => T148 _ _ _ _ ⟨κ, κd, Z⟩) (fun _ => ?_)
      have T79 : ∀ x : Int32, X z' (105 * (r + 1)) (804 * (r + 1)) (EQ h) 79 [some (.ref (a 0)), some (.int (nI j)), some (.int more), some (.int (nI i))] [.int x, .ref (a 3)] := fun x => by
        refine x_sipush (v := 253) C dX6_readOut_79 (by decide) ?_
        refine k_bus (st := []) hX C Y E.cs Z (u_putShort hX x 253) md_X0_putShort wi_X0_putShort ws_X0_putShort wm_X6_166 dX6_readOut_82 rfl (by decide) (by decide) rfl rfl (by decide) (fun v g Zg => ?_)
        obtain ⟨fn, f1, Bx⟩ := Zg.x
        obtain ⟨fr1, co, B⟩ := Zg.bus.uc
        refine x_if_gt (tgt := 98) C dX6_readOut_85 (by decide) (fun _ => ?_) (fun _ => ?_)
        · obtain ⟨na, na90, -, -, -, ⟨ga, Ra, hba⟩, -⟩ := Zg.bus
          obtain ⟨-, -, ⟨fr, at_, en, fa, pl, mo, Bd, -⟩, -⟩ := Zg.dec
          refine x_aload_n C dX6_readOut_98 rfl ?_
          refine e_get C Y kd_X6 3 (by decide) wf_X6_35 dX6_readOut_99 Bx rfl ?_
          refine x_aload_n C dX6_readOut_102 rfl ?_
          refine e_get C Y kd_X6 1 (by decide) wf_X6_19 dX6_readOut_103 Bx rfl ?_
          refine u_callV (st := [.ref (a 9)]) C Y hW E.cs (u_lastAnswer hX B) md_X0_lastAnswer wi_X0_lastAnswer ws_X0_lastAnswer wm_X6_138 dX6_readOut_106 rfl (by decide) (by decide) B rfl rfl (by simp [Value.category]) ?_
          refine X.room (kc' := 105 * r + Bc (na - 21)) (ks' := 804 * r + Bs (na - 21)) ?_ (by unfold Bc; omega) (by unfold Bs; omega)
          refine k_callR (kc := 105 * r) (ks := 804 * r) (st := []) C Y hW E.cs (d_reads hX Ra (Zg.wd (i := 5) (by omega)) (Zg.wd (i := 6) (by omega)) hba) ⟨κd, Zg.dec⟩ md_X1_reads wi_X1_reads ws_X1_reads wm_X6_170 dX6_readOut_109 rfl (by decide) (by decide) Bd rfl rfl (by decide) (fun r4 g4 hg => ?_)
          obtain ⟨hr, at9, e9, ⟨κ9, D9⟩, -⟩ := hg
          have Z4 : ZZ c a h9 V α f κ κ9 g4 := Zg.ofD D9
          clear Bx f1 Bd
          obtain ⟨fn, f1, Bx⟩ := Z4.x
          obtain ⟨-, -, ⟨fr, at_, en, fa, pl, mo, Bd, hmo⟩, -⟩ := Z4.dec
          have T112 : ∀ x : Int32, X z' (105 * r) (804 * r) (EQ g4) 112 [some (.ref (a 0)), some (.int (nI j)), some (.int more), some (.int (nI i))] [.int x] := fun x => by
            refine x_if_ne (tgt := 134) C dX6_readOut_112 (by decide) (fun _ => ?_) (fun _ => ?_)
            · refine x_aload_n C dX6_readOut_134 rfl ?_
              refine e_get C Y kd_X6 3 (by decide) wf_X6_35 dX6_readOut_135 Bx rfl ?_
              refine u_callV (st := []) C Y hW E.cs (d_more hW hmo Bd) md_X1_endsByMore wi_X1_endsByMore ws_X1_endsByMore wm_X6_177 dX6_readOut_138 rfl (by decide) (by decide) Bd rfl rfl (by decide) ?_
              refine o_istore_nE (L' := [some _, some _, some _, some _]) C dX6_readOut_141 (by rw [hn]; decide) rfl ?_
              refine o_iincE (v := nI (i + 1)) (L' := [some _, some _, some _, some _]) C dX6_readOut_142 rfl (nI_1 i) (by rw [hn]; decide) rfl ?_
              refine x_goto (tgt := 52) C dX6_readOut_145 (by decide) ?_
              exact ih (i + 1) mo g4 (by omega) ⟨κ, κ9, Z4⟩
            · refine x_aload_n C dX6_readOut_115 rfl ?_
              refine e_get C Y kd_X6 2 (by decide) wf_X6_26 dX6_readOut_116 Bx rfl ?_
              refine x_iconst (v := 0) C dX6_readOut_119 (by decide) ?_
              refine k_cut (st := []) hX C Y E.cs (by decide) (by decide) Z4 0 dX6_readOut_120 (by decide) (fun g5 Z5 _ => ?_)
              clear Bx f1 Bd
              obtain ⟨fn, f1, Bx⟩ := Z5.x
              obtain ⟨-, -, ⟨fr, at_, en, fa, pl, mo, Bd, hmo⟩, -⟩ := Z5.dec
              refine x_bipush (v := (-2)) C dX6_readOut_123 (by decide) ?_
              refine x_aload_n C dX6_readOut_125 rfl ?_
              refine e_get C Y kd_X6 3 (by decide) wf_X6_35 dX6_readOut_126 Bx rfl ?_
              refine u_callV (st := [.int (-2)]) C Y hW E.cs (d_faultOf hW rfl Bd) md_X1_lastFault wi_X1_lastFault ws_X1_lastFault wm_X6_174 dX6_readOut_129 rfl (by decide) (by decide) Bd rfl rfl (by simp [Value.category]) ?_
              refine x_isub C dX6_readOut_132 ?_
              exact x_iret C E dX6_readOut_133 (fun g e => ⟨⟨_, rfl⟩, by rw [e]; exact ⟨κ, κ9, Z5⟩⟩)
          rcases hr with rfl | rfl
          · exact T112 _
          · exact T112 _
        · refine x_aload_n C dX6_readOut_88 rfl ?_
          refine e_get C Y kd_X6 2 (by decide) wf_X6_26 dX6_readOut_89 Bx rfl ?_
          refine x_iconst (v := 0) C dX6_readOut_92 (by decide) ?_
          refine k_cut (st := []) hX C Y E.cs (by decide) (by decide) Zg 0 dX6_readOut_93 (by decide) (fun g5 Z5 _ => ?_)
          refine x_iconst (v := -1) C dX6_readOut_96 (by decide) ?_
          exact x_iret C E dX6_readOut_97 (fun g e => ⟨⟨_, rfl⟩, by rw [e]; exact ⟨κ, κd, Z5⟩⟩)
      refine x_aload_n C dX6_readOut_62 rfl ?_
      refine e_get C Y kd_X6 1 (by decide) wf_X6_19 dX6_readOut_63 Bx rfl ?_
      refine x_iload_n C dX6_readOut_66 rfl ?_
      refine x_iconst (v := 2) C dX6_readOut_67 (by decide) ?_
      refine x_irem C dX6_readOut_68 (by decide) ?_
      refine x_if_ne (tgt := 77) C dX6_readOut_69 (by decide) (fun _ => ?_) (fun _ => ?_)
      · exact x_bipush (v := 91) C dX6_readOut_77 (by decide) (T79 _)
      · refine x_bipush (v := 123) C dX6_readOut_72 (by decide) ?_
        exact x_goto (tgt := 79) C dX6_readOut_74 (by decide) (T79 _)
  rcases hr with rfl | rfl
  · refine x_if_ne (tgt := 48) C dX6_readOut_43 (by decide) (fun q => absurd rfl q) (fun _ => ?_)
    refine x_iconst (v := -1) C dX6_readOut_46 (by decide) ?_
    exact x_iret C E dX6_readOut_47 (fun g e => ⟨⟨_, rfl⟩, by rw [e]; exact Z3⟩)
  · refine x_if_ne (tgt := 48) C dX6_readOut_43 (by decide) (fun _ => ?_) (fun q => absurd q (by decide))
    refine x_iconst (v := 1) C dX6_readOut_48 (by decide) ?_
    refine o_istore_nE (L' := [some _, some _, some _, none]) C dX6_readOut_49 (by rw [hn]; decide) rfl ?_
    refine x_iconst (v := 0) C dX6_readOut_50 (by decide) ?_
    refine o_istore_nE (L' := [some _, some _, some _, some _]) C dX6_readOut_51 (by rw [hn]; decide) rfl ?_
    exact LP 10 0 1 g3 rfl Z3
end Calls
