/-! MeterBus, a new one: the other calls. -/
section Calls
variable {w : Wd} {c : Nat → ClassId} {a : Nat → Nat} {h : PH}
theorem m_place (hX : Wx w c) (F : FR c a h) : TC w yX6_place cX6_place 1 (some .int) 1 [.ref (a 0)] h (some (.int (-1))) h := by
  have hW := hX.1
  refine TC.intro hX.1 rfl (by decide +kernel) (Nat.le_of_ble_eq_true rfl) (fun z C Y E hn => ?_)
  refine x_aload_n C dX6_place_0 rfl ?_
  refine e_get C Y kd_X6 3 (by decide) wf_X6_35 dX6_place_1 F.x rfl ?_
  refine e_callV C Y hW E (d_placeOf hW F.dec) md_X1_lastFaultPlace wi_X1_lastFaultPlace ws_X1_lastFaultPlace wm_X6_182 dX6_place_4 rfl (by decide) (by decide) F.dec rfl rfl (by simp [Value.category]) ?_
  refine e_iret C E dX6_place_7 ?_ ?_
  all_goals rfl
theorem m_clear (hX : Wx w c) (F : FR c a h) : TC w yX6_clear cX6_clear 2 (some .int) 1 [.ref (a 0)] h (some (.int 0)) h := by
  have hW := hX.1
  refine TC.intro hX.1 rfl (by decide +kernel) (Nat.le_of_ble_eq_true rfl) (fun z C Y E hn => ?_)
  refine x_aload_n C dX6_clear_0 rfl ?_
  refine e_get C Y kd_X6 2 (by decide) wf_X6_26 dX6_clear_1 F.x rfl ?_
  refine e_callV C Y hW E (l_size hW F.lst) md_X4_size wi_X4_size ws_X4_size wm_X6_181 dX6_clear_4 rfl (by decide) (by decide) F.lst rfl rfl (by simp [Value.category]) ?_
  refine o_istore_nE (L' := [some _, some _]) C dX6_clear_7 (by rw [hn]; decide) rfl ?_
  refine x_aload_n C dX6_clear_8 rfl ?_
  refine e_get C Y kd_X6 2 (by decide) wf_X6_26 dX6_clear_9 F.x rfl ?_
  refine x_iconst (v := 0) C dX6_clear_12 (by decide) ?_
  refine e_callV C Y hW E (l_cut0 hW F.lst) md_X4_cutTo wi_X4_cutTo ws_X4_cutTo wm_X6_158 dX6_clear_13 rfl (by decide) (by decide) F.lst rfl rfl (by simp [Value.category]) ?_
  refine x_iload_n C dX6_clear_16 rfl ?_
  refine e_iret C E dX6_clear_17 ?_ ?_
  all_goals rfl
theorem m_decode (hX : Wx w c) (F : FR c a h) : TC w yX6_decode cX6_decode 1 (some .int) 3 [.ref (a 0)] h (some (.int (-1))) (hs h (a 9) (.inr (1, [.ref (a 7), .ref (a 1), .int 19, .int 0, .int 1, .int 0, .int 0]))) := by
  have hW := hX.1
  refine TC.intro hX.1 rfl (by decide +kernel) (Nat.le_of_ble_eq_true rfl) (fun z C Y E hn => ?_)
  have n0 : a 0 ≠ a 9 := HL.dif F 10 1 rfl rfl (by decide)
  have F9 : hs h (a 9) (.inr (1, [.ref (a 7), .ref (a 1), .int 19, .int 0, .int 1, .int 0, .int 0])) (a 0) = some (.inr (6, [.ref (a 1), .ref (a 3), .ref (a 7), .ref (a 9), .ref (a 10), .int 0])) := by rw [hs_ne n0]; exact F.x
  refine x_aload_n C dX6_decode_0 rfl ?_
  refine e_get C Y kd_X6 3 (by decide) wf_X6_35 dX6_decode_1 F.x rfl ?_
  refine x_aload_n C dX6_decode_4 rfl ?_
  refine e_get C Y kd_X6 0 (by decide) wf_X6_10 dX6_decode_5 F.x rfl ?_
  refine e_callV C Y hW E (d_reads0 hW F.dec F.buf F.lst (HL.dif F 1 9 rfl rfl (by decide)) (HL.dif F 1 8 rfl rfl (by decide)) (HL.dif F 1 3 rfl rfl (by decide))) md_X1_reads wi_X1_reads ws_X1_reads wm_X6_170 dX6_decode_8 rfl (by decide) (by decide) F.dec rfl rfl (by simp [Value.category]) ?_
  refine x_if_eq (tgt := 24) C dX6_decode_11 (by decide) (fun c11 => ?_) (fun c11 => absurd c11 (not_not_intro rfl))
  refine x_aload_n C dX6_decode_24 rfl ?_
  refine e_get C Y kd_X6 3 (by decide) wf_X6_35 dX6_decode_25 F9 rfl ?_
  refine e_callV C Y hW E (d_faultOf hW rfl (hs_self ..)) md_X1_lastFault wi_X1_lastFault ws_X1_lastFault wm_X6_174 dX6_decode_28 rfl (by decide) (by decide) (hs_self ..) rfl rfl (by simp [Value.category]) ?_
  refine x_ineg C dX6_decode_31 ?_
  refine e_iret C E dX6_decode_32 ?_ ?_
  all_goals rfl
theorem m_send (hX : Wx w c) (F : FR c a h) : T w gw yX6_send cX6_send 2 (some .int) 4 (40 * 4) 0 0 [.ref (a 0)] (EQ h) (fun r g => r = some (.int 0) ∧ ∀ q, q ≠ a 1 → q ≠ a 2 → q ≠ a 3 → g q = h q) := by
  have hW := hX.1
  refine TA.intro hX.1 rfl (by decide +kernel) (Nat.le_of_ble_eq_true rfl) (fun z C Y E hn h1 hA => ?_)
  subst hA
  have e1 : ∀ {i x : Nat}, ((clsL c a).map Prod.fst)[i]? = some x → i ≠ 7 → x ≠ a 3 := fun hi n => HL.dif F _ 7 hi rfl n
  have k1 : ∀ {x e}, x ≠ a 3 → hs h1 (a 3) e x = h1 x := fun n => hs_ne n
  generalize hh : hs h1 (a 3) (.inr (0, [.ref (a 4), .ref (a 5), .int (0 + 1), .int 0])) = h2
  have Fx2 : h2 (a 0) = some (.inr (6, [.ref (a 1), .ref (a 3), .ref (a 7), .ref (a 9), .ref (a 10), .int 0])) := by rw [← hh, k1 (e1 (i := 10) rfl (by decide))]; exact F.x
  have B2 : h2 (a 3) = some (.inr (0, [.ref (a 4), .ref (a 5), .int (0 + 1), .int 0])) := by rw [← hh]; exact hs_self ..
  have R2 : RW c h2 (a 1) (a 2) (fun _ => 0) 0 := ⟨F.buf.1, by rw [← hh, k1 (e1 (i := 9) rfl (by decide))]; exact F.buf.2.1, by rw [← hh, k1 (e1 (i := 8) rfl (by decide))]; exact F.buf.2.2.1, by decide⟩
  have R3 : RW c h2 (a 5) (a 6) (fun _ => 0) 0 := ⟨F.ans.1, by rw [← hh, k1 (e1 (i := 5) rfl (by decide))]; exact F.ans.2.1, by rw [← hh, k1 (e1 (i := 4) rfl (by decide))]; exact F.ans.2.2.1, by decide⟩
  have q1 := b_put hX F.bus F.ans (HL.dif F 7 5 rfl rfl (by decide)) (HL.dif F 7 4 rfl rfl (by decide)) (HL.dif F 7 6 rfl rfl (by decide)) F.buf
  rw [hh] at q1
  have B2' : BE c h2 (a 3) (a 4) (a 5) (0 + 1) 0 := ⟨B2, by rw [← hh, k1 (e1 (i := 6) rfl (by decide))]; exact F.bus.2⟩
  refine x_aload_n C dX6_send_0 rfl ?_
  refine e_get C Y kd_X6 1 (by decide) wf_X6_19 dX6_send_1 F.x rfl ?_
  refine x_aload_n C dX6_send_4 rfl ?_
  refine e_get C Y kd_X6 0 (by decide) wf_X6_10 dX6_send_5 F.x rfl ?_
  refine u_callV C Y hW E.cs (q1) md_X0_put wi_X0_put ws_X0_put wm_X6_134 dX6_send_8 rfl (by decide) (by decide) F.bus.1 rfl rfl (by simp [Value.category]) ?_
  refine o_istore_nE (L' := [some _, some _]) C dX6_send_11 (by rw [hn]; decide) rfl ?_
  refine x_aload_n C dX6_send_12 rfl ?_
  refine e_get C Y kd_X6 0 (by decide) wf_X6_10 dX6_send_13 Fx2 rfl ?_
  refine x_aload_n C dX6_send_16 rfl ?_
  refine e_get C Y kd_X6 1 (by decide) wf_X6_19 dX6_send_17 Fx2 rfl ?_
  refine u_callV C Y hW E.cs (b_lastAnswer hX B2') md_X0_lastAnswer wi_X0_lastAnswer ws_X0_lastAnswer wm_X6_138 dX6_send_20 rfl (by decide) (by decide) B2 rfl rfl (by simp [Value.category]) ?_
  refine u_callV C Y hW E.cs (r_become hW R2 R3 (HL.dif F 5 9 rfl rfl (by decide)) (HL.dif F 5 8 rfl rfl (by decide)) (HL.dif F 4 9 rfl rfl (by decide)) (HL.dif F 4 8 rfl rfl (by decide))) md_X5_become wi_X5_become ws_X5_become wm_X6_142 dX6_send_23 rfl (by decide) (by decide) R2.2.1 rfl rfl (by simp [Value.category]) ?_
  refine x_iload_n C dX6_send_26 rfl ?_
  skip
  exact x_iret C E dX6_send_27 (fun g e => ⟨rfl, fun q n1 n2 n3 => by rw [e, rw_ne n1 n2, ← hh, k1 n3]⟩)
theorem m_probe0 (hX : Wx w c) (F : FR c a h) (k : Int64) : TC w yX6_probe cX6_probe 7 none 3 [.ref (a 0), .int 0, .long k] h none (hs h (a 3) (.inr (0, [.ref (a 4), .ref (a 5), .int (0 + 1), .int 0]))) := by
  have hW := hX.1
  refine TC.intro hX.1 rfl (by decide +kernel) (Nat.le_of_ble_eq_true rfl) (fun z C Y E hn => ?_)
  refine x_aload_n C dX6_probe_0 rfl ?_
  refine e_get C Y kd_X6 1 (by decide) wf_X6_19 dX6_probe_1 F.x rfl ?_
  refine x_lload_n C dX6_probe_4 rfl ?_
  refine e_callV C Y hW E (b_putSelect hX F.bus F.ans (HL.dif F 7 5 rfl rfl (by decide)) (HL.dif F 7 4 rfl rfl (by decide)) (HL.dif F 7 6 rfl rfl (by decide)) k) md_X0_putSelect wi_X0_putSelect ws_X0_putSelect wm_X6_217 dX6_probe_5 rfl (by decide) (by decide) F.bus.1 rfl rfl (by simp [Value.category]) ?_
  refine o_istoreE (L' := [some _, some _, some _, none, some _, none, none]) C dX6_probe_8 (by rw [hn]; decide) rfl ?_
  refine x_iload C dX6_probe_10 rfl ?_
  refine x_iconst (v := 1) C dX6_probe_12 (by decide) ?_
  refine x_icmp_ne (tgt := 28) C dX6_probe_13 (by decide) (fun c13 => ?_) (fun c13 => absurd c13 (by decide))
  refine x_iload C dX6_probe_28 rfl ?_
  refine x_bipush (v := (-2)) C dX6_probe_30 (by decide) ?_
  refine x_icmp_ne (tgt := 87) C dX6_probe_32 (by decide) (fun c32 => ?_) (fun c32 => absurd c32 (by decide))
  refine e_vret C E dX6_probe_87 ?_ ?_
  all_goals rfl
theorem m_search (hX : Wx w c) (F : FR c a h) : T w gw yX6_search cX6_search 1 (some .int) 4 (40 * 4) 0 0 [.ref (a 0)] (EQ h) (fun r g => r = some (.int 0) ∧ ∀ q, q ≠ a 0 → q ≠ a 3 → g q = h q) := by
  have hW := hX.1
  refine TA.intro hX.1 rfl (by decide +kernel) (Nat.le_of_ble_eq_true rfl) (fun z C Y E hn h1 hA => ?_)
  subst hA
  have e0 : hs h1 (a 0) (.inr (6, [.ref (a 1), .ref (a 3), .ref (a 7), .ref (a 9), .ref (a 10), .int 0])) = h1 := hs_same F.x
  have Fx2 : hs h1 (a 3) (.inr (0, [.ref (a 4), .ref (a 5), .int (0 + 1), .int 0])) (a 0) = some (.inr (6, [.ref (a 1), .ref (a 3), .ref (a 7), .ref (a 9), .ref (a 10), .int 0])) := by rw [hs_ne (HL.dif F 10 7 rfl rfl (by decide))]; exact F.x
  refine x_aload_n C dX6_search_0 rfl ?_
  refine x_iconst (v := 0) C dX6_search_1 (by decide) ?_
  refine e_put C Y kd_X6 5 (by decide) rfl wf_X6_43 dX6_search_2 F.x (Nat.le_of_ble_eq_true rfl) rfl rfl e0 ?_
  refine x_aload_n C dX6_search_5 rfl ?_
  refine x_iconst (v := 0) C dX6_search_6 (by decide) ?_
  refine x_ldc2 C wk_X6_146 dX6_search_7 ?_
  refine u_callV C Y hW E.cs (m_probe0 hX F _) md_X6_probe wi_X6_probe ws_X6_probe wm_X6_148 dX6_search_10 rfl (by decide) (by decide) F.x rfl rfl (by simp [Value.category]) ?_
  refine x_aload_n C dX6_search_13 rfl ?_
  refine e_get C Y kd_X6 5 (by decide) wf_X6_43 dX6_search_14 Fx2 rfl ?_
  skip
  exact x_iret C E dX6_search_17 (fun g e => ⟨rfl, fun q n1 n2 => by rw [e, hs_ne n2]⟩)
theorem m_count (hX : Wx w c) (F : FR c a h) (x : Int32) : TCX w yX6_count cX6_count 2 (some .int) 1 6 [.ref (a 0), .int x] h (fun r g => ((0 : Int32) ≤ x ∧ x ≤ 5) ∧ r = some (.int 0) ∧ g = h) (fun En g => ¬ ((0 : Int32) ≤ x ∧ x ≤ 5) ∧ En = IOE ∧ g = h) := by
  have hW := hX.1
  refine TCX.intro hX.1 rfl (by decide +kernel) (Nat.le_of_ble_eq_true rfl) (fun z C Y E hn => ?_)
  refine x_iload_n C dX6_count_0 rfl ?_
  by_cases g0 : (0 : Int32) ≤ x ∧ x ≤ 5
  · obtain ⟨j, hj, rfl⟩ := nI_of (Int32.not_lt.mpr g0.1)
    have hj2 : j ≤ 5 := Nat.le_of_not_lt (fun g => absurd (nI_lt g hj) (Int32.not_lt.mpr g0.2))
    refine E.go C Y (fun z' C Y E hn1 => ?_)
    rcases (show j = 0 ∨ j = 1 ∨ j = 2 ∨ j = 3 ∨ j = 4 ∨ j = 5 by omega) with rfl | rfl | rfl | rfl | rfl | rfl
    · skip
      refine x_tblIn (tgt := 40) (off := 39) C dX6_count_1 (by decide) (by decide) (by decide) (by decide) ?_
      refine x_aload_n C dX6_count_40 rfl ?_
      refine e_get C Y kd_X6 1 (by decide) wf_X6_19 dX6_count_41 F.x rfl ?_
      refine u_callV C Y hW E.cs (b_meterNumber hX F.bus) md_X0_meterNumber wi_X0_meterNumber ws_X0_meterNumber wm_X6_206 dX6_count_44 rfl (by decide) (by decide) F.bus.1 rfl rfl (by simp [Value.category]) ?_
      exact x_iret C E dX6_count_47 (fun g e => ⟨g0, rfl, e⟩)
    · skip
      refine x_tblIn (tgt := 48) (off := 47) C dX6_count_1 (by decide) (by decide) (by decide) (by decide) ?_
      refine x_aload_n C dX6_count_48 rfl ?_
      refine e_get C Y kd_X6 0 (by decide) wf_X6_10 dX6_count_49 F.x rfl ?_
      refine u_callV C Y hW E.cs (r_size hW F.buf) md_X5_size wi_X5_size ws_X5_size wm_X6_54 dX6_count_52 rfl (by decide) (by decide) F.buf.2.1 rfl rfl (by simp [Value.category]) ?_
      exact x_iret C E dX6_count_55 (fun g e => ⟨g0, rfl, e⟩)
    · skip
      refine x_tblIn (tgt := 56) (off := 55) C dX6_count_1 (by decide) (by decide) (by decide) (by decide) ?_
      refine x_aload_n C dX6_count_56 rfl ?_
      refine e_get C Y kd_X6 5 (by decide) wf_X6_43 dX6_count_57 F.x rfl ?_
      exact x_iret C E dX6_count_60 (fun g e => ⟨g0, rfl, e⟩)
    · skip
      refine x_tblIn (tgt := 61) (off := 60) C dX6_count_1 (by decide) (by decide) (by decide) (by decide) ?_
      refine x_aload_n C dX6_count_61 rfl ?_
      refine e_get C Y kd_X6 2 (by decide) wf_X6_26 dX6_count_62 F.x rfl ?_
      refine u_callV C Y hW E.cs (l_size hW F.lst) md_X4_size wi_X4_size ws_X4_size wm_X6_181 dX6_count_65 rfl (by decide) (by decide) F.lst rfl rfl (by simp [Value.category]) ?_
      exact x_iret C E dX6_count_68 (fun g e => ⟨g0, rfl, e⟩)
    · skip
      refine x_tblIn (tgt := 69) (off := 68) C dX6_count_1 (by decide) (by decide) (by decide) (by decide) ?_
      refine x_aload_n C dX6_count_69 rfl ?_
      refine e_get C Y kd_X6 1 (by decide) wf_X6_19 dX6_count_70 F.x rfl ?_
      refine u_callV C Y hW E.cs (b_frameNumber hX F.bus) md_X0_frameNumber wi_X0_frameNumber ws_X0_frameNumber wm_X6_209 dX6_count_73 rfl (by decide) (by decide) F.bus.1 rfl rfl (by simp [Value.category]) ?_
      exact x_iret C E dX6_count_76 (fun g e => ⟨g0, rfl, e⟩)
    · skip
      refine x_tblIn (tgt := 77) (off := 76) C dX6_count_1 (by decide) (by decide) (by decide) (by decide) ?_
      refine x_aload_n C dX6_count_77 rfl ?_
      refine e_get C Y kd_X6 1 (by decide) wf_X6_19 dX6_count_78 F.x rfl ?_
      refine u_callV C Y hW E.cs (b_collisionNumber hX F.bus) md_X0_collisionNumber wi_X0_collisionNumber ws_X0_collisionNumber wm_X6_212 dX6_count_81 rfl (by decide) (by decide) F.bus.1 rfl rfl (by simp [Value.category]) ?_
      exact x_iret C E dX6_count_84 (fun g e => ⟨g0, rfl, e⟩)
  · skip
    refine x_tblOut (tgt := 85) C dX6_count_1 (outR g0) (by decide) ?_
    skip
    exact u_thr (kc := 0) (ks := 0) hX C E exs_IOE at_76 wc_X6_72 wz_IndexOutOfBoundsException (show (215, "no such what") ∈ txts by simp [txts]) dX6_count_85 dX6_count_88 dX6_count_89 dX6_count_91 dX6_count_94 (by decide) (fun g e => ⟨g0, rfl, e⟩)
theorem m_type (hX : Wx w c) (F : FR c a h) (b : Int64) (n : Int32) : TCX w yX6_type cX6_type 5 (some .int) 1 6 [.ref (a 0), .long b, .int n] h (fun r g => ((1 : Int32) ≤ n ∧ n ≤ 8) ∧ r = some (.int n) ∧ ∀ q, q ≠ a 1 → q ≠ a 2 → g q = h q) (fun En g => ¬ ((1 : Int32) ≤ n ∧ n ≤ 8) ∧ En = IAE ∧ g = h) := by
  have hW := hX.1
  refine TCX.intro hX.1 rfl (by decide +kernel) (Nat.le_of_ble_eq_true rfl) (fun z C Y E hn => ?_)
  have T11 : ¬ ((1 : Int32) ≤ n ∧ n ≤ 8) → X z 1 6 (EQ h) 11 [some (.ref (a 0)), some (.long b), none, some (.int n), none] [] := fun g0 => u_thr (kc := 0) (ks := 0) hX C E exs_IAE at_51 wc_X6_47 wz_IllegalArgumentException (show (49, "n is not 1 .. 8") ∈ txts by simp [txts]) dX6_type_11 dX6_type_14 dX6_type_15 dX6_type_17 dX6_type_20 (by decide) (fun g e => ⟨g0, rfl, e⟩)
  refine x_iload_n C dX6_type_0 rfl ?_
  refine x_iconst (v := 1) C dX6_type_1 (by decide) ?_
  refine x_icmp_lt (tgt := 11) C dX6_type_2 (by decide) (fun c2 => T11 (fun g => absurd g.1 (Int32.not_le.mpr c2))) (fun c2 => ?_)
  refine x_iload_n C dX6_type_5 rfl ?_
  refine x_bipush (v := 8) C dX6_type_6 (by decide) ?_
  refine x_icmp_le (tgt := 21) C dX6_type_8 (by decide) (fun c8 => ?_) (fun c8 => T11 (fun g => absurd g.2 c8))
  have g0 : (1 : Int32) ≤ n ∧ n ≤ 8 := ⟨Int32.not_lt.mp c2, c8⟩
  obtain ⟨m, hm, rfl⟩ := nI_of (x := n) (Int32.not_lt.mpr (Int32.le_trans (by decide) g0.1))
  have hm8 : m ≤ 8 := Nat.le_of_not_lt (fun g => absurd (nI_lt g hm) (Int32.not_lt.mpr c8))
  refine E.go C Y (fun z' C Y E hn1 => ?_)
  rw [hn] at hn1
  have hn := hn1
  have n1 : a 0 ≠ a 1 := HL.dif F 10 9 rfl rfl (by decide)
  have n2 : a 0 ≠ a 2 := HL.dif F 10 8 rfl rfl (by decide)
  have Fx : ∀ f k, rowh c h (a 1) (a 2) f k (a 0) = some (.inr (6, [.ref (a 1), .ref (a 3), .ref (a 7), .ref (a 9), .ref (a 10), .int 0])) := fun f k => by rw [rw_ne n1 n2]; exact F.x
  have Rx : ∀ f k, k ≤ 300 → RW c (rowh c h (a 1) (a 2) f k) (a 1) (a 2) f k := fun f k hk => RW.of F.buf.1 hk
  have LP : ∀ (rem j : Nat) (f : Nat → Int32), j + rem = m → X z' 1 6 (EQ (rowh c h (a 1) (a 2) f j)) 51 [some (.ref (a 0)), some (.long b), none, some (.int (nI m)), some (.int (nI rem - 1))] [] := by
    intro rem
    induction rem with
    | zero =>
      intro j f hj
      obtain rfl : j = m := by omega
      refine x_iload C dX6_type_51 rfl ?_
      refine x_if_lt (tgt := 77) C dX6_type_53 (by decide) (fun c53 => ?_) (fun c53 => absurd c53 (not_not_intro (by decide)))
      refine x_aload_n C dX6_type_77 rfl ?_
      refine e_get C Y kd_X6 0 (by decide) wf_X6_10 dX6_type_78 (Fx f j) rfl ?_
      refine u_callV C Y hW E.cs (r_size hW (Rx f j (by omega))) md_X5_size wi_X5_size ws_X5_size wm_X6_54 dX6_type_81 rfl (by decide) (by decide) (Rx f j (by omega)).2.1 rfl rfl (by simp [Value.category]) ?_
      skip
      exact x_iret C E dX6_type_84 (fun g e => ⟨g0, rfl, fun q n1 n2 => by rw [e, rw_ne n1 n2]⟩)
    | succ rem ih =>
      intro j f hj
      have e1 : nI (rem + 1) - 1 = nI rem := by rw [← nI_1]; exact Int32.add_sub_cancel ..
      rw [e1]
      have ha : ∀ x : Int32, TC w yX5_add cX5_add 2 none 0 [.ref (a 1), .int x] (rowh c h (a 1) (a 2) f j) none (rowh c h (a 1) (a 2) (rAdd f j x) (j + 1)) := fun x => by
        have := r_add hW (Rx f j (by omega)) x
        rw [rw_rw F.buf.1, show rNum j = j + 1 from if_pos (by omega)] at this
        exact this
      refine x_iload C dX6_type_51 rfl ?_
      refine x_if_lt (tgt := 77) C dX6_type_53 (by decide) (fun c53 => absurd c53 (nI_pos (by omega))) (fun c53 => ?_)
      refine x_aload_n C dX6_type_56 rfl ?_
      refine e_get C Y kd_X6 0 (by decide) wf_X6_10 dX6_type_57 (Fx f j) rfl ?_
      refine x_lload_n C dX6_type_60 rfl ?_
      refine x_bipush (v := 8) C dX6_type_61 (by decide) ?_
      refine x_iload C dX6_type_63 rfl ?_
      refine x_imul C dX6_type_65 ?_
      refine x_lushr C dX6_type_66 ?_
      refine x_l2i C dX6_type_67 ?_
      refine u_callV C Y hW E.cs (ha _) md_X5_add wi_X5_add ws_X5_add wm_X6_63 dX6_type_68 rfl (by decide) (by decide) (Rx f j (by omega)).2.1 rfl rfl (by simp [Value.category]) ?_
      refine o_iincE (v := nI rem - 1) (L' := [some _, some _, none, some _, some _]) C dX6_type_71 rfl (by rw [Int32.sub_eq_add_neg]; rfl) (by rw [hn]; decide) rfl ?_
      refine x_goto (tgt := 51) C dX6_type_74 (by decide) ?_
      exact ih (j + 1) _ (by omega)
  have hc33 : nI 0 + nI m ≤ (300 : Int32) := by rw [nI_add]; exact nI_le (show 0 + m ≤ 300 by omega) (by decide)
  have h0 : h = rowh c h (a 1) (a 2) (fun _ => 0) 0 := F.buf.same.symm
  refine x_aload_n C dX6_type_21 rfl ?_
  refine e_get C Y kd_X6 0 (by decide) wf_X6_10 dX6_type_22 F.x rfl ?_
  refine u_callV C Y hW E.cs (r_size hW F.buf) md_X5_size wi_X5_size ws_X5_size wm_X6_54 dX6_type_25 rfl (by decide) (by decide) F.buf.2.1 rfl rfl (by simp [Value.category]) ?_
  refine x_iload_n C dX6_type_28 rfl ?_
  refine x_iadd C dX6_type_29 ?_
  refine x_sipush (v := 300) C dX6_type_30 (by decide) ?_
  refine x_icmp_le (tgt := 46) C dX6_type_33 (by decide) (fun c33 => ?_) (fun c33 => absurd c33 (not_not_intro hc33))
  refine x_iload_n C dX6_type_46 rfl ?_
  refine x_iconst (v := 1) C dX6_type_47 (by decide) ?_
  refine x_isub C dX6_type_48 ?_
  refine o_istoreE (L' := [some _, some _, none, some _, some _]) C dX6_type_49 (by rw [hn]; decide) rfl ?_
  skip
  rw [h0]
  exact LP m 0 _ (Nat.zero_add m)
end Calls
