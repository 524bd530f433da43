/-! MeterBus, a new one: the calls that refuse or tell little. -/
abbrev IAE : String := "java/lang/IllegalArgumentException"
abbrev UOE : String := "java/lang/UnsupportedOperationException"
abbrev IOE : String := "java/lang/IndexOutOfBoundsException"
theorem exs_IAE : IAE ∈ exs := List.mem_cons_self
theorem exs_UOE : UOE ∈ exs := List.mem_cons_of_mem _ List.mem_cons_self
theorem exs_IOE : IOE ∈ exs := List.mem_cons_of_mem _ (List.mem_cons_of_mem _ List.mem_cons_self)
section Calls
variable {w : Wd} {c : Nat → ClassId} {a : Nat → Nat} {h : PH}
theorem m_isMeterNumber (hW : Wc w c) (k : Int32) : TC w yX6_isMeterNumber cX6_isMeterNumber 1 (some .boolean) 0 [.int k] h (some (.int (bI ((0 : Int32) ≤ k ∧ k < 12)))) h := by
  refine TC.intro hW rfl (by decide +kernel) (Nat.le_of_ble_eq_true rfl) (fun z C Y E hn => ?_)
  refine x_iload_n C dX6_isMeterNumber_0 rfl ?_
  refine x_if_lt (tgt := 14) C dX6_isMeterNumber_1 (by decide) (fun c1 => ?_) (fun c1 => ?_)
  · skip
    refine x_iconst (v := 0) C dX6_isMeterNumber_14 (by decide) ?_
    refine e_zret C E dX6_isMeterNumber_15 (by decide) ?_ ?_
    all_goals first | exact rfl | exact congrArg (fun x => some (Value.int x)) (bI_f (fun g => absurd g.1 (Int32.not_le.mpr c1))).symm | exact congrArg (fun x => some (Value.int x)) (bI_f (fun g => absurd g.2 (Int32.not_lt.mpr c7))).symm | exact congrArg (fun x => some (Value.int x)) (bI_t ⟨Int32.not_lt.mp c1, Int32.not_le.mp c7⟩).symm
  · skip
    refine x_iload_n C dX6_isMeterNumber_4 rfl ?_
    refine x_bipush (v := 12) C dX6_isMeterNumber_5 (by decide) ?_
    refine x_icmp_ge (tgt := 14) C dX6_isMeterNumber_7 (by decide) (fun c7 => ?_) (fun c7 => ?_)
    · skip
      refine x_iconst (v := 0) C dX6_isMeterNumber_14 (by decide) ?_
      refine e_zret C E dX6_isMeterNumber_15 (by decide) ?_ ?_
      all_goals first | exact rfl | exact congrArg (fun x => some (Value.int x)) (bI_f (fun g => absurd g.1 (Int32.not_le.mpr c1))).symm | exact congrArg (fun x => some (Value.int x)) (bI_f (fun g => absurd g.2 (Int32.not_lt.mpr c7))).symm | exact congrArg (fun x => some (Value.int x)) (bI_t ⟨Int32.not_lt.mp c1, Int32.not_le.mp c7⟩).symm
    · skip
      refine x_iconst (v := 1) C dX6_isMeterNumber_10 (by decide) ?_
      refine x_goto (tgt := 15) C dX6_isMeterNumber_11 (by decide) ?_
      refine e_zret C E dX6_isMeterNumber_15 (by decide) ?_ ?_
      all_goals first | exact rfl | exact congrArg (fun x => some (Value.int x)) (bI_f (fun g => absurd g.1 (Int32.not_le.mpr c1))).symm | exact congrArg (fun x => some (Value.int x)) (bI_f (fun g => absurd g.2 (Int32.not_lt.mpr c7))).symm | exact congrArg (fun x => some (Value.int x)) (bI_t ⟨Int32.not_lt.mp c1, Int32.not_le.mp c7⟩).symm
theorem m_isAddressByte (hW : Wc w c) (k : Int32) : TC w yX6_isAddressByte cX6_isAddressByte 1 (some .boolean) 0 [.int k] h (some (.int (bI ((0 : Int32) ≤ k ∧ k ≤ 254)))) h := by
  refine TC.intro hW rfl (by decide +kernel) (Nat.le_of_ble_eq_true rfl) (fun z C Y E hn => ?_)
  refine x_iload_n C dX6_isAddressByte_0 rfl ?_
  refine x_if_lt (tgt := 15) C dX6_isAddressByte_1 (by decide) (fun c1 => ?_) (fun c1 => ?_)
  · skip
    refine x_iconst (v := 0) C dX6_isAddressByte_15 (by decide) ?_
    refine e_zret C E dX6_isAddressByte_16 (by decide) ?_ ?_
    all_goals first | exact rfl | exact congrArg (fun x => some (Value.int x)) (bI_f (fun g => absurd g.1 (Int32.not_le.mpr c1))).symm | exact congrArg (fun x => some (Value.int x)) (bI_f (fun g => absurd g.2 (Int32.not_le.mpr c8))).symm | exact congrArg (fun x => some (Value.int x)) (bI_t ⟨Int32.not_lt.mp c1, Int32.not_lt.mp c8⟩).symm
  · skip
    refine x_iload_n C dX6_isAddressByte_4 rfl ?_
    refine x_sipush (v := 254) C dX6_isAddressByte_5 (by decide) ?_
    refine x_icmp_gt (tgt := 15) C dX6_isAddressByte_8 (by decide) (fun c8 => ?_) (fun c8 => ?_)
    · skip
      refine x_iconst (v := 0) C dX6_isAddressByte_15 (by decide) ?_
      refine e_zret C E dX6_isAddressByte_16 (by decide) ?_ ?_
      all_goals first | exact rfl | exact congrArg (fun x => some (Value.int x)) (bI_f (fun g => absurd g.1 (Int32.not_le.mpr c1))).symm | exact congrArg (fun x => some (Value.int x)) (bI_f (fun g => absurd g.2 (Int32.not_le.mpr c8))).symm | exact congrArg (fun x => some (Value.int x)) (bI_t ⟨Int32.not_lt.mp c1, Int32.not_lt.mp c8⟩).symm
    · skip
      refine x_iconst (v := 1) C dX6_isAddressByte_11 (by decide) ?_
      refine x_goto (tgt := 16) C dX6_isAddressByte_12 (by decide) ?_
      refine e_zret C E dX6_isAddressByte_16 (by decide) ?_ ?_
      all_goals first | exact rfl | exact congrArg (fun x => some (Value.int x)) (bI_f (fun g => absurd g.1 (Int32.not_le.mpr c1))).symm | exact congrArg (fun x => some (Value.int x)) (bI_f (fun g => absurd g.2 (Int32.not_le.mpr c8))).symm | exact congrArg (fun x => some (Value.int x)) (bI_t ⟨Int32.not_lt.mp c1, Int32.not_lt.mp c8⟩).symm
theorem m_isFound0 (hW : Wc w c) (F : FR c a h) (k : Int32) : TC w yX6_isFoundOne cX6_isFoundOne 2 (some .boolean) 0 [.ref (a 0), .int k] h (some (.int 0)) h := by
  refine TC.intro hW rfl (by decide +kernel) (Nat.le_of_ble_eq_true rfl) (fun z C Y E hn => ?_)
  have T22 : X z 0 0 (EQ h) 22 [some (.ref (a 0)), some (.int k)] [] := by
    refine x_iconst (v := 0) C dX6_isFoundOne_22 (by decide) ?_
    refine e_zret C E dX6_isFoundOne_23 (by decide) ?_ ?_
    all_goals rfl
  refine x_iload_n C dX6_isFoundOne_0 rfl ?_
  refine x_if_lt (tgt := 22) C dX6_isFoundOne_1 (by decide) (fun _ => T22) (fun c1 => ?_)
  refine x_iload_n C dX6_isFoundOne_4 rfl ?_
  refine x_aload_n C dX6_isFoundOne_5 rfl ?_
  refine e_get C Y kd_X6 5 (by decide) wf_X6_43 dX6_isFoundOne_6 F.x rfl ?_
  refine x_icmp_ge (tgt := 22) C dX6_isFoundOne_9 (by decide) (fun c9 => ?_) (fun c9 => absurd c9 (not_not_intro (Int32.not_lt.mp c1)))
  exact T22
theorem m_keep (hX : Wx w c) (F : FR c a h) (n : Int32) : TCX w yX6_keep cX6_keep 2 none 1 6 [.ref (a 0), .int n] h (fun r g => ((0 : Int32) ≤ n ∧ n ≤ 0) ∧ r = none ∧ g = h) (fun En g => ¬ ((0 : Int32) ≤ n ∧ n ≤ 0) ∧ En = IAE ∧ g = h) := by
  have hW := hX.1
  refine TCX.intro hX.1 rfl (by decide +kernel) (Nat.le_of_ble_eq_true rfl) (fun z C Y E hn => ?_)
  have T15 : ¬ ((0 : Int32) ≤ n ∧ n ≤ 0) → X z 1 6 (EQ h) 15 [some (.ref (a 0)), some (.int n)] [] := fun g0 => u_thr (kc := 0) (ks := 0) hX C E exs_IAE at_51 wc_X6_47 wz_IllegalArgumentException (show (67, "the buffer has not so many bytes") ∈ txts by simp [txts]) dX6_keep_15 dX6_keep_18 dX6_keep_19 dX6_keep_21 dX6_keep_24 (by decide) (fun g e => ⟨g0, rfl, e⟩)
  refine x_iload_n C dX6_keep_0 rfl ?_
  refine x_if_lt (tgt := 15) C dX6_keep_1 (by decide) (fun c1 => T15 (fun g => absurd g.1 (Int32.not_le.mpr c1))) (fun c1 => ?_)
  refine x_iload_n C dX6_keep_4 rfl ?_
  refine x_aload_n C dX6_keep_5 rfl ?_
  refine e_get C Y kd_X6 0 (by decide) wf_X6_10 dX6_keep_6 F.x rfl ?_
  refine u_callV C Y hW E.1 (r_size hW F.buf) md_X5_size wi_X5_size ws_X5_size wm_X6_54 dX6_keep_9 rfl (by decide) (by decide) F.buf.2.1 rfl rfl (by simp [Value.category]) ?_
  skip
  refine x_icmp_le (tgt := 25) C dX6_keep_12 (by decide) (fun c2 => ?_) (fun c2 => T15 (fun g => absurd g.2 c2))
  have hn0 : n = 0 := Int32.le_antisymm c2 (Int32.not_lt.mp c1)
  subst hn0
  have r0 := r_cutTo hW F.buf 0
  rw [show rCut 0 0 = 0 from by decide, F.buf.same] at r0
  refine x_aload_n C dX6_keep_25 rfl ?_
  refine e_get C Y kd_X6 0 (by decide) wf_X6_10 dX6_keep_26 F.x rfl ?_
  refine x_iload_n C dX6_keep_29 rfl ?_
  refine u_callV C Y hW E.1 (r0) md_X5_cutTo wi_X5_cutTo ws_X5_cutTo wm_X6_69 dX6_keep_30 rfl (by decide) (by decide) F.buf.2.1 rfl rfl (by simp [Value.category]) ?_
  skip
  exact E.go C Y (fun z' C Y E hn => x_vret C E dX6_keep_33 (fun g e => ⟨⟨Int32.le_refl _, Int32.le_refl _⟩, rfl, e⟩))
theorem m_typed (hX : Wx w c) (F : FR c a h) (i : Int32) : TCX w yX6_typed cX6_typed 2 (some .int) 1 6 [.ref (a 0), .int i] h (fun _ _ => False) (fun En g => En = IOE ∧ g = h) := by
  have hW := hX.1
  refine TCX.intro hX.1 rfl (by decide +kernel) (Nat.le_of_ble_eq_true rfl) (fun z C Y E hn => ?_)
  have T15 : X z 1 6 (EQ h) 15 [some (.ref (a 0)), some (.int i)] [] := u_thr (kc := 0) (ks := 0) hX C E exs_IOE at_76 wc_X6_72 wz_IndexOutOfBoundsException (show (74, "no such place") ∈ txts by simp [txts]) dX6_typed_15 dX6_typed_18 dX6_typed_19 dX6_typed_21 dX6_typed_24 (by decide) (fun g e => ⟨rfl, e⟩)
  refine x_iload_n C dX6_typed_0 rfl ?_
  refine x_if_lt (tgt := 15) C dX6_typed_1 (by decide) (fun c1 => T15) (fun c1 => ?_)
  refine x_iload_n C dX6_typed_4 rfl ?_
  refine x_aload_n C dX6_typed_5 rfl ?_
  refine e_get C Y kd_X6 0 (by decide) wf_X6_10 dX6_typed_6 F.x rfl ?_
  refine u_callV C Y hW E.1 (r_size hW F.buf) md_X5_size wi_X5_size ws_X5_size wm_X6_54 dX6_typed_9 rfl (by decide) (by decide) F.buf.2.1 rfl rfl (by simp [Value.category]) ?_
  skip
  exact x_icmp_lt (tgt := 25) C dX6_typed_12 (by decide) (fun c2 => absurd c2 c1) (fun c2 => T15)
theorem m_remove (hX : Wx w c) (F : FR c a h) (k : Int32) : TCX w yX6_remove cX6_remove 3 (some .boolean) 1 6 [.ref (a 0), .int k] h (fun r g => ((0 : Int32) ≤ k ∧ k < 12) ∧ r = some (.int 0) ∧ g = h) (fun En g => ¬ ((0 : Int32) ≤ k ∧ k < 12) ∧ En = IOE ∧ g = h) := by
  have hW := hX.1
  refine TCX.intro hX.1 rfl (by decide +kernel) (Nat.le_of_ble_eq_true rfl) (fun z C Y E hn => ?_)
  refine x_iload_n C dX6_remove_0 rfl ?_
  refine u_callS C hW E.1 (m_isMeterNumber hW k) md_X6_isMeterNumber wt_X6_isMeterNumber wm_X6_81 dX6_remove_1 rfl (by decide) (by decide) rfl (by simp [Value.category]) ?_
  skip
  refine x_if_ne (tgt := 17) C dX6_remove_4 (by decide) (fun c1 => ?_) (fun c1 => ?_)
  · have g0 : (0 : Int32) ≤ k ∧ k < 12 := Decidable.of_not_not (fun g => c1 (bI_f g))
    obtain ⟨j, hj, rfl⟩ := nI_of (Int32.not_lt.mpr g0.1)
    have hj2 : j < 12 := (nI_ltI hj (by decide)).mp g0.2
    refine E.go C Y (fun z' C Y E hn1 => ?_)
    rw [hn] at hn1
    have hn := hn1
    refine x_aload_n C dX6_remove_17 rfl ?_
    refine e_get C Y kd_X6 1 (by decide) wf_X6_19 dX6_remove_18 F.x rfl ?_
    refine x_iload_n C dX6_remove_21 rfl ?_
    refine u_callV C Y hW E.cs (b_meterAt hX F.bus (nI j)) md_X0_meterAt wi_X0_meterAt ws_X0_meterAt wm_X6_114 dX6_remove_22 rfl (by decide) (by decide) F.bus.1 rfl rfl (by simp [Value.category]) ?_
    refine x_ifnullN (tgt := 32) C dX6_remove_25 (by decide) ?_
    refine x_iconst (v := 0) C dX6_remove_32 (by decide) ?_
    refine o_istore_nE (L' := [some _, some _, some _]) C dX6_remove_33 (by rw [hn]; decide) rfl ?_
    refine x_aload_n C dX6_remove_34 rfl ?_
    refine e_get C Y kd_X6 1 (by decide) wf_X6_19 dX6_remove_35 F.x rfl ?_
    refine x_iload_n C dX6_remove_38 rfl ?_
    refine x_null C dX6_remove_39 ?_
    refine u_callV C Y hW E.cs (b_plugN hX F.bus j hj2) md_X0_plug wi_X0_plug ws_X0_plug wm_X6_110 dX6_remove_40 rfl (by decide) (by decide) F.bus.1 rfl rfl (by simp [Value.category]) ?_
    refine x_iload_n C dX6_remove_43 rfl ?_
    exact x_zret C E dX6_remove_44 (by decide) (fun g e => ⟨g0, rfl, e⟩)
  · exact u_thr (kc := 0) (ks := 0) hX C E exs_IOE at_76 wc_X6_72 wz_IndexOutOfBoundsException (show (85, "no such meter") ∈ txts by simp [txts]) dX6_remove_7 dX6_remove_10 dX6_remove_11 dX6_remove_13 dX6_remove_16 (by decide) (fun g e => ⟨fun q => absurd (bI_t q) (by rw [c1]; decide), rfl, e⟩)
theorem m_page (hX : Wx w c) (F : FR c a h) (k i : Int32) : TCX w yX6_page cX6_page 4 (some .int) 1 6 [.ref (a 0), .int k, .int i] h (fun _ _ => False) (fun En g => En = IOE ∧ g = h) := by
  have hW := hX.1
  refine TCX.intro hX.1 rfl (by decide +kernel) (Nat.le_of_ble_eq_true rfl) (fun z C Y E hn => ?_)
  refine x_aload_n C dX6_page_0 rfl ?_
  refine e_get C Y kd_X6 1 (by decide) wf_X6_19 dX6_page_1 F.x rfl ?_
  refine x_iload_n C dX6_page_4 rfl ?_
  refine u_callV C Y hW E.1 (b_meterAt hX F.bus k) md_X0_meterAt wi_X0_meterAt ws_X0_meterAt wm_X6_114 dX6_page_5 rfl (by decide) (by decide) F.bus.1 rfl rfl (by simp [Value.category]) ?_
  refine o_astore_nN (L' := [some _, some _, some _, some _]) C dX6_page_8 (by rw [hn]; decide) rfl ?_
  refine x_aload_nN C dX6_page_9 rfl ?_
  refine x_ifnullN (tgt := 22) C dX6_page_10 (by decide) ?_
  skip
  exact u_thr (kc := 0) (ks := 0) hX C E exs_IOE at_76 wc_X6_72 wz_IndexOutOfBoundsException (show (118, "no such meter or page") ∈ txts by simp [txts]) dX6_page_22 dX6_page_25 dX6_page_26 dX6_page_28 dX6_page_31 (by decide) (fun g e => ⟨rfl, e⟩)
theorem m_state (hX : Wx w c) (F : FR c a h) (k x : Int32) : TCX w yX6_state cX6_state 4 (some .int) 1 6 [.ref (a 0), .int k, .int x] h (fun r g => (((0 : Int32) ≤ k ∧ k < 12) ∧ ((0 : Int32) ≤ x ∧ x ≤ 6)) ∧ r = some (.int 0) ∧ g = h) (fun En g => ¬ (((0 : Int32) ≤ k ∧ k < 12) ∧ ((0 : Int32) ≤ x ∧ x ≤ 6)) ∧ En = IOE ∧ g = h) := by
  have hW := hX.1
  refine TCX.intro hX.1 rfl (by decide +kernel) (Nat.le_of_ble_eq_true rfl) (fun z C Y E hn => ?_)
  have T17 : ¬ (((0 : Int32) ≤ k ∧ k < 12) ∧ ((0 : Int32) ≤ x ∧ x ≤ 6)) → X z 1 6 (EQ h) 17 [some (.ref (a 0)), some (.int k), some (.int x), none] [] := fun g0 => u_thr (kc := 0) (ks := 0) hX C E exs_IOE at_76 wc_X6_72 wz_IndexOutOfBoundsException (show (129, "no such meter or what") ∈ txts by simp [txts]) dX6_state_17 dX6_state_20 dX6_state_21 dX6_state_23 dX6_state_26 (by decide) (fun g e => ⟨g0, rfl, e⟩)
  refine x_iload_n C dX6_state_0 rfl ?_
  refine u_callS C hW E.1 (m_isMeterNumber hW k) md_X6_isMeterNumber wt_X6_isMeterNumber wm_X6_81 dX6_state_1 rfl (by decide) (by decide) rfl (by simp [Value.category]) ?_
  skip
  refine x_if_eq (tgt := 17) C dX6_state_4 (by decide) (fun c4 => T17 (fun q => absurd (bI_t q.1) (by rw [c4]; decide))) (fun c4 => ?_)
  have g0 : (0 : Int32) ≤ k ∧ k < 12 := Decidable.of_not_not (fun g => c4 (bI_f g))
  refine x_iload_n C dX6_state_7 rfl ?_
  refine x_if_lt (tgt := 17) C dX6_state_8 (by decide) (fun c8 => T17 (fun q => absurd q.2.1 (Int32.not_le.mpr c8))) (fun c8 => ?_)
  refine x_iload_n C dX6_state_11 rfl ?_
  refine x_bipush (v := 6) C dX6_state_12 (by decide) ?_
  refine x_icmp_le (tgt := 27) C dX6_state_14 (by decide) (fun c14 => ?_) (fun c14 => T17 (fun q => absurd q.2.2 c14))
  refine E.go C Y (fun z' C Y E hn1 => ?_)
  rw [hn] at hn1
  have hn := hn1
  refine x_aload_n C dX6_state_27 rfl ?_
  refine e_get C Y kd_X6 1 (by decide) wf_X6_19 dX6_state_28 F.x rfl ?_
  refine x_iload_n C dX6_state_31 rfl ?_
  refine u_callV C Y hW E.cs (b_meterAt hX F.bus k) md_X0_meterAt wi_X0_meterAt ws_X0_meterAt wm_X6_114 dX6_state_32 rfl (by decide) (by decide) F.bus.1 rfl rfl (by simp [Value.category]) ?_
  refine o_astore_nN (L' := [some _, some _, some _, some _]) C dX6_state_35 (by rw [hn]; decide) rfl ?_
  refine x_aload_nN C dX6_state_36 rfl ?_
  refine x_ifnonnullN C dX6_state_37 ?_
  refine x_iconst (v := 0) C dX6_state_40 (by decide) ?_
  refine x_goto (tgt := 49) C dX6_state_41 (by decide) ?_
  exact x_iret C E dX6_state_49 (fun g e => ⟨⟨g0, Int32.not_lt.mp c8, c14⟩, rfl, e⟩)
theorem m_found (hX : Wx w c) (F : FR c a h) (k i : Int32) : TCX w yX6_found cX6_found 3 (some .int) 1 6 [.ref (a 0), .int k, .int i] h (fun _ _ => False) (fun En g => En = IOE ∧ g = h) := by
  have hW := hX.1
  refine TCX.intro hX.1 rfl (by decide +kernel) (Nat.le_of_ble_eq_true rfl) (fun z C Y E hn => ?_)
  refine x_aload_n C dX6_found_0 rfl ?_
  refine x_iload_n C dX6_found_1 rfl ?_
  refine u_callV C Y hW E.1 (m_isFound0 hW F k) md_X6_isFoundOne wi_X6_isFoundOne ws_X6_isFoundOne wm_X6_151 dX6_found_2 rfl (by decide) (by decide) F.x rfl rfl (by simp [Value.category]) ?_
  refine x_if_eq (tgt := 18) C dX6_found_5 (by decide) (fun c5 => ?_) (fun c5 => absurd c5 (not_not_intro rfl))
  skip
  exact u_thr (kc := 0) (ks := 0) hX C E exs_IOE at_76 wc_X6_72 wz_IndexOutOfBoundsException (show (154, "no such found one or byte") ∈ txts by simp [txts]) dX6_found_18 dX6_found_21 dX6_found_22 dX6_found_24 dX6_found_27 (by decide) (fun g e => ⟨rfl, e⟩)
theorem m_readOut (hX : Wx w c) (F : FR c a h) (k : Int32) : TCX w yX6_readOut cX6_readOut 4 (some .int) 1 6 [.ref (a 0), .int k] h (fun _ _ => False) (fun En g => En = IOE ∧ g = h) := by
  have hW := hX.1
  refine TCX.intro hX.1 rfl (by decide +kernel) (Nat.le_of_ble_eq_true rfl) (fun z C Y E hn => ?_)
  refine x_aload_n C dX6_readOut_0 rfl ?_
  refine x_iload_n C dX6_readOut_1 rfl ?_
  refine u_callV C Y hW E.1 (m_isFound0 hW F k) md_X6_isFoundOne wi_X6_isFoundOne ws_X6_isFoundOne wm_X6_151 dX6_readOut_2 rfl (by decide) (by decide) F.x rfl rfl (by simp [Value.category]) ?_
  refine x_if_ne (tgt := 18) C dX6_readOut_5 (by decide) (fun c5 => absurd c5 (by decide)) (fun c5 => ?_)
  skip
  exact u_thr (kc := 0) (ks := 0) hX C E exs_IOE at_76 wc_X6_72 wz_IndexOutOfBoundsException (show (156, "no such found one") ∈ txts by simp [txts]) dX6_readOut_8 dX6_readOut_11 dX6_readOut_12 dX6_readOut_14 dX6_readOut_17 (by decide) (fun g e => ⟨rfl, e⟩)
theorem m_record (hX : Wx w c) (F : FR c a h) (k i : Int32) : TCX w yX6_record cX6_record 4 (some .long) 1 6 [.ref (a 0), .int k, .int i] h (fun _ _ => False) (fun En g => En = IOE ∧ g = h) := by
  have hW := hX.1
  refine TCX.intro hX.1 rfl (by decide +kernel) (Nat.le_of_ble_eq_true rfl) (fun z C Y E hn => ?_)
  refine x_aload_n C dX6_record_0 rfl ?_
  refine e_get C Y kd_X6 2 (by decide) wf_X6_26 dX6_record_1 F.x rfl ?_
  refine x_iload_n C dX6_record_4 rfl ?_
  refine u_callV C Y hW E.1 (l_at0 hW F.lst k) md_X4_at wi_X4_at ws_X4_at wm_X6_185 dX6_record_5 rfl (by decide) (by decide) F.lst rfl rfl (by simp [Value.category]) ?_
  refine o_astore_nN (L' := [some _, some _, some _, some _]) C dX6_record_8 (by rw [hn]; decide) rfl ?_
  refine x_aload_nN C dX6_record_9 rfl ?_
  refine x_ifnullN (tgt := 28) C dX6_record_10 (by decide) ?_
  skip
  exact u_thr (kc := 0) (ks := 0) hX C E exs_IOE at_76 wc_X6_72 wz_IndexOutOfBoundsException (show (193, "no such record or what") ∈ txts by simp [txts]) dX6_record_28 dX6_record_31 dX6_record_32 dX6_record_34 dX6_record_37 (by decide) (fun g e => ⟨rfl, e⟩)
theorem m_text (hX : Wx w c) (F : FR c a h) (k i : Int32) : TCX w yX6_text cX6_text 4 (some .int) 1 6 [.ref (a 0), .int k, .int i] h (fun _ _ => False) (fun En g => En = IOE ∧ g = h) := by
  have hW := hX.1
  refine TCX.intro hX.1 rfl (by decide +kernel) (Nat.le_of_ble_eq_true rfl) (fun z C Y E hn => ?_)
  refine x_aload_n C dX6_text_0 rfl ?_
  refine e_get C Y kd_X6 2 (by decide) wf_X6_26 dX6_text_1 F.x rfl ?_
  refine x_iload_n C dX6_text_4 rfl ?_
  refine u_callV C Y hW E.1 (l_at0 hW F.lst k) md_X4_at wi_X4_at ws_X4_at wm_X6_185 dX6_text_5 rfl (by decide) (by decide) F.lst rfl rfl (by simp [Value.category]) ?_
  refine o_astore_nN (L' := [some _, some _, some _, some _]) C dX6_text_8 (by rw [hn]; decide) rfl ?_
  refine x_aload_nN C dX6_text_9 rfl ?_
  refine x_ifnullN (tgt := 25) C dX6_text_10 (by decide) ?_
  skip
  exact u_thr (kc := 0) (ks := 0) hX C E exs_IOE at_76 wc_X6_72 wz_IndexOutOfBoundsException (show (201, "no such record or byte of a text") ∈ txts by simp [txts]) dX6_text_25 dX6_text_28 dX6_text_29 dX6_text_31 dX6_text_34 (by decide) (fun g e => ⟨rfl, e⟩)
end Calls
