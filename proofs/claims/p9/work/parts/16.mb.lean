section
/-! MeterBus, a new one: the calls that refuse or tell little. -/
abbrev IAE : String := "java/lang/IllegalArgumentException"
abbrev UOE : String := "java/lang/UnsupportedOperationException"
abbrev IOE : String := "java/lang/IndexOutOfBoundsException"
theorem exs_IAE : IAE ∈ exs := List.mem_cons_self
theorem exs_UOE : UOE ∈ exs := List.mem_cons_of_mem _ List.mem_cons_self
theorem exs_IOE : IOE ∈ exs := List.mem_cons_of_mem _ (List.mem_cons_of_mem _ List.mem_cons_self)
section Calls
variable {w : Wd} {c : Nat → ClassId} {a : Nat → Nat} {h : PH}
theorem m_isMeterNumber (hW : Wc w c) (k : Int32) : TC w yX6_isMeterNumber cX6_isMeterNumber 1 (some .boolean) 0 [.int k] h (some (.int (bI ((0 : Int32) ≤ k ∧ k < 12)))) h := by
  refine TC.intro hW rfl (by decide +kernel) (Nat.le_of_ble_eq_true rfl) (fun z C Y E hn => ?_)
  refine x_iload_n C dX6_isMeterNumber_0 rfl ?_
  refine x_if_lt (tgt := 14) C dX6_isMeterNumber_1 (by decide) (fun c1 => ?_) (fun c1 => ?_)
  · skip
    refine x_iconst (v := 0) C dX6_isMeterNumber_14 (by decide) ?_
    refine e_zret C E dX6_isMeterNumber_15 (by decide) ?_ ?_
    all_goals first | exact rfl | exact congrArg (fun x => some (Value.int x)) (bI_f (fun g => absurd g.1 (Int32.not_le.mpr c1))).symm | exact congrArg (fun x => some (Value.int x)) (bI_f (fun g => absurd g.2 (Int32.not_lt.mpr c7))).symm | exact congrArg (fun x => some (Value.int x)) (bI_t ⟨Int32.not_lt.mp c1, Int32.not_le.mp c7⟩).symm
  · skip
    refine x_iload_n C dX6_isMeterNumber_4 rfl ?_
    refine x_bipush (v := 12) C dX6_isMeterNumber_5 (by decide) ?_
    refine x_icmp_ge (tgt := 14) C dX6_isMeterNumber_7 (by decide) (fun c7 => ?_) (fun c7 => ?_)
    · skip
      refine x_iconst (v := 0) C dX6_isMeterNumber_14 (by decide) ?_
      refine e_zret C E dX6_isMeterNumber_15 (by decide) ?_ ?_
      all_goals first | exact rfl | exact congrArg (fun x => some (Value.int x)) (bI_f (fun g => absurd g.1 (Int32.not_le.mpr c1))).symm | exact congrArg (fun x => some (Value.int x)) (bI_f (fun g => absurd g.2 (Int32.not_lt.mpr c7))).symm | exact congrArg (fun x => some (Value.int x)) (bI_t ⟨Int32.not_lt.mp c1, Int32.not_le.mp c7⟩).symm
    · skip
      refine x_iconst (v := 1) C dX6_isMeterNumber_10 (by decide) ?_
      refine x_goto (tgt := 15) C dX6_isMeterNumber_11 (by decide) ?_
      refine e_zret C E dX6_isMeterNumber_15 (by decide) ?_ ?_
      all_goals first | exact rfl | exact congrArg (fun x => some (Value.int x)) (bI_f (fun g => absurd g.1 (Int32.not_le.mpr c1))).symm | exact congrArg (fun x => some (Value.int x)) (bI_f (fun g => absurd g.2 (Int32.not_lt.mpr c7))).symm | exact congrArg (fun x => some (Value.int x)) (bI_t ⟨Int32.not_lt.mp c1, Int32.not_le.mp c7⟩).symm
theorem m_isAddressByte (hW : Wc w c) (k : Int32) : TC w yX6_isAddressByte cX6_isAddressByte 1 (some .boolean) 0 [.int k] h (some (.int (bI ((0 : Int32) ≤ k ∧ k ≤ 254)))) h := by
  refine TC.intro hW rfl (by decide +kernel) (Nat.le_of_ble_eq_true rfl) (fun z C Y E hn => ?_)
  refine x_iload_n C dX6_isAddressByte_0 rfl ?_
  refine x_if_lt (tgt := 15) C dX6_isAddressByte_1 (by decide) (fun c1 => ?_) (fun c1 => ?_)
  · skip
    refine x_iconst (v := 0) C dX6_isAddressByte_15 (by decide) ?_
    refine e_zret C E dX6_isAddressByte_16 (by decide) ?_ ?_
    all_goals first | exact rfl | exact congrArg (fun x => some (Value.int x)) (bI_f (fun g => absurd g.1 (Int32.not_le.mpr c1))).symm | exact congrArg (fun x => some (Value.int x)) (bI_f (fun g => absurd g.2 (Int32.not_le.mpr c8))).symm | exact congrArg (fun x => some (Value.int x)) (bI_t ⟨Int32.not_lt.mp c1, Int32.not_lt.mp c8⟩).symm
  · skip
    refine x_iload_n C dX6_isAddressByte_4 rfl ?_
    refine x_sipush (v := 254) C dX6_isAddressByte_5 (by decide) ?_
    refine x_icmp_gt (tgt := 15) C dX6_isAddressByte_8 (by decide) (fun c8 => ?_) (fun c8 => ?_)
    · skip
      refine x_iconst (v := 0) C dX6_isAddressByte_15 (by decide) ?_
      refine e_zret C E dX6_isAddressByte_16 (by decide) ?_ ?_
      all_goals first | exact rfl | exact congrArg (fun x => some (Value.int x)) (bI_f (fun g => absurd g.1 (Int32.not_le.mpr c1))).symm | exact congrArg (fun x => some (Value.int x)) (bI_f (fun g => absurd g.2 (Int32.not_le.mpr c8))).symm | exact congrArg (fun x => some (Value.int x)) (bI_t ⟨Int32.not_lt.mp c1, Int32.not_lt.mp c8⟩).symm
    · skip
      refine x_iconst (v := 1) C dX6_isAddressByte_11 (by decide) ?_
      refine x_goto (tgt := 16) C dX6_isAddressByte_12 (by decide) ?_
      refine e_zret C E dX6_isAddressByte_16 (by decide) ?_ ?_
      all_goals first | exact rfl | exact congrArg (fun x => some (Value.int x)) (bI_f (fun g => absurd g.1 (Int32.not_le.mpr c1))).symm | exact congrArg (fun x => some (Value.int x)) (bI_f (fun g => absurd g.2 (Int32.not_le.mpr c8))).symm | exact congrArg (fun x => some (Value.int x)) (bI_t ⟨Int32.not_lt.mp c1, Int32.not_lt.mp c8⟩).symm
theorem m_isFound0 (hW : Wc w c) (F : FR c a h) (k : Int32) : TC w yX6_isFoundOne cX6_isFoundOne 2 (some .boolean) 0 [.ref (a 0), .int k] h (some (.int 0)) h := by
  refine TC.intro hW rfl (by decide +kernel) (Nat.le_of_ble_eq_true rfl) (fun z C Y E hn => ?_)
  have T22 : X z 0 0 (EQ h) 22 [some (.ref (a 0)), some (.int k)] [] := by
    refine x_iconst (v := 0) C dX6_isFoundOne_22 (by decide) ?_
    refine e_zret C E dX6_isFoundOne_23 (by decide) ?_ ?_
    all_goals rfl
  refine x_iload_n C dX6_isFoundOne_0 rfl ?_
  refine x_if_lt (tgt := 22) C dX6_isFoundOne_1 (by decide) (fun _ => T22) (fun c1 => ?_)
  refine x_iload_n C dX6_isFoundOne_4 rfl ?_
  refine x_aload_n C dX6_isFoundOne_5 rfl ?_
  refine e_get C Y kd_X6 5 (by decide) wf_X6_43 dX6_isFoundOne_6 F.x rfl ?_
  refine x_icmp_ge (tgt := 22) C dX6_isFoundOne_9 (by decide) (fun c9 => ?_) (fun c9 => absurd c9 (not_not_intro (Int32.not_lt.mp c1)))
  exact T22
theorem m_keep (hX : Wx w c) (F : FR c a h) (n : Int32) : TCX w yX6_keep cX6_keep 2 none 1 6 [.ref (a 0), .int n] h (fun r g => ((0 : Int32) ≤ n ∧ n ≤ 0) ∧ r = none ∧ g = h) (fun En g => ¬ ((0 : Int32) ≤ n ∧ n ≤ 0) ∧ En = IAE ∧ g = h) := by
  have hW := hX.1
  refine TCX.intro hX.1 rfl (by decide +kernel) (Nat.le_of_ble_eq_true rfl) (fun z C Y E hn => ?_)
  have T15 : ¬ ((0 : Int32) ≤ n ∧ n ≤ 0) → X z 1 6 (EQ h) 15 [some (.ref (a 0)), some (.int n)] [] := fun g0 => u_thr (kc := 0) (ks := 0) hX C E exs_IAE at_51 wc_X6_47 wz_IllegalArgumentException (show (67, "the buffer has not so many bytes") ∈ txts by simp [txts]) dX6_keep_15 dX6_keep_18 dX6_keep_19 dX6_keep_21 dX6_keep_24 (by decide) (fun g e => ⟨g0, rfl, e⟩)
  refine x_iload_n C dX6_keep_0 rfl ?_
  refine x_if_lt (tgt := 15) C dX6_keep_1 (by decide) (fun c1 => T15 (fun g => absurd g.1 (Int32.not_le.mpr c1))) (fun c1 => ?_)
  refine x_iload_n C dX6_keep_4 rfl ?_
  refine x_aload_n C dX6_keep_5 rfl ?_
  refine e_get C Y kd_X6 0 (by decide) wf_X6_10 dX6_keep_6 F.x rfl ?_
  refine u_callV C Y hW E.1 (r_size hW F.buf) md_X5_size wi_X5_size ws_X5_size wm_X6_54 dX6_keep_9 rfl (by decide) (by decide) F.buf.2.1 rfl rfl (by simp [Value.category]) ?_
  skip
  refine x_icmp_le (tgt := 25) C dX6_keep_12 (by decide) (fun c2 => ?_) (fun c2 => T15 (fun g => absurd g.2 c2))
  have hn0 : n = 0 := Int32.le_antisymm c2 (Int32.not_lt.mp c1)
  subst hn0
  have r0 := r_cutTo hW F.buf 0
  rw [show rCut 0 0 = 0 from by decide, F.buf.same] at r0
  refine x_aload_n C dX6_keep_25 rfl ?_
  refine e_get C Y kd_X6 0 (by decide) wf_X6_10 dX6_keep_26 F.x rfl ?_
  refine x_iload_n C dX6_keep_29 rfl ?_
  refine u_callV C Y hW E.1 (r0) md_X5_cutTo wi_X5_cutTo ws_X5_cutTo wm_X6_69 dX6_keep_30 rfl (by decide) (by decide) F.buf.2.1 rfl rfl (by simp [Value.category]) ?_
  skip
  exact E.go C Y (fun z' C Y E hn => x_vret C E dX6_keep_33 (fun g e => ⟨⟨Int32.le_refl _, Int32.le_refl _⟩, rfl, e⟩))
theorem m_typed (hX : Wx w c) (F : FR c a h) (i : Int32) : TCX w yX6_typed cX6_typed 2 (some .int) 1 6 [.ref (a 0), .int i] h (fun _ _ => False) (fun En g => En = IOE ∧ g = h) := by
  have hW := hX.1
  refine TCX.intro hX.1 rfl (by decide +kernel) (Nat.le_of_ble_eq_true rfl) (fun z C Y E hn => ?_)
  have T15 : X z 1 6 (EQ h) 15 [some (.ref (a 0)), some (.int i)] [] := u_thr (kc := 0) (ks := 0) hX C E exs_IOE at_76 wc_X6_72 wz_IndexOutOfBoundsException (show (74, "no such place") ∈ txts by simp [txts]) dX6_typed_15 dX6_typed_18 dX6_typed_19 dX6_typed_21 dX6_typed_24 (by decide) (fun g e => ⟨rfl, e⟩)
  refine x_iload_n C dX6_typed_0 rfl ?_
  refine x_if_lt (tgt := 15) C dX6_typed_1 (by decide) (fun c1 => T15) (fun c1 => ?_)
  refine x_iload_n C dX6_typed_4 rfl ?_
  refine x_aload_n C dX6_typed_5 rfl ?_
  refine e_get C Y kd_X6 0 (by decide) wf_X6_10 dX6_typed_6 F.x rfl ?_
  refine u_callV C Y hW E.1 (r_size hW F.buf) md_X5_size wi_X5_size ws_X5_size wm_X6_54 dX6_typed_9 rfl (by decide) (by decide) F.buf.2.1 rfl rfl (by simp [Value.category]) ?_
  skip
  exact x_icmp_lt (tgt := 25) C dX6_typed_12 (by decide) (fun c2 => absurd c2 c1) (fun c2 => T15)
theorem m_remove (hX : Wx w c) (F : FR c a h) (k : Int32) : TCX w yX6_remove cX6_remove 3 (some .boolean) 1 6 [.ref (a 0), .int k] h (fun r g => ((0 : Int32) ≤ k ∧ k < 12) ∧ r = some (.int 0) ∧ g = h) (fun En g => ¬ ((0 : Int32) ≤ k ∧ k < 12) ∧ En = IOE ∧ g = h) := by
  have hW := hX.1
  refine TCX.intro hX.1 rfl (by decide +kernel) (Nat.le_of_ble_eq_true rfl) (fun z C Y E hn => ?_)
  refine x_iload_n C dX6_remove_0 rfl ?_
  refine u_callS C hW E.1 (m_isMeterNumber hW k) md_X6_isMeterNumber wt_X6_isMeterNumber wm_X6_81 dX6_remove_1 rfl (by decide) (by decide) rfl (by simp [Value.category]) ?_
  skip
  refine x_if_ne (tgt := 17) C dX6_remove_4 (by decide) (fun c1 => ?_) (fun c1 => ?_)
  · have g0 : (0 : Int32) ≤ k ∧ k < 12 := Decidable.of_not_not (fun g => c1 (bI_f g))
    obtain ⟨j, hj, rfl⟩ := nI_of (Int32.not_lt.mpr g0.1)
    have hj2 : j < 12 := (nI_ltI hj (by decide)).mp g0.2
    refine E.go C Y (fun z' C Y E hn1 => ?_)
    rw [hn] at hn1
    have hn := hn1
    refine x_aload_n C dX6_remove_17 rfl ?_
    refine e_get C Y kd_X6 1 (by decide) wf_X6_19 dX6_remove_18 F.x rfl ?_
    refine x_iload_n C dX6_remove_21 rfl ?_
    refine u_callV C Y hW E.cs (b_meterAt hX F.bus (nI j)) md_X0_meterAt wi_X0_meterAt ws_X0_meterAt wm_X6_114 dX6_remove_22 rfl (by decide) (by decide) F.bus.1 rfl rfl (by simp [Value.category]) ?_
    refine x_ifnullN (tgt := 32) C dX6_remove_25 (by decide) ?_
    refine x_iconst (v := 0) C dX6_remove_32 (by decide) ?_
    refine o_istore_nE (L' := [some _, some _, some _]) C dX6_remove_33 (by rw [hn]; decide) rfl ?_
    refine x_aload_n C dX6_remove_34 rfl ?_
    refine e_get C Y kd_X6 1 (by decide) wf_X6_19 dX6_remove_35 F.x rfl ?_
    refine x_iload_n C dX6_remove_38 rfl ?_
    refine x_null C dX6_remove_39 ?_
    refine u_callV C Y hW E.cs (b_plugN hX F.bus j hj2) md_X0_plug wi_X0_plug ws_X0_plug wm_X6_110 dX6_remove_40 rfl (by decide) (by decide) F.bus.1 rfl rfl (by simp [Value.category]) ?_
    refine x_iload_n C dX6_remove_43 rfl ?_
    exact x_zret C E dX6_remove_44 (by decide) (fun g e => ⟨g0, rfl, e⟩)
  · exact u_thr (kc := 0) (ks := 0) hX C E exs_IOE at_76 wc_X6_72 wz_IndexOutOfBoundsException (show (85, "no such meter") ∈ txts by simp [txts]) dX6_remove_7 dX6_remove_10 dX6_remove_11 dX6_remove_13 dX6_remove_16 (by decide) (fun g e => ⟨fun q => absurd (bI_t q) (by rw [c1]; decide), rfl, e⟩)
theorem m_page (hX : Wx w c) (F : FR c a h) (k i : Int32) : TCX w yX6_page cX6_page 4 (some .int) 1 6 [.ref (a 0), .int k, .int i] h (fun _ _ => False) (fun En g => En = IOE ∧ g = h) := by
  have hW := hX.1
  refine TCX.intro hX.1 rfl (by decide +kernel) (Nat.le_of_ble_eq_true rfl) (fun z C Y E hn => ?_)
  refine x_aload_n C dX6_page_0 rfl ?_
  refine e_get C Y kd_X6 1 (by decide) wf_X6_19 dX6_page_1 F.x rfl ?_
  refine x_iload_n C dX6_page_4 rfl ?_
  refine u_callV C Y hW E.1 (b_meterAt hX F.bus k) md_X0_meterAt wi_X0_meterAt ws_X0_meterAt wm_X6_114 dX6_page_5 rfl (by decide) (by decide) F.bus.1 rfl rfl (by simp [Value.category]) ?_
  refine o_astore_nN (L' := [some _, some _, some _, some _]) C dX6_page_8 (by rw [hn]; decide) rfl ?_
  refine x_aload_nN C dX6_page_9 rfl ?_
  refine x_ifnullN (tgt := 22) C dX6_page_10 (by decide) ?_
  skip
  exact u_thr (kc := 0) (ks := 0) hX C E exs_IOE at_76 wc_X6_72 wz_IndexOutOfBoundsException (show (118, "no such meter or page") ∈ txts by simp [txts]) dX6_page_22 dX6_page_25 dX6_page_26 dX6_page_28 dX6_page_31 (by decide) (fun g e => ⟨rfl, e⟩)
theorem m_state (hX : Wx w c) (F : FR c a h) (k x : Int32) : TCX w yX6_state cX6_state 4 (some .int) 1 6 [.ref (a 0), .int k, .int x] h (fun r g => (((0 : Int32) ≤ k ∧ k < 12) ∧ ((0 : Int32) ≤ x ∧ x ≤ 6)) ∧ r = some (.int 0) ∧ g = h) (fun En g => ¬ (((0 : Int32) ≤ k ∧ k < 12) ∧ ((0 : Int32) ≤ x ∧ x ≤ 6)) ∧ En = IOE ∧ g = h) := by
  have hW := hX.1
  refine TCX.intro hX.1 rfl (by decide +kernel) (Nat.le_of_ble_eq_true rfl) (fun z C Y E hn => ?_)
  have T17 : ¬ (((0 : Int32) ≤ k ∧ k < 12) ∧ ((0 : Int32) ≤ x ∧ x ≤ 6)) → X z 1 6 (EQ h) 17 [some (.ref (a 0)), some (.int k), some (.int x), none] [] := fun g0 => u_thr (kc := 0) (ks := 0) hX C E exs_IOE at_76 wc_X6_72 wz_IndexOutOfBoundsException (show (129, "no such meter or what") ∈ txts by simp [txts]) dX6_state_17 dX6_state_20 dX6_state_21 dX6_state_23 dX6_state_26 (by decide) (fun g e => ⟨g0, rfl, e⟩)
  refine x_iload_n C dX6_state_0 rfl ?_
  refine u_callS C hW E.1 (m_isMeterNumber hW k) md_X6_isMeterNumber wt_X6_isMeterNumber wm_X6_81 dX6_state_1 rfl (by decide) (by decide) rfl (by simp [Value.category]) ?_
  skip
  refine x_if_eq (tgt := 17) C dX6_state_4 (by decide) (fun c4 => T17 (fun q => absurd (bI_t q.1) (by rw [c4]; decide))) (fun c4 => ?_)
  have g0 : (0 : Int32) ≤ k ∧ k < 12 := Decidable.of_not_not (fun g => c4 (bI_f g))
  refine x_iload_n C dX6_state_7 rfl ?_
  refine x_if_lt (tgt := 17) C dX6_state_8 (by decide) (fun c8 => T17 (fun q => absurd q.2.1 (Int32.not_le.mpr c8))) (fun c8 => ?_)
  refine x_iload_n C dX6_state_11 rfl ?_
  refine x_bipush (v := 6) C dX6_state_12 (by decide) ?_
  refine x_icmp_le (tgt := 27) C dX6_state_14 (by decide) (fun c14 => ?_) (fun c14 => T17 (fun q => absurd q.2.2 c14))
  refine E.go C Y (fun z' C Y E hn1 => ?_)
  rw [hn] at hn1
  have hn := hn1
  refine x_aload_n C dX6_state_27 rfl ?_
  refine e_get C Y kd_X6 1 (by decide) wf_X6_19 dX6_state_28 F.x rfl ?_
  refine x_iload_n C dX6_state_31 rfl ?_
  refine u_callV C Y hW E.cs (b_meterAt hX F.bus k) md_X0_meterAt wi_X0_meterAt ws_X0_meterAt wm_X6_114 dX6_state_32 rfl (by decide) (by decide) F.bus.1 rfl rfl (by simp [Value.category]) ?_
  refine o_astore_nN (L' := [some _, some _, some _, some _]) C dX6_state_35 (by rw [hn]; decide) rfl ?_
  refine x_aload_nN C dX6_state_36 rfl ?_
  refine x_ifnonnullN C dX6_state_37 ?_
  refine x_iconst (v := 0) C dX6_state_40 (by decide) ?_
  refine x_goto (tgt := 49) C dX6_state_41 (by decide) ?_
  exact x_iret C E dX6_state_49 (fun g e => ⟨⟨g0, Int32.not_lt.mp c8, c14⟩, rfl, e⟩)
theorem m_found (hX : Wx w c) (F : FR c a h) (k i : Int32) : TCX w yX6_found cX6_found 3 (some .int) 1 6 [.ref (a 0), .int k, .int i] h (fun _ _ => False) (fun En g => En = IOE ∧ g = h) := by
  have hW := hX.1
  refine TCX.intro hX.1 rfl (by decide +kernel) (Nat.le_of_ble_eq_true rfl) (fun z C Y E hn => ?_)
  refine x_aload_n C dX6_found_0 rfl ?_
  refine x_iload_n C dX6_found_1 rfl ?_
  refine u_callV C Y hW E.1 (m_isFound0 hW F k) md_X6_isFoundOne wi_X6_isFoundOne ws_X6_isFoundOne wm_X6_151 dX6_found_2 rfl (by decide) (by decide) F.x rfl rfl (by simp [Value.category]) ?_
  refine x_if_eq (tgt := 18) C dX6_found_5 (by decide) (fun c5 => ?_) (fun c5 => absurd c5 (not_not_intro rfl))
  skip
  exact u_thr (kc := 0) (ks := 0) hX C E exs_IOE at_76 wc_X6_72 wz_IndexOutOfBoundsException (show (154, "no such found one or byte") ∈ txts by simp [txts]) dX6_found_18 dX6_found_21 dX6_found_22 dX6_found_24 dX6_found_27 (by decide) (fun g e => ⟨rfl, e⟩)
theorem m_readOut (hX : Wx w c) (F : FR c a h) (k : Int32) : TCX w yX6_readOut cX6_readOut 4 (some .int) 1 6 [.ref (a 0), .int k] h (fun _ _ => False) (fun En g => En = IOE ∧ g = h) := by
  have hW := hX.1
  refine TCX.intro hX.1 rfl (by decide +kernel) (Nat.le_of_ble_eq_true rfl) (fun z C Y E hn => ?_)
  refine x_aload_n C dX6_readOut_0 rfl ?_
  refine x_iload_n C dX6_readOut_1 rfl ?_
  refine u_callV C Y hW E.1 (m_isFound0 hW F k) md_X6_isFoundOne wi_X6_isFoundOne ws_X6_isFoundOne wm_X6_151 dX6_readOut_2 rfl (by decide) (by decide) F.x rfl rfl (by simp [Value.category]) ?_
  refine x_if_ne (tgt := 18) C dX6_readOut_5 (by decide) (fun c5 => absurd c5 (by decide)) (fun c5 => ?_)
  skip
  exact u_thr (kc := 0) (ks := 0) hX C E exs_IOE at_76 wc_X6_72 wz_IndexOutOfBoundsException (show (156, "no such found one") ∈ txts by simp [txts]) dX6_readOut_8 dX6_readOut_11 dX6_readOut_12 dX6_readOut_14 dX6_readOut_17 (by decide) (fun g e => ⟨rfl, e⟩)
theorem m_record (hX : Wx w c) (F : FR c a h) (k i : Int32) : TCX w yX6_record cX6_record 4 (some .long) 1 6 [.ref (a 0), .int k, .int i] h (fun _ _ => False) (fun En g => En = IOE ∧ g = h) := by
  have hW := hX.1
  refine TCX.intro hX.1 rfl (by decide +kernel) (Nat.le_of_ble_eq_true rfl) (fun z C Y E hn => ?_)
  refine x_aload_n C dX6_record_0 rfl ?_
  refine e_get C Y kd_X6 2 (by decide) wf_X6_26 dX6_record_1 F.x rfl ?_
  refine x_iload_n C dX6_record_4 rfl ?_
  refine u_callV C Y hW E.1 (l_at0 hW F.lst k) md_X4_at wi_X4_at ws_X4_at wm_X6_185 dX6_record_5 rfl (by decide) (by decide) F.lst rfl rfl (by simp [Value.category]) ?_
  refine o_astore_nN (L' := [some _, some _, some _, some _]) C dX6_record_8 (by rw [hn]; decide) rfl ?_
  refine x_aload_nN C dX6_record_9 rfl ?_
  refine x_ifnullN (tgt := 28) C dX6_record_10 (by decide) ?_
  skip
  exact u_thr (kc := 0) (ks := 0) hX C E exs_IOE at_76 wc_X6_72 wz_IndexOutOfBoundsException (show (193, "no such record or what") ∈ txts by simp [txts]) dX6_record_28 dX6_record_31 dX6_record_32 dX6_record_34 dX6_record_37 (by decide) (fun g e => ⟨rfl, e⟩)
theorem m_text (hX : Wx w c) (F : FR c a h) (k i : Int32) : TCX w yX6_text cX6_text 4 (some .int) 1 6 [.ref (a 0), .int k, .int i] h (fun _ _ => False) (fun En g => En = IOE ∧ g = h) := by
  have hW := hX.1
  refine TCX.intro hX.1 rfl (by decide +kernel) (Nat.le_of_ble_eq_true rfl) (fun z C Y E hn => ?_)
  refine x_aload_n C dX6_text_0 rfl ?_
  refine e_get C Y kd_X6 2 (by decide) wf_X6_26 dX6_text_1 F.x rfl ?_
  refine x_iload_n C dX6_text_4 rfl ?_
  refine u_callV C Y hW E.1 (l_at0 hW F.lst k) md_X4_at wi_X4_at ws_X4_at wm_X6_185 dX6_text_5 rfl (by decide) (by decide) F.lst rfl rfl (by simp [Value.category]) ?_
  refine o_astore_nN (L' := [some _, some _, some _, some _]) C dX6_text_8 (by rw [hn]; decide) rfl ?_
  refine x_aload_nN C dX6_text_9 rfl ?_
  refine x_ifnullN (tgt := 25) C dX6_text_10 (by decide) ?_
  skip
  exact u_thr (kc := 0) (ks := 0) hX C E exs_IOE at_76 wc_X6_72 wz_IndexOutOfBoundsException (show (201, "no such record or byte of a text") ∈ txts by simp [txts]) dX6_text_25 dX6_text_28 dX6_text_29 dX6_text_31 dX6_text_34 (by decide) (fun g e => ⟨rfl, e⟩)
end Calls
end
section
/-! ===== Int32 by its bits: bt x i ===== -/
def bt (x : Int32) (i : Nat) : Bool := x.toBitVec.getLsbD i
theorem b_ext {x y : Int32} (h : ∀ i, i < 32 → bt x i = bt y i) : x = y := Int32.toBitVec_inj.mp (BitVec.eq_of_getLsbD_eq (fun i hi => h i hi))
theorem b_or (x y : Int32) (i : Nat) : bt (x ||| y) i = (bt x i || bt y i) := by unfold bt; rw [Int32.toBitVec_or, BitVec.getLsbD_or]
theorem b_and (x y : Int32) (i : Nat) : bt (x &&& y) i = (bt x i && bt y i) := by unfold bt; rw [Int32.toBitVec_and, BitVec.getLsbD_and]
theorem b_xor (x y : Int32) (i : Nat) : bt (x ^^^ y) i = (bt x i ^^ bt y i) := by unfold bt; rw [Int32.toBitVec_xor, BitVec.getLsbD_xor]
theorem b_big {x : Int32} {i : Nat} (h : 32 ≤ i) : bt x i = false := BitVec.getLsbD_of_ge _ _ h
theorem b_255 (i : Nat) : bt 255 i = decide (i < 8) := by
  rcases Nat.lt_or_ge i 32 with h | h
  · exact (by decide +kernel : ∀ i, i < 32 → bt 255 i = decide (i < 8)) i h
  · rw [b_big h, decide_eq_false (by omega)]
theorem b_65535 (i : Nat) : bt 65535 i = decide (i < 16) := by
  rcases Nat.lt_or_ge i 32 with h | h
  · exact (by decide +kernel : ∀ i, i < 32 → bt 65535 i = decide (i < 16)) i h
  · rw [b_big h, decide_eq_false (by omega)]
theorem b_m1 : ∀ i, i < 32 → bt (-1) i = true := by decide +kernel
theorem b_0 (i : Nat) : bt 0 i = false := BitVec.getLsbD_zero
theorem s_l : ∀ n, n < 32 → ((nI n &&& 31).toBitVec.smod 32).toNat = n := by decide +kernel
theorem s_u : ∀ n, n < 32 → (((nI n).toUInt32 &&& Int32.toUInt32 31).toBitVec % 32).toNat = n := by decide +kernel
theorem b_shl (n : Nat) (hn : n < 32) (x : Int32) {i : Nat} (hi : i < 32) : bt (x <<< (nI n &&& 31)) i = (decide (n ≤ i) && bt x (i - n)) := by
  unfold bt
  rw [Int32.toBitVec_shiftLeft]
  show (x.toBitVec <<< ((nI n &&& 31).toBitVec.smod 32).toNat).getLsbD i = _
  rw [s_l n hn, BitVec.getLsbD_shiftLeft]
  rcases Nat.lt_or_ge i n with h | h
  · simp [h, Nat.not_le.mpr h]
  · simp [hi, h, Nat.not_lt.mpr h]
theorem b_ushr (n : Nat) (hn : n < 32) (x : Int32) (i : Nat) : bt ((x.toUInt32 >>> ((nI n).toUInt32 &&& Int32.toUInt32 31)).toInt32) i = bt x (n + i) := by
  show (x.toUInt32 >>> ((nI n).toUInt32 &&& Int32.toUInt32 31)).toBitVec.getLsbD i = x.toUInt32.toBitVec.getLsbD (n + i)
  rw [UInt32.toBitVec_shiftRight]
  show (x.toUInt32.toBitVec >>> (((nI n).toUInt32 &&& Int32.toUInt32 31).toBitVec % 32).toNat).getLsbD i = _
  rw [s_u n hn, BitVec.getLsbD_ushiftRight]
theorem b_sshr (n : Nat) (hn : n < 32) (x : Int32) {i : Nat} (hi : i < 32) : bt (x >>> (nI n &&& 31)) i = if n + i < 32 then bt x (n + i) else bt x 31 := by
  unfold bt
  rw [Int32.toBitVec_shiftRight]
  show (x.toBitVec.sshiftRight ((nI n &&& 31).toBitVec.smod 32).toNat).getLsbD i = _
  rw [s_l n hn, BitVec.getLsbD_sshiftRight, BitVec.msb_eq_getLsbD_last]
  simp [hi]
theorem b_15 (i : Nat) : bt 15 i = decide (i < 4) := by
  rcases Nat.lt_or_ge i 32 with h | h
  · exact (by decide +kernel : ∀ i, i < 32 → bt 15 i = decide (i < 4)) i h
  · rw [b_big h, decide_eq_false (by omega)]
theorem dig_eq (x : Int32) (t : Nat) (ht : t < 8) : (x.toUInt32 >>> ((nI (4 * t)).toUInt32 &&& Int32.toUInt32 31)).toInt32 &&& 15 = (x >>> (((4 : Int32) * nI t) &&& 31)) &&& 15 := by
  rw [show (4 : Int32) * nI t = nI (4 * t) from pk_mul 4 t]
  refine b_ext (fun i hi => ?_)
  rw [b_and, b_and, b_ushr _ (by omega), b_sshr _ (by omega) _ hi, b_15]
  by_cases h : i < 4
  · rw [if_pos (by omega)]
  · rw [decide_eq_false h, Bool.and_false, Bool.and_false]
theorem neg_bit {x : Int32} (h : x < 0) : bt x 31 = true := by
  have h1 : x.toInt < 0 := by
    rw [Int32.lt_iff_toInt_lt] at h
    exact h
  have h2 : x.toBitVec.msb = true := by
    rw [BitVec.msb_eq_toInt]
    exact decide_eq_true h1
  rw [BitVec.msb_eq_getLsbD_last] at h2
  exact h2
theorem bit_neg {x : Int32} (h : bt x 31 = true) : x < 0 := by
  have h2 : x.toBitVec.msb = true := by
    rw [BitVec.msb_eq_getLsbD_last]
    exact h
  rw [BitVec.msb_eq_toInt] at h2
  rw [Int32.lt_iff_toInt_lt]
  exact of_decide_eq_true h2
theorem mk_rng {x : Int32} (h0 : (0 : Int32) ≤ x >>> ((8 : Int32) &&& 31)) (h1 : x >>> ((8 : Int32) &&& 31) ≤ 254) : (0 : Int32) ≤ x ∧ x ≤ 65535 := by
  have g0 : ¬ x < 0 := fun g => by
    have e : bt (x >>> ((8 : Int32) &&& 31)) 31 = true := by
      have := b_sshr 8 (by omega) x (i := 31) (by omega)
      rw [if_neg (by omega), neg_bit g] at this
      exact this
    exact absurd (bit_neg e) (Int32.not_lt.mpr h0)
  obtain ⟨m, hm, rfl⟩ := nI_of g0
  refine ⟨Int32.not_lt.mp g0, ?_⟩
  rw [pk_shrN hm _ 8 rfl] at h1
  have h2 : m / 2 ^ 8 ≤ 254 := Nat.le_of_not_lt (fun g => absurd (nI_lt g (by omega)) (Int32.not_lt.mpr h1))
  exact nI_le (show m ≤ 65535 by omega) (by decide)
theorem outR {x : Int32} (g : ¬ ((0 : Int32) ≤ x ∧ x ≤ 5)) : x.toInt < 0 ∨ 5 < x.toInt := by
  rw [Int32.le_iff_toInt_le, Int32.le_iff_toInt_le] at g
  have e0 : (0 : Int32).toInt = 0 := by decide
  have e5 : (5 : Int32).toInt = 5 := by decide
  rw [e0, e5] at g
  omega
theorem lt10 {x : Int32} (h : x ≤ 9) : x < 10 := by
  rw [Int32.le_iff_toInt_le, show (9 : Int32).toInt = 9 from by decide] at h
  rw [Int32.lt_iff_toInt_lt, show (10 : Int32).toInt = 10 from by decide]
  omega
theorem le9 {x : Int32} (h : x < 10) : x ≤ 9 := by
  rw [Int32.lt_iff_toInt_lt, show (10 : Int32).toInt = 10 from by decide] at h
  rw [Int32.le_iff_toInt_le, show (9 : Int32).toInt = 9 from by decide]
  omega
end
section
/-! MeterBus, a new one: the other calls. -/
section Calls
variable {w : Wd} {c : Nat → ClassId} {a : Nat → Nat} {h : PH}
theorem m_place (hX : Wx w c) (F : FR c a h) : TC w yX6_place cX6_place 1 (some .int) 1 [.ref (a 0)] h (some (.int (-1))) h := by
  have hW := hX.1
  refine TC.intro hX.1 rfl (by decide +kernel) (Nat.le_of_ble_eq_true rfl) (fun z C Y E hn => ?_)
  refine x_aload_n C dX6_place_0 rfl ?_
  refine e_get C Y kd_X6 3 (by decide) wf_X6_35 dX6_place_1 F.x rfl ?_
  refine e_callV C Y hW E (d_placeOf hW F.dec) md_X1_lastFaultPlace wi_X1_lastFaultPlace ws_X1_lastFaultPlace wm_X6_182 dX6_place_4 rfl (by decide) (by decide) F.dec rfl rfl (by simp [Value.category]) ?_
  refine e_iret C E dX6_place_7 ?_ ?_
  all_goals rfl
theorem m_clear (hX : Wx w c) (F : FR c a h) : TC w yX6_clear cX6_clear 2 (some .int) 1 [.ref (a 0)] h (some (.int 0)) h := by
  have hW := hX.1
  refine TC.intro hX.1 rfl (by decide +kernel) (Nat.le_of_ble_eq_true rfl) (fun z C Y E hn => ?_)
  refine x_aload_n C dX6_clear_0 rfl ?_
  refine e_get C Y kd_X6 2 (by decide) wf_X6_26 dX6_clear_1 F.x rfl ?_
  refine e_callV C Y hW E (l_size hW F.lst) md_X4_size wi_X4_size ws_X4_size wm_X6_181 dX6_clear_4 rfl (by decide) (by decide) F.lst rfl rfl (by simp [Value.category]) ?_
  refine o_istore_nE (L' := [some _, some _]) C dX6_clear_7 (by rw [hn]; decide) rfl ?_
  refine x_aload_n C dX6_clear_8 rfl ?_
  refine e_get C Y kd_X6 2 (by decide) wf_X6_26 dX6_clear_9 F.x rfl ?_
  refine x_iconst (v := 0) C dX6_clear_12 (by decide) ?_
  refine e_callV C Y hW E (l_cut0 hW F.lst) md_X4_cutTo wi_X4_cutTo ws_X4_cutTo wm_X6_158 dX6_clear_13 rfl (by decide) (by decide) F.lst rfl rfl (by simp [Value.category]) ?_
  refine x_iload_n C dX6_clear_16 rfl ?_
  refine e_iret C E dX6_clear_17 ?_ ?_
  all_goals rfl
theorem m_decode (hX : Wx w c) (F : FR c a h) : TC w yX6_decode cX6_decode 1 (some .int) 3 [.ref (a 0)] h (some (.int (-1))) (hs h (a 9) (.inr (1, [.ref (a 7), .ref (a 1), .int 19, .int 0, .int 1, .int 0, .int 0]))) := by
  have hW := hX.1
  refine TC.intro hX.1 rfl (by decide +kernel) (Nat.le_of_ble_eq_true rfl) (fun z C Y E hn => ?_)
  have n0 : a 0 ≠ a 9 := HL.dif F 10 1 rfl rfl (by decide)
  have F9 : hs h (a 9) (.inr (1, [.ref (a 7), .ref (a 1), .int 19, .int 0, .int 1, .int 0, .int 0])) (a 0) = some (.inr (6, [.ref (a 1), .ref (a 3), .ref (a 7), .ref (a 9), .ref (a 10), .int 0])) := by rw [hs_ne n0]; exact F.x
  refine x_aload_n C dX6_decode_0 rfl ?_
  refine e_get C Y kd_X6 3 (by decide) wf_X6_35 dX6_decode_1 F.x rfl ?_
  refine x_aload_n C dX6_decode_4 rfl ?_
  refine e_get C Y kd_X6 0 (by decide) wf_X6_10 dX6_decode_5 F.x rfl ?_
  refine e_callV C Y hW E (d_reads0 hW F.dec F.buf F.lst (HL.dif F 1 9 rfl rfl (by decide)) (HL.dif F 1 8 rfl rfl (by decide)) (HL.dif F 1 3 rfl rfl (by decide))) md_X1_reads wi_X1_reads ws_X1_reads wm_X6_170 dX6_decode_8 rfl (by decide) (by decide) F.dec rfl rfl (by simp [Value.category]) ?_
  refine x_if_eq (tgt := 24) C dX6_decode_11 (by decide) (fun c11 => ?_) (fun c11 => absurd c11 (not_not_intro rfl))
  refine x_aload_n C dX6_decode_24 rfl ?_
  refine e_get C Y kd_X6 3 (by decide) wf_X6_35 dX6_decode_25 F9 rfl ?_
  refine e_callV C Y hW E (d_faultOf hW rfl (hs_self ..)) md_X1_lastFault wi_X1_lastFault ws_X1_lastFault wm_X6_174 dX6_decode_28 rfl (by decide) (by decide) (hs_self ..) rfl rfl (by simp [Value.category]) ?_
  refine x_ineg C dX6_decode_31 ?_
  refine e_iret C E dX6_decode_32 ?_ ?_
  all_goals rfl
theorem m_send (hX : Wx w c) (F : FR c a h) : T w gw yX6_send cX6_send 2 (some .int) 4 (40 * 4) 0 0 [.ref (a 0)] (EQ h) (fun r g => r = some (.int 0) ∧ ∀ q, q ≠ a 1 → q ≠ a 2 → q ≠ a 3 → g q = h q) := by
  have hW := hX.1
  refine TA.intro hX.1 rfl (by decide +kernel) (Nat.le_of_ble_eq_true rfl) (fun z C Y E hn h1 hA => ?_)
  subst hA
  have e1 : ∀ {i x : Nat}, ((clsL c a).map Prod.fst)[i]? = some x → i ≠ 7 → x ≠ a 3 := fun hi n => HL.dif F _ 7 hi rfl n
  have k1 : ∀ {x e}, x ≠ a 3 → hs h1 (a 3) e x = h1 x := fun n => hs_ne n
  generalize hh : hs h1 (a 3) (.inr (0, [.ref (a 4), .ref (a 5), .int (0 + 1), .int 0])) = h2
  have Fx2 : h2 (a 0) = some (.inr (6, [.ref (a 1), .ref (a 3), .ref (a 7), .ref (a 9), .ref (a 10), .int 0])) := by rw [← hh, k1 (e1 (i := 10) rfl (by decide))]; exact F.x
  have B2 : h2 (a 3) = some (.inr (0, [.ref (a 4), .ref (a 5), .int (0 + 1), .int 0])) := by rw [← hh]; exact hs_self ..
  have R2 : RW c h2 (a 1) (a 2) (fun _ => 0) 0 := ⟨F.buf.1, by rw [← hh, k1 (e1 (i := 9) rfl (by decide))]; exact F.buf.2.1, by rw [← hh, k1 (e1 (i := 8) rfl (by decide))]; exact F.buf.2.2.1, by decide⟩
  have R3 : RW c h2 (a 5) (a 6) (fun _ => 0) 0 := ⟨F.ans.1, by rw [← hh, k1 (e1 (i := 5) rfl (by decide))]; exact F.ans.2.1, by rw [← hh, k1 (e1 (i := 4) rfl (by decide))]; exact F.ans.2.2.1, by decide⟩
  have q1 := b_put hX F.bus F.ans (HL.dif F 7 5 rfl rfl (by decide)) (HL.dif F 7 4 rfl rfl (by decide)) (HL.dif F 7 6 rfl rfl (by decide)) F.buf
  rw [hh] at q1
  have B2' : BE c h2 (a 3) (a 4) (a 5) (0 + 1) 0 := ⟨B2, by rw [← hh, k1 (e1 (i := 6) rfl (by decide))]; exact F.bus.2⟩
  refine x_aload_n C dX6_send_0 rfl ?_
  refine e_get C Y kd_X6 1 (by decide) wf_X6_19 dX6_send_1 F.x rfl ?_
  refine x_aload_n C dX6_send_4 rfl ?_
  refine e_get C Y kd_X6 0 (by decide) wf_X6_10 dX6_send_5 F.x rfl ?_
  refine u_callV C Y hW E.cs (q1) md_X0_put wi_X0_put ws_X0_put wm_X6_134 dX6_send_8 rfl (by decide) (by decide) F.bus.1 rfl rfl (by simp [Value.category]) ?_
  refine o_istore_nE (L' := [some _, some _]) C dX6_send_11 (by rw [hn]; decide) rfl ?_
  refine x_aload_n C dX6_send_12 rfl ?_
  refine e_get C Y kd_X6 0 (by decide) wf_X6_10 dX6_send_13 Fx2 rfl ?_
  refine x_aload_n C dX6_send_16 rfl ?_
  refine e_get C Y kd_X6 1 (by decide) wf_X6_19 dX6_send_17 Fx2 rfl ?_
  refine u_callV C Y hW E.cs (b_lastAnswer hX B2') md_X0_lastAnswer wi_X0_lastAnswer ws_X0_lastAnswer wm_X6_138 dX6_send_20 rfl (by decide) (by decide) B2 rfl rfl (by simp [Value.category]) ?_
  refine u_callV C Y hW E.cs (r_become hW R2 R3 (HL.dif F 5 9 rfl rfl (by decide)) (HL.dif F 5 8 rfl rfl (by decide)) (HL.dif F 4 9 rfl rfl (by decide)) (HL.dif F 4 8 rfl rfl (by decide))) md_X5_become wi_X5_become ws_X5_become wm_X6_142 dX6_send_23 rfl (by decide) (by decide) R2.2.1 rfl rfl (by simp [Value.category]) ?_
  refine x_iload_n C dX6_send_26 rfl ?_
  skip
  exact x_iret C E dX6_send_27 (fun g e => ⟨rfl, fun q n1 n2 n3 => by rw [e, rw_ne n1 n2, ← hh, k1 n3]⟩)
theorem m_probe0 (hX : Wx w c) (F : FR c a h) (k : Int64) : TC w yX6_probe cX6_probe 7 none 3 [.ref (a 0), .int 0, .long k] h none (hs h (a 3) (.inr (0, [.ref (a 4), .ref (a 5), .int (0 + 1), .int 0]))) := by
  have hW := hX.1
  refine TC.intro hX.1 rfl (by decide +kernel) (Nat.le_of_ble_eq_true rfl) (fun z C Y E hn => ?_)
  refine x_aload_n C dX6_probe_0 rfl ?_
  refine e_get C Y kd_X6 1 (by decide) wf_X6_19 dX6_probe_1 F.x rfl ?_
  refine x_lload_n C dX6_probe_4 rfl ?_
  refine e_callV C Y hW E (b_putSelect hX F.bus F.ans (HL.dif F 7 5 rfl rfl (by decide)) (HL.dif F 7 4 rfl rfl (by decide)) (HL.dif F 7 6 rfl rfl (by decide)) k) md_X0_putSelect wi_X0_putSelect ws_X0_putSelect wm_X6_217 dX6_probe_5 rfl (by decide) (by decide) F.bus.1 rfl rfl (by simp [Value.category]) ?_
  refine o_istoreE (L' := [some _, some _, some _, none, some _, none, none]) C dX6_probe_8 (by rw [hn]; decide) rfl ?_
  refine x_iload C dX6_probe_10 rfl ?_
  refine x_iconst (v := 1) C dX6_probe_12 (by decide) ?_
  refine x_icmp_ne (tgt := 28) C dX6_probe_13 (by decide) (fun c13 => ?_) (fun c13 => absurd c13 (by decide))
  refine x_iload C dX6_probe_28 rfl ?_
  refine x_bipush (v := (-2)) C dX6_probe_30 (by decide) ?_
  refine x_icmp_ne (tgt := 87) C dX6_probe_32 (by decide) (fun c32 => ?_) (fun c32 => absurd c32 (by decide))
  refine e_vret C E dX6_probe_87 ?_ ?_
  all_goals rfl
theorem m_search (hX : Wx w c) (F : FR c a h) : T w gw yX6_search cX6_search 1 (some .int) 4 (40 * 4) 0 0 [.ref (a 0)] (EQ h) (fun r g => r = some (.int 0) ∧ ∀ q, q ≠ a 0 → q ≠ a 3 → g q = h q) := by
  have hW := hX.1
  refine TA.intro hX.1 rfl (by decide +kernel) (Nat.le_of_ble_eq_true rfl) (fun z C Y E hn h1 hA => ?_)
  subst hA
  have e0 : hs h1 (a 0) (.inr (6, [.ref (a 1), .ref (a 3), .ref (a 7), .ref (a 9), .ref (a 10), .int 0])) = h1 := hs_same F.x
  have Fx2 : hs h1 (a 3) (.inr (0, [.ref (a 4), .ref (a 5), .int (0 + 1), .int 0])) (a 0) = some (.inr (6, [.ref (a 1), .ref (a 3), .ref (a 7), .ref (a 9), .ref (a 10), .int 0])) := by rw [hs_ne (HL.dif F 10 7 rfl rfl (by decide))]; exact F.x
  refine x_aload_n C dX6_search_0 rfl ?_
  refine x_iconst (v := 0) C dX6_search_1 (by decide) ?_
  refine e_put C Y kd_X6 5 (by decide) rfl wf_X6_43 dX6_search_2 F.x (Nat.le_of_ble_eq_true rfl) rfl rfl e0 ?_
  refine x_aload_n C dX6_search_5 rfl ?_
  refine x_iconst (v := 0) C dX6_search_6 (by decide) ?_
  refine x_ldc2 C wk_X6_146 dX6_search_7 ?_
  refine u_callV C Y hW E.cs (m_probe0 hX F _) md_X6_probe wi_X6_probe ws_X6_probe wm_X6_148 dX6_search_10 rfl (by decide) (by decide) F.x rfl rfl (by simp [Value.category]) ?_
  refine x_aload_n C dX6_search_13 rfl ?_
  refine e_get C Y kd_X6 5 (by decide) wf_X6_43 dX6_search_14 Fx2 rfl ?_
  skip
  exact x_iret C E dX6_search_17 (fun g e => ⟨rfl, fun q n1 n2 => by rw [e, hs_ne n2]⟩)
theorem m_count (hX : Wx w c) (F : FR c a h) (x : Int32) : TCX w yX6_count cX6_count 2 (some .int) 1 6 [.ref (a 0), .int x] h (fun r g => ((0 : Int32) ≤ x ∧ x ≤ 5) ∧ r = some (.int 0) ∧ g = h) (fun En g => ¬ ((0 : Int32) ≤ x ∧ x ≤ 5) ∧ En = IOE ∧ g = h) := by
  have hW := hX.1
  refine TCX.intro hX.1 rfl (by decide +kernel) (Nat.le_of_ble_eq_true rfl) (fun z C Y E hn => ?_)
  refine x_iload_n C dX6_count_0 rfl ?_
  by_cases g0 : (0 : Int32) ≤ x ∧ x ≤ 5
  · obtain ⟨j, hj, rfl⟩ := nI_of (Int32.not_lt.mpr g0.1)
    have hj2 : j ≤ 5 := Nat.le_of_not_lt (fun g => absurd (nI_lt g hj) (Int32.not_lt.mpr g0.2))
    refine E.go C Y (fun z' C Y E hn1 => ?_)
    rcases (show j = 0 ∨ j = 1 ∨ j = 2 ∨ j = 3 ∨ j = 4 ∨ j = 5 by omega) with rfl | rfl | rfl | rfl | rfl | rfl
    · skip
      refine x_tblIn (tgt := 40) (off := 39) C dX6_count_1 (by decide) (by decide) (by decide) (by decide) ?_
      refine x_aload_n C dX6_count_40 rfl ?_
      refine e_get C Y kd_X6 1 (by decide) wf_X6_19 dX6_count_41 F.x rfl ?_
      refine u_callV C Y hW E.cs (b_meterNumber hX F.bus) md_X0_meterNumber wi_X0_meterNumber ws_X0_meterNumber wm_X6_206 dX6_count_44 rfl (by decide) (by decide) F.bus.1 rfl rfl (by simp [Value.category]) ?_
      exact x_iret C E dX6_count_47 (fun g e => ⟨g0, rfl, e⟩)
    · skip
      refine x_tblIn (tgt := 48) (off := 47) C dX6_count_1 (by decide) (by decide) (by decide) (by decide) ?_
      refine x_aload_n C dX6_count_48 rfl ?_
      refine e_get C Y kd_X6 0 (by decide) wf_X6_10 dX6_count_49 F.x rfl ?_
      refine u_callV C Y hW E.cs (r_size hW F.buf) md_X5_size wi_X5_size ws_X5_size wm_X6_54 dX6_count_52 rfl (by decide) (by decide) F.buf.2.1 rfl rfl (by simp [Value.category]) ?_
      exact x_iret C E dX6_count_55 (fun g e => ⟨g0, rfl, e⟩)
    · skip
      refine x_tblIn (tgt := 56) (off := 55) C dX6_count_1 (by decide) (by decide) (by decide) (by decide) ?_
      refine x_aload_n C dX6_count_56 rfl ?_
      refine e_get C Y kd_X6 5 (by decide) wf_X6_43 dX6_count_57 F.x rfl ?_
      exact x_iret C E dX6_count_60 (fun g e => ⟨g0, rfl, e⟩)
    · skip
      refine x_tblIn (tgt := 61) (off := 60) C dX6_count_1 (by decide) (by decide) (by decide) (by decide) ?_
      refine x_aload_n C dX6_count_61 rfl ?_
      refine e_get C Y kd_X6 2 (by decide) wf_X6_26 dX6_count_62 F.x rfl ?_
      refine u_callV C Y hW E.cs (l_size hW F.lst) md_X4_size wi_X4_size ws_X4_size wm_X6_181 dX6_count_65 rfl (by decide) (by decide) F.lst rfl rfl (by simp [Value.category]) ?_
      exact x_iret C E dX6_count_68 (fun g e => ⟨g0, rfl, e⟩)
    · skip
      refine x_tblIn (tgt := 69) (off := 68) C dX6_count_1 (by decide) (by decide) (by decide) (by decide) ?_
      refine x_aload_n C dX6_count_69 rfl ?_
      refine e_get C Y kd_X6 1 (by decide) wf_X6_19 dX6_count_70 F.x rfl ?_
      refine u_callV C Y hW E.cs (b_frameNumber hX F.bus) md_X0_frameNumber wi_X0_frameNumber ws_X0_frameNumber wm_X6_209 dX6_count_73 rfl (by decide) (by decide) F.bus.1 rfl rfl (by simp [Value.category]) ?_
      exact x_iret C E dX6_count_76 (fun g e => ⟨g0, rfl, e⟩)
    · skip
      refine x_tblIn (tgt := 77) (off := 76) C dX6_count_1 (by decide) (by decide) (by decide) (by decide) ?_
      refine x_aload_n C dX6_count_77 rfl ?_
      refine e_get C Y kd_X6 1 (by decide) wf_X6_19 dX6_count_78 F.x rfl ?_
      refine u_callV C Y hW E.cs (b_collisionNumber hX F.bus) md_X0_collisionNumber wi_X0_collisionNumber ws_X0_collisionNumber wm_X6_212 dX6_count_81 rfl (by decide) (by decide) F.bus.1 rfl rfl (by simp [Value.category]) ?_
      exact x_iret C E dX6_count_84 (fun g e => ⟨g0, rfl, e⟩)
  · skip
    refine x_tblOut (tgt := 85) C dX6_count_1 (outR g0) (by decide) ?_
    skip
    exact u_thr (kc := 0) (ks := 0) hX C E exs_IOE at_76 wc_X6_72 wz_IndexOutOfBoundsException (show (215, "no such what") ∈ txts by simp [txts]) dX6_count_85 dX6_count_88 dX6_count_89 dX6_count_91 dX6_count_94 (by decide) (fun g e => ⟨g0, rfl, e⟩)
theorem m_type (hX : Wx w c) (F : FR c a h) (b : Int64) (n : Int32) : TCX w yX6_type cX6_type 5 (some .int) 1 6 [.ref (a 0), .long b, .int n] h (fun r g => ((1 : Int32) ≤ n ∧ n ≤ 8) ∧ r = some (.int n) ∧ ∀ q, q ≠ a 1 → q ≠ a 2 → g q = h q) (fun En g => ¬ ((1 : Int32) ≤ n ∧ n ≤ 8) ∧ En = IAE ∧ g = h) := by
  have hW := hX.1
  refine TCX.intro hX.1 rfl (by decide +kernel) (Nat.le_of_ble_eq_true rfl) (fun z C Y E hn => ?_)
  have T11 : ¬ ((1 : Int32) ≤ n ∧ n ≤ 8) → X z 1 6 (EQ h) 11 [some (.ref (a 0)), some (.long b), none, some (.int n), none] [] := fun g0 => u_thr (kc := 0) (ks := 0) hX C E exs_IAE at_51 wc_X6_47 wz_IllegalArgumentException (show (49, "n is not 1 .. 8") ∈ txts by simp [txts]) dX6_type_11 dX6_type_14 dX6_type_15 dX6_type_17 dX6_type_20 (by decide) (fun g e => ⟨g0, rfl, e⟩)
  refine x_iload_n C dX6_type_0 rfl ?_
  refine x_iconst (v := 1) C dX6_type_1 (by decide) ?_
  refine x_icmp_lt (tgt := 11) C dX6_type_2 (by decide) (fun c2 => T11 (fun g => absurd g.1 (Int32.not_le.mpr c2))) (fun c2 => ?_)
  refine x_iload_n C dX6_type_5 rfl ?_
  refine x_bipush (v := 8) C dX6_type_6 (by decide) ?_
  refine x_icmp_le (tgt := 21) C dX6_type_8 (by decide) (fun c8 => ?_) (fun c8 => T11 (fun g => absurd g.2 c8))
  have g0 : (1 : Int32) ≤ n ∧ n ≤ 8 := ⟨Int32.not_lt.mp c2, c8⟩
  obtain ⟨m, hm, rfl⟩ := nI_of (x := n) (Int32.not_lt.mpr (Int32.le_trans (by decide) g0.1))
  have hm8 : m ≤ 8 := Nat.le_of_not_lt (fun g => absurd (nI_lt g hm) (Int32.not_lt.mpr c8))
  refine E.go C Y (fun z' C Y E hn1 => ?_)
  rw [hn] at hn1
  have hn := hn1
  have n1 : a 0 ≠ a 1 := HL.dif F 10 9 rfl rfl (by decide)
  have n2 : a 0 ≠ a 2 := HL.dif F 10 8 rfl rfl (by decide)
  have Fx : ∀ f k, rowh c h (a 1) (a 2) f k (a 0) = some (.inr (6, [.ref (a 1), .ref (a 3), .ref (a 7), .ref (a 9), .ref (a 10), .int 0])) := fun f k => by rw [rw_ne n1 n2]; exact F.x
  have Rx : ∀ f k, k ≤ 300 → RW c (rowh c h (a 1) (a 2) f k) (a 1) (a 2) f k := fun f k hk => RW.of F.buf.1 hk
  have LP : ∀ (rem j : Nat) (f : Nat → Int32), j + rem = m → X z' 1 6 (EQ (rowh c h (a 1) (a 2) f j)) 51 [some (.ref (a 0)), some (.long b), none, some (.int (nI m)), some (.int (nI rem - 1))] [] := by
    intro rem
    induction rem with
    | zero =>
      intro j f hj
      obtain rfl : j = m := by omega
      refine x_iload C dX6_type_51 rfl ?_
      refine x_if_lt (tgt := 77) C dX6_type_53 (by decide) (fun c53 => ?_) (fun c53 => absurd c53 (not_not_intro (by decide)))
      refine x_aload_n C dX6_type_77 rfl ?_
      refine e_get C Y kd_X6 0 (by decide) wf_X6_10 dX6_type_78 (Fx f j) rfl ?_
      refine u_callV C Y hW E.cs (r_size hW (Rx f j (by omega))) md_X5_size wi_X5_size ws_X5_size wm_X6_54 dX6_type_81 rfl (by decide) (by decide) (Rx f j (by omega)).2.1 rfl rfl (by simp [Value.category]) ?_
      skip
      exact x_iret C E dX6_type_84 (fun g e => ⟨g0, rfl, fun q n1 n2 => by rw [e, rw_ne n1 n2]⟩)
    | succ rem ih =>
      intro j f hj
      have e1 : nI (rem + 1) - 1 = nI rem := by rw [← nI_1]; exact Int32.add_sub_cancel ..
      rw [e1]
      have ha : ∀ x : Int32, TC w yX5_add cX5_add 2 none 0 [.ref (a 1), .int x] (rowh c h (a 1) (a 2) f j) none (rowh c h (a 1) (a 2) (rAdd f j x) (j + 1)) := fun x => by
        have := r_add hW (Rx f j (by omega)) x
        rw [rw_rw F.buf.1, show rNum j = j + 1 from if_pos (by omega)] at this
        exact this
      refine x_iload C dX6_type_51 rfl ?_
      refine x_if_lt (tgt := 77) C dX6_type_53 (by decide) (fun c53 => absurd c53 (nI_pos (by omega))) (fun c53 => ?_)
      refine x_aload_n C dX6_type_56 rfl ?_
      refine e_get C Y kd_X6 0 (by decide) wf_X6_10 dX6_type_57 (Fx f j) rfl ?_
      refine x_lload_n C dX6_type_60 rfl ?_
      refine x_bipush (v := 8) C dX6_type_61 (by decide) ?_
      refine x_iload C dX6_type_63 rfl ?_
      refine x_imul C dX6_type_65 ?_
      refine x_lushr C dX6_type_66 ?_
      refine x_l2i C dX6_type_67 ?_
      refine u_callV C Y hW E.cs (ha _) md_X5_add wi_X5_add ws_X5_add wm_X6_63 dX6_type_68 rfl (by decide) (by decide) (Rx f j (by omega)).2.1 rfl rfl (by simp [Value.category]) ?_
      refine o_iincE (v := nI rem - 1) (L' := [some _, some _, none, some _, some _]) C dX6_type_71 rfl (by rw [Int32.sub_eq_add_neg]; rfl) (by rw [hn]; decide) rfl ?_
      refine x_goto (tgt := 51) C dX6_type_74 (by decide) ?_
      exact ih (j + 1) _ (by omega)
  have hc33 : nI 0 + nI m ≤ (300 : Int32) := by rw [nI_add]; exact nI_le (show 0 + m ≤ 300 by omega) (by decide)
  have h0 : h = rowh c h (a 1) (a 2) (fun _ => 0) 0 := F.buf.same.symm
  refine x_aload_n C dX6_type_21 rfl ?_
  refine e_get C Y kd_X6 0 (by decide) wf_X6_10 dX6_type_22 F.x rfl ?_
  refine u_callV C Y hW E.cs (r_size hW F.buf) md_X5_size wi_X5_size ws_X5_size wm_X6_54 dX6_type_25 rfl (by decide) (by decide) F.buf.2.1 rfl rfl (by simp [Value.category]) ?_
  refine x_iload_n C dX6_type_28 rfl ?_
  refine x_iadd C dX6_type_29 ?_
  refine x_sipush (v := 300) C dX6_type_30 (by decide) ?_
  refine x_icmp_le (tgt := 46) C dX6_type_33 (by decide) (fun c33 => ?_) (fun c33 => absurd c33 (not_not_intro hc33))
  refine x_iload_n C dX6_type_46 rfl ?_
  refine x_iconst (v := 1) C dX6_type_47 (by decide) ?_
  refine x_isub C dX6_type_48 ?_
  refine o_istoreE (L' := [some _, some _, none, some _, some _]) C dX6_type_49 (by rw [hn]; decide) rfl ?_
  skip
  rw [h0]
  exact LP m 0 _ (Nat.zero_add m)
end Calls
end
section
/-! MeterBus, a new one: meter. -/
section Calls
variable {w : Wd} {c : Nat → ClassId} {a : Nat → Nat} {h : PH}
theorem m_areDigits (hW : Wc w c) (i : Int32) : TC w yX6_areDigits cX6_areDigits 2 (some .boolean) 0 [.int i] h (some (.int (bI (g_dig i 8 = true)))) h := by
  refine TC.intro hW rfl (by decide +kernel) (Nat.le_of_ble_eq_true rfl) (fun z C Y E hn => ?_)
  have all_ : ∀ {n t : Nat}, t < n → g_dig i n = true → (i >>> (((4 : Int32) * nI t) &&& 31)) &&& 15 < 10 := fun {n t} ht g => by
    have := List.all_eq_true.mp g t (List.mem_range.mpr ht)
    exact of_decide_eq_true this
  have LP : ∀ (r t : Nat), t + r = 8 → g_dig i t = true → X z 0 0 (EQ h) 2 [some (.int i), some (.int (nI (4 * t)))] [] := by
    intro r
    induction r with
    | zero =>
      intro t ht hd
      obtain rfl : t = 8 := by omega
      refine x_iload_n C dX6_areDigits_2 rfl ?_
      refine x_bipush (v := 32) C dX6_areDigits_3 (by decide) ?_
      refine x_icmp_ge (tgt := 27) C dX6_areDigits_5 (by decide) (fun c5 => ?_) (fun c5 => absurd c5 (not_not_intro (Int32.le_refl _)))
      refine x_iconst (v := 1) C dX6_areDigits_27 (by decide) ?_
      refine e_zret C E dX6_areDigits_28 (by decide) ?_ ?_
      all_goals first | exact rfl | exact congrArg (fun x => some (Value.int x)) (bI_t hd).symm
    | succ r ih =>
      intro t ht hd
      refine x_iload_n C dX6_areDigits_2 rfl ?_
      refine x_bipush (v := 32) C dX6_areDigits_3 (by decide) ?_
      refine x_icmp_ge (tgt := 27) C dX6_areDigits_5 (by decide) (fun c5 => absurd c5 (Int32.not_le.mpr (nI_lt (show 4 * t < 32 by omega) (by decide)))) (fun c5 => ?_)
      refine x_iload_n C dX6_areDigits_8 rfl ?_
      refine x_iload_n C dX6_areDigits_9 rfl ?_
      refine x_iushr C dX6_areDigits_10 ?_
      refine x_bipush (v := 15) C dX6_areDigits_11 (by decide) ?_
      refine x_iand C dX6_areDigits_13 ?_
      rw [dig_eq i t (by omega)]
      refine x_bipush (v := 9) C dX6_areDigits_14 (by decide) ?_
      refine x_icmp_le (tgt := 21) C dX6_areDigits_16 (by decide) (fun c16 => ?_) (fun c16 => ?_)
      · have hd1 : g_dig i (t + 1) = true := g_dig_s.mpr ⟨hd, lt10 c16⟩
        refine o_iincE (v := nI (4 * (t + 1))) (L' := [some _, some _]) C dX6_areDigits_21 rfl (by rw [show (Int32.ofInt 4) = nI 4 from rfl, nI_add]; exact congrArg nI (by omega)) (by rw [hn]; decide) rfl ?_
        refine x_goto (tgt := 2) C dX6_areDigits_24 (by decide) ?_
        exact ih (t + 1) (by omega) hd1
      · have hnd : ¬ g_dig i 8 = true := fun g => c16 (le9 (all_ (show t < 8 by omega) g))
        refine x_iconst (v := 0) C dX6_areDigits_19 (by decide) ?_
        refine e_zret C E dX6_areDigits_20 (by decide) ?_ ?_
        all_goals first | exact rfl | exact congrArg (fun x => some (Value.int x)) (bI_f hnd).symm
  refine x_iconst (v := 0) C dX6_areDigits_0 (by decide) ?_
  refine o_istore_nE (L' := [some _, some _]) C dX6_areDigits_1 (by rw [hn]; decide) rfl ?_
  exact LP 8 0 rfl rfl
/-- what the class asks of the numbers of a meter -/
abbrev k_good (ad i mk v d : Int32) : Prop := (((0 : Int32) ≤ ad ∧ ad ≤ 250) ∧ g_dig i 8 = true) ∧ (((0 : Int32) ≤ mk &&& 255 ∧ mk &&& 255 ≤ 254) ∧ ((0 : Int32) ≤ mk >>> ((8 : Int32) &&& 31) ∧ mk >>> ((8 : Int32) &&& 31) ≤ 254) ∧ ((0 : Int32) ≤ v ∧ v ≤ 254) ∧ ((0 : Int32) ≤ d ∧ d ≤ 254))
theorem m_meter (hX : Wx w c) (F : FR c a h) (k ad i mk v d : Int32) : TCX w yX6_meter cX6_meter 9 none 6 194 [.ref (a 0), .int k, .int ad, .int i, .int mk, .int v, .int d] h (fun r g => (((0 : Int32) ≤ k ∧ k < 12) ∧ k_good ad i mk v d) ∧ r = none ∧ ∀ q, h q ≠ none → q ≠ a 4 → g q = h q)
    (fun En g => (¬ ((0 : Int32) ≤ k ∧ k < 12) ∧ En = IOE ∧ g = h) ∨ (((0 : Int32) ≤ k ∧ k < 12) ∧ ¬ k_good ad i mk v d) ∧ En = IAE ∧ g = h) := by
  have hW := hX.1
  refine TCX.intro hX.1 rfl (by decide +kernel) (Nat.le_of_ble_eq_true rfl) (fun z C Y E hn => ?_)
  refine x_iload_n C dX6_meter_0 rfl ?_
  refine u_callS C hW E.1 (m_isMeterNumber hW k) md_X6_isMeterNumber wt_X6_isMeterNumber wm_X6_81 dX6_meter_1 rfl (by decide) (by decide) rfl (by simp [Value.category]) ?_
  skip
  refine x_if_ne (tgt := 17) C dX6_meter_4 (by decide) (fun c4 => ?_) (fun c4 => ?_)
  rotate_left
  · exact u_thr (kc := 5) (ks := 188) hX C E exs_IOE at_76 wc_X6_72 wz_IndexOutOfBoundsException (show (85, "no such meter") ∈ txts by simp [txts]) dX6_meter_7 dX6_meter_10 dX6_meter_11 dX6_meter_13 dX6_meter_16 (by decide) (fun g e => Or.inl ⟨fun q => absurd (bI_t q) (by rw [c4]; decide), rfl, e⟩)
  have g0 : (0 : Int32) ≤ k ∧ k < 12 := Decidable.of_not_not (fun g => c4 (bI_f g))
  have T35 : ¬ k_good ad i mk v d → X z 6 194 (EQ h) 35 [some (.ref (a 0)), some (.int k), some (.int ad), some (.int i), some (.int mk), some (.int v), some (.int d), none, none] [] := fun g1 => u_thr (kc := 5) (ks := 188) hX C E exs_IAE at_51 wc_X6_47 wz_IllegalArgumentException (show (90, "the primary address or the ident is not as said") ∈ txts by simp [txts]) dX6_meter_35 dX6_meter_38 dX6_meter_39 dX6_meter_41 dX6_meter_44 (by decide) (fun g e => Or.inr ⟨⟨g0, g1⟩, rfl, e⟩)
  have T84 : ¬ k_good ad i mk v d → X z 6 194 (EQ h) 84 [some (.ref (a 0)), some (.int k), some (.int ad), some (.int i), some (.int mk), some (.int v), some (.int d), none, none] [] := fun g1 => u_thr (kc := 5) (ks := 188) hX C E exs_IAE at_51 wc_X6_47 wz_IllegalArgumentException (show (95, "maker, version or medium is not as said") ∈ txts by simp [txts]) dX6_meter_84 dX6_meter_87 dX6_meter_88 dX6_meter_90 dX6_meter_93 (by decide) (fun g e => Or.inr ⟨⟨g0, g1⟩, rfl, e⟩)
  refine x_iload_n C dX6_meter_17 rfl ?_
  refine x_if_lt (tgt := 35) C dX6_meter_18 (by decide) (fun c1 => T35 (fun g => absurd g.1.1.1 (Int32.not_le.mpr c1))) (fun c18 => ?_)
  refine x_iload_n C dX6_meter_21 rfl ?_
  refine x_sipush (v := 250) C dX6_meter_22 (by decide) ?_
  refine x_icmp_gt (tgt := 35) C dX6_meter_25 (by decide) (fun c1 => T35 (fun g => absurd g.1.1.2 (Int32.not_le.mpr c1))) (fun c25 => ?_)
  refine x_iload_n C dX6_meter_28 rfl ?_
  refine u_callS C hW E.1 (m_areDigits hW i) md_X6_areDigits wt_X6_areDigits wm_X6_87 dX6_meter_29 rfl (by decide) (by decide) rfl (by simp [Value.category]) ?_
  skip
  refine x_if_ne (tgt := 45) C dX6_meter_32 (by decide) (fun c32 => ?_) (fun c1 => T35 (fun g => absurd (bI_t g.1.2) (by rw [c1]; decide)))
  have g32 : g_dig i 8 = true := Decidable.of_not_not (fun g => c32 (bI_f g))
  refine x_iload C dX6_meter_45 rfl ?_
  refine x_sipush (v := 255) C dX6_meter_47 (by decide) ?_
  refine x_iand C dX6_meter_50 ?_
  refine u_callS C hW E.1 (m_isAddressByte hW (mk &&& 255)) md_X6_isAddressByte wt_X6_isAddressByte wm_X6_92 dX6_meter_51 rfl (by decide) (by decide) rfl (by simp [Value.category]) ?_
  skip
  refine x_if_eq (tgt := 84) C dX6_meter_54 (by decide) (fun c1 => T84 (fun g => absurd (bI_t g.2.1) (by rw [c1]; decide))) (fun c54 => ?_)
  have g54 := Decidable.of_not_not (fun g => c54 (bI_f g))
  refine x_iload C dX6_meter_57 rfl ?_
  refine x_bipush (v := 8) C dX6_meter_59 (by decide) ?_
  refine x_ishr C dX6_meter_61 ?_
  refine u_callS C hW E.1 (m_isAddressByte hW (mk >>> ((8 : Int32) &&& 31))) md_X6_isAddressByte wt_X6_isAddressByte wm_X6_92 dX6_meter_62 rfl (by decide) (by decide) rfl (by simp [Value.category]) ?_
  skip
  refine x_if_eq (tgt := 84) C dX6_meter_65 (by decide) (fun c1 => T84 (fun g => absurd (bI_t g.2.2.1) (by rw [c1]; decide))) (fun c65 => ?_)
  have g65 := Decidable.of_not_not (fun g => c65 (bI_f g))
  refine x_iload C dX6_meter_68 rfl ?_
  refine u_callS C hW E.1 (m_isAddressByte hW v) md_X6_isAddressByte wt_X6_isAddressByte wm_X6_92 dX6_meter_70 rfl (by decide) (by decide) rfl (by simp [Value.category]) ?_
  skip
  refine x_if_eq (tgt := 84) C dX6_meter_73 (by decide) (fun c1 => T84 (fun g => absurd (bI_t g.2.2.2.1) (by rw [c1]; decide))) (fun c73 => ?_)
  have g73 := Decidable.of_not_not (fun g => c73 (bI_f g))
  refine x_iload C dX6_meter_76 rfl ?_
  refine u_callS C hW E.1 (m_isAddressByte hW d) md_X6_isAddressByte wt_X6_isAddressByte wm_X6_92 dX6_meter_78 rfl (by decide) (by decide) rfl (by simp [Value.category]) ?_
  skip
  refine x_if_ne (tgt := 94) C dX6_meter_81 (by decide) (fun c81 => ?_) (fun c1 => T84 (fun g => absurd (bI_t g.2.2.2.2) (by rw [c1]; decide)))
  have g81 := Decidable.of_not_not (fun g => c81 (bI_f g))
  have gg : k_good ad i mk v d := ⟨⟨⟨Int32.not_lt.mp c18, Int32.not_lt.mp c25⟩, g32⟩, g54, g65, g73, g81⟩
  refine E.go C Y (fun z' C Y E hn1 => ?_)
  rw [hn] at hn1
  have hn := hn1
  obtain ⟨j, hj, rfl⟩ := nI_of (Int32.not_lt.mpr g0.1)
  have hj2 : j < 12 := (nI_ltI hj (by decide)).mp g0.2
  refine x_iload_n C dX6_meter_94 rfl ?_
  refine x_i2l C dX6_meter_95 ?_
  refine x_ldc2 C wk_X6_97 dX6_meter_96 ?_
  refine x_land C dX6_meter_99 ?_
  refine x_iload C dX6_meter_100 rfl ?_
  refine x_i2l C dX6_meter_102 ?_
  refine x_bipush (v := 32) C dX6_meter_103 (by decide) ?_
  refine x_lshl C dX6_meter_105 ?_
  refine x_lor C dX6_meter_106 ?_
  refine x_iload C dX6_meter_107 rfl ?_
  refine x_i2l C dX6_meter_109 ?_
  refine x_bipush (v := 48) C dX6_meter_110 (by decide) ?_
  refine x_lshl C dX6_meter_112 ?_
  refine x_lor C dX6_meter_113 ?_
  refine x_iload C dX6_meter_114 rfl ?_
  refine x_i2l C dX6_meter_116 ?_
  refine x_bipush (v := 56) C dX6_meter_117 (by decide) ?_
  refine x_lshl C dX6_meter_119 ?_
  refine x_lor C dX6_meter_120 ?_
  refine o_lstoreE (L' := [some _, some _, some _, some _, some _, some _, some _, some _, none]) C dX6_meter_121 (by rw [hn]; decide) rfl ?_
  refine x_aload_n C dX6_meter_123 rfl ?_
  refine e_get C Y kd_X6 1 (by decide) wf_X6_19 dX6_meter_124 F.x rfl ?_
  refine x_iload_n C dX6_meter_127 rfl ?_
  refine x_lload C dX6_meter_128 rfl ?_
  refine u_callV C Y hW E.cs (b_hasAnother hX F.bus (nI j) _) md_X0_hasAnother wi_X0_hasAnother ws_X0_hasAnother wm_X6_99 dX6_meter_130 rfl (by decide) (by decide) F.bus.1 rfl rfl (by simp [Value.category]) ?_
  refine x_if_eq (tgt := 146) C dX6_meter_133 (by decide) (fun c133 => ?_) (fun c133 => absurd c133 (not_not_intro rfl))
  refine x_aload_n C dX6_meter_146 rfl ?_
  refine e_get C Y kd_X6 1 (by decide) wf_X6_19 dX6_meter_147 F.x rfl ?_
  refine x_iload_n C dX6_meter_150 rfl ?_
  skip
  refine e_new (kc := 5) (ks := 186) (N := 8) C Y kd_X2 wc_X6_105 wn_X2 wz_X2 dX6_meter_151 (fs := [.long 0, .int 0, .int 0, .null, .null, .int 0, .int 0, .int 0]) (fun j hj => by rcases (show j = 0 ∨ j = 1 ∨ j = 2 ∨ j = 3 ∨ j = 4 ∨ j = 5 ∨ j = 6 ∨ j = 7 by omega) with rfl | rfl | rfl | rfl | rfl | rfl | rfl | rfl <;> rfl) (fun p hp => ?_)
  refine x_dup C dX6_meter_154 rfl ?_
  refine x_iload_n C dX6_meter_155 rfl ?_
  refine x_lload C dX6_meter_156 rfl ?_
  refine X.heap (A' := HO h p _) ?_ (fun g e => by subst e; exact ⟨hp, hs_self .., fun q n1 => hs_ne (fun e1 => n1 (by rw [e1]; exact hp))⟩)
  refine k_callI (kc := 0) (ks := 0) (st := [.ref p, .int (nI j), .ref (a 3)]) C E.cs hX.1.1 gw_good (n_met hX h ad _) md_X2_init rfl wi_X2_init wm_X6_107 dX6_meter_158 rfl (by decide) (by decide) rfl (by simp [Value.category]) (fun r => X.opn (fun g hB => ?_))
  obtain ⟨rfl, vs, -, hvs, old⟩ := hB
  have B2 : BE c g (a 3) (a 4) (a 5) 0 0 := ⟨by rw [old _ (by rw [F.bus.1]; simp)]; exact F.bus.1, by rw [old _ (by rw [F.bus.2]; simp)]; exact F.bus.2⟩
  refine u_callV C Y hW E.cs (b_plug hX B2 j p hj2 hvs) md_X0_plug wi_X0_plug ws_X0_plug wm_X6_110 dX6_meter_161 rfl (by decide) (by decide) B2.1 rfl rfl (by simp [Value.category]) ?_
  exact x_vret C E dX6_meter_164 (fun g e => ⟨⟨g0, gg⟩, rfl, fun q n1 n2 => by rw [e, hs_ne n2]; exact old q n1⟩)
end Calls
end
section
/-! The law's own methods, over a new MeterBus. -/
section Rows
variable {z : Fx} {own : String} {cc : ByteArray} {kc ks pc : Nat} {L : List (Option Value)} {st : List Value} {w : Wd} {c : Nat → ClassId} {h : PH} {fr lo : Nat}
theorem Cty.of (hW : Wc w c) (E : Cs z w fr lo) : Cty z c := by
  obtain ⟨q1, q2, q3, q4, q5, -⟩ := E
  obtain ⟨r1, r3, r4, r5, r6⟩ := hW
  exact ⟨by rw [q3]; exact r3, by rw [q4]; exact r4, by rw [q4]; exact r5, by rw [q4]; exact r6⟩
theorem e_lst (C : Cx z own cc gw) (Y : Cty z c) (d : decode cc pc = .ok (.lastore, 1)) {a n : Nat} {f : Nat → Int64} {i : Int32} {x : Int64} (g : h a = some (.inl (c 1, n, .inr (.inl f)))) (gi : vp_in i n)
    (kk : X z kc ks (EQ (hs h a (.inl (c 1, n, .inr (.inl (vp_updL f i.toNatClampNeg x)))))) (pc + 1) L st) : X z kc ks (EQ h) pc L (.long x :: .int i :: .ref a :: st) := by
  obtain ⟨t, ht⟩ := Y.2.2.1
  exact x_last C ht d (fun q e => by rw [e]; exact g) gi (fun q e => by rw [e]) kk
end Rows
section Law
variable {w : Wd} {c : Nat → ClassId} {a : Nat → Nat} {h : PH} {o : Nat} {f0 : Nat → Int64}
/-- the law's own long[1] at o -/
abbrev OU (c : Nat → ClassId) (o : Nat) (f0 : Nat → Int64) (h : PH) : Prop := h o = some (.inl (c 1, 1, .inr (.inl f0)))
end Law
end
section
/-! THE CLAIM OUT OF ONE WALK OF THE LAW'S BODY. Your part is whole_start (and what it stands on); all else here is the same for every law, but numbers. -/
def R_law : String := "MeterBusLaw"
def lw_P (b : Addr) (xs : List Int32) (args : Array Value) (s : State) : Prop := args = #[.ref b] ∧ s.IntsAt b xs ∧ xs.length ≤ 3584 ∧ (Jvm.Cond.and given_1 narrow_1).before args s = true
def lw_Q (_ : Array Value) (s : State) (o : Outcome) (t : State) : Prop := o = .returned (some (.int 1)) ∧ Framed s o t [] 601024 7293034
def lw_Z (below : List Frame) (a : Array Value) (s : State) : State → Prop := fun t => ∃ o, t.status = .running ∧ Ended t below o ∧ lw_Q a s o t
/-- the law's own end, with 1 on the stack, nothing written that was there before, its room as the claim has it -/
theorem lw_ret {p : Program} {l : Launch} {e : Env} {s : State} {m : MethodId} {below : List Frame} {meth : Method} {c : Code} {b : Nat} (hx : p.tables.exec = Jvm.exec) (hb : c.code = code) (hr : meth.sig.returnType = ret) (hlocks : meth.locks = false) {pc : Nat} {H : Heap} {ls : Array Slot} (hdg : decode code pc = .ok (.ireturn, 1)) : W p l e room_1 s m #[Value.ref b] below meth c H [] 601024 7293034 (lw_Z below #[Value.ref b] s) (F0 m pc ls [.int 1]) := by
  intro T hT X
  obtain ⟨fs, hret, hrun, hended, hW, hframe⟩ := X.leave (v := some (.int 1)) (hlocks := hlocks) (fun h => by rw [hr] at h; cases h)
  have hmeth' : T.vm.method? m = some meth := X.method'
  refine ⟨T.setFrames fs, ?_, .returned (some (.int 1)), hrun, hended, rfl, ⟨_, rfl⟩, hW, hframe⟩
  jvm_step X.here [X.here.top, hx, hb, hdg, hmeth', hr, ret, narrow_b1]
  (try refine ⟨rfl, ?_⟩); (try refine ⟨rfl, ?_⟩)
  first | (intro acts; rw [hret _ acts rfl rfl rfl]) | rw [hret _ _ rfl rfl rfl]
  exact Steps.refl _
/-- what holds at the law's entry: the machine, the code, the tables' words (any of lw_tbl by 'hts w (by decide +kernel)'), the script of L ints xs at the cell b, what the Statement gives of the start (any of its parts by flat_of_before) -/
def lw_At (p : Program) (s : State) (m : MethodId) (meth : Method) (c : Code) (b L : Nat) (xs : Nat → Int32) : Prop :=
  p.tables.exec = Jvm.exec ∧ c.code = code ∧ meth.sig.returnType = ret ∧ c.maxLocals = 8 ∧ s.vm.findClass R_law = some m.cls ∧ (∀ w ∈ lw_tbl, w.before #[Value.ref b] s = true) ∧ va_X b L xs s s.heap ∧ b < s.heap.size ∧ meth.locks = false ∧ (Jvm.Cond.and given_1 narrow_1).before #[Value.ref b] s = true
end
