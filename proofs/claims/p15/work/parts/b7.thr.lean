/-! MeterBus at any time: the calls that may throw. -/
theorem HB.add2 {g : Nat → Int32} {n : Nat} (hb : HB g n) (hn : n ≤ 300) (x : Int32) : HB (rAdd g n x) (rNum n) ∧ rNum n ≤ 300 := by
  by_cases q : n < 300
  · rw [show rNum n = n + 1 from if_pos q]
    exact ⟨hb.add q x, q⟩
  · rw [show rNum n = n from if_neg q, show rAdd g n x = g from if_neg q]
    exact ⟨hb, hn⟩
theorem HB.cut {g : Nat → Int32} {n : Nat} (hb : HB g n) (hn : n ≤ 300) (i : Int32) : HB g (rCut n i) ∧ rCut n i ≤ 300 := ⟨fun j hj => hb j (Nat.lt_of_lt_of_le hj (rCut_le n i hn)), Nat.le_trans (rCut_le n i hn) hn⟩
/-- it answers a number -/
def PI (c : Nat → ClassId) (a : Nat → Nat) (h9 : PH) (V : Nat → Prop) (α : Nat → Int64) (f : Nat → Option Nat) (r : Option Value) (g : PH) : Prop := (∃ v, r = some (.int v)) ∧ ZE c a h9 V α f g
section Calls
variable {w : Wd} {c : Nat → ClassId} {a : Nat → Nat} {h9 : PH} {V : Nat → Prop} {h : PH} {α : Nat → Int64} {f : Nat → Option Nat} {κ κd : Nat → Nat}
theorem zz_type (hX : Wx w c) (Z : ZZ c a h9 V α f κ κd h) (b : Int64) (n : Int32) : TCX w yX6_type cX6_type 5 (some .int) 1 6 [.ref (a 0), .long b, .int n] h (PI c a h9 V α f) (fun En g => (En = IAE ∨ En = UOE) ∧ g = h) := by
  have hW := hX.1
  obtain ⟨fn, f1, Bx⟩ := Z.x
  obtain ⟨gb, nb, R, hb⟩ := Z.buf
  refine TCX.intro hX.1 rfl (by decide +kernel) (Nat.le_of_ble_eq_true rfl) (fun z C Y E hn => ?_)
  have T11 : X z 1 6 (EQ h) 11 [some (.ref (a 0)), some (.long b), none, some (.int n), none] [] := u_thr (kc := 0) (ks := 0) hX C E exs_IAE at_51 wc_X6_47 wz_IllegalArgumentException (show (49, "n is not 1 .. 8") ∈ txts by simp [txts]) dX6_type_11 dX6_type_14 dX6_type_15 dX6_type_17 dX6_type_20 (by decide) (fun g e => ⟨Or.inl rfl, e⟩)
  refine x_iload_n C dX6_type_0 rfl ?_
  refine x_iconst (v := 1) C dX6_type_1 (by decide) ?_
  refine x_icmp_lt (tgt := 11) C dX6_type_2 (by decide) (fun c2 => T11) (fun c2 => ?_)
  refine x_iload_n C dX6_type_5 rfl ?_
  refine x_bipush (v := 8) C dX6_type_6 (by decide) ?_
  refine x_icmp_le (tgt := 21) C dX6_type_8 (by decide) (fun c8 => ?_) (fun c8 => T11)
  obtain ⟨m, hm, rfl⟩ := nI_of (x := n) (Int32.not_lt.mpr (Int32.le_trans (by decide) (Int32.not_lt.mp c2)))
  have hm8 : m ≤ 8 := Nat.le_of_not_lt (fun g => absurd (nI_lt g hm) (Int32.not_lt.mpr c8))
  refine x_aload_n C dX6_type_21 rfl ?_
  refine e_get C Y kd_X6 0 (by decide) wf_X6_10 dX6_type_22 Bx rfl ?_
  refine u_callV (st := []) C Y hW E.1 (r_size hW R) md_X5_size wi_X5_size ws_X5_size wm_X6_54 dX6_type_25 rfl (by decide) (by decide) R.2.1 rfl rfl (by decide) ?_
  refine x_iload_n C dX6_type_28 rfl ?_
  refine x_iadd C dX6_type_29 ?_
  refine x_sipush (v := 300) C dX6_type_30 (by decide) ?_
  refine x_icmp_le (tgt := 46) C dX6_type_33 (by decide) (fun _ => ?_) (fun _ => u_thr (kc := 0) (ks := 0) hX C E exs_UOE at_62 wc_X6_58 wz_UnsupportedOperationException (show (60, "the buffer would have more than 300 bytes") ∈ txts by simp [txts]) dX6_type_36 dX6_type_39 dX6_type_40 dX6_type_42 dX6_type_45 (by decide) (fun g e => ⟨Or.inr rfl, e⟩))
  refine E.go C Y (fun z' C Y E hn1 => ?_)
  rw [hn] at hn1
  have hn := hn1
  have LP : ∀ (rem : Nat) (h : PH), rem ≤ 8 → ZZ c a h9 V α f κ κd h → X z' 1 6 (EQ h) 51 [some (.ref (a 0)), some (.long b), none, some (.int (nI m)), some (.int (nI rem - 1))] [] := by
    intro rem
    induction rem with
    | zero =>
      intro h _ Z
      obtain ⟨fn, f1, Bx⟩ := Z.x
      obtain ⟨gb, nb, R, hb⟩ := Z.buf
      refine x_iload C dX6_type_51 rfl ?_
      refine x_if_lt (tgt := 77) C dX6_type_53 (by decide) (fun c53 => ?_) (fun c53 => absurd c53 (not_not_intro (by decide)))
      refine x_aload_n C dX6_type_77 rfl ?_
      refine e_get C Y kd_X6 0 (by decide) wf_X6_10 dX6_type_78 Bx rfl ?_
      refine u_callV (st := []) C Y hW E.cs (r_size hW R) md_X5_size wi_X5_size ws_X5_size wm_X6_54 dX6_type_81 rfl (by decide) (by decide) R.2.1 rfl rfl (by decide) ?_
      exact x_iret C E dX6_type_84 (fun g e => ⟨⟨_, rfl⟩, by rw [e]; exact ⟨κ, κd, Z⟩⟩)
    | succ rem ih =>
      intro h hr Z
      obtain ⟨fn, f1, Bx⟩ := Z.x
      obtain ⟨gb, nb, R, hb⟩ := Z.buf
      have e1 : nI (rem + 1) - 1 = nI rem := by rw [← nI_1]; exact Int32.add_sub_cancel ..
      rw [e1]
      have Za : ∀ x : Int32, ZZ c a h9 V α f κ κd (rowh c h (a 1) (a 2) (rAdd gb nb x) (rNum nb)) := fun x => Z.putB (hb.add2 R.2.2.2 x).2 (hb.add2 R.2.2.2 x).1
      refine x_iload C dX6_type_51 rfl ?_
      refine x_if_lt (tgt := 77) C dX6_type_53 (by decide) (fun c53 => absurd c53 (nI_pos (by omega))) (fun c53 => ?_)
      refine x_aload_n C dX6_type_56 rfl ?_
      refine e_get C Y kd_X6 0 (by decide) wf_X6_10 dX6_type_57 Bx rfl ?_
      refine x_lload_n C dX6_type_60 rfl ?_
      refine x_bipush (v := 8) C dX6_type_61 (by decide) ?_
      refine x_iload C dX6_type_63 rfl ?_
      refine x_imul C dX6_type_65 ?_
      refine x_lushr C dX6_type_66 ?_
      refine x_l2i C dX6_type_67 ?_
      refine u_callV (st := []) C Y hW E.cs (r_add hW R _) md_X5_add wi_X5_add ws_X5_add wm_X6_63 dX6_type_68 rfl (by decide) (by decide) R.2.1 rfl rfl (by decide) ?_
      refine o_iincE (v := nI rem - 1) (L' := [some _, some _, none, some _, some _]) C dX6_type_71 rfl (by rw [Int32.sub_eq_add_neg]; rfl) (by rw [hn]; decide) rfl ?_
      refine x_goto (tgt := 51) C dX6_type_74 (by decide) ?_
      exact ih _ (by omega) (Za _)
  refine x_iload_n C dX6_type_46 rfl ?_
  refine x_iconst (v := 1) C dX6_type_47 (by decide) ?_
  refine x_isub C dX6_type_48 ?_
  refine o_istoreE (L' := [some _, some _, none, some _, some _]) C dX6_type_49 (by rw [hn]; decide) rfl ?_
  exact LP m h hm8 Z
theorem zz_keep (hX : Wx w c) (Z : ZZ c a h9 V α f κ κd h) (n : Int32) : TCX w yX6_keep cX6_keep 2 none 1 6 [.ref (a 0), .int n] h (fun r g => r = none ∧ ZE c a h9 V α f g) (fun En g => En = IAE ∧ g = h) := by
  have hW := hX.1
  obtain ⟨fn, f1, Bx⟩ := Z.x
  obtain ⟨gb, nb, R, hb⟩ := Z.buf
  refine TCX.intro hX.1 rfl (by decide +kernel) (Nat.le_of_ble_eq_true rfl) (fun z C Y E hn => ?_)
  have T15 : X z 1 6 (EQ h) 15 [some (.ref (a 0)), some (.int n)] [] := u_thr (kc := 0) (ks := 0) hX C E exs_IAE at_51 wc_X6_47 wz_IllegalArgumentException (show (67, "the buffer has not so many bytes") ∈ txts by simp [txts]) dX6_keep_15 dX6_keep_18 dX6_keep_19 dX6_keep_21 dX6_keep_24 (by decide) (fun g e => ⟨rfl, e⟩)
  refine x_iload_n C dX6_keep_0 rfl ?_
  refine x_if_lt (tgt := 15) C dX6_keep_1 (by decide) (fun c1 => T15) (fun c1 => ?_)
  refine x_iload_n C dX6_keep_4 rfl ?_
  refine x_aload_n C dX6_keep_5 rfl ?_
  refine e_get C Y kd_X6 0 (by decide) wf_X6_10 dX6_keep_6 Bx rfl ?_
  refine u_callV (st := [.int n]) C Y hW E.1 (r_size hW R) md_X5_size wi_X5_size ws_X5_size wm_X6_54 dX6_keep_9 rfl (by decide) (by decide) R.2.1 rfl rfl (by simp [Value.category]) ?_
  refine x_icmp_le (tgt := 25) C dX6_keep_12 (by decide) (fun c2 => ?_) (fun c2 => T15)
  refine x_aload_n C dX6_keep_25 rfl ?_
  refine e_get C Y kd_X6 0 (by decide) wf_X6_10 dX6_keep_26 Bx rfl ?_
  refine x_iload_n C dX6_keep_29 rfl ?_
  refine u_callV (st := []) C Y hW E.1 (r_cutTo hW R n) md_X5_cutTo wi_X5_cutTo ws_X5_cutTo wm_X6_69 dX6_keep_30 rfl (by decide) (by decide) R.2.1 rfl rfl (by decide) ?_
  exact E.go C Y (fun z' C Y E hn => x_vret C E dX6_keep_33 (fun g e => ⟨rfl, by rw [e]; exact ⟨κ, κd, Z.putB (hb.cut R.2.2.2 _).2 (hb.cut R.2.2.2 _).1⟩⟩))
theorem zz_typed (hX : Wx w c) (Z : ZZ c a h9 V α f κ κd h) (i : Int32) : TCX w yX6_typed cX6_typed 2 (some .int) 1 6 [.ref (a 0), .int i] h (PI c a h9 V α f) (fun En g => En = IOE ∧ g = h) := by
  have hW := hX.1
  obtain ⟨fn, f1, Bx⟩ := Z.x
  obtain ⟨gb, nb, R, hb⟩ := Z.buf
  refine TCX.intro hX.1 rfl (by decide +kernel) (Nat.le_of_ble_eq_true rfl) (fun z C Y E hn => ?_)
  have T15 : X z 1 6 (EQ h) 15 [some (.ref (a 0)), some (.int i)] [] := u_thr (kc := 0) (ks := 0) hX C E exs_IOE at_76 wc_X6_72 wz_IndexOutOfBoundsException (show (74, "no such place") ∈ txts by simp [txts]) dX6_typed_15 dX6_typed_18 dX6_typed_19 dX6_typed_21 dX6_typed_24 (by decide) (fun g e => ⟨rfl, e⟩)
  refine x_iload_n C dX6_typed_0 rfl ?_
  refine x_if_lt (tgt := 15) C dX6_typed_1 (by decide) (fun c1 => T15) (fun c1 => ?_)
  refine x_iload_n C dX6_typed_4 rfl ?_
  refine x_aload_n C dX6_typed_5 rfl ?_
  refine e_get C Y kd_X6 0 (by decide) wf_X6_10 dX6_typed_6 Bx rfl ?_
  refine u_callV (st := [.int i]) C Y hW E.1 (r_size hW R) md_X5_size wi_X5_size ws_X5_size wm_X6_54 dX6_typed_9 rfl (by decide) (by decide) R.2.1 rfl rfl (by simp [Value.category]) ?_
  refine x_icmp_lt (tgt := 25) C dX6_typed_12 (by decide) (fun c2 => ?_) (fun c2 => T15)
  refine x_aload_n C dX6_typed_25 rfl ?_
  refine e_get C Y kd_X6 0 (by decide) wf_X6_10 dX6_typed_26 Bx rfl ?_
  refine x_iload_n C dX6_typed_29 rfl ?_
  refine u_callV (st := []) C Y hW E.1 (r_at hW R i) md_X5_at wi_X5_at ws_X5_at wm_X6_77 dX6_typed_30 rfl (by decide) (by decide) R.2.1 rfl rfl (by decide) ?_
  exact E.go C Y (fun z' C Y E hn => x_iret C E dX6_typed_33 (fun g e => ⟨⟨_, rfl⟩, by rw [e]; exact ⟨κ, κd, Z⟩⟩))
theorem zz_remove (hX : Wx w c) (Z : ZZ c a h9 V α f κ κd h) (k : Int32) : TCX w yX6_remove cX6_remove 3 (some .boolean) 1 6 [.ref (a 0), .int k] h (fun r g => ∃ j, j < 12 ∧ k = nI j ∧ r = some (.int (if f j = none then 0 else 1)) ∧ ZE c a h9 V α (va_up f j none) g) (fun En g => ¬ ((0 : Int32) ≤ k ∧ k < 12) ∧ En = IOE ∧ g = h) := by
  have hW := hX.1
  obtain ⟨fn, f1, Bx⟩ := Z.x
  obtain ⟨fr1, co, B⟩ := Z.bus.uc
  refine TCX.intro hX.1 rfl (by decide +kernel) (Nat.le_of_ble_eq_true rfl) (fun z C Y E hn => ?_)
  refine x_iload_n C dX6_remove_0 rfl ?_
  refine u_callS C hW E.1 (m_isMeterNumber hW k) md_X6_isMeterNumber wt_X6_isMeterNumber wm_X6_81 dX6_remove_1 rfl (by decide) (by decide) rfl (by simp [Value.category]) ?_
  refine x_if_ne (tgt := 17) C dX6_remove_4 (by decide) (fun c1 => ?_) (fun c1 => ?_)
  · have g0 : (0 : Int32) ≤ k ∧ k < 12 := Decidable.of_not_not (fun g => c1 (bI_f g))
    obtain ⟨j, hj, rfl⟩ := nI_of (Int32.not_lt.mpr g0.1)
    have hj2 : j < 12 := (nI_ltI hj (by decide)).mp g0.2
    refine E.go C Y (fun z' C Y E hn1 => ?_)
    rw [hn] at hn1
    have hn := hn1
    have T33 : ∀ v : Int32, v = (if f j = none then 0 else 1) → narrow .boolean (.int v) = .int v → X z' 1 6 (EQ h) 33 [some (.ref (a 0)), some (.int (nI j)), none] [.int v] := fun v ev nv => by
      refine o_istore_nE (L' := [some _, some _, some _]) C dX6_remove_33 (by rw [hn]; decide) rfl ?_
      refine x_aload_n C dX6_remove_34 rfl ?_
      refine e_get C Y kd_X6 1 (by decide) wf_X6_19 dX6_remove_35 Bx rfl ?_
      refine x_iload_n C dX6_remove_38 rfl ?_
      refine x_null C dX6_remove_39 ?_
      refine u_callV (st := []) C Y hW E.cs (u_plugN hX Z.bus hj2) md_X0_plug wi_X0_plug ws_X0_plug wm_X6_110 dX6_remove_40 rfl (by decide) (by decide) B rfl rfl (by decide) ?_
      refine x_iload_n C dX6_remove_43 rfl ?_
      refine x_zret C E dX6_remove_44 nv (fun g e => ⟨j, hj2, rfl, by rw [ev], ?_⟩)
      rw [e]
      obtain ⟨n, n90, D⟩ := Z.bus
      refine ⟨κ, κd, Z.ofB0 ⟨n, n90, D.plug (fun q m hq => ?_)⟩⟩
      by_cases e1 : q = j
      · subst e1; rw [va_up_self] at hq; exact nomatch hq
      · rw [va_up_ne _ _ e1] at hq; exact D.2.2.1 q m hq
    refine x_aload_n C dX6_remove_17 rfl ?_
    refine e_get C Y kd_X6 1 (by decide) wf_X6_19 dX6_remove_18 Bx rfl ?_
    refine x_iload_n C dX6_remove_21 rfl ?_
    refine u_callV (st := []) C Y hW E.cs (u_meterAt hX Z.bus (nI j)) md_X0_meterAt wi_X0_meterAt ws_X0_meterAt wm_X6_114 dX6_remove_22 rfl (by decide) (by decide) B rfl rfl (by decide) ?_
    rw [fk_nI f hj2]
    cases e : f j with
    | none =>
      refine x_ifnullN (tgt := 32) C dX6_remove_25 (by decide) ?_
      exact x_iconst (v := 0) C dX6_remove_32 (by decide) (T33 0 (by rw [e]; rfl) (by decide))
    | some m =>
      refine x_ifnull C dX6_remove_25 ?_
      refine x_iconst (v := 1) C dX6_remove_28 (by decide) ?_
      exact x_goto (tgt := 33) C dX6_remove_29 (by decide) (T33 1 (by rw [e]; rfl) (by decide))
  · exact u_thr (kc := 0) (ks := 0) hX C E exs_IOE at_76 wc_X6_72 wz_IndexOutOfBoundsException (show (85, "no such meter") ∈ txts by simp [txts]) dX6_remove_7 dX6_remove_10 dX6_remove_11 dX6_remove_13 dX6_remove_16 (by decide) (fun g e => ⟨fun q => absurd (bI_t q) (by rw [c1]; decide), rfl, e⟩)
theorem zz_state (hX : Wx w c) (Z : ZZ c a h9 V α f κ κd h) (k x : Int32) : TCX w yX6_state cX6_state 4 (some .int) 1 6 [.ref (a 0), .int k, .int x] h (PI c a h9 V α f) (fun En g => En = IOE ∧ g = h) := by
  have hW := hX.1
  obtain ⟨fn, f1, Bx⟩ := Z.x
  obtain ⟨fr1, co, B⟩ := Z.bus.uc
  refine TCX.intro hX.1 rfl (by decide +kernel) (Nat.le_of_ble_eq_true rfl) (fun z C Y E hn => ?_)
  have T17 : X z 1 6 (EQ h) 17 [some (.ref (a 0)), some (.int k), some (.int x), none] [] := u_thr (kc := 0) (ks := 0) hX C E exs_IOE at_76 wc_X6_72 wz_IndexOutOfBoundsException (show (129, "no such meter or what") ∈ txts by simp [txts]) dX6_state_17 dX6_state_20 dX6_state_21 dX6_state_23 dX6_state_26 (by decide) (fun g e => ⟨rfl, e⟩)
  refine x_iload_n C dX6_state_0 rfl ?_
  refine u_callS C hW E.1 (m_isMeterNumber hW k) md_X6_isMeterNumber wt_X6_isMeterNumber wm_X6_81 dX6_state_1 rfl (by decide) (by decide) rfl (by simp [Value.category]) ?_
  refine x_if_eq (tgt := 17) C dX6_state_4 (by decide) (fun c4 => T17) (fun c4 => ?_)
  refine x_iload_n C dX6_state_7 rfl ?_
  refine x_if_lt (tgt := 17) C dX6_state_8 (by decide) (fun c8 => T17) (fun c8 => ?_)
  refine x_iload_n C dX6_state_11 rfl ?_
  refine x_bipush (v := 6) C dX6_state_12 (by decide) ?_
  refine x_icmp_le (tgt := 27) C dX6_state_14 (by decide) (fun c14 => ?_) (fun c14 => T17)
  refine E.go C Y (fun z' C Y E hn1 => ?_)
  rw [hn] at hn1
  have hn := hn1
  refine x_aload_n C dX6_state_27 rfl ?_
  refine e_get C Y kd_X6 1 (by decide) wf_X6_19 dX6_state_28 Bx rfl ?_
  refine x_iload_n C dX6_state_31 rfl ?_
  refine u_callV (st := []) C Y hW E.cs (u_meterAt hX Z.bus k) md_X0_meterAt wi_X0_meterAt ws_X0_meterAt wm_X6_114 dX6_state_32 rfl (by decide) (by decide) B rfl rfl (by decide) ?_
  cases e : fk f k with
  | none =>
    refine o_astore_nN (L' := [some _, some _, some _, some _]) C dX6_state_35 (by rw [hn]; decide) rfl ?_
    refine x_aload_nN C dX6_state_36 rfl ?_
    refine x_ifnonnullN C dX6_state_37 ?_
    refine x_iconst (v := 0) C dX6_state_40 (by decide) ?_
    refine x_goto (tgt := 49) C dX6_state_41 (by decide) ?_
    exact x_iret C E dX6_state_49 (fun g e => ⟨⟨_, rfl⟩, by rw [e]; exact ⟨κ, κd, Z⟩⟩)
  | some m =>
    have hm : κ m = 1 := by
      obtain ⟨n, n90, D⟩ := Z.bus
      unfold fk at e
      split at e
      · exact nomatch e
      · exact D.2.2.1 _ m e
    obtain ⟨n, n90, D⟩ := Z.bus
    obtain ⟨pr, se, pt, bt, ac, pg, sz, Bm, -⟩ := D.me hm
    refine o_astore_nE (L' := [some _, some _, some _, some _]) C dX6_state_35 (by rw [hn]; decide) rfl ?_
    refine x_aload_n C dX6_state_36 rfl ?_
    refine x_ifnonnull (tgt := 44) C dX6_state_37 (by decide) ?_
    refine x_aload_n C dX6_state_44 rfl ?_
    refine x_iload_n C dX6_state_45 rfl ?_
    refine k_callR (kc := 1) (ks := 6) (mc' := 0) (ms' := 0) (st := []) C Y hW E.cs (t_detail hX Z.bus hm x) rfl md_X2_detail wi_X2_detail ws_X2_detail wm_X6_131 dX6_state_46 rfl (by decide) (by decide) Bm rfl rfl (by decide) (fun r g hg => ?_)
    obtain ⟨eg, v, rfl⟩ := hg
    rw [eg]
    exact x_iret C E dX6_state_49 (fun g e => ⟨⟨_, rfl⟩, by rw [e]; exact ⟨κ, κd, Z⟩⟩)
theorem zz_page (hX : Wx w c) (Z : ZZ c a h9 V α f κ κd h) (k i : Int32) : TCX w yX6_page cX6_page 4 (some .int) 1 6 [.ref (a 0), .int k, .int i] h (PI c a h9 V α f) (fun En g => (En = IOE ∨ En = UOE) ∧ g = h) := by
  have hW := hX.1
  obtain ⟨fn, f1, Bx⟩ := Z.x
  obtain ⟨fr1, co, B⟩ := Z.bus.uc
  obtain ⟨gb, nb, R, hb⟩ := Z.buf
  refine TCX.intro hX.1 rfl (by decide +kernel) (Nat.le_of_ble_eq_true rfl) (fun z C Y E hn => ?_)
  have T22 : ∀ l : Option Value, X z 1 6 (EQ h) 22 [some (.ref (a 0)), some (.int k), some (.int i), l] [] := fun l => u_thr (kc := 0) (ks := 0) hX C E exs_IOE at_76 wc_X6_72 wz_IndexOutOfBoundsException (show (118, "no such meter or page") ∈ txts by simp [txts]) dX6_page_22 dX6_page_25 dX6_page_26 dX6_page_28 dX6_page_31 (by decide) (fun g e => ⟨Or.inl rfl, e⟩)
  refine x_aload_n C dX6_page_0 rfl ?_
  refine e_get C Y kd_X6 1 (by decide) wf_X6_19 dX6_page_1 Bx rfl ?_
  refine x_iload_n C dX6_page_4 rfl ?_
  refine u_callV (st := []) C Y hW E.1 (u_meterAt hX Z.bus k) md_X0_meterAt wi_X0_meterAt ws_X0_meterAt wm_X6_114 dX6_page_5 rfl (by decide) (by decide) B rfl rfl (by decide) ?_
  cases e : fk f k with
  | none =>
    refine o_astore_nN (L' := [some _, some _, some _, some _]) C dX6_page_8 (by rw [hn]; decide) rfl ?_
    refine x_aload_nN C dX6_page_9 rfl ?_
    exact x_ifnullN (tgt := 22) C dX6_page_10 (by decide) (T22 _)
  | some m =>
    have hm : κ m = 1 := by
      obtain ⟨n, n90, D⟩ := Z.bus
      unfold fk at e
      split at e
      · exact nomatch e
      · exact D.2.2.1 _ m e
    refine o_astore_nE (L' := [some _, some _, some _, some _]) C dX6_page_8 (by rw [hn]; decide) rfl ?_
    refine x_aload_n C dX6_page_9 rfl ?_
    refine x_ifnull C dX6_page_10 ?_
    refine x_iload_n C dX6_page_13 rfl ?_
    refine x_if_lt (tgt := 22) C dX6_page_14 (by decide) (fun _ => T22 _) (fun c14 => ?_)
    refine x_iload_n C dX6_page_17 rfl ?_
    refine x_iconst (v := 3) C dX6_page_18 (by decide) ?_
    refine x_icmp_lt (tgt := 32) C dX6_page_19 (by decide) (fun c19 => ?_) (fun _ => T22 _)
    obtain ⟨j, hj, rfl⟩ := nI_of c14
    have hj3 : j < 3 := (nI_ltI hj (by decide)).mp c19
    refine x_aload_n C dX6_page_32 rfl ?_
    refine e_get C Y kd_X6 0 (by decide) wf_X6_10 dX6_page_33 Bx rfl ?_
    refine u_callV (st := []) C Y hW E.1 (r_size hW R) md_X5_size wi_X5_size ws_X5_size wm_X6_54 dX6_page_36 rfl (by decide) (by decide) R.2.1 rfl rfl (by decide) ?_
    refine x_bipush (v := 60) C dX6_page_39 (by decide) ?_
    refine x_icmp_le (tgt := 54) C dX6_page_41 (by decide) (fun _ => ?_) (fun _ => u_thr (kc := 0) (ks := 0) hX C E exs_UOE at_62 wc_X6_58 wz_UnsupportedOperationException (show (120, "the buffer has more than 60 bytes") ∈ txts by simp [txts]) dX6_page_44 dX6_page_47 dX6_page_48 dX6_page_50 dX6_page_53 (by decide) (fun g e => ⟨Or.inr rfl, e⟩))
    refine E.go C Y (fun z' C Y E hn1 => ?_)
    have Bm : ∃ vs, h m = some (.inr (2, vs)) := by
      obtain ⟨n, n90, D⟩ := Z.bus
      obtain ⟨pr, se, pt, bt, ac, pg, sz, Bm, -⟩ := D.me hm
      exact ⟨_, Bm⟩
    obtain ⟨vs, Bm⟩ := Bm
    refine x_aload_n C dX6_page_54 rfl ?_
    refine x_iload_n C dX6_page_55 rfl ?_
    refine x_aload_n C dX6_page_56 rfl ?_
    refine e_get C Y kd_X6 0 (by decide) wf_X6_10 dX6_page_57 Bx rfl ?_
    refine k_callR (kc := 1) (ks := 6) (mc' := 0) (ms' := 0) (st := []) C Y hW E.cs (t_setPage hX hm R (Z.wb (i := 1) (by omega)) (Z.wb (i := 2) (by omega)) hj3) Z.bus md_X2_setPage wi_X2_setPage ws_X2_setPage wm_X6_122 dX6_page_60 rfl (by decide) (by decide) Bm rfl rfl (by decide) (fun r g hg => ?_)
    obtain ⟨rfl, Dg⟩ := hg
    have Zg := Z.ofB0 Dg
    obtain ⟨fn, f1, Bx⟩ := Zg.x
    obtain ⟨gb, nb, R, hb⟩ := Zg.buf
    refine x_aload_n C dX6_page_63 rfl ?_
    refine e_get C Y kd_X6 0 (by decide) wf_X6_10 dX6_page_64 Bx rfl ?_
    refine x_iconst (v := 0) C dX6_page_67 (by decide) ?_
    refine u_callV (st := []) C Y hW E.cs (r_cutTo hW R 0) md_X5_cutTo wi_X5_cutTo ws_X5_cutTo wm_X6_69 dX6_page_68 rfl (by decide) (by decide) R.2.1 rfl rfl (by decide) ?_
    have Z2 := Zg.putB (hb.cut R.2.2.2 0).2 (hb.cut R.2.2.2 0).1
    obtain ⟨n, n90, D⟩ := Z2.bus
    obtain ⟨pr, se, pt, bt, ac, pg, sz, Bm, k1, k2, -⟩ := D.me hm
    obtain ⟨s, Bs⟩ := D.sz k2
    refine x_aload_n C dX6_page_71 rfl ?_
    refine u_callV (st := []) C Y hW E.cs (t_pageNumber hW Bm Bs) md_X2_pageNumber wi_X2_pageNumber ws_X2_pageNumber wm_X6_126 dX6_page_72 rfl (by decide) (by decide) Bm rfl rfl (by decide) ?_
    exact x_iret C E dX6_page_75 (fun g e => ⟨⟨_, rfl⟩, by rw [e]; exact ⟨κ, κd, Z2⟩⟩)
end Calls
