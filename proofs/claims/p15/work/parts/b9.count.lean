/-! MeterBus at any time: record, text, count. -/
section Calls
variable {w : Wd} {c : Nat → ClassId} {a : Nat → Nat} {h9 : PH} {V : Nat → Prop} {h : PH} {α : Nat → Int64} {f : Nat → Option Nat} {κ κd : Nat → Nat}
theorem zz_record (hX : Wx w c) (Z : ZZ c a h9 V α f κ κd h) (k i : Int32) : TCX w yX6_record cX6_record 4 (some .long) 1 6 [.ref (a 0), .int k, .int i] h (fun r g => (∃ v, r = some (.long v)) ∧ ZE c a h9 V α f g) (fun En g => En = IOE ∧ g = h) := by
  have hW := hX.1
  obtain ⟨fn, f1, Bx⟩ := Z.x
  have Bl : ∃ vs, h (a 7) = some (.inr (4, vs)) := by
    obtain ⟨⟨n, n1, Bl⟩, -⟩ := Z.dec
    exact ⟨_, Bl⟩
  obtain ⟨vs, Bl⟩ := Bl
  refine TCX.intro hX.1 rfl (by decide +kernel) (Nat.le_of_ble_eq_true rfl) (fun z C Y E hn => ?_)
  have T28 : ∀ l : Option Value, X z 1 6 (EQ h) 28 [some (.ref (a 0)), some (.int k), some (.int i), l] [] := fun l => u_thr (kc := 0) (ks := 0) hX C E exs_IOE at_76 wc_X6_72 wz_IndexOutOfBoundsException (show (193, "no such record or what") ∈ txts by simp [txts]) dX6_record_28 dX6_record_31 dX6_record_32 dX6_record_34 dX6_record_37 (by decide) (fun g e => ⟨rfl, e⟩)
  refine x_aload_n C dX6_record_0 rfl ?_
  refine e_get C Y kd_X6 2 (by decide) wf_X6_26 dX6_record_1 Bx rfl ?_
  refine x_iload_n C dX6_record_4 rfl ?_
  refine k_callR (kc := 1) (ks := 6) (mc' := 0) (ms' := 0) (st := []) C Y hW E.1 (l_at hX Z.dec k) rfl md_X4_at wi_X4_at ws_X4_at wm_X6_185 dX6_record_5 rfl (by decide) (by decide) Bl rfl rfl (by decide) (fun r g hg => ?_)
  obtain ⟨eg, hg⟩ := hg
  rw [eg]
  rcases hg with rfl | ⟨p, rfl, hp⟩
  · refine o_astore_nN (L' := [some _, some _, some _, some _]) C dX6_record_8 (by rw [hn]; decide) rfl ?_
    refine x_aload_nN C dX6_record_9 rfl ?_
    exact x_ifnullN (tgt := 28) C dX6_record_10 (by decide) (T28 _)
  have Br : ∃ (va sg : Int64) (co fu ta un ln : Int32) (v vn : Nat) (lt : Value), h p = some (.inr (3, rdL va co fu sg ta un v (nI vn) lt ln)) := by
    obtain ⟨e, B, va, sg, co, fu, ta, un, ln, v, vn, lt, rfl, -⟩ := Z.dec.rd hp
    exact ⟨va, sg, co, fu, ta, un, ln, v, vn, lt, B⟩
  obtain ⟨va, sg, co, fu, ta, un, ln, v, vn, lt, B⟩ := Br
  refine o_astore_nE (L' := [some _, some _, some _, some _]) C dX6_record_8 (by rw [hn]; decide) rfl ?_
  refine x_aload_n C dX6_record_9 rfl ?_
  refine x_ifnull C dX6_record_10 ?_
  refine x_iload_n C dX6_record_13 rfl ?_
  refine x_if_lt (tgt := 28) C dX6_record_14 (by decide) (fun _ => T28 _) (fun _ => ?_)
  refine x_iload_n C dX6_record_17 rfl ?_
  refine x_bipush (v := 7) C dX6_record_18 (by decide) ?_
  refine x_aload_n C dX6_record_20 rfl ?_
  refine u_callV (st := [.int 7, .int i]) C Y hW E.1 (q_vifNumber hW B) md_X3_vifNumber wi_X3_vifNumber ws_X3_vifNumber wm_X6_188 dX6_record_21 rfl (by decide) (by decide) B rfl rfl (by simp [Value.category]) ?_
  refine x_iadd C dX6_record_24 ?_
  refine x_icmp_lt (tgt := 38) C dX6_record_25 (by decide) (fun _ => ?_) (fun _ => T28 _)
  refine x_aload_n C dX6_record_38 rfl ?_
  refine x_iload_n C dX6_record_39 rfl ?_
  refine k_callR (kc := 1) (ks := 6) (mc' := 0) (ms' := 0) (st := []) C Y hW E.1 (q_detail hX Z.dec hp i) rfl md_X3_detail wi_X3_detail ws_X3_detail wm_X6_195 dX6_record_40 rfl (by decide) (by decide) B rfl rfl (by decide) (fun r g2 hg => ?_)
  obtain ⟨eg2, v2, rfl⟩ := hg
  rw [eg2]
  exact E.go C Y (fun z' C Y E hn => x_lret C E dX6_record_43 (fun g e => ⟨⟨_, rfl⟩, by rw [e]; exact ⟨κ, κd, Z⟩⟩))
theorem zz_text (hX : Wx w c) (Z : ZZ c a h9 V α f κ κd h) (k i : Int32) : TCX w yX6_text cX6_text 4 (some .int) 1 6 [.ref (a 0), .int k, .int i] h (PI c a h9 V α f) (fun En g => En = IOE ∧ g = h) := by
  have hW := hX.1
  obtain ⟨fn, f1, Bx⟩ := Z.x
  have Bl : ∃ vs, h (a 7) = some (.inr (4, vs)) := by
    obtain ⟨⟨n, n1, Bl⟩, -⟩ := Z.dec
    exact ⟨_, Bl⟩
  obtain ⟨vs, Bl⟩ := Bl
  refine TCX.intro hX.1 rfl (by decide +kernel) (Nat.le_of_ble_eq_true rfl) (fun z C Y E hn => ?_)
  have T25 : ∀ l : Option Value, X z 1 6 (EQ h) 25 [some (.ref (a 0)), some (.int k), some (.int i), l] [] := fun l => u_thr (kc := 0) (ks := 0) hX C E exs_IOE at_76 wc_X6_72 wz_IndexOutOfBoundsException (show (201, "no such record or byte of a text") ∈ txts by simp [txts]) dX6_text_25 dX6_text_28 dX6_text_29 dX6_text_31 dX6_text_34 (by decide) (fun g e => ⟨rfl, e⟩)
  refine x_aload_n C dX6_text_0 rfl ?_
  refine e_get C Y kd_X6 2 (by decide) wf_X6_26 dX6_text_1 Bx rfl ?_
  refine x_iload_n C dX6_text_4 rfl ?_
  refine k_callR (kc := 1) (ks := 6) (mc' := 0) (ms' := 0) (st := []) C Y hW E.1 (l_at hX Z.dec k) rfl md_X4_at wi_X4_at ws_X4_at wm_X6_185 dX6_text_5 rfl (by decide) (by decide) Bl rfl rfl (by decide) (fun r g hg => ?_)
  obtain ⟨eg, hg⟩ := hg
  rw [eg]
  rcases hg with rfl | ⟨p, rfl, hp⟩
  · refine o_astore_nN (L' := [some _, some _, some _, some _]) C dX6_text_8 (by rw [hn]; decide) rfl ?_
    refine x_aload_nN C dX6_text_9 rfl ?_
    exact x_ifnullN (tgt := 25) C dX6_text_10 (by decide) (T25 _)
  have Br : ∃ (va sg : Int64) (co fu ta un ln : Int32) (v vn : Nat) (lt : Value), h p = some (.inr (3, rdL va co fu sg ta un v (nI vn) lt ln)) := by
    obtain ⟨e, B, va, sg, co, fu, ta, un, ln, v, vn, lt, rfl, -⟩ := Z.dec.rd hp
    exact ⟨va, sg, co, fu, ta, un, ln, v, vn, lt, B⟩
  obtain ⟨va, sg, co, fu, ta, un, ln, v, vn, lt, B⟩ := Br
  refine o_astore_nE (L' := [some _, some _, some _, some _]) C dX6_text_8 (by rw [hn]; decide) rfl ?_
  refine x_aload_n C dX6_text_9 rfl ?_
  refine x_ifnull C dX6_text_10 ?_
  refine x_iload_n C dX6_text_13 rfl ?_
  refine x_if_lt (tgt := 25) C dX6_text_14 (by decide) (fun _ => T25 _) (fun _ => ?_)
  refine x_iload_n C dX6_text_17 rfl ?_
  refine x_aload_n C dX6_text_18 rfl ?_
  refine u_callV (st := [.int i]) C Y hW E.1 (q_textSize hW B) md_X3_textSize wi_X3_textSize ws_X3_textSize wm_X6_198 dX6_text_19 rfl (by decide) (by decide) B rfl rfl (by simp [Value.category]) ?_
  refine x_icmp_lt (tgt := 35) C dX6_text_22 (by decide) (fun _ => ?_) (fun _ => T25 _)
  refine x_aload_n C dX6_text_35 rfl ?_
  refine x_iload_n C dX6_text_36 rfl ?_
  refine k_callR (kc := 1) (ks := 6) (mc' := 0) (ms' := 0) (st := []) C Y hW E.1 (q_textAt hX Z.dec hp i) rfl md_X3_textAt wi_X3_textAt ws_X3_textAt wm_X6_203 dX6_text_37 rfl (by decide) (by decide) B rfl rfl (by decide) (fun r g2 hg => ?_)
  obtain ⟨eg2, v2, rfl⟩ := hg
  rw [eg2]
  exact E.go C Y (fun z' C Y E hn => x_iret C E dX6_text_40 (fun g e => ⟨⟨_, rfl⟩, by rw [e]; exact ⟨κ, κd, Z⟩⟩))
theorem zz_count (hX : Wx w c) (Z : ZZ c a h9 V α f κ κd h) (x : Int32) : TCX w yX6_count cX6_count 2 (some .int) 1 6 [.ref (a 0), .int x] h (PI c a h9 V α f) (fun En g => En = IOE ∧ g = h) := by
  have hW := hX.1
  obtain ⟨fn, f1, Bx⟩ := Z.x
  obtain ⟨fr1, co, B⟩ := Z.bus.uc
  obtain ⟨gb, nb, R, hb⟩ := Z.buf
  obtain ⟨⟨nl, n1, Bl⟩, -⟩ := Z.dec
  refine TCX.intro hX.1 rfl (by decide +kernel) (Nat.le_of_ble_eq_true rfl) (fun z C Y E hn => ?_)
  refine x_iload_n C dX6_count_0 rfl ?_
  by_cases g0 : (0 : Int32) ≤ x ∧ x ≤ 5
  · obtain ⟨j, hj, rfl⟩ := nI_of (Int32.not_lt.mpr g0.1)
    have hj2 : j ≤ 5 := Nat.le_of_not_lt (fun g => absurd (nI_lt g hj) (Int32.not_lt.mpr g0.2))
    refine E.go C Y (fun z' C Y E hn1 => ?_)
    have fin : ∀ (g : PH), g = h → ∀ v : Int32, PI c a h9 V α f (some (.int v)) g := fun g e v => ⟨⟨_, rfl⟩, by rw [e]; exact ⟨κ, κd, Z⟩⟩
    rcases (show j = 0 ∨ j = 1 ∨ j = 2 ∨ j = 3 ∨ j = 4 ∨ j = 5 by omega) with rfl | rfl | rfl | rfl | rfl | rfl
    · refine x_tblIn (tgt := 40) (off := 39) C dX6_count_1 (by decide) (by decide) (by decide) (by decide) ?_
      refine x_aload_n C dX6_count_40 rfl ?_
      refine e_get C Y kd_X6 1 (by decide) wf_X6_19 dX6_count_41 Bx rfl ?_
      refine k_callR (kc := 1) (ks := 6) (mc' := 0) (ms' := 0) (st := []) C Y hW E.cs (u_meterNumber hX Z.bus) rfl md_X0_meterNumber wi_X0_meterNumber ws_X0_meterNumber wm_X6_206 dX6_count_44 rfl (by decide) (by decide) B rfl rfl (by decide) (fun r g hg => ?_)
      obtain ⟨eg, v, rfl⟩ := hg
      rw [eg]
      exact x_iret C E dX6_count_47 (fun g e => fin g e _)
    · refine x_tblIn (tgt := 48) (off := 47) C dX6_count_1 (by decide) (by decide) (by decide) (by decide) ?_
      refine x_aload_n C dX6_count_48 rfl ?_
      refine e_get C Y kd_X6 0 (by decide) wf_X6_10 dX6_count_49 Bx rfl ?_
      refine u_callV (st := []) C Y hW E.cs (r_size hW R) md_X5_size wi_X5_size ws_X5_size wm_X6_54 dX6_count_52 rfl (by decide) (by decide) R.2.1 rfl rfl (by decide) ?_
      exact x_iret C E dX6_count_55 (fun g e => fin g e _)
    · refine x_tblIn (tgt := 56) (off := 55) C dX6_count_1 (by decide) (by decide) (by decide) (by decide) ?_
      refine x_aload_n C dX6_count_56 rfl ?_
      refine e_get C Y kd_X6 5 (by decide) wf_X6_43 dX6_count_57 Bx rfl ?_
      exact x_iret C E dX6_count_60 (fun g e => fin g e _)
    · refine x_tblIn (tgt := 61) (off := 60) C dX6_count_1 (by decide) (by decide) (by decide) (by decide) ?_
      refine x_aload_n C dX6_count_61 rfl ?_
      refine e_get C Y kd_X6 2 (by decide) wf_X6_26 dX6_count_62 Bx rfl ?_
      refine u_callV (st := []) C Y hW E.cs (l_size hW Bl) md_X4_size wi_X4_size ws_X4_size wm_X6_181 dX6_count_65 rfl (by decide) (by decide) Bl rfl rfl (by decide) ?_
      exact x_iret C E dX6_count_68 (fun g e => fin g e _)
    · refine x_tblIn (tgt := 69) (off := 68) C dX6_count_1 (by decide) (by decide) (by decide) (by decide) ?_
      refine x_aload_n C dX6_count_69 rfl ?_
      refine e_get C Y kd_X6 1 (by decide) wf_X6_19 dX6_count_70 Bx rfl ?_
      refine u_callV (st := []) C Y hW E.cs (u_frameNumber hX B) md_X0_frameNumber wi_X0_frameNumber ws_X0_frameNumber wm_X6_209 dX6_count_73 rfl (by decide) (by decide) B rfl rfl (by decide) ?_
      exact x_iret C E dX6_count_76 (fun g e => fin g e _)
    · refine x_tblIn (tgt := 77) (off := 76) C dX6_count_1 (by decide) (by decide) (by decide) (by decide) ?_
      refine x_aload_n C dX6_count_77 rfl ?_
      refine e_get C Y kd_X6 1 (by decide) wf_X6_19 dX6_count_78 Bx rfl ?_
      refine u_callV (st := []) C Y hW E.cs (u_collisionNumber hX B) md_X0_collisionNumber wi_X0_collisionNumber ws_X0_collisionNumber wm_X6_212 dX6_count_81 rfl (by decide) (by decide) B rfl rfl (by decide) ?_
      exact x_iret C E dX6_count_84 (fun g e => fin g e _)
  · refine x_tblOut (tgt := 85) C dX6_count_1 (outR g0) (by decide) ?_
    exact u_thr (kc := 0) (ks := 0) hX C E exs_IOE at_76 wc_X6_72 wz_IndexOutOfBoundsException (show (215, "no such what") ∈ txts by simp [txts]) dX6_count_85 dX6_count_88 dX6_count_89 dX6_count_91 dX6_count_94 (by decide) (fun g e => ⟨rfl, e⟩)
end Calls
