/-! MeterBus against the model: count. -/
section Cnt
variable {w : Wd} {c : Nat → ClassId} {u ma an aa : Nat} {h h0 : PH} {W : Nat → Prop} {α : Nat → Int64} {f : Nat → Option Nat} {κ : Nat → Nat} {S : MS}
theorem cnt_n (K : RK f α S) {k : Nat} (hk : k < 12) (e : f k = none) : S.a 10 k = 0 := by
  rcases K k hk with ⟨-, y⟩ | ⟨p, i, mk, v, d, y, -⟩
  · exact y
  · rw [e] at y; exact nomatch y
theorem cnt_s (K : RK f α S) {k m : Nat} (hk : k < 12) (e : f k = some m) : ¬ S.a 10 k = 0 := by
  rcases K k hk with ⟨y, -⟩ | ⟨p, i, mk, v, d, -, y, -⟩
  · rw [e] at y; exact nomatch y
  · exact y
theorem u_meterNumberX (hX : Wx w c) (D : BX c u ma an aa h0 W α f κ h) (K : RK f α S) : T w gw yX0_meterNumber cX0_meterNumber 3 (some .int) 0 (40 * 0) 0 0 [.ref u] (EQ h) (fun r g => g = h ∧ r = some (.int (f_cnt S 12))) := by
  obtain ⟨fr, co, B⟩ := D.uc
  refine TA.intro hX.1 rfl (by decide +kernel) (Nat.le_of_ble_eq_true rfl) (fun z C Y E hn h1 hA => ?_)
  rw [show h1 = h from hA]
  clear hA
  have LP : ∀ (t k9 : Nat) (v : Int32), k9 + t = 12 → v = f_cnt S k9 → X z 0 0 (EQ h) 4 [some (.ref u), some (.int v), some (.int (nI k9))] [] := by
    intro t
    induction t with
    | zero =>
      intro k9 v hk ev
      obtain rfl : k9 = 12 := by omega
      refine x_iload_n C dX0_meterNumber_4 rfl ?_
      refine x_bipush (v := 12) C dX0_meterNumber_5 (by decide) ?_
      refine x_icmp_ge (tgt := 28) C dX0_meterNumber_7 (by decide) (fun _ => ?_) (fun c7 => absurd (Int32.le_refl _) c7)
      refine x_iload_n C dX0_meterNumber_28 rfl ?_
      exact x_iret C E dX0_meterNumber_29 (fun q e => ⟨e, by rw [ev]⟩)
    | succ t ih =>
      intro k9 v hk ev
      have T22 : ∀ v : Int32, v = f_cnt S (k9 + 1) → X z 0 0 (EQ h) 22 [some (.ref u), some (.int v), some (.int (nI k9))] [] := fun v ev => by
        refine o_iincE (v := nI (k9 + 1)) (L' := [some _, some _, some _]) C dX0_meterNumber_22 rfl (nI_1 k9) (by rw [hn]; decide) rfl ?_
        refine x_goto (tgt := 4) C dX0_meterNumber_25 (by decide) ?_
        exact ih (k9 + 1) v (by omega) ev
      refine x_iload_n C dX0_meterNumber_4 rfl ?_
      refine x_bipush (v := 12) C dX0_meterNumber_5 (by decide) ?_
      refine x_icmp_ge (tgt := 28) C dX0_meterNumber_7 (by decide) (fun c7 => absurd c7 (Int32.not_le.mpr (nI_lt (show k9 < 12 by omega) (by decide)))) (fun c7 => ?_)
      refine x_aload_n C dX0_meterNumber_10 rfl ?_
      refine e_get C Y kd_X0 0 (by decide) wf_X0_11 dX0_meterNumber_11 B rfl ?_
      refine x_iload_n C dX0_meterNumber_14 rfl ?_
      refine k_meter hX C E.cs D (show k9 < 12 by omega) dX0_meterNumber_15 (fun e => ?_) (fun m e hm => ?_)
      · exact x_ifnullN (tgt := 22) C dX0_meterNumber_16 (by decide) (T22 v (by rw [ev, f_cnt, bI_f (fun y => y (cnt_n K (show k9 < 12 by omega) e)), Int32.add_zero]))
      · refine x_ifnull C dX0_meterNumber_16 ?_
        refine o_iincE (L' := [some _, some _, some _]) C dX0_meterNumber_19 rfl rfl (by rw [hn]; decide) rfl ?_
        exact T22 _ (by rw [ev, f_cnt, bI_t (cnt_s K (show k9 < 12 by omega) e)]; rfl)
  refine x_iconst (v := 0) C dX0_meterNumber_0 (by decide) ?_
  refine o_istore_nE (L' := [some _, some _, none]) C dX0_meterNumber_1 (by rw [hn]; decide) rfl ?_
  refine x_iconst (v := 0) C dX0_meterNumber_2 (by decide) ?_
  refine o_istore_nE (L' := [some _, some _, some _]) C dX0_meterNumber_3 (by rw [hn]; decide) rfl ?_
  exact LP 12 0 0 rfl rfl
end Cnt
section Calls
variable {w : Wd} {c : Nat → ClassId} {a : Nat → Nat} {h9 : PH} {V : Nat → Prop} {α : Nat → Int64} {f : Nat → Option Nat} {κ κd ω ωd : Nat → Nat} {S S' : MS} {h g : PH}
theorem zy_count (hX : Wx w c) (hS : MH S) (Z : ZI c a h9 V α f κ κd ω ωd S h) (x : Int32) : TCX w yX6_count cX6_count 2 (some .int) 1 6 [.ref (a 0), .int x] h
    (fun r g => ∃ v S', r = some (.int v) ∧ (∀ M, Wm w M → TF w M yX7_count cX7_count 4 (some .int) 1 [.int x] S (some (.int v)) S') ∧ S'.i 0 = 0 ∧ ZQ c a h9 V S' g) (fun En g => ∃ v S', (∀ M, Wm w M → TF w M yX7_count cX7_count 4 (some .int) 1 [.int x] S (some (.int v)) S') ∧ (En = IOE ∧ S'.i 0 = 1) ∧ ZQ c a h9 V S' g) := by
  have hW := hX.1
  have Bx := Z.x
  have B : h (a 3) = _ := Z.2.2.2.2.1
  obtain ⟨gb, nb, R, e2, hb⟩ := Z.2.2.2.2.2.1
  obtain ⟨rn, gr, xe⟩ := Z.2.2.2.2.2.2.2.x
  have Bl := xe.2.1
  refine TCX.intro hX.1 rfl (by decide +kernel) (Nat.le_of_ble_eq_true rfl) (fun z C Y E hn => ?_)
  refine x_iload_n C dX6_count_0 rfl ?_
  by_cases g0 : (0 : Int32) ≤ x ∧ x ≤ 5
  · obtain ⟨j, hj, rfl⟩ := nI_of (Int32.not_lt.mpr g0.1)
    have hj2 : j ≤ 5 := Nat.le_of_not_lt (fun g => absurd (nI_lt g hj) (Int32.not_lt.mpr g0.2))
    refine E.go C Y (fun z' C Y E hn1 => ?_)
    have fin : ∀ (g : PH), g = h → ∀ v : Int32, v = f_count S (nI j) → ∃ v0 S', some (Value.int v) = some (.int v0) ∧ (∀ M, Wm w M → TF w M yX7_count cX7_count 4 (some .int) 1 [.int (nI j)] S (some (.int v0)) S') ∧ S'.i 0 = 0 ∧ ZQ c a h9 V S' g := fun g e v ev => ⟨v, S.si 0 0, rfl, fun M hM => by rw [ev]; exact s_count_t hM _ g0, by rw [MS.si_i, if_pos rfl], by rw [e]; exact Z.q0 hS 0⟩
    rcases (show j = 0 ∨ j = 1 ∨ j = 2 ∨ j = 3 ∨ j = 4 ∨ j = 5 by omega) with rfl | rfl | rfl | rfl | rfl | rfl
    · refine x_tblIn (tgt := 40) (off := 39) C dX6_count_1 (by decide) (by decide) (by decide) (by decide) ?_
      refine x_aload_n C dX6_count_40 rfl ?_
      refine e_get C Y kd_X6 1 (by decide) wf_X6_19 dX6_count_41 Bx rfl ?_
      refine k_callR (kc := 1) (ks := 6) (mc' := 0) (ms' := 0) (st := []) C Y hW E.cs (u_meterNumberX hX Z.1.bus Z.2.1) rfl md_X0_meterNumber wi_X0_meterNumber ws_X0_meterNumber wm_X6_206 dX6_count_44 rfl (by decide) (by decide) B rfl rfl (by decide) (fun r g hg => ?_)
      obtain ⟨eg, rfl⟩ := hg
      rw [eg]
      exact x_iret C E dX6_count_47 (fun g e => fin g e _ (rfl))
    · refine x_tblIn (tgt := 48) (off := 47) C dX6_count_1 (by decide) (by decide) (by decide) (by decide) ?_
      refine x_aload_n C dX6_count_48 rfl ?_
      refine e_get C Y kd_X6 0 (by decide) wf_X6_10 dX6_count_49 Bx rfl ?_
      refine u_callV (st := []) C Y hW E.cs (r_size hW R) md_X5_size wi_X5_size ws_X5_size wm_X6_54 dX6_count_52 rfl (by decide) (by decide) R.2.1 rfl rfl (by decide) ?_
      exact x_iret C E dX6_count_55 (fun g e => fin g e _ (e2.symm))
    · refine x_tblIn (tgt := 56) (off := 55) C dX6_count_1 (by decide) (by decide) (by decide) (by decide) ?_
      refine x_aload_n C dX6_count_56 rfl ?_
      refine e_get C Y kd_X6 5 (by decide) wf_X6_43 dX6_count_57 Bx rfl ?_
      exact x_iret C E dX6_count_60 (fun g e => fin g e _ (rfl))
    · refine x_tblIn (tgt := 61) (off := 60) C dX6_count_1 (by decide) (by decide) (by decide) (by decide) ?_
      refine x_aload_n C dX6_count_61 rfl ?_
      refine e_get C Y kd_X6 2 (by decide) wf_X6_26 dX6_count_62 Bx rfl ?_
      refine u_callV (st := []) C Y hW E.cs (l_size hW Bl) md_X4_size wi_X4_size ws_X4_size wm_X6_181 dX6_count_65 rfl (by decide) (by decide) Bl rfl rfl (by decide) ?_
      exact x_iret C E dX6_count_68 (fun g e => fin g e _ (xe.2.2.1.symm))
    · refine x_tblIn (tgt := 69) (off := 68) C dX6_count_1 (by decide) (by decide) (by decide) (by decide) ?_
      refine x_aload_n C dX6_count_69 rfl ?_
      refine e_get C Y kd_X6 1 (by decide) wf_X6_19 dX6_count_70 Bx rfl ?_
      refine u_callV (st := []) C Y hW E.cs (u_frameNumber hX B) md_X0_frameNumber wi_X0_frameNumber ws_X0_frameNumber wm_X6_209 dX6_count_73 rfl (by decide) (by decide) B rfl rfl (by decide) ?_
      exact x_iret C E dX6_count_76 (fun g e => fin g e _ (rfl))
    · refine x_tblIn (tgt := 77) (off := 76) C dX6_count_1 (by decide) (by decide) (by decide) (by decide) ?_
      refine x_aload_n C dX6_count_77 rfl ?_
      refine e_get C Y kd_X6 1 (by decide) wf_X6_19 dX6_count_78 Bx rfl ?_
      refine u_callV (st := []) C Y hW E.cs (u_collisionNumber hX B) md_X0_collisionNumber wi_X0_collisionNumber ws_X0_collisionNumber wm_X6_212 dX6_count_81 rfl (by decide) (by decide) B rfl rfl (by decide) ?_
      exact x_iret C E dX6_count_84 (fun g e => fin g e _ (rfl))
  · refine x_tblOut (tgt := 85) C dX6_count_1 (outR g0) (by decide) ?_
    exact u_thr (kc := 0) (ks := 0) hX C E exs_IOE at_76 wc_X6_72 wz_IndexOutOfBoundsException (show (215, "no such what") ∈ txts by simp [txts]) dX6_count_85 dX6_count_88 dX6_count_89 dX6_count_91 dX6_count_94 (by decide) (fun g e => ⟨0, _, fun M hM => s_count_f hM x g0, ⟨rfl, by rw [MS.si_i, if_pos rfl]⟩, by rw [show g = h from e]; exact Z.q0 hS 1⟩)
end Calls
