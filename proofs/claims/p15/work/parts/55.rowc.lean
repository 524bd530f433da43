/-! The class: Row, become and addressAt. -/
/-- k bytes of g in the place of f's first -/
def bcF (f g : Nat → Int32) : Nat → Nat → Int32
  | 0 => f
  | k + 1 => upd (bcF f g k) k (g k &&& 255)
section Row
variable {w : Wd} {c : Nat → ClassId} {h : PH} {p q n : Nat} {f : Nat → Int32}
theorem r_become (hW : Wc w c) (R : RW c h p q f n) {p2 q2 m : Nat} {g : Nat → Int32} (R2 : RW c h p2 q2 g m) (a1 : p2 ≠ p) (a2 : p2 ≠ q) (a3 : q2 ≠ p) (a4 : q2 ≠ q) : TC w yX5_become cX5_become 3 none 1 [.ref p, .ref p2] h none (rowh c h p q (bcF f g m) m) := by
  refine TC.intro hW rfl (by decide +kernel) (Nat.le_of_ble_eq_true rfl) (fun z C Y E hn => ?_)
  have hm3 := R2.2.2.2
  have LP : ∀ (t k : Nat), k + t = m → X z 0 0 (EQ (rowh c h p q (bcF f g k) k)) 7 [some (.ref p), some (.ref p2), some (.int (nI k))] [] := by
    intro t
    induction t with
    | zero =>
      intro k hk
      obtain rfl : k = m := by omega
      have Q : rowh c h p q (bcF f g k) k p2 = some (.inr (5, [.ref q2, .int (nI k)])) := (rw_ne a1 a2).trans R2.2.1
      refine x_iload_n C dX5_become_7 rfl ?_
      refine x_aload_n C dX5_become_8 rfl ?_
      refine e_get C Y kd_X5 1 (by decide) wf_X5_15 dX5_become_9 Q rfl ?_
      refine x_icmp_ge (tgt := 31) C dX5_become_12 (by decide) (fun c12 => ?_) (fun c12 => absurd c12 (not_not_intro Int32.le_rfl))
      refine e_vret C E dX5_become_31 ?_ ?_
      exact rfl
      exact rfl
    | succ t ih =>
      intro k hk
      have Q : rowh c h p q (bcF f g k) k p2 = some (.inr (5, [.ref q2, .int (nI m)])) := (rw_ne a1 a2).trans R2.2.1
      have Q2 : rowh c h p q (bcF f g k) k q2 = some (.inl (c 0, 300, .inl g)) := (rw_ne a3 a4).trans R2.2.2.1
      have R1 : RW c (rowh c h p q (bcF f g k) k) p q (bcF f g k) k := RW.of R.1 (by omega)
      have hr := r_add hW R1 (g k)
      rw [rw_rw R.1, show rNum k = k + 1 from if_pos (by omega), show rAdd (bcF f g k) k (g k) = bcF f g (k + 1) from if_pos (by omega)] at hr
      refine x_iload_n C dX5_become_7 rfl ?_
      refine x_aload_n C dX5_become_8 rfl ?_
      refine e_get C Y kd_X5 1 (by decide) wf_X5_15 dX5_become_9 Q rfl ?_
      refine x_icmp_ge (tgt := 31) C dX5_become_12 (by decide) (fun c12 => absurd c12 (Int32.not_le.mpr (nI_lt (show k < m by omega) (by omega)))) (fun c12 => ?_)
      refine x_aload_n C dX5_become_15 rfl ?_
      refine x_aload_n C dX5_become_16 rfl ?_
      refine e_get C Y kd_X5 0 (by decide) wf_X5_9 dX5_become_17 Q rfl ?_
      refine x_iload_n C dX5_become_20 rfl ?_
      refine e_ild C Y dX5_become_21 Q2 (vp_in_nI (by omega) (by decide)) ?_
      rw [nI_clamp (by omega)]
      refine e_callV C Y hW E (hr) md_X5_add wi_X5_add ws_X5_add wm_X5_19 dX5_become_22 rfl (by decide) (by decide) R1.2.1 rfl rfl (by simp [Value.category]) ?_
      refine o_iincE (v := nI (k + 1)) (L' := [some _, some _, some _]) C dX5_become_25 rfl (nI_1 k) (by rw [hn]; decide) rfl ?_
      refine x_goto (tgt := 7) C dX5_become_28 (by decide) ?_
      exact ih (k + 1) (by omega)
  refine x_aload_n C dX5_become_0 rfl ?_
  refine x_iconst (v := 0) C dX5_become_1 (by decide) ?_
  refine e_put C Y kd_X5 1 (by decide) rfl wf_X5_15 dX5_become_2 R.2.1 (Nat.le_of_ble_eq_true rfl) rfl rfl (R.cut 0) ?_
  refine x_iconst (v := 0) C dX5_become_5 (by decide) ?_
  refine o_istore_nE (L' := [some _, some _, some _]) C dX5_become_6 (by rw [hn]; decide) rfl ?_
  exact LP m 0 (Nat.zero_add m)
/-- bytes from i on, the last first, k of them -/
def adA (f : Nat → Int32) (n i : Nat) : Nat → Int64
  | 0 => 0
  | k + 1 => (adA f n i k <<< ((8 : Int32).toInt64 &&& 63)) ||| (rAt f n (nI (i + (7 - k))) &&& 255).toInt64
theorem nI_m1 (j : Nat) : nI (j + 1) + Int32.ofInt (-1) = nI j := by
  rw [← nI_1, Int32.add_assoc, show (1 : Int32) + Int32.ofInt (-1) = 0 by decide, Int32.add_zero]
theorem r_addressAt (hW : Wc w c) (R : RW c h p q f n) (i : Nat) (hi : i ≤ 300) : TC w yX5_addressAt cX5_addressAt 5 (some .long) 1 [.ref p, .int (nI i)] h (some (.long (adA f n i 8))) h := by
  refine TC.intro hW rfl (by decide +kernel) (Nat.le_of_ble_eq_true rfl) (fun z C Y E hn => ?_)
  have T36 : X z 0 0 (EQ h) 6 [some (.ref p), some (.int (nI i)), some (.long (adA f n i 8)), none, some (.int (-1))] [] := by
    refine x_iload C dX5_addressAt_6 rfl ?_
    refine x_if_lt (tgt := 36) C dX5_addressAt_8 (by decide) (fun c8 => ?_) (fun c8 => absurd c8 (by decide))
    refine x_lload_n C dX5_addressAt_36 rfl ?_
    refine e_lret C E dX5_addressAt_37 ?_ ?_
    exact rfl
    exact rfl
  have LP : ∀ (t k : Nat), k + t = 7 → X z 0 0 (EQ h) 6 [some (.ref p), some (.int (nI i)), some (.long (adA f n i k)), none, some (.int (nI (7 - k)))] [] := by
    intro t
    induction t with
    | zero =>
      intro k hk
      obtain rfl : k = 7 := by omega
      have hr := r_at hW R (nI (i + (7 - 7)))
      refine x_iload C dX5_addressAt_6 rfl ?_
      refine x_if_lt (tgt := 36) C dX5_addressAt_8 (by decide) (fun c8 => absurd c8 (by decide)) (fun c8 => ?_)
      refine x_lload_n C dX5_addressAt_11 rfl ?_
      refine x_bipush (v := 8) C dX5_addressAt_12 (by decide) ?_
      refine x_lshl C dX5_addressAt_14 ?_
      refine x_aload_n C dX5_addressAt_15 rfl ?_
      refine x_iload_n C dX5_addressAt_16 rfl ?_
      refine x_iload C dX5_addressAt_17 rfl ?_
      refine x_iadd C dX5_addressAt_19 ?_
      rw [nI_add]
      refine e_callV C Y hW E (hr) md_X5_at wi_X5_at ws_X5_at wm_X5_23 dX5_addressAt_20 rfl (by decide) (by decide) R.2.1 rfl rfl (by simp [Value.category]) ?_
      refine x_sipush (v := 255) C dX5_addressAt_23 (by decide) ?_
      refine x_iand C dX5_addressAt_26 ?_
      refine x_i2l C dX5_addressAt_27 ?_
      refine x_lor C dX5_addressAt_28 ?_
      refine o_lstore_nE (L' := [some _, some _, some _, none, some _]) C dX5_addressAt_29 (by rw [hn]; decide) rfl ?_
      refine o_iincE (v := -1) (L' := [some _, some _, some _, none, some _]) C dX5_addressAt_30 rfl (by decide) (by rw [hn]; decide) rfl ?_
      refine x_goto (tgt := 6) C dX5_addressAt_33 (by decide) ?_
      exact T36
    | succ t ih =>
      intro k hk
      have hr := r_at hW R (nI (i + (7 - k)))
      refine x_iload C dX5_addressAt_6 rfl ?_
      refine x_if_lt (tgt := 36) C dX5_addressAt_8 (by decide) (fun c8 => absurd c8 (fun q => absurd q (nI_pos (by omega)))) (fun c8 => ?_)
      refine x_lload_n C dX5_addressAt_11 rfl ?_
      refine x_bipush (v := 8) C dX5_addressAt_12 (by decide) ?_
      refine x_lshl C dX5_addressAt_14 ?_
      refine x_aload_n C dX5_addressAt_15 rfl ?_
      refine x_iload_n C dX5_addressAt_16 rfl ?_
      refine x_iload C dX5_addressAt_17 rfl ?_
      refine x_iadd C dX5_addressAt_19 ?_
      rw [nI_add]
      refine e_callV C Y hW E (hr) md_X5_at wi_X5_at ws_X5_at wm_X5_23 dX5_addressAt_20 rfl (by decide) (by decide) R.2.1 rfl rfl (by simp [Value.category]) ?_
      refine x_sipush (v := 255) C dX5_addressAt_23 (by decide) ?_
      refine x_iand C dX5_addressAt_26 ?_
      refine x_i2l C dX5_addressAt_27 ?_
      refine x_lor C dX5_addressAt_28 ?_
      refine o_lstore_nE (L' := [some _, some _, some _, none, some _]) C dX5_addressAt_29 (by rw [hn]; decide) rfl ?_
      refine o_iincE (v := nI (7 - (k + 1))) (L' := [some _, some _, some _, none, some _]) C dX5_addressAt_30 rfl (by rw [show 7 - k = 7 - (k + 1) + 1 by omega]; exact nI_m1 _) (by rw [hn]; decide) rfl ?_
      refine x_goto (tgt := 6) C dX5_addressAt_33 (by decide) ?_
      exact ih (k + 1) (by omega)
  refine x_lconst (v := 0) C dX5_addressAt_0 (by decide) ?_
  refine o_lstore_nE (L' := [some _, some _, some _, none, none]) C dX5_addressAt_1 (by rw [hn]; decide) rfl ?_
  refine x_bipush (v := 7) C dX5_addressAt_2 (by decide) ?_
  refine o_istoreE (L' := [some _, some _, some _, none, some _]) C dX5_addressAt_4 (by rw [hn]; decide) rfl ?_
  exact LP 7 0 rfl
end Row
