/-! The class: Meter, short frames that ask for nothing. -/
section Met
variable {w : Wd} {c : Nat → ClassId} {h : PH} {m pg sz : Nat} {ad : Int64} {pr se pt bt ac : Int32} {p q n : Nat} {f : Nat → Int32}
theorem t_short_r (hW : Wc w c) (R : h m = some (mF ad pr se pg sz pt bt ac)) (hse : se = 0 ∨ se = 1) (Q : RW c h p q f n) (a1 : p ≠ m) (a2 : q ≠ m) (a : Int32) : TC w yX2_hearsShort cX2_hearsShort 5 (some .boolean) 2 [.ref m, .int 64, .int a, .ref p] h (some (.int 1)) (rowh c (hs h m (mF ad pr (if a = 253 then 0 else se) pg sz (-1) (-1) ac)) p q (upd f 0 229) 1) := by
  refine TC.intro hW rfl (by decide +kernel) (Nat.le_of_ble_eq_true rfl) (fun z C Y E hn => ?_)
  have hf := t_forget hW R
  have R1 : hs h m (mF ad pr se pg sz (-1) (-1) ac) m = some (mF ad pr se pg sz (-1) (-1) ac) := hs_self ..
  have T33 : ∀ v, v = (if a = 253 then 0 else se) → X z 0 0 (EQ (hs h m (mF ad pr v pg sz (-1) (-1) ac))) 33 [some (.ref m), some (.int 64), some (.int a), some (.ref p), none] [] := by
    intro v e
    rw [← e] at E
    have Q2 : RW c (hs h m (mF ad pr v pg sz (-1) (-1) ac)) p q f n := ⟨Q.1, (hs_ne a1).trans Q.2.1, (hs_ne a2).trans Q.2.2.1, Q.2.2.2⟩
    have hb := r_becomeSingle hW Q2
    refine x_aload_n C dX2_hearsShort_33 rfl ?_
    refine e_callV C Y hW E (hb) md_X5_becomeSingle wi_X5_becomeSingle ws_X5_becomeSingle wm_X2_60 dX2_hearsShort_34 rfl (by decide) (by decide) Q2.2.1 rfl rfl (by simp [Value.category]) ?_
    refine x_iconst (v := 1) C dX2_hearsShort_37 (by decide) ?_
    refine e_zret C E dX2_hearsShort_38 (by decide) ?_ ?_
    all_goals rfl
  refine x_iload_n C dX2_hearsShort_0 rfl ?_
  refine x_bipush (v := 64) C dX2_hearsShort_1 (by decide) ?_
  refine x_icmp_ne (tgt := 39) C dX2_hearsShort_3 (by decide) (fun c3 => absurd c3 (not_not_intro rfl)) (fun c3 => ?_)
  refine x_aload_n C dX2_hearsShort_6 rfl ?_
  refine e_callV C Y hW E (hf) md_X2_forget wi_X2_forget ws_X2_forget wm_X2_63 dX2_hearsShort_7 rfl (by decide) (by decide) R rfl rfl (by simp [Value.category]) ?_
  refine x_aload_n C dX2_hearsShort_10 rfl ?_
  refine x_aload_n C dX2_hearsShort_11 rfl ?_
  refine e_get C Y kd_X2 2 (by decide) wf_X2_9 dX2_hearsShort_12 R1 rfl ?_
  refine x_if_eq (tgt := 29) C dX2_hearsShort_15 (by decide) (fun c15 => ?_) (fun c15 => ?_)
  · skip
    refine x_iconst (v := 0) C dX2_hearsShort_29 (by decide) ?_
    refine e_put C Y kd_X2 2 (by decide) rfl wf_X2_9 dX2_hearsShort_30 R1 (Nat.le_of_ble_eq_true rfl) rfl rfl (hs_hs _ _ _ _) ?_
    exact T33 _ (by rcases hse with e | e <;> simp_all)
  · skip
    refine x_iload_n C dX2_hearsShort_18 rfl ?_
    refine x_sipush (v := 253) C dX2_hearsShort_19 (by decide) ?_
    refine x_icmp_eq (tgt := 29) C dX2_hearsShort_22 (by decide) (fun c22 => ?_) (fun c22 => ?_)
    · skip
      refine x_iconst (v := 0) C dX2_hearsShort_29 (by decide) ?_
      refine e_put C Y kd_X2 2 (by decide) rfl wf_X2_9 dX2_hearsShort_30 R1 (Nat.le_of_ble_eq_true rfl) rfl rfl (hs_hs _ _ _ _) ?_
      exact T33 _ (by rcases hse with e | e <;> simp_all)
    · skip
      refine x_iconst (v := 1) C dX2_hearsShort_25 (by decide) ?_
      refine x_goto (tgt := 30) C dX2_hearsShort_26 (by decide) ?_
      refine e_put C Y kd_X2 2 (by decide) rfl wf_X2_9 dX2_hearsShort_30 R1 (Nat.le_of_ble_eq_true rfl) rfl rfl (hs_hs _ _ _ _) ?_
      exact T33 _ (by rcases hse with e | e <;> simp_all)
theorem t_short_n (hW : Wc w c) (k a : Int32) (g1 : ¬ k = 64) (g2 : ¬ k = 91) (g3 : ¬ k = 123) (m p : Nat) : TC w yX2_hearsShort cX2_hearsShort 5 (some .boolean) 2 [.ref m, .int k, .int a, .ref p] h (some (.int 0)) h := by
  refine TC.intro hW rfl (by decide +kernel) (Nat.le_of_ble_eq_true rfl) (fun z C Y E hn => ?_)
  refine x_iload_n C dX2_hearsShort_0 rfl ?_
  refine x_bipush (v := 64) C dX2_hearsShort_1 (by decide) ?_
  refine x_icmp_ne (tgt := 39) C dX2_hearsShort_3 (by decide) (fun c3 => ?_) (fun c3 => absurd c3 g1)
  refine x_iload_n C dX2_hearsShort_39 rfl ?_
  refine x_bipush (v := 91) C dX2_hearsShort_40 (by decide) ?_
  refine x_icmp_eq (tgt := 51) C dX2_hearsShort_42 (by decide) (fun c42 => absurd c42 g2) (fun c42 => ?_)
  refine x_iload_n C dX2_hearsShort_45 rfl ?_
  refine x_bipush (v := 123) C dX2_hearsShort_46 (by decide) ?_
  refine x_icmp_ne (tgt := 95) C dX2_hearsShort_48 (by decide) (fun c48 => ?_) (fun c48 => absurd c48 g3)
  refine x_iconst (v := 0) C dX2_hearsShort_95 (by decide) ?_
  refine e_zret C E dX2_hearsShort_96 (by decide) ?_ ?_
  all_goals rfl
end Met
