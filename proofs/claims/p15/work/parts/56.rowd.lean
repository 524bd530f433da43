/-! The class: Row, what is a frame. -/
section Row
variable {w : Wd} {c : Nat → ClassId} {h : PH} {p q n : Nat} {f : Nat → Int32}
abbrev rShort (f : Nat → Int32) (n : Nat) : Prop := nI n = 5 ∧ rAt f n 0 = 16 ∧ rAt f n 3 = sumR f 1 (min 3 n - 1) &&& 255 ∧ rAt f n 4 = 22
theorem r_isShortFrame (hW : Wc w c) (R : RW c h p q f n) : TC w yX5_isShortFrame cX5_isShortFrame 1 (some .boolean) 2 [.ref p] h (some (.int (bI (rShort f n)))) h := by
  refine TC.intro hW rfl (by decide +kernel) (Nat.le_of_ble_eq_true rfl) (fun z C Y E hn => ?_)
  have s13 := r_sum hW R 1 3 (by decide) (by decide)
  have T46 : ¬ rShort f n → X z 0 0 (EQ h) 46 [some (.ref p)] [] := fun g => by
    refine x_iconst (v := 0) C dX5_isShortFrame_46 (by decide) ?_
    refine e_zret C E dX5_isShortFrame_47 (by decide) ?_ ?_
    all_goals first | exact bI_vf g | exact rfl
  refine x_aload_n C dX5_isShortFrame_0 rfl ?_
  refine e_get C Y kd_X5 1 (by decide) wf_X5_15 dX5_isShortFrame_1 R.2.1 rfl ?_
  refine x_iconst (v := 5) C dX5_isShortFrame_4 (by decide) ?_
  refine x_icmp_ne (tgt := 46) C dX5_isShortFrame_5 (by decide) (fun c5 => ?_) (fun c5 => ?_)
  · skip
    exact T46 (fun g => by simp_all)
  · skip
    refine x_aload_n C dX5_isShortFrame_8 rfl ?_
    refine x_iconst (v := 0) C dX5_isShortFrame_9 (by decide) ?_
    refine e_callV C Y hW E (r_at hW R 0) md_X5_at wi_X5_at ws_X5_at wm_X5_23 dX5_isShortFrame_10 rfl (by decide) (by decide) R.2.1 rfl rfl (by simp [Value.category]) ?_
    refine x_bipush (v := 16) C dX5_isShortFrame_13 (by decide) ?_
    refine x_icmp_ne (tgt := 46) C dX5_isShortFrame_15 (by decide) (fun c15 => ?_) (fun c15 => ?_)
    · skip
      exact T46 (fun g => by simp_all)
    · skip
      refine x_aload_n C dX5_isShortFrame_18 rfl ?_
      refine x_iconst (v := 3) C dX5_isShortFrame_19 (by decide) ?_
      refine e_callV C Y hW E (r_at hW R 3) md_X5_at wi_X5_at ws_X5_at wm_X5_23 dX5_isShortFrame_20 rfl (by decide) (by decide) R.2.1 rfl rfl (by simp [Value.category]) ?_
      refine x_aload_n C dX5_isShortFrame_23 rfl ?_
      refine x_iconst (v := 1) C dX5_isShortFrame_24 (by decide) ?_
      refine x_iconst (v := 3) C dX5_isShortFrame_25 (by decide) ?_
      refine e_callV C Y hW E (s13) md_X5_sum wi_X5_sum ws_X5_sum wm_X5_27 dX5_isShortFrame_26 rfl (by decide) (by decide) R.2.1 rfl rfl (by simp [Value.category]) ?_
      refine x_icmp_ne (tgt := 46) C dX5_isShortFrame_29 (by decide) (fun c29 => ?_) (fun c29 => ?_)
      · skip
        exact T46 (fun g => by simp_all)
      · skip
        refine x_aload_n C dX5_isShortFrame_32 rfl ?_
        refine x_iconst (v := 4) C dX5_isShortFrame_33 (by decide) ?_
        refine e_callV C Y hW E (r_at hW R 4) md_X5_at wi_X5_at ws_X5_at wm_X5_23 dX5_isShortFrame_34 rfl (by decide) (by decide) R.2.1 rfl rfl (by simp [Value.category]) ?_
        refine x_bipush (v := 22) C dX5_isShortFrame_37 (by decide) ?_
        refine x_icmp_ne (tgt := 46) C dX5_isShortFrame_39 (by decide) (fun c39 => ?_) (fun c39 => ?_)
        · skip
          exact T46 (fun g => by simp_all)
        · skip
          refine x_iconst (v := 1) C dX5_isShortFrame_42 (by decide) ?_
          refine x_goto (tgt := 47) C dX5_isShortFrame_43 (by decide) ?_
          refine e_zret C E dX5_isShortFrame_47 (by decide) ?_ ?_
          all_goals first | exact bI_vt ⟨c5, c15, c29, c39⟩ | exact rfl
abbrev rLong (f : Nat → Int32) (n : Nat) : Prop := (3 ≤ rAt f n 1 ∧ rAt f n 1 ≤ 252) ∧ nI n = rAt f n 1 + 6 ∧ rAt f n 0 = 104 ∧ rAt f n 2 = rAt f n 1 ∧ rAt f n 3 = 104 ∧ rAt f n (rAt f n 1 + 4) = sumR f 4 (min ((rAt f n 1).toNatClampNeg + 4) n - 4) &&& 255 ∧ rAt f n (rAt f n 1 + 5) = 22
theorem r_isLongFrame (hW : Wc w c) (R : RW c h p q f n) : TC w yX5_isLongFrame cX5_isLongFrame 2 (some .boolean) 2 [.ref p] h (some (.int (bI (rLong f n)))) h := by
  refine TC.intro hW rfl (by decide +kernel) (Nat.le_of_ble_eq_true rfl) (fun z C Y E hn => ?_)
  have s4 : 3 ≤ rAt f n 1 → rAt f n 1 ≤ 252 → TC w yX5_sum cX5_sum 5 (some .int) 1 [.ref p, .int 4, .int (rAt f n 1 + 4)] h (some (.int (sumR f 4 (min ((rAt f n 1).toNatClampNeg + 4) n - 4) &&& 255))) h := fun g1 g2 => by
    obtain ⟨L, h1, h2, e⟩ := in_nI (lo := 3) (hi := 252) (by decide) ⟨g1, g2⟩ (by decide)
    rw [e, nI_clamp (by omega), show nI L + 4 = nI (L + 4) from nI_add L 4]
    exact r_sum hW R 4 (L + 4) (by decide) (by omega)
  have T92 : ¬ rLong f n → X z 0 0 (EQ h) 92 [some (.ref p), some (.int (rAt f n 1))] [] := fun g => by
    refine x_iconst (v := 0) C dX5_isLongFrame_92 (by decide) ?_
    refine e_zret C E dX5_isLongFrame_93 (by decide) ?_ ?_
    all_goals first | exact bI_vf g | exact rfl
  refine x_aload_n C dX5_isLongFrame_0 rfl ?_
  refine x_iconst (v := 1) C dX5_isLongFrame_1 (by decide) ?_
  refine e_callV C Y hW E (r_at hW R 1) md_X5_at wi_X5_at ws_X5_at wm_X5_23 dX5_isLongFrame_2 rfl (by decide) (by decide) R.2.1 rfl rfl (by simp [Value.category]) ?_
  refine o_istore_nE (L' := [some _, some _]) C dX5_isLongFrame_5 (by rw [hn]; decide) rfl ?_
  refine x_iload_n C dX5_isLongFrame_6 rfl ?_
  refine x_iconst (v := 3) C dX5_isLongFrame_7 (by decide) ?_
  refine x_icmp_lt (tgt := 92) C dX5_isLongFrame_8 (by decide) (fun c8 => ?_) (fun c8 => ?_)
  · skip
    exact T92 (fun g => by first | exact absurd g.1.1 (Int32.not_le.mpr c8) | exact absurd g.1.2 (Int32.not_le.mpr c15) | exact c26 g.2.1 | exact c36 g.2.2.1 | exact c45 g.2.2.2.1 | exact c55 g.2.2.2.2.1 | exact c73 g.2.2.2.2.2.1 | exact c85 g.2.2.2.2.2.2)
  · skip
    refine x_iload_n C dX5_isLongFrame_11 rfl ?_
    refine x_sipush (v := 252) C dX5_isLongFrame_12 (by decide) ?_
    refine x_icmp_gt (tgt := 92) C dX5_isLongFrame_15 (by decide) (fun c15 => ?_) (fun c15 => ?_)
    · skip
      exact T92 (fun g => by first | exact absurd g.1.1 (Int32.not_le.mpr c8) | exact absurd g.1.2 (Int32.not_le.mpr c15) | exact c26 g.2.1 | exact c36 g.2.2.1 | exact c45 g.2.2.2.1 | exact c55 g.2.2.2.2.1 | exact c73 g.2.2.2.2.2.1 | exact c85 g.2.2.2.2.2.2)
    · skip
      refine x_aload_n C dX5_isLongFrame_18 rfl ?_
      refine e_get C Y kd_X5 1 (by decide) wf_X5_15 dX5_isLongFrame_19 R.2.1 rfl ?_
      refine x_iload_n C dX5_isLongFrame_22 rfl ?_
      refine x_bipush (v := 6) C dX5_isLongFrame_23 (by decide) ?_
      refine x_iadd C dX5_isLongFrame_25 ?_
      refine x_icmp_ne (tgt := 92) C dX5_isLongFrame_26 (by decide) (fun c26 => ?_) (fun c26 => ?_)
      · skip
        exact T92 (fun g => by first | exact absurd g.1.1 (Int32.not_le.mpr c8) | exact absurd g.1.2 (Int32.not_le.mpr c15) | exact c26 g.2.1 | exact c36 g.2.2.1 | exact c45 g.2.2.2.1 | exact c55 g.2.2.2.2.1 | exact c73 g.2.2.2.2.2.1 | exact c85 g.2.2.2.2.2.2)
      · skip
        refine x_aload_n C dX5_isLongFrame_29 rfl ?_
        refine x_iconst (v := 0) C dX5_isLongFrame_30 (by decide) ?_
        refine e_callV C Y hW E (r_at hW R 0) md_X5_at wi_X5_at ws_X5_at wm_X5_23 dX5_isLongFrame_31 rfl (by decide) (by decide) R.2.1 rfl rfl (by simp [Value.category]) ?_
        refine x_bipush (v := 104) C dX5_isLongFrame_34 (by decide) ?_
        refine x_icmp_ne (tgt := 92) C dX5_isLongFrame_36 (by decide) (fun c36 => ?_) (fun c36 => ?_)
        · skip
          exact T92 (fun g => by first | exact absurd g.1.1 (Int32.not_le.mpr c8) | exact absurd g.1.2 (Int32.not_le.mpr c15) | exact c26 g.2.1 | exact c36 g.2.2.1 | exact c45 g.2.2.2.1 | exact c55 g.2.2.2.2.1 | exact c73 g.2.2.2.2.2.1 | exact c85 g.2.2.2.2.2.2)
        · skip
          refine x_aload_n C dX5_isLongFrame_39 rfl ?_
          refine x_iconst (v := 2) C dX5_isLongFrame_40 (by decide) ?_
          refine e_callV C Y hW E (r_at hW R 2) md_X5_at wi_X5_at ws_X5_at wm_X5_23 dX5_isLongFrame_41 rfl (by decide) (by decide) R.2.1 rfl rfl (by simp [Value.category]) ?_
          refine x_iload_n C dX5_isLongFrame_44 rfl ?_
          refine x_icmp_ne (tgt := 92) C dX5_isLongFrame_45 (by decide) (fun c45 => ?_) (fun c45 => ?_)
          · skip
            exact T92 (fun g => by first | exact absurd g.1.1 (Int32.not_le.mpr c8) | exact absurd g.1.2 (Int32.not_le.mpr c15) | exact c26 g.2.1 | exact c36 g.2.2.1 | exact c45 g.2.2.2.1 | exact c55 g.2.2.2.2.1 | exact c73 g.2.2.2.2.2.1 | exact c85 g.2.2.2.2.2.2)
          · skip
            refine x_aload_n C dX5_isLongFrame_48 rfl ?_
            refine x_iconst (v := 3) C dX5_isLongFrame_49 (by decide) ?_
            refine e_callV C Y hW E (r_at hW R 3) md_X5_at wi_X5_at ws_X5_at wm_X5_23 dX5_isLongFrame_50 rfl (by decide) (by decide) R.2.1 rfl rfl (by simp [Value.category]) ?_
            refine x_bipush (v := 104) C dX5_isLongFrame_53 (by decide) ?_
            refine x_icmp_ne (tgt := 92) C dX5_isLongFrame_55 (by decide) (fun c55 => ?_) (fun c55 => ?_)
            · skip
              exact T92 (fun g => by first | exact absurd g.1.1 (Int32.not_le.mpr c8) | exact absurd g.1.2 (Int32.not_le.mpr c15) | exact c26 g.2.1 | exact c36 g.2.2.1 | exact c45 g.2.2.2.1 | exact c55 g.2.2.2.2.1 | exact c73 g.2.2.2.2.2.1 | exact c85 g.2.2.2.2.2.2)
            · skip
              refine x_aload_n C dX5_isLongFrame_58 rfl ?_
              refine x_iload_n C dX5_isLongFrame_59 rfl ?_
              refine x_iconst (v := 4) C dX5_isLongFrame_60 (by decide) ?_
              refine x_iadd C dX5_isLongFrame_61 ?_
              refine e_callV C Y hW E (r_at hW R (rAt f n 1 + 4)) md_X5_at wi_X5_at ws_X5_at wm_X5_23 dX5_isLongFrame_62 rfl (by decide) (by decide) R.2.1 rfl rfl (by simp [Value.category]) ?_
              refine x_aload_n C dX5_isLongFrame_65 rfl ?_
              refine x_iconst (v := 4) C dX5_isLongFrame_66 (by decide) ?_
              refine x_iload_n C dX5_isLongFrame_67 rfl ?_
              refine x_iconst (v := 4) C dX5_isLongFrame_68 (by decide) ?_
              refine x_iadd C dX5_isLongFrame_69 ?_
              refine e_callV C Y hW E (s4 (Int32.not_lt.mp c8) (Int32.not_lt.mp c15)) md_X5_sum wi_X5_sum ws_X5_sum wm_X5_27 dX5_isLongFrame_70 rfl (by decide) (by decide) R.2.1 rfl rfl (by simp [Value.category]) ?_
              refine x_icmp_ne (tgt := 92) C dX5_isLongFrame_73 (by decide) (fun c73 => ?_) (fun c73 => ?_)
              · skip
                exact T92 (fun g => by first | exact absurd g.1.1 (Int32.not_le.mpr c8) | exact absurd g.1.2 (Int32.not_le.mpr c15) | exact c26 g.2.1 | exact c36 g.2.2.1 | exact c45 g.2.2.2.1 | exact c55 g.2.2.2.2.1 | exact c73 g.2.2.2.2.2.1 | exact c85 g.2.2.2.2.2.2)
              · skip
                refine x_aload_n C dX5_isLongFrame_76 rfl ?_
                refine x_iload_n C dX5_isLongFrame_77 rfl ?_
                refine x_iconst (v := 5) C dX5_isLongFrame_78 (by decide) ?_
                refine x_iadd C dX5_isLongFrame_79 ?_
                refine e_callV C Y hW E (r_at hW R (rAt f n 1 + 5)) md_X5_at wi_X5_at ws_X5_at wm_X5_23 dX5_isLongFrame_80 rfl (by decide) (by decide) R.2.1 rfl rfl (by simp [Value.category]) ?_
                refine x_bipush (v := 22) C dX5_isLongFrame_83 (by decide) ?_
                refine x_icmp_ne (tgt := 92) C dX5_isLongFrame_85 (by decide) (fun c85 => ?_) (fun c85 => ?_)
                · skip
                  exact T92 (fun g => by first | exact absurd g.1.1 (Int32.not_le.mpr c8) | exact absurd g.1.2 (Int32.not_le.mpr c15) | exact c26 g.2.1 | exact c36 g.2.2.1 | exact c45 g.2.2.2.1 | exact c55 g.2.2.2.2.1 | exact c73 g.2.2.2.2.2.1 | exact c85 g.2.2.2.2.2.2)
                · skip
                  refine x_iconst (v := 1) C dX5_isLongFrame_88 (by decide) ?_
                  refine x_goto (tgt := 93) C dX5_isLongFrame_89 (by decide) ?_
                  refine e_zret C E dX5_isLongFrame_93 (by decide) ?_ ?_
                  all_goals first | exact bI_vt ⟨⟨Int32.not_lt.mp c8, Int32.not_lt.mp c15⟩, c26, c36, c45, c55, c73, c85⟩ | exact rfl
end Row
