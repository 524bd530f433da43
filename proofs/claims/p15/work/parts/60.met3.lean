/-! The class: Meter, long frames. -/
section Met
variable {w : Wd} {c : Nat → ClassId} {h : PH} {m pg sz : Nat} {ad : Int64} {pr se pt bt ac : Int32} {p q n p1 q1 n1 : Nat} {f f1 : Nat → Int32}
abbrev lgA (f : Nat → Int32) (n : Nat) : Prop := rAt f n 6 = 80 ∧ nI n - 6 - 3 = 0
abbrev lgB (f : Nat → Int32) (n : Nat) : Prop := rAt f n 6 = 81 ∧ nI n - 6 - 3 = 3 ∧ rAt f n 7 = 1 ∧ rAt f n 8 = 122 ∧ rAt f n 9 ≤ 250
theorem t_long_a (hW : Wc w c) (R : h m = some (mF ad pr se pg sz pt bt ac)) (Q : RW c h p q f n) (a1 : p ≠ m) (a2 : q ≠ m) (Q1 : RW c h p1 q1 f1 n1) (g : lgA f1 n1) : TC w yX2_hearsLong cX2_hearsLong 4 (some .boolean) 2 [.ref m, .ref p1, .ref p] h (some (.int 1)) (rowh c (hs h m (mF ad pr se pg sz (-1) (-1) ac)) p q (upd f 0 229) 1) := by
  refine TC.intro hW rfl (by decide +kernel) (Nat.le_of_ble_eq_true rfl) (fun z C Y E hn => ?_)
  have hf := t_forget hW R
  have Q2 : RW c (hs h m (mF ad pr se pg sz (-1) (-1) ac)) p q f n := ⟨Q.1, (hs_ne a1).trans Q.2.1, (hs_ne a2).trans Q.2.2.1, Q.2.2.2⟩
  have hb := r_becomeSingle hW Q2
  refine x_aload_n C dX2_hearsLong_0 rfl ?_
  refine x_bipush (v := 6) C dX2_hearsLong_1 (by decide) ?_
  refine e_callV C Y hW E (r_at hW Q1 6) md_X5_at wi_X5_at ws_X5_at wm_X2_53 dX2_hearsLong_3 rfl (by decide) (by decide) Q1.2.1 rfl rfl (by simp [Value.category]) ?_
  refine o_istore_nE (L' := [some _, some _, some _, some _]) C dX2_hearsLong_6 (by rw [hn]; decide) rfl ?_
  refine x_iload_n C dX2_hearsLong_7 rfl ?_
  refine x_bipush (v := 80) C dX2_hearsLong_8 (by decide) ?_
  refine x_icmp_ne (tgt := 30) C dX2_hearsLong_10 (by decide) (fun c10 => absurd c10 (not_not_intro g.1)) (fun c10 => ?_)
  refine x_aload_n C dX2_hearsLong_13 rfl ?_
  refine e_callV C Y hW E (r_dataSize hW Q1) md_X5_dataSize wi_X5_dataSize ws_X5_dataSize wm_X2_73 dX2_hearsLong_14 rfl (by decide) (by decide) Q1.2.1 rfl rfl (by simp [Value.category]) ?_
  refine x_if_ne (tgt := 30) C dX2_hearsLong_17 (by decide) (fun c17 => absurd c17 (not_not_intro g.2)) (fun c17 => ?_)
  refine x_aload_n C dX2_hearsLong_20 rfl ?_
  refine e_callV C Y hW E (hf) md_X2_forget wi_X2_forget ws_X2_forget wm_X2_63 dX2_hearsLong_21 rfl (by decide) (by decide) R rfl rfl (by simp [Value.category]) ?_
  refine x_aload_n C dX2_hearsLong_24 rfl ?_
  refine e_callV C Y hW E (hb) md_X5_becomeSingle wi_X5_becomeSingle ws_X5_becomeSingle wm_X2_60 dX2_hearsLong_25 rfl (by decide) (by decide) Q2.2.1 rfl rfl (by simp [Value.category]) ?_
  refine x_iconst (v := 1) C dX2_hearsLong_28 (by decide) ?_
  refine e_zret C E dX2_hearsLong_29 (by decide) ?_ ?_
  all_goals rfl
theorem t_long_b (hW : Wc w c) (R : h m = some (mF ad pr se pg sz pt bt ac)) (Q : RW c h p q f n) (a1 : p ≠ m) (a2 : q ≠ m) (Q1 : RW c h p1 q1 f1 n1) (g : lgB f1 n1) : TC w yX2_hearsLong cX2_hearsLong 4 (some .boolean) 2 [.ref m, .ref p1, .ref p] h (some (.int 1)) (rowh c (hs h m (mF ad (rAt f1 n1 9) se pg sz pt bt ac)) p q (upd f 0 229) 1) := by
  refine TC.intro hW rfl (by decide +kernel) (Nat.le_of_ble_eq_true rfl) (fun z C Y E hn => ?_)
  have Q2 : RW c (hs h m (mF ad (rAt f1 n1 9) se pg sz pt bt ac)) p q f n := ⟨Q.1, (hs_ne a1).trans Q.2.1, (hs_ne a2).trans Q.2.2.1, Q.2.2.2⟩
  have hb := r_becomeSingle hW Q2
  have n80 : ¬ rAt f1 n1 6 = 80 := by rw [g.1]; decide
  refine x_aload_n C dX2_hearsLong_0 rfl ?_
  refine x_bipush (v := 6) C dX2_hearsLong_1 (by decide) ?_
  refine e_callV C Y hW E (r_at hW Q1 6) md_X5_at wi_X5_at ws_X5_at wm_X2_53 dX2_hearsLong_3 rfl (by decide) (by decide) Q1.2.1 rfl rfl (by simp [Value.category]) ?_
  refine o_istore_nE (L' := [some _, some _, some _, some _]) C dX2_hearsLong_6 (by rw [hn]; decide) rfl ?_
  refine x_iload_n C dX2_hearsLong_7 rfl ?_
  refine x_bipush (v := 80) C dX2_hearsLong_8 (by decide) ?_
  refine x_icmp_ne (tgt := 30) C dX2_hearsLong_10 (by decide) (fun c10 => ?_) (fun c10 => absurd c10 n80)
  refine x_iload_n C dX2_hearsLong_30 rfl ?_
  refine x_bipush (v := 81) C dX2_hearsLong_31 (by decide) ?_
  refine x_icmp_ne (tgt := 93) C dX2_hearsLong_33 (by decide) (fun c33 => absurd c33 (not_not_intro g.1)) (fun c33 => ?_)
  refine x_aload_n C dX2_hearsLong_36 rfl ?_
  refine e_callV C Y hW E (r_dataSize hW Q1) md_X5_dataSize wi_X5_dataSize ws_X5_dataSize wm_X2_73 dX2_hearsLong_37 rfl (by decide) (by decide) Q1.2.1 rfl rfl (by simp [Value.category]) ?_
  refine x_iconst (v := 3) C dX2_hearsLong_40 (by decide) ?_
  refine x_icmp_ne (tgt := 93) C dX2_hearsLong_41 (by decide) (fun c41 => absurd c41 (not_not_intro g.2.1)) (fun c41 => ?_)
  refine x_aload_n C dX2_hearsLong_44 rfl ?_
  refine x_bipush (v := 7) C dX2_hearsLong_45 (by decide) ?_
  refine e_callV C Y hW E (r_at hW Q1 7) md_X5_at wi_X5_at ws_X5_at wm_X2_53 dX2_hearsLong_47 rfl (by decide) (by decide) Q1.2.1 rfl rfl (by simp [Value.category]) ?_
  refine x_iconst (v := 1) C dX2_hearsLong_50 (by decide) ?_
  refine x_icmp_ne (tgt := 93) C dX2_hearsLong_51 (by decide) (fun c51 => absurd c51 (not_not_intro g.2.2.1)) (fun c51 => ?_)
  refine x_aload_n C dX2_hearsLong_54 rfl ?_
  refine x_bipush (v := 8) C dX2_hearsLong_55 (by decide) ?_
  refine e_callV C Y hW E (r_at hW Q1 8) md_X5_at wi_X5_at ws_X5_at wm_X2_53 dX2_hearsLong_57 rfl (by decide) (by decide) Q1.2.1 rfl rfl (by simp [Value.category]) ?_
  refine x_bipush (v := 122) C dX2_hearsLong_60 (by decide) ?_
  refine x_icmp_ne (tgt := 93) C dX2_hearsLong_62 (by decide) (fun c62 => absurd c62 (not_not_intro g.2.2.2.1)) (fun c62 => ?_)
  refine x_aload_n C dX2_hearsLong_65 rfl ?_
  refine x_bipush (v := 9) C dX2_hearsLong_66 (by decide) ?_
  refine e_callV C Y hW E (r_at hW Q1 9) md_X5_at wi_X5_at ws_X5_at wm_X2_53 dX2_hearsLong_68 rfl (by decide) (by decide) Q1.2.1 rfl rfl (by simp [Value.category]) ?_
  refine x_sipush (v := 250) C dX2_hearsLong_71 (by decide) ?_
  refine x_icmp_gt (tgt := 93) C dX2_hearsLong_74 (by decide) (fun c74 => absurd c74 (Int32.not_lt.mpr g.2.2.2.2)) (fun c74 => ?_)
  refine x_aload_n C dX2_hearsLong_77 rfl ?_
  refine x_aload_n C dX2_hearsLong_78 rfl ?_
  refine x_bipush (v := 9) C dX2_hearsLong_79 (by decide) ?_
  refine e_callV C Y hW E (r_at hW Q1 9) md_X5_at wi_X5_at ws_X5_at wm_X2_53 dX2_hearsLong_81 rfl (by decide) (by decide) Q1.2.1 rfl rfl (by simp [Value.category]) ?_
  refine e_put C Y kd_X2 1 (by decide) rfl wf_X2_34 dX2_hearsLong_84 R (Nat.le_of_ble_eq_true rfl) rfl rfl rfl ?_
  refine x_aload_n C dX2_hearsLong_87 rfl ?_
  refine e_callV C Y hW E (hb) md_X5_becomeSingle wi_X5_becomeSingle ws_X5_becomeSingle wm_X2_60 dX2_hearsLong_88 rfl (by decide) (by decide) Q2.2.1 rfl rfl (by simp [Value.category]) ?_
  refine x_iconst (v := 1) C dX2_hearsLong_91 (by decide) ?_
  refine e_zret C E dX2_hearsLong_92 (by decide) ?_ ?_
  all_goals rfl
theorem t_long_c (hW : Wc w c) (R : h m = some (mF ad pr se pg sz pt bt ac)) (Q1 : RW c h p1 q1 f1 n1) (gA : ¬ lgA f1 n1) (gB : ¬ lgB f1 n1) (p : Nat) : TC w yX2_hearsLong cX2_hearsLong 4 (some .boolean) 2 [.ref m, .ref p1, .ref p] h (some (.int 0)) h := by
  refine TC.intro hW rfl (by decide +kernel) (Nat.le_of_ble_eq_true rfl) (fun z C Y E hn => ?_)
  have T93 : X z 0 0 (EQ h) 93 [some (.ref m), some (.ref p1), some (.ref p), some (.int (rAt f1 n1 6))] [] := by
    refine x_iconst (v := 0) C dX2_hearsLong_93 (by decide) ?_
    refine e_zret C E dX2_hearsLong_94 (by decide) ?_ ?_
    all_goals rfl
  have T30 : X z 0 0 (EQ h) 30 [some (.ref m), some (.ref p1), some (.ref p), some (.int (rAt f1 n1 6))] [] := by
    refine x_iload_n C dX2_hearsLong_30 rfl ?_
    refine x_bipush (v := 81) C dX2_hearsLong_31 (by decide) ?_
    refine x_icmp_ne (tgt := 93) C dX2_hearsLong_33 (by decide) (fun c33 => ?_) (fun c33 => ?_)
    · skip
      exact T93
    · skip
      refine x_aload_n C dX2_hearsLong_36 rfl ?_
      refine e_callV C Y hW E (r_dataSize hW Q1) md_X5_dataSize wi_X5_dataSize ws_X5_dataSize wm_X2_73 dX2_hearsLong_37 rfl (by decide) (by decide) Q1.2.1 rfl rfl (by simp [Value.category]) ?_
      refine x_iconst (v := 3) C dX2_hearsLong_40 (by decide) ?_
      refine x_icmp_ne (tgt := 93) C dX2_hearsLong_41 (by decide) (fun c41 => ?_) (fun c41 => ?_)
      · skip
        exact T93
      · skip
        refine x_aload_n C dX2_hearsLong_44 rfl ?_
        refine x_bipush (v := 7) C dX2_hearsLong_45 (by decide) ?_
        refine e_callV C Y hW E (r_at hW Q1 7) md_X5_at wi_X5_at ws_X5_at wm_X2_53 dX2_hearsLong_47 rfl (by decide) (by decide) Q1.2.1 rfl rfl (by simp [Value.category]) ?_
        refine x_iconst (v := 1) C dX2_hearsLong_50 (by decide) ?_
        refine x_icmp_ne (tgt := 93) C dX2_hearsLong_51 (by decide) (fun c51 => ?_) (fun c51 => ?_)
        · skip
          exact T93
        · skip
          refine x_aload_n C dX2_hearsLong_54 rfl ?_
          refine x_bipush (v := 8) C dX2_hearsLong_55 (by decide) ?_
          refine e_callV C Y hW E (r_at hW Q1 8) md_X5_at wi_X5_at ws_X5_at wm_X2_53 dX2_hearsLong_57 rfl (by decide) (by decide) Q1.2.1 rfl rfl (by simp [Value.category]) ?_
          refine x_bipush (v := 122) C dX2_hearsLong_60 (by decide) ?_
          refine x_icmp_ne (tgt := 93) C dX2_hearsLong_62 (by decide) (fun c62 => ?_) (fun c62 => ?_)
          · skip
            exact T93
          · skip
            refine x_aload_n C dX2_hearsLong_65 rfl ?_
            refine x_bipush (v := 9) C dX2_hearsLong_66 (by decide) ?_
            refine e_callV C Y hW E (r_at hW Q1 9) md_X5_at wi_X5_at ws_X5_at wm_X2_53 dX2_hearsLong_68 rfl (by decide) (by decide) Q1.2.1 rfl rfl (by simp [Value.category]) ?_
            refine x_sipush (v := 250) C dX2_hearsLong_71 (by decide) ?_
            refine x_icmp_gt (tgt := 93) C dX2_hearsLong_74 (by decide) (fun c74 => ?_) (fun c74 => ?_)
            · skip
              exact T93
            · skip
              exact absurd ⟨c33, c41, c51, c62, Int32.not_lt.mp c74⟩ gB
  refine x_aload_n C dX2_hearsLong_0 rfl ?_
  refine x_bipush (v := 6) C dX2_hearsLong_1 (by decide) ?_
  refine e_callV C Y hW E (r_at hW Q1 6) md_X5_at wi_X5_at ws_X5_at wm_X2_53 dX2_hearsLong_3 rfl (by decide) (by decide) Q1.2.1 rfl rfl (by simp [Value.category]) ?_
  refine o_istore_nE (L' := [some _, some _, some _, some _]) C dX2_hearsLong_6 (by rw [hn]; decide) rfl ?_
  refine x_iload_n C dX2_hearsLong_7 rfl ?_
  refine x_bipush (v := 80) C dX2_hearsLong_8 (by decide) ?_
  refine x_icmp_ne (tgt := 30) C dX2_hearsLong_10 (by decide) (fun c10 => ?_) (fun c10 => ?_)
  · skip
    exact T30
  · skip
    refine x_aload_n C dX2_hearsLong_13 rfl ?_
    refine e_callV C Y hW E (r_dataSize hW Q1) md_X5_dataSize wi_X5_dataSize ws_X5_dataSize wm_X2_73 dX2_hearsLong_14 rfl (by decide) (by decide) Q1.2.1 rfl rfl (by simp [Value.category]) ?_
    refine x_if_ne (tgt := 30) C dX2_hearsLong_17 (by decide) (fun c17 => ?_) (fun c17 => ?_)
    · skip
      exact T30
    · skip
      exact absurd ⟨c10, c17⟩ gA
end Met
