/-! MeterBusModel: send, setPart, find. -/
def AO (S : MS) : Prop := ∃ m, m ≤ 300 ∧ S.i 6 = nI m
theorem f_tel_len (S : MS) (k p N : Nat) : (f_tel S k p N).length = 21 + N + if f_more S k p then 1 else 0 := by
  unfold f_tel
  rw [List.length_append, List.length_append, f_body_len]
  simp; omega
theorem AO.ack (S : MS) : AO (f_ack S) := ⟨1, by decide, rfl⟩
theorem AO.asked {S : MS} {k : Nat} {bit : Int32} (h : WFm S k) : AO (f_asked S k bit) := by
  refine ⟨(f_tel S k (f_p S k bit) (f_N S k (f_p S k bit))).length, ?_, rfl⟩
  have := (h.N (f_p_lt S k bit)).1
  rw [f_tel_len]
  split <;> omega
theorem AO.step {S : MS} {k : Nat} {isS sel : Bool} {c a : Int32} (g : AO S) (h : WFm S k) : AO (f_step S isS sel c a k) := by
  unfold f_step f_does
  split
  · split
    · unfold f_sel
      split
      · exact AO.ack _
      · exact g
    · split
      · unfold f_short
        split
        · exact AO.ack _
        · split
          · exact AO.asked h
          · exact g
      · split
        · unfold f_long
          split
          · exact AO.ack _
          · split
            · exact AO.ack _
            · exact g
        · exact g
  · exact g
theorem AO.run {S : MS} {isS sel : Bool} {c a : Int32} (g : AO S) (h : WFa S) : ∀ n, n ≤ 12 → AO (f_run S isS sel c a n)
  | 0, _ => g
  | n + 1, hn => (AO.run g h n (by omega)).step (h.run n n (by omega))
theorem AO.fin {S : MS} {a : Int32} (g : AO S) : AO (f_end S a) := g
theorem WFa.fin {S : MS} {a : Int32} (g : WFa S) : WFa (f_end S a) := fun j hj => (g j hj).of rfl rfl (fun _ => rfl)
theorem AO.bus {S : MS} (h : WFa S) (n : Nat) : AO (f_bus S n) := by
  have g0 : AO (f_begin S) := ⟨0, by decide, rfl⟩
  unfold f_bus
  split
  · exact AO.fin (AO.run g0 h.bg 12 (by decide))
  · split
    · exact AO.fin (AO.run g0 h.bg 12 (by decide))
    · exact g0
def f_m (S : MS) : Nat := (S.i 6).toNatClampNeg
theorem AO.m {S : MS} (g : AO S) : f_m S ≤ 300 ∧ S.i 6 = nI (f_m S) := by
  obtain ⟨m, h1, h2⟩ := g
  unfold f_m
  rw [h2, nI_clamp (by omega)]
  exact ⟨h1, rfl⟩
theorem WFa.bus {S : MS} (h : WFa S) (n : Nat) : WFa (f_bus S n) := by
  unfold f_bus
  split
  · exact (h.bg.run 12).fin
  · split
    · exact (h.bg.run 12).fin
    · exact h.bg
def f_send0 (S : MS) (n : Nat) : MS := f_bus ((f_cp (S.si 0 0) 3 1 n).si 4 (nI n)) n
def f_send (S : MS) (n : Nat) : MS := if (f_send0 S n).i 7 = 1 then (f_cp ((f_send0 S n).si 2 0) 1 5 (f_m (f_send0 S n))).si 2 (nI (f_m (f_send0 S n))) else (f_send0 S n).si 2 0
def f_sendR (S : MS) (n : Nat) : Int32 := if (f_send0 S n).i 7 = 1 then nI (f_m (f_send0 S n)) else if (f_send0 S n).i 7 = 0 then 0 else -2
section Send
variable {w : Wd} {M : MW} {S : MS}
theorem s_send (hW : Wm w M) (h : WFa S) (n : Nat) (hs : S.i 2 = nI n) (hn3 : n ≤ 300) : TF w M yX7_send cX7_send 2 (some .int) 4 [] S (some (.int (f_sendR S n))) (f_send S n) := by
  refine TM.intro hW rfl (Nat.le_of_ble_eq_true rfl) (fun z C Y E hn => ?_)
  have hw1 : WFa ((f_cp (S.si 0 0) 3 1 n).si 4 (nI n)) := (h.si.cp (by decide) (by decide) (by decide) n).si
  have hb := s_bus (S := (f_cp (S.si 0 0) 3 1 n).si 4 (nI n)) hW n rfl hn3 hw1
  obtain ⟨am1, am2⟩ := (AO.bus hw1 n).m
  have e2 : ∀ b, (f_cp (S.si 0 0) 3 1 b).i 2 = nI n := fun b => by rw [f_cp_i]; exact hs
  have T45 : X z 0 0 (MA M (f_send0 S n)) 45 [some (.ref M.o), some (.int (nI n))] [] := by
    have am : f_m (f_send0 S n) ≤ 300 ∧ (f_send0 S n).i 6 = nI (f_m (f_send0 S n)) := ⟨am1, am2⟩
    unfold f_send f_sendR at E
    generalize f_send0 S n = S2 at am E ⊢
    obtain ⟨am1, am2⟩ := am
    generalize hm : f_m S2 = m at am1 am2 E ⊢
    by_cases h1 : S2.i 7 = 1
    · rw [if_pos h1, if_pos h1] at E
      have e6 : ∀ b, (f_cp (S2.si 2 0) 1 5 b).i 6 = nI m := fun b => by rw [f_cp_i]; exact am2
      have LQ : ∀ (t b : Nat), b + t = m → X z 0 0 (MA M (f_cp (S2.si 2 0) 1 5 b)) 74 [some (.ref M.o), some (.int (nI b))] [] := by
        intro t
        induction t with
        | zero =>
          intro b hbm
          obtain rfl : b = m := by omega
          refine x_iload_n C dX7_send_74 rfl ?_
          refine x_aload_n C dX7_send_75 rfl ?_
          refine m_get C Y 6 (by decide) (by decide) wf_X7_135 dX7_send_76 ?_
          rw [e6]
          refine x_icmp_ge (tgt := 100) C dX7_send_79 (by decide) (fun c79 => ?_) (fun c79 => absurd c79 (not_not_intro (Int32.le_refl _)))
          refine x_aload_n C dX7_send_100 rfl ?_
          refine x_aload_n C dX7_send_101 rfl ?_
          refine m_get C Y 6 (by decide) (by decide) wf_X7_135 dX7_send_102 ?_
          rw [e6]
          refine m_put C Y hW.2.1 2 (by decide) (by decide) rfl rfl rfl wf_X7_104 dX7_send_105 ?_
          refine x_aload_n C dX7_send_108 rfl ?_
          refine m_get C Y 2 (by decide) (by decide) wf_X7_104 dX7_send_109 ?_
          refine m_iret C E dX7_send_112 ?_
          exact ⟨rfl, rfl⟩
        | succ t ih =>
          intro b hbm
          have ih2 := ih (b + 1) (by omega)
          refine x_iload_n C dX7_send_74 rfl ?_
          refine x_aload_n C dX7_send_75 rfl ?_
          refine m_get C Y 6 (by decide) (by decide) wf_X7_135 dX7_send_76 ?_
          rw [e6]
          refine x_icmp_ge (tgt := 100) C dX7_send_79 (by decide) (fun c79 => absurd c79 (nI_ge (show b < m by omega) (by omega))) (fun c79 => ?_)
          refine x_aload_n C dX7_send_82 rfl ?_
          refine m_getA C Y 1 (by decide) (by decide) wf_X7_7 dX7_send_83 ?_
          refine x_iload_n C dX7_send_86 rfl ?_
          refine x_aload_n C dX7_send_87 rfl ?_
          refine m_getA C Y 5 (by decide) (by decide) wf_X7_16 dX7_send_88 ?_
          refine x_iload_n C dX7_send_91 rfl ?_
          refine m_ildN C Y 5 (b) (by decide) dX7_send_92 (by simp only [nI_lit, nI_add, pk_mul]) (by simp only [m_len]; omega) ?_
          rw [f_cp_ne _ _ (by decide)]
          refine m_istN C Y hW.2.1 1 (b) (by decide) dX7_send_93 (by simp only [nI_lit, nI_add, pk_mul]) (by simp only [m_len]; omega) ?_
          refine x_iincE (v := nI (b + 1)) (L' := [some _, some _]) C dX7_send_94 rfl (nI_1 b) (by rw [hn]; decide) rfl ?_
          refine x_goto (tgt := 74) C dX7_send_97 (by decide) ?_
          exact ih2
      refine x_aload_n C dX7_send_45 rfl ?_
      refine x_iconst (v := 0) C dX7_send_46 (by decide) ?_
      refine m_put C Y hW.2.1 2 (by decide) (by decide) rfl rfl rfl wf_X7_104 dX7_send_47 ?_
      refine x_aload_n C dX7_send_50 rfl ?_
      refine m_get C Y 7 (by decide) (by decide) wf_X7_132 dX7_send_51 ?_
      refine x_iconst (v := 1) C dX7_send_54 (by decide) ?_
      refine x_icmp_eq (tgt := 72) C dX7_send_55 (by decide) (fun c55 => ?_) (fun c55 => absurd c55 (not_not_intro h1))
      refine x_iconst (v := 0) C dX7_send_72 (by decide) ?_
      refine x_istore_nE (L' := [some _, some _]) C dX7_send_73 (by rw [hn]; decide) rfl ?_
      exact LQ m 0 (by omega)
    · rw [if_neg h1, if_neg h1] at E
      refine x_aload_n C dX7_send_45 rfl ?_
      refine x_iconst (v := 0) C dX7_send_46 (by decide) ?_
      refine m_put C Y hW.2.1 2 (by decide) (by decide) rfl rfl rfl wf_X7_104 dX7_send_47 ?_
      refine x_aload_n C dX7_send_50 rfl ?_
      refine m_get C Y 7 (by decide) (by decide) wf_X7_132 dX7_send_51 ?_
      refine x_iconst (v := 1) C dX7_send_54 (by decide) ?_
      refine x_icmp_eq (tgt := 72) C dX7_send_55 (by decide) (fun c55 => absurd c55 (fun q => h1 q)) (fun c55 => ?_)
      refine x_aload_n C dX7_send_58 rfl ?_
      refine m_get C Y 7 (by decide) (by decide) wf_X7_132 dX7_send_59 ?_
      refine x_if_ne (tgt := 69) C dX7_send_62 (by decide) (fun c62 => ?_) (fun c62 => ?_)
      · skip
        refine x_bipush (v := (-2)) C dX7_send_69 (by decide) ?_
        refine m_iret C E dX7_send_71 ?_
        first | exact ⟨congrArg (fun t => some (Value.int t)) (if_neg c62).symm, rfl⟩ | exact ⟨congrArg (fun t => some (Value.int t)) (if_pos c62).symm, rfl⟩
      · skip
        refine x_iconst (v := 0) C dX7_send_65 (by decide) ?_
        refine x_goto (tgt := 71) C dX7_send_66 (by decide) ?_
        refine m_iret C E dX7_send_71 ?_
        first | exact ⟨congrArg (fun t => some (Value.int t)) (if_neg c62).symm, rfl⟩ | exact ⟨congrArg (fun t => some (Value.int t)) (if_pos c62).symm, rfl⟩
  have LP : ∀ (t b : Nat), b + t = n → X z 0 0 (MA M (f_cp (S.si 0 0) 3 1 b)) 7 [some (.ref M.o), some (.int (nI b))] [] := by
    intro t
    induction t with
    | zero =>
      intro b hbn
      obtain rfl : b = n := by omega
      refine x_iload_n C dX7_send_7 rfl ?_
      refine x_aload_n C dX7_send_8 rfl ?_
      refine m_get C Y 2 (by decide) (by decide) wf_X7_104 dX7_send_9 ?_
      rw [e2]
      refine x_icmp_ge (tgt := 33) C dX7_send_12 (by decide) (fun c12 => ?_) (fun c12 => absurd c12 (not_not_intro (Int32.le_refl _)))
      refine x_aload_n C dX7_send_33 rfl ?_
      refine x_aload_n C dX7_send_34 rfl ?_
      refine m_get C Y 2 (by decide) (by decide) wf_X7_104 dX7_send_35 ?_
      rw [e2]
      refine m_put C Y hW.2.1 4 (by decide) (by decide) rfl rfl rfl wf_X7_126 dX7_send_38 ?_
      refine x_aload_n C dX7_send_41 rfl ?_
      refine m_callF C Y hW E (hb) rfl md_X7_bus wi_X7_bus ws_X7_bus wm_X7_172 dX7_send_42 rfl (by decide) (by decide) rfl (by simp [Value.category]) ?_
      exact T45
    | succ t ih =>
      intro b hbn
      have ih2 := ih (b + 1) (by omega)
      refine x_iload_n C dX7_send_7 rfl ?_
      refine x_aload_n C dX7_send_8 rfl ?_
      refine m_get C Y 2 (by decide) (by decide) wf_X7_104 dX7_send_9 ?_
      rw [e2]
      refine x_icmp_ge (tgt := 33) C dX7_send_12 (by decide) (fun c12 => absurd c12 (nI_ge (show b < n by omega) (by omega))) (fun c12 => ?_)
      refine x_aload_n C dX7_send_15 rfl ?_
      refine m_getA C Y 3 (by decide) (by decide) wf_X7_13 dX7_send_16 ?_
      refine x_iload_n C dX7_send_19 rfl ?_
      refine x_aload_n C dX7_send_20 rfl ?_
      refine m_getA C Y 1 (by decide) (by decide) wf_X7_7 dX7_send_21 ?_
      refine x_iload_n C dX7_send_24 rfl ?_
      refine m_ildN C Y 1 (b) (by decide) dX7_send_25 (by simp only [nI_lit, nI_add, pk_mul]) (by simp only [m_len]; omega) ?_
      rw [f_cp_ne _ _ (by decide)]
      refine m_istN C Y hW.2.1 3 (b) (by decide) dX7_send_26 (by simp only [nI_lit, nI_add, pk_mul]) (by simp only [m_len]; omega) ?_
      refine x_iincE (v := nI (b + 1)) (L' := [some _, some _]) C dX7_send_27 rfl (nI_1 b) (by rw [hn]; decide) rfl ?_
      refine x_goto (tgt := 7) C dX7_send_30 (by decide) ?_
      exact ih2
  refine x_aload_n C dX7_send_0 rfl ?_
  refine x_iconst (v := 0) C dX7_send_1 (by decide) ?_
  refine m_put C Y hW.2.1 0 (by decide) (by decide) rfl rfl rfl wf_X7_97 dX7_send_2 ?_
  refine x_iconst (v := 0) C dX7_send_5 (by decide) ?_
  refine x_istore_nE (L' := [some _, some _]) C dX7_send_6 (by rw [hn]; decide) rfl ?_
  exact LP n 0 (by omega)
end Send
