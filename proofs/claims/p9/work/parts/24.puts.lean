section
/-! The bus: the three ways of putting a frame on it, against the model's. -/
section Bus
variable {w : Wd} {c : Nat → ClassId} {u ma an aa n k m N : Nat} {h0 h g : PH} {W : Nat → Prop} {α : Nat → Int64} {f : Nat → Option Nat} {κ ω : Nat → Nat} {S S' : MS} {pg sz : Nat}
theorem u_putShortX (hX : Wx w c) (D : BB c u ma an aa h0 W α f κ ω S h) (cm a : Int32) : T w gw yX0_putShort cX0_putShort 6 (some .int) 5 (40 * 5) 0 0 [.ref u, .int cm, .int a] (EQ h) (OC c u ma an aa h0 W α f κ ω (f_end (f_run (f_begin S) true false cm a 12) a)) := by
  have hW := hX.1
  refine TA.intro hW rfl (by decide +kernel) (Nat.le_of_ble_eq_true rfl) (fun z C Y E hn h1 hA => ?_)
  rw [show h1 = h from hA]
  clear hA
  have B := D.2.2.2.2
  have I0 := D.begin
  refine x_aload_n C dX0_putShort_0 rfl ?_
  refine x_dup C dX0_putShort_1 rfl ?_
  refine e_get C Y kd_X0 2 (by decide) wf_X0_24 dX0_putShort_2 B rfl ?_
  refine x_iconst (v := 1) C dX0_putShort_5 (by decide) ?_
  refine x_iadd C dX0_putShort_6 ?_
  refine e_put C Y kd_X0 2 (by decide) rfl wf_X0_24 dX0_putShort_7 B (Nat.le_of_ble_eq_true rfl) rfl rfl rfl ?_
  generalize f_begin S = T at E I0
  have LP : ∀ (r j : Nat) (x : Int32) (l5 : Option Value) (h : PH), j + r = 12 → x = (f_run T true false cm a j).i 7 → IB c u ma an aa h0 W α f κ ω j (f_run T true false cm a j) h → X z 0 0 (EQ h) 15 [some (.ref u), some (.int cm), some (.int a), some (.int x), some (.int (nI j)), l5] [] := by
    intro r
    induction r with
    | zero =>
      intro j x l5 h hj hx I
      obtain rfl : j = 12 := by omega
      have T81 : ∀ y : Int32, (y = if a = 255 then 0 else (f_run T true false cm a 12).i 7) → X z 0 0 (EQ h) 81 [some (.ref u), some (.int cm), some (.int a), some (.int x), some (.int (nI 12)), l5] [.int y, .ref u] := fun y hy => by
        refine k_callR (kc := 0) (ks := 0) (mc' := 0) (ms' := 0) (st := []) C Y hW E.cs (u_outcomeX hX I a hy) rfl md_X0_outcome wi_X0_outcome ws_X0_outcome wm_X0_54 dX0_putShort_81 rfl (by decide) (by decide) I.2.2.2.2.1 rfl rfl (by decide) (fun r g hg => ?_)
        have hr := hg.1
        subst hr
        exact x_iret C E dX0_putShort_84 (fun q e => by rw [show q = _ from e]; exact hg)
      refine x_iload C dX0_putShort_15 rfl ?_
      refine x_bipush (v := 12) C dX0_putShort_17 (by decide) ?_
      refine x_icmp_ge (tgt := 68) C dX0_putShort_19 (by decide) (fun _ => ?_) (fun q => absurd (Int32.le_refl _) q)
      refine x_aload_n C dX0_putShort_68 rfl ?_
      refine x_iload_n C dX0_putShort_69 rfl ?_
      refine x_sipush (v := 255) C dX0_putShort_70 (by decide) ?_
      refine x_icmp_ne (tgt := 80) C dX0_putShort_73 (by decide) (fun q => ?_) (fun q => ?_)
      · exact x_iload_n C dX0_putShort_80 rfl (T81 _ (by rw [if_neg q]; exact hx))
      · refine x_iconst (v := 0) C dX0_putShort_76 (by decide) ?_
        exact x_goto (tgt := 81) C dX0_putShort_77 (by decide) (T81 _ (by rw [if_pos q]))
    | succ r ih =>
      intro j x l5 h hj hx I
      have hj12 : j < 12 := by omega
      have B := I.2.2.2.2.1
      have er : f_run T true false cm a (j + 1) = f_step (f_run T true false cm a j) true false cm a j := rfl
      have T62 : ∀ (x : Int32) (l5 : Option Value) (h : PH), x = (f_run T true false cm a (j + 1)).i 7 → IB c u ma an aa h0 W α f κ ω (j + 1) (f_run T true false cm a (j + 1)) h → X z 0 0 (EQ h) 62 [some (.ref u), some (.int cm), some (.int a), some (.int x), some (.int (nI j)), l5] [] := fun x l5 h hx D => by
        refine o_iincE (v := nI (j + 1)) (L' := [some _, some _, some _, some _, some _, l5]) C dX0_putShort_62 rfl (nI_1 j) (by rw [hn]; decide) rfl ?_
        refine x_goto (tgt := 15) C dX0_putShort_65 (by decide) ?_
        exact ih (j + 1) x l5 h (by omega) hx D
      rw [er] at T62
      clear ih er
      generalize f_run T true false cm a j = Q at hx I B T62
      refine x_iload C dX0_putShort_15 rfl ?_
      refine x_bipush (v := 12) C dX0_putShort_17 (by decide) ?_
      refine x_icmp_ge (tgt := 68) C dX0_putShort_19 (by decide) (fun q => absurd q (Int32.not_le.mpr (nI_lt (show j < 12 by omega) (by decide)))) (fun _ => ?_)
      refine x_aload_n C dX0_putShort_22 rfl ?_
      refine e_get C Y kd_X0 0 (by decide) wf_X0_11 dX0_putShort_23 B rfl ?_
      refine x_iload C dX0_putShort_26 rfl ?_
      refine k_meter hX C E.cs I.1 hj12 dX0_putShort_28 (fun em => ?_) (fun m em hm => ?_)
      · have e1 : f_step Q true false cm a j = Q := step_no (I.2.1.no hj12 em)
        rw [e1] at T62
        refine o_astoreN (L' := [some _, some _, some _, some _, some _, some _]) C dX0_putShort_29 (by rw [hn]; decide) rfl ?_
        refine x_aloadN C dX0_putShort_31 rfl ?_
        exact x_ifnullN (tgt := 62) C dX0_putShort_33 (by decide) (T62 _ _ _ hx I.more)
      · refine o_astoreE (L' := [some _, some _, some _, some _, some _, some _]) C dX0_putShort_29 (by rw [hn]; decide) rfl ?_
        refine x_aload C dX0_putShort_31 rfl ?_
        refine x_ifnull C dX0_putShort_33 ?_
        refine x_aload C dX0_putShort_36 rfl ?_
        refine x_iload_n C dX0_putShort_38 rfl ?_
        refine k_meantX (st := []) hX C Y E.cs (by decide) hj12 em I a dX0_putShort_39 (by decide) (fun y hy => ?_)
        refine x_if_eq (tgt := 62) C dX0_putShort_42 (by decide) (fun q => ?_) (fun q => ?_)
        · have e1 : f_step Q true false cm a j = Q := step_nc (hy.mp q)
          rw [e1] at T62
          exact T62 _ _ _ hx I.more
        have e1 : f_step Q true false cm a j = f_short Q j cm a := step_S (Decidable.byContradiction fun q2 => q (hy.mpr q2))
        rw [e1] at T62
        refine x_aload C dX0_putShort_45 rfl ?_
        refine x_iload_n C dX0_putShort_47 rfl ?_
        refine x_iload_n C dX0_putShort_48 rfl ?_
        refine x_aload_n C dX0_putShort_49 rfl ?_
        refine e_get C Y kd_X0 1 (by decide) wf_X0_20 dX0_putShort_50 B rfl ?_
        refine k_shortX (st := []) hX C Y E.cs (by decide) hj12 em I cm a dX0_putShort_53 (by decide) (fun g y2 y01 ey Dg => ?_)
        refine x_if_eq (tgt := 62) C dX0_putShort_56 (by decide) (fun q0 => ?_) (fun q0 => ?_)
        · exact T62 _ _ _ (by rw [hx, ← ey, q0, Int32.add_zero]) Dg
        · refine o_iincE (v := (f_short Q j cm a).i 7) (L' := [some _, some _, some _, some _, some _, some _]) C dX0_putShort_59 rfl (by rw [← ey, y01.resolve_left q0, hx]; rfl) (by rw [hn]; decide) rfl ?_
          exact T62 _ _ _ rfl Dg
  refine x_iconst (v := 0) C dX0_putShort_10 (by decide) ?_
  refine o_istore_nE (L' := [some _, some _, some _, some _, none, none]) C dX0_putShort_11 (by rw [hn]; decide) rfl ?_
  refine x_iconst (v := 0) C dX0_putShort_12 (by decide) ?_
  refine o_istoreE (L' := [some _, some _, some _, some _, some _, none]) C dX0_putShort_13 (by rw [hn]; decide) rfl ?_
  refine LP 12 0 _ _ _ rfl ?_ I0
  obtain ⟨-, -, -, -, -, -, t, t1, t2⟩ := I0
  obtain rfl : t = 0 := by omega
  exact t2.symm
theorem run_3 {isS sel : Bool} {cm a : Int32} : ∀ n j, (f_run S isS sel cm a n).a 3 j = S.a 3 j := fun n j => run_bz rfl n
theorem u_putSelectX (hX : Wx w c) (D : BB c u ma an aa h0 W α f κ ω S h) {mk : Int64} (hm1 : AB mk (fun b => S.a 3 (7 + b))) (cm : Int32) : T w gw yX0_putSelect cX0_putSelect 8 (some .int) 5 (40 * 5) 0 0 [.ref u, .long mk] (EQ h) (OC c u ma an aa h0 W α f κ ω (f_end (f_run (f_begin S) false true cm 253 12) 253)) := by
  have hW := hX.1
  refine TA.intro hW rfl (by decide +kernel) (Nat.le_of_ble_eq_true rfl) (fun z C Y E hn h1 hA => ?_)
  rw [show h1 = h from hA]
  clear hA
  have B := D.2.2.2.2
  have I0 := D.begin
  have hT : AB mk (fun b => (f_begin S).a 3 (7 + b)) := hm1
  refine x_aload_n C dX0_putSelect_0 rfl ?_
  refine x_dup C dX0_putSelect_1 rfl ?_
  refine e_get C Y kd_X0 2 (by decide) wf_X0_24 dX0_putSelect_2 B rfl ?_
  refine x_iconst (v := 1) C dX0_putSelect_5 (by decide) ?_
  refine x_iadd C dX0_putSelect_6 ?_
  refine e_put C Y kd_X0 2 (by decide) rfl wf_X0_24 dX0_putSelect_7 B (Nat.le_of_ble_eq_true rfl) rfl rfl rfl ?_
  refine x_lload_n C dX0_putSelect_10 rfl ?_
  refine k_callS (kc := 0) (ks := 0) (mc' := 0) (ms' := 0) (st := []) C E.cs hW.1 gw_good (b_caredX hW mk) md_X0_caredBits wt_X0_caredBits wm_X0_65 dX0_putSelect_11 rfl (by decide) (by decide) rfl (by decide) (fun r => X.opn (fun g hg => ?_))
  obtain ⟨⟨cd, rfl, hcd⟩, eg⟩ := hg
  rw [eg]
  clear eg
  generalize f_begin S = T at E I0 hT
  have LP : ∀ (r j : Nat) (x : Int32) (l7 : Option Value) (h : PH), j + r = 12 → x = (f_run T false true cm 253 j).i 7 → IB c u ma an aa h0 W α f κ ω j (f_run T false true cm 253 j) h → X z 0 0 (EQ h) 21 [some (.ref u), some (.long mk), none, some (.long cd), none, some (.int x), some (.int (nI j)), l7] [] := by
    intro r
    induction r with
    | zero =>
      intro j x l7 h hj hx I
      obtain rfl : j = 12 := by omega
      refine x_iload C dX0_putSelect_21 rfl ?_
      refine x_bipush (v := 12) C dX0_putSelect_23 (by decide) ?_
      refine x_icmp_ge (tgt := 65) C dX0_putSelect_25 (by decide) (fun _ => ?_) (fun q => absurd (Int32.le_refl _) q)
      refine x_aload_n C dX0_putSelect_65 rfl ?_
      refine x_iload C dX0_putSelect_66 rfl ?_
      refine k_callR (kc := 0) (ks := 0) (mc' := 0) (ms' := 0) (st := []) C Y hW E.cs (u_outcomeX hX I 253 (y := x) (by rw [if_neg (by decide)]; exact hx)) rfl md_X0_outcome wi_X0_outcome ws_X0_outcome wm_X0_54 dX0_putSelect_68 rfl (by decide) (by decide) I.2.2.2.2.1 rfl rfl (by decide) (fun r g hg => ?_)
      have hr := hg.1
      subst hr
      exact x_iret C E dX0_putSelect_71 (fun q e => by rw [show q = _ from e]; exact hg)
    | succ r ih =>
      intro j x l7 h hj hx I
      have hj12 : j < 12 := by omega
      have B := I.2.2.2.2.1
      have er : f_run T false true cm 253 (j + 1) = f_step (f_run T false true cm 253 j) false true cm 253 j := rfl
      have h3 : AB mk (fun b => (f_run T false true cm 253 j).a 3 (7 + b)) := fun b hb => (hT b hb).trans (run_3 (S := T) j (7 + b)).symm
      have T59 : ∀ (x : Int32) (l7 : Option Value) (h : PH), x = (f_run T false true cm 253 (j + 1)).i 7 → IB c u ma an aa h0 W α f κ ω (j + 1) (f_run T false true cm 253 (j + 1)) h → X z 0 0 (EQ h) 59 [some (.ref u), some (.long mk), none, some (.long cd), none, some (.int x), some (.int (nI j)), l7] [] := fun x l7 h hx D => by
        refine o_iincE (v := nI (j + 1)) (L' := [some _, some _, none, some _, none, some _, some _, l7]) C dX0_putSelect_59 rfl (nI_1 j) (by rw [hn]; decide) rfl ?_
        refine x_goto (tgt := 21) C dX0_putSelect_62 (by decide) ?_
        exact ih (j + 1) x l7 h (by omega) hx D
      rw [er] at T59
      clear ih er
      generalize f_run T false true cm 253 j = Q at hx I B T59 h3
      refine x_iload C dX0_putSelect_21 rfl ?_
      refine x_bipush (v := 12) C dX0_putSelect_23 (by decide) ?_
      refine x_icmp_ge (tgt := 65) C dX0_putSelect_25 (by decide) (fun q => absurd q (Int32.not_le.mpr (nI_lt (show j < 12 by omega) (by decide)))) (fun _ => ?_)
      refine x_aload_n C dX0_putSelect_28 rfl ?_
      refine e_get C Y kd_X0 0 (by decide) wf_X0_11 dX0_putSelect_29 B rfl ?_
      refine x_iload C dX0_putSelect_32 rfl ?_
      refine k_meter hX C E.cs I.1 hj12 dX0_putSelect_34 (fun em => ?_) (fun m em hm => ?_)
      · have e1 : f_step Q false true cm 253 j = Q := step_no (I.2.1.no hj12 em)
        rw [e1] at T59
        refine o_astoreN (L' := [some _, some _, none, some _, none, some _, some _, some _]) C dX0_putSelect_35 (by rw [hn]; decide) rfl ?_
        refine x_aloadN C dX0_putSelect_37 rfl ?_
        exact x_ifnullN (tgt := 59) C dX0_putSelect_39 (by decide) (T59 _ _ _ hx I.more)
      · have e1 : f_step Q false true cm 253 j = f_sel Q j := step_M (I.2.1.ab hj12 em).1
        rw [e1] at T59
        refine o_astoreE (L' := [some _, some _, none, some _, none, some _, some _, some _]) C dX0_putSelect_35 (by rw [hn]; decide) rfl ?_
        refine x_aload C dX0_putSelect_37 rfl ?_
        refine x_ifnull C dX0_putSelect_39 ?_
        refine x_aload C dX0_putSelect_42 rfl ?_
        refine x_lload_n C dX0_putSelect_44 rfl ?_
        refine x_lload_n C dX0_putSelect_45 rfl ?_
        refine x_aload_n C dX0_putSelect_46 rfl ?_
        refine e_get C Y kd_X0 1 (by decide) wf_X0_20 dX0_putSelect_47 B rfl ?_
        refine k_looksX (st := []) hX C Y E.cs (by decide) hj12 em I h3 hcd dX0_putSelect_50 (by decide) (fun g y2 y01 ey Dg => ?_)
        refine x_if_eq (tgt := 59) C dX0_putSelect_53 (by decide) (fun q0 => ?_) (fun q0 => ?_)
        · exact T59 _ _ _ (by rw [hx, ← ey, q0, Int32.add_zero]) Dg
        · refine o_iincE (v := (f_sel Q j).i 7) (L' := [some _, some _, none, some _, none, some _, some _, some _]) C dX0_putSelect_56 rfl (by rw [← ey, y01.resolve_left q0, hx]; rfl) (by rw [hn]; decide) rfl ?_
          exact T59 _ _ _ rfl Dg
  refine o_lstore_nE (L' := [some _, some _, none, some _, none, none, none, none]) C dX0_putSelect_14 (by rw [hn]; decide) rfl ?_
  refine x_iconst (v := 0) C dX0_putSelect_15 (by decide) ?_
  refine o_istoreE (L' := [some _, some _, none, some _, none, some _, none, none]) C dX0_putSelect_16 (by rw [hn]; decide) rfl ?_
  refine x_iconst (v := 0) C dX0_putSelect_18 (by decide) ?_
  refine o_istoreE (L' := [some _, some _, none, some _, none, some _, some _, none]) C dX0_putSelect_19 (by rw [hn]; decide) rfl ?_
  refine LP 12 0 _ _ _ rfl ?_ I0
  obtain ⟨-, -, -, -, -, -, t, t1, t2⟩ := I0
  obtain rfl : t = 0 := by omega
  exact t2.symm
section Frames
variable {b ba nb : Nat} {fb : Nat → Int32}
theorem adA_bit (i : Nat) : ∀ k, k ≤ 8 → ∀ t, t < 64 → bl (adA fb nb i k) t = (decide (t < 8 * k) && bt (rAt fb nb (nI (i + (8 - k + t / 8))) &&& 255) (t % 8))
  | 0, _, t, _ => by rw [adA, bl_0]; simp
  | k + 1, hk, t, ht => by
    rw [adA, bl_or, bl_shl _ 8 8 (by decide) ht, bl_i2l _ ht]
    by_cases q : t < 8
    · rw [decide_eq_false (show ¬ 8 ≤ t by omega), if_pos (show t < 32 by omega), decide_eq_true (show t < 8 * (k + 1) by omega), show 8 - (k + 1) + t / 8 = 7 - k by omega, show t % 8 = t by omega]
      simp
    · rw [decide_eq_true (show 8 ≤ t by omega), adA_bit i k (by omega) (t - 8) (by omega), show (t - 8) % 8 = t % 8 by omega, show 8 - k + (t - 8) / 8 = 8 - (k + 1) + t / 8 by omega]
      have z1 : (if t < 32 then bt (rAt fb nb (nI (i + (7 - k))) &&& 255) t else bt (rAt fb nb (nI (i + (7 - k))) &&& 255) 31) = false := by
        split
        · rw [b_and, b_255, decide_eq_false q, Bool.and_false]
        · rw [b_and, b_255, decide_eq_false (by omega), Bool.and_false]
      rw [z1, Bool.or_false, Bool.true_and]
      by_cases q2 : t < 8 * (k + 1)
      · rw [decide_eq_true q2, decide_eq_true (show t - 8 < 8 * k by omega)]
      · rw [decide_eq_false q2, decide_eq_false (show ¬ t - 8 < 8 * k by omega)]
theorem AB.adA {i : Nat} {X : Nat → Int32} (h : ∀ b, b < 8 → rAt fb nb (nI (i + b)) &&& 255 = X b) : AB (adA fb nb i 8) X := by
  refine AB.of (fun b hb => by rw [← h b hb, and_255_255]) (fun t ht => ?_)
  rw [adA_bit i 8 (Nat.le_refl _) t ht, decide_eq_true (show t < 8 * 8 by omega), show 8 - 8 + t / 8 = t / 8 by omega, h (t / 8) (by omega)]
  rfl
theorem run_nl {cm a : Int32} (hc : ¬ (cm = 83 ∨ cm = 115)) : ∀ n, f_run S false false cm a n = S
  | 0 => rfl
  | n + 1 => by
    rw [f_run, run_nl hc n]
    unfold f_step
    split
    · rw [f_does, if_neg (by decide), if_neg (by decide), if_neg hc]
    · rfl
theorem si_same (S : MS) (k : Nat) {v : Int32} (h : v = S.i k) : S.si k v = S := by
  subst h
  refine MS.ext (fun q => ?_) (fun _ _ => rfl) (fun _ _ => rfl)
  rw [MS.si_i]
  split
  · rename_i e; rw [e]
  · rfl
theorem end_bg (S : MS) (a : Int32) : f_end (f_begin S) a = f_begin S := by
  unfold f_end
  have e7 : (f_begin S).i 7 = 0 := rfl
  rw [e7, ite_self, if_neg (by decide), Int32.add_zero, si_same (f_begin S) 7 e7.symm, si_same (f_begin S) 9 rfl]
/-- the frame in the row b is the model's -/
def FM (fb : Nat → Int32) (nb : Nat) (S : MS) : Prop := S.i 4 = nI nb ∧ nb ≤ 300 ∧ ∀ j, j < nb → fb j = S.a 3 j
theorem FM.at (F : FM fb nb S) {j : Nat} (hj : j < nb) : rAt fb nb (nI j) = S.a 3 j := by rw [rAt_in hj F.2.1, F.2.2 j hj]
theorem FM.isS (F : FM fb nb S) : rShort fb nb ↔ f_isS S := by
  have hn := F.2.1
  have e5 : nI nb = 5 ↔ nb = 5 := nI_eq (b := 5) (by omega) (by decide)
  unfold rShort f_isS
  rw [F.1, e5]
  refine and_congr_right (fun e => ?_)
  subst e
  have h0 : rAt fb 5 0 = S.a 3 0 := F.at (j := 0) (by omega)
  have h3 : rAt fb 5 3 = S.a 3 3 := F.at (j := 3) (by omega)
  have h4 : rAt fb 5 4 = S.a 3 4 := F.at (j := 4) (by omega)
  have hs : sumR fb 1 (min 3 5 - 1) = S.a 3 1 + S.a 3 2 := by
    show (0 : Int32) + fb (1 + 0) + fb (1 + 1) = _
    rw [F.2.2 _ (by omega), F.2.2 _ (by omega), Int32.zero_add]
  rw [h0, h3, h4, hs]
  exact and_congr_right (fun _ => and_comm)
theorem sumR_F {S : MS} (h : ∀ j, j < nb → fb j = S.a 3 j) (a : Nat) : ∀ t, a + t ≤ nb → sumR fb a t = sumF (S.a 3) a (a + t)
  | 0, _ => by rw [Nat.add_zero, sumF_0]; rfl
  | t + 1, ht => by rw [show a + (t + 1) = (a + t) + 1 by omega, sumF_s _ (by omega), sumR, sumR_F h a t (by omega), h _ (by omega)]
theorem FM.isL (F : FM fb nb S) : rLong fb nb ↔ f_isL S nb := by
  have hn := F.2.1
  have low : ∀ j, nb ≤ j → j < 600 → rAt fb nb (nI j) = -1 := fun j hj hj2 => by
    unfold rAt
    rw [if_neg (fun g => absurd ((nI_ltI (by omega) (by omega)).mp g.2) (by omega))]
  constructor
  · intro g
    unfold rLong at g
    obtain ⟨⟨g1, g2⟩, g3, g4, g5, g6, g7, g8⟩ := g
    have n2 : 2 ≤ nb := Nat.le_of_not_lt (fun q => by
      rw [show (1 : Int32) = nI 1 from rfl, low 1 (by omega) (by omega)] at g1
      exact absurd g1 (by decide))
    have a1 : rAt fb nb 1 = S.a 3 1 := F.at (j := 1) (by omega)
    rw [a1] at g1 g2 g3 g5 g7 g8
    obtain ⟨L, l1, l2, el⟩ := in_nI (lo := 3) (hi := 252) (by decide) ⟨g1, g2⟩ (by decide)
    rw [el, show (6 : Int32) = nI 6 from rfl, nI_add, nI_eq (by omega) (by omega)] at g3
    subst g3
    have a0 : rAt fb (L + 6) 0 = S.a 3 0 := F.at (j := 0) (by omega)
    have a2 : rAt fb (L + 6) 2 = S.a 3 2 := F.at (j := 2) (by omega)
    have a3 : rAt fb (L + 6) 3 = S.a 3 3 := F.at (j := 3) (by omega)
    rw [el, show nI L + 4 = nI (L + 4) from nI_add L 4, F.at (j := L + 4) (by omega), nI_clamp (by omega), show min (L + 4) (L + 6) - 4 = L by omega, sumR_F F.2.2 4 L (by omega)] at g7
    rw [el, show nI L + 5 = nI (L + 5) from nI_add L 5, F.at (j := L + 5) (by omega)] at g8
    unfold f_isL
    refine ⟨by omega, a0.symm.trans g4, Int32.not_lt.mpr g1, g2, a2.symm.trans g5, a3.symm.trans g6, by rw [el]; exact (nI_add L 6).symm, g8, ?_⟩
    rw [show L + 6 - 2 = L + 4 by omega, g7, show 4 + L = L + 4 by omega]
  · intro g
    unfold f_isL at g
    obtain ⟨g0, g1, g2, g3, g4, g5, g6, g7, g8⟩ := g
    obtain ⟨L, l1, l2, el⟩ := in_nI (lo := 3) (hi := 252) (by decide) ⟨Int32.not_lt.mp g2, g3⟩ (by decide)
    rw [el, show (6 : Int32) = nI 6 from rfl, nI_add, nI_eq (by omega) (by omega)] at g6
    subst g6
    have a0 : rAt fb (L + 6) 0 = S.a 3 0 := F.at (j := 0) (by omega)
    have a1 : rAt fb (L + 6) 1 = S.a 3 1 := F.at (j := 1) (by omega)
    have a2 : rAt fb (L + 6) 2 = S.a 3 2 := F.at (j := 2) (by omega)
    have a3 : rAt fb (L + 6) 3 = S.a 3 3 := F.at (j := 3) (by omega)
    unfold rLong
    rw [a0, a1, a2, a3]
    refine ⟨⟨Int32.not_lt.mp g2, g3⟩, by rw [el]; exact (nI_add L 6).symm, g1, g4, g5, ?_, ?_⟩
    · rw [el, show nI L + 4 = nI (L + 4) from nI_add L 4, F.at (j := L + 4) (by omega), nI_clamp (by omega), show min (L + 4) (L + 6) - 4 = L by omega, sumR_F F.2.2 4 L (by omega), show 4 + L = L + 4 by omega]
      exact g8
    · rw [el, show nI L + 5 = nI (L + 5) from nI_add L 5, F.at (j := L + 5) (by omega)]
      exact g7
theorem FM.long (F : FM fb nb S) (hL : f_isL S nb) : FL fb nb S := by
  have hn := F.2.1
  unfold f_isL at hL
  obtain ⟨g0, g1, g2, g3, g4, g5, g6, g7, g8⟩ := hL
  obtain ⟨L, l1, l2, el⟩ := in_nI (lo := 3) (hi := 252) (by decide) ⟨Int32.not_lt.mp g2, g3⟩ (by decide)
  rw [el, show (6 : Int32) = nI 6 from rfl, nI_add, nI_eq (by omega) (by omega)] at g6
  exact ⟨L, l1, l2, g6, el, F.2.2⟩
theorem FL.same {S' : MS} (F : FL fb nb S) (h : ∀ j, S'.a 3 j = S.a 3 j) : FL fb nb S' := by
  obtain ⟨L, l1, l2, l3, l4, l5⟩ := F
  exact ⟨L, l1, l2, l3, (h 1).trans l4, fun j hj => (l5 j hj).trans (h j).symm⟩
theorem u_putSendingX (hX : Wx w c) (D : BB c u ma an aa h0 W α f κ ω S h) (Rb : RW c h0 b ba fb nb) (o1 : W b) (o2 : W ba) (F : FL fb nb S) (hc : S.a 3 4 = 83 ∨ S.a 3 4 = 115) : T w gw yX0_putSendingFrame cX0_putSendingFrame 6 (some .int) 6 (40 * 6) 0 0 [.ref u, .ref b] (EQ h) (OC c u ma an aa h0 W α f κ ω (f_end (f_run (f_begin S) false (decide (f_selects S)) (S.a 3 4) (S.a 3 5) 12) (S.a 3 5))) := by
  have hW := hX.1
  refine TA.intro hW rfl (by decide +kernel) (Nat.le_of_ble_eq_true rfl) (fun z C Y E hn h1 hA => ?_)
  rw [show h1 = h from hA]
  clear hA
  have B := D.2.2.2.2
  have R := D.1.out Rb o1 o2
  have n9 : 9 ≤ nb := by obtain ⟨L, l1, l2, l3, -⟩ := F; omega
  have a5 : rAt fb nb 5 = S.a 3 5 := F.at (j := 5) (by omega)
  have a6 : rAt fb nb 6 = S.a 3 6 := F.at (j := 6) (by omega)
  have kat : ∀ {kc ks pc : Nat} {L : List (Option Value)} {st : List Value} {h : PH} (R : RW c h b ba fb nb) (x : Int32) (d : decode cX0_putSendingFrame pc = .ok (.invokevirtual 39, 3)) (hcat : (st.map fun v => v.category).sum ≤ 8) (k : X z kc ks (EQ h) (pc + 3) L (.int (rAt fb nb x) :: st)), X z kc ks (EQ h) pc L (.int x :: .ref b :: st) := fun R x d hcat k => u_callV C Y hW E.cs (r_at hW R x) md_X5_at wi_X5_at ws_X5_at wm_X0_39 d rfl (by decide) (by decide) R.2.1 rfl rfl hcat k
  refine x_aload_n C dX0_putSendingFrame_0 rfl ?_
  refine x_iconst (v := 5) C dX0_putSendingFrame_1 (by decide) ?_
  refine kat (st := []) R _ dX0_putSendingFrame_2 (by decide) ?_
  rw [a5]
  refine o_istore_nE (L' := [some _, some _, some _, none, none, none]) C dX0_putSendingFrame_5 (by rw [hn]; decide) rfl ?_
  have T44 : ¬ f_selects S → X z 0 0 (EQ h) 44 [some (.ref u), some (.ref b), some (.int (S.a 3 5)), none, none, none] [] := fun ns => by
    rw [decide_eq_false ns] at E
    have I0 := D.begin
    have F0 : FL fb nb (f_begin S) := F
    generalize S.a 3 4 = cm at E hc
    generalize S.a 3 5 = a at E
    refine x_aload_n C dX0_putSendingFrame_44 rfl ?_
    refine x_dup C dX0_putSendingFrame_45 rfl ?_
    refine e_get C Y kd_X0 2 (by decide) wf_X0_24 dX0_putSendingFrame_46 B rfl ?_
    refine x_iconst (v := 1) C dX0_putSendingFrame_49 (by decide) ?_
    refine x_iadd C dX0_putSendingFrame_50 ?_
    refine e_put C Y kd_X0 2 (by decide) rfl wf_X0_24 dX0_putSendingFrame_51 B (Nat.le_of_ble_eq_true rfl) rfl rfl rfl ?_
    generalize f_begin S = T at E I0 F0
    have LP : ∀ (r j : Nat) (x : Int32) (l5 : Option Value) (h : PH), j + r = 12 → x = (f_run T false false cm a j).i 7 → IB c u ma an aa h0 W α f κ ω j (f_run T false false cm a j) h → X z 0 0 (EQ h) 59 [some (.ref u), some (.ref b), some (.int a), some (.int x), some (.int (nI j)), l5] [] := by
      intro r
      induction r with
      | zero =>
        intro j x l5 h hj hx I
        obtain rfl : j = 12 := by omega
        have T124 : ∀ y : Int32, (y = if a = 255 then 0 else (f_run T false false cm a 12).i 7) → X z 0 0 (EQ h) 124 [some (.ref u), some (.ref b), some (.int a), some (.int x), some (.int (nI 12)), l5] [.int y, .ref u] := fun y hy => by
          refine k_callR (kc := 0) (ks := 0) (mc' := 0) (ms' := 0) (st := []) C Y hW E.cs (u_outcomeX hX I a hy) rfl md_X0_outcome wi_X0_outcome ws_X0_outcome wm_X0_54 dX0_putSendingFrame_124 rfl (by decide) (by decide) I.2.2.2.2.1 rfl rfl (by decide) (fun r g hg => ?_)
          have hr := hg.1
          subst hr
          exact x_iret C E dX0_putSendingFrame_127 (fun q e => by rw [show q = _ from e]; exact hg)
        refine x_iload C dX0_putSendingFrame_59 rfl ?_
        refine x_bipush (v := 12) C dX0_putSendingFrame_61 (by decide) ?_
        refine x_icmp_ge (tgt := 111) C dX0_putSendingFrame_63 (by decide) (fun _ => ?_) (fun q => absurd (Int32.le_refl _) q)
        refine x_aload_n C dX0_putSendingFrame_111 rfl ?_
        refine x_iload_n C dX0_putSendingFrame_112 rfl ?_
        refine x_sipush (v := 255) C dX0_putSendingFrame_113 (by decide) ?_
        refine x_icmp_ne (tgt := 123) C dX0_putSendingFrame_116 (by decide) (fun q => ?_) (fun q => ?_)
        · exact x_iload_n C dX0_putSendingFrame_123 rfl (T124 _ (by rw [if_neg q]; exact hx))
        · refine x_iconst (v := 0) C dX0_putSendingFrame_119 (by decide) ?_
          exact x_goto (tgt := 124) C dX0_putSendingFrame_120 (by decide) (T124 _ (by rw [if_pos q]))
      | succ r ih =>
        intro j x l5 h hj hx I
        have hj12 : j < 12 := by omega
        have B := I.2.2.2.2.1
        have er : f_run T false false cm a (j + 1) = f_step (f_run T false false cm a j) false false cm a j := rfl
        have Fj : FL fb nb (f_run T false false cm a j) := F0.same (fun q => run_3 j q)
        have T105 : ∀ (x : Int32) (l5 : Option Value) (h : PH), x = (f_run T false false cm a (j + 1)).i 7 → IB c u ma an aa h0 W α f κ ω (j + 1) (f_run T false false cm a (j + 1)) h → X z 0 0 (EQ h) 105 [some (.ref u), some (.ref b), some (.int a), some (.int x), some (.int (nI j)), l5] [] := fun x l5 h hx D => by
          refine o_iincE (v := nI (j + 1)) (L' := [some _, some _, some _, some _, some _, l5]) C dX0_putSendingFrame_105 rfl (nI_1 j) (by rw [hn]; decide) rfl ?_
          refine x_goto (tgt := 59) C dX0_putSendingFrame_108 (by decide) ?_
          exact ih (j + 1) x l5 h (by omega) hx D
        rw [er] at T105
        clear ih er
        generalize f_run T false false cm a j = Q at hx I B T105 Fj
        refine x_iload C dX0_putSendingFrame_59 rfl ?_
        refine x_bipush (v := 12) C dX0_putSendingFrame_61 (by decide) ?_
        refine x_icmp_ge (tgt := 111) C dX0_putSendingFrame_63 (by decide) (fun q => absurd q (Int32.not_le.mpr (nI_lt (show j < 12 by omega) (by decide)))) (fun _ => ?_)
        refine x_aload_n C dX0_putSendingFrame_66 rfl ?_
        refine e_get C Y kd_X0 0 (by decide) wf_X0_11 dX0_putSendingFrame_67 B rfl ?_
        refine x_iload C dX0_putSendingFrame_70 rfl ?_
        refine k_meter hX C E.cs I.1 hj12 dX0_putSendingFrame_72 (fun em => ?_) (fun m em hm => ?_)
        · have e1 : f_step Q false false cm a j = Q := step_no (I.2.1.no hj12 em)
          rw [e1] at T105
          refine o_astoreN (L' := [some _, some _, some _, some _, some _, some _]) C dX0_putSendingFrame_73 (by rw [hn]; decide) rfl ?_
          refine x_aloadN C dX0_putSendingFrame_75 rfl ?_
          exact x_ifnullN (tgt := 105) C dX0_putSendingFrame_77 (by decide) (T105 _ _ _ hx I.more)
        · refine o_astoreE (L' := [some _, some _, some _, some _, some _, some _]) C dX0_putSendingFrame_73 (by rw [hn]; decide) rfl ?_
          refine x_aload C dX0_putSendingFrame_75 rfl ?_
          refine x_ifnull C dX0_putSendingFrame_77 ?_
          refine x_aload C dX0_putSendingFrame_80 rfl ?_
          refine x_iload_n C dX0_putSendingFrame_82 rfl ?_
          refine k_meantX (st := []) hX C Y E.cs (by decide) hj12 em I a dX0_putSendingFrame_83 (by decide) (fun y hy => ?_)
          refine x_if_eq (tgt := 105) C dX0_putSendingFrame_86 (by decide) (fun q => ?_) (fun q => ?_)
          · have e1 : f_step Q false false cm a j = Q := step_nc (hy.mp q)
            rw [e1] at T105
            exact T105 _ _ _ hx I.more
          have e1 : f_step Q false false cm a j = f_long Q j := step_L (Decidable.byContradiction fun q2 => q (hy.mpr q2)) hc
          rw [e1] at T105
          refine x_aload C dX0_putSendingFrame_89 rfl ?_
          refine x_aload_n C dX0_putSendingFrame_91 rfl ?_
          refine x_aload_n C dX0_putSendingFrame_92 rfl ?_
          refine e_get C Y kd_X0 1 (by decide) wf_X0_20 dX0_putSendingFrame_93 B rfl ?_
          refine k_longX (st := []) hX C Y E.cs (by decide) hj12 em I Rb o1 o2 Fj dX0_putSendingFrame_96 (by decide) (fun g y2 y01 ey Dg => ?_)
          refine x_if_eq (tgt := 105) C dX0_putSendingFrame_99 (by decide) (fun q0 => ?_) (fun q0 => ?_)
          · exact T105 _ _ _ (by rw [hx, ← ey, q0, Int32.add_zero]) Dg
          · refine o_iincE (v := (f_long Q j).i 7) (L' := [some _, some _, some _, some _, some _, some _]) C dX0_putSendingFrame_102 rfl (by rw [← ey, y01.resolve_left q0, hx]; rfl) (by rw [hn]; decide) rfl ?_
            exact T105 _ _ _ rfl Dg
    refine x_iconst (v := 0) C dX0_putSendingFrame_54 (by decide) ?_
    refine o_istore_nE (L' := [some _, some _, some _, some _, none, none]) C dX0_putSendingFrame_55 (by rw [hn]; decide) rfl ?_
    refine x_iconst (v := 0) C dX0_putSendingFrame_56 (by decide) ?_
    refine o_istoreE (L' := [some _, some _, some _, some _, some _, none]) C dX0_putSendingFrame_57 (by rw [hn]; decide) rfl ?_
    refine LP 12 0 _ _ _ rfl ?_ I0
    obtain ⟨-, -, -, -, -, -, t, t1, t2⟩ := I0
    obtain rfl : t = 0 := by omega
    exact t2.symm
  refine x_aload_n C dX0_putSendingFrame_6 rfl ?_
  refine x_bipush (v := 6) C dX0_putSendingFrame_7 (by decide) ?_
  refine kat (st := []) R _ dX0_putSendingFrame_9 (by decide) ?_
  rw [a6]
  refine x_bipush (v := 82) C dX0_putSendingFrame_12 (by decide) ?_
  refine x_icmp_ne (tgt := 44) C dX0_putSendingFrame_14 (by decide) (fun q => T44 (fun s => q s.2.1)) (fun q6 => ?_)
  refine x_aload_n C dX0_putSendingFrame_17 rfl ?_
  refine u_callV (st := []) C Y hW E.cs (r_dataSize hW R) md_X5_dataSize wi_X5_dataSize ws_X5_dataSize wm_X0_73 dX0_putSendingFrame_18 rfl (by decide) (by decide) R.2.1 rfl rfl (by decide) ?_
  refine x_bipush (v := 8) C dX0_putSendingFrame_21 (by decide) ?_
  refine x_icmp_ne (tgt := 44) C dX0_putSendingFrame_23 (by decide) (fun q => T44 (fun s => q ((F.ds (d := 8) (by omega)).mpr s.2.2.1))) (fun q8 => ?_)
  refine x_iload_n C dX0_putSendingFrame_26 rfl ?_
  refine x_sipush (v := 253) C dX0_putSendingFrame_27 (by decide) ?_
  refine x_icmp_ne (tgt := 44) C dX0_putSendingFrame_30 (by decide) (fun q => T44 (fun s => q s.2.2.2)) (fun q5 => ?_)
  have e1 := (F.ds (d := 8) (by omega)).mp q8
  have hs : f_selects S := ⟨hc, q6, e1, q5⟩
  rw [decide_eq_true hs, q5] at E
  have n17 : nb = 17 := by
    obtain ⟨L, l1, l2, l3, l4, -⟩ := F
    have := (nI_eq (by omega) (by omega)).mp (l4.symm.trans e1)
    omega
  have hAB : AB (adA fb nb 7 8) (fun b => S.a 3 (7 + b)) := AB.adA (fun b hb => by rw [F.at (by omega)]; exact byt_id (D.2.2.2.1.2 3 _ rfl))
  refine x_aload_n C dX0_putSendingFrame_33 rfl ?_
  refine x_aload_n C dX0_putSendingFrame_34 rfl ?_
  refine x_bipush (v := 7) C dX0_putSendingFrame_35 (by decide) ?_
  refine u_callV (st := [.ref u]) C Y hW E.cs (r_addressAt hW R 7 (by decide)) md_X5_addressAt wi_X5_addressAt ws_X5_addressAt wm_X0_77 dX0_putSendingFrame_37 rfl (by decide) (by decide) R.2.1 rfl rfl (by simp [Value.category]) ?_
  refine k_callR (kc := 0) (ks := 0) (mc' := 0) (ms' := 0) (st := []) C Y hW E.cs (u_putSelectX hX D hAB (S.a 3 4)) rfl md_X0_putSelect wi_X0_putSelect ws_X0_putSelect wm_X0_81 dX0_putSendingFrame_40 rfl (by decide) (by decide) B rfl rfl (by decide) (fun r g hg => ?_)
  have hr := hg.1
  subst hr
  exact x_iret C E dX0_putSendingFrame_43 (fun q e => by rw [show q = _ from e]; exact hg)
theorem u_putX (hX : Wx w c) (D : BB c u ma an aa h0 W α f κ ω S h) (Rb : RW c h0 b ba fb nb) (o1 : W b) (o2 : W ba) (F : FM fb nb S) : T w gw yX0_put cX0_put 2 (some .int) 7 (40 * 7) 0 0 [.ref u, .ref b] (EQ h) (OC c u ma an aa h0 W α f κ ω (f_bus S nb)) := by
  have hW := hX.1
  refine TA.intro hW rfl (by decide +kernel) (Nat.le_of_ble_eq_true rfl) (fun z C Y E hn h1 hA => ?_)
  rw [show h1 = h from hA]
  clear hA
  have B := D.2.2.2.2
  have R := D.1.out Rb o1 o2
  have kat : ∀ {kc ks pc : Nat} {L : List (Option Value)} {st : List Value} {h : PH} (R : RW c h b ba fb nb) (x : Int32) (d : decode cX0_put pc = .ok (.invokevirtual 39, 3)) (hcat : (st.map fun v => v.category).sum ≤ 8) (k : X z kc ks (EQ h) (pc + 3) L (.int (rAt fb nb x) :: st)), X z kc ks (EQ h) pc L (.int x :: .ref b :: st) := fun R x d hcat k => u_callV C Y hW E.cs (r_at hW R x) md_X5_at wi_X5_at ws_X5_at wm_X0_39 d rfl (by decide) (by decide) R.2.1 rfl rfl hcat k
  have T55 : f_bus S nb = f_begin S → X z 0 0 (EQ h) 55 [some (.ref u), some (.ref b)] [] := fun eb => by
    rw [eb, ← end_bg S 0] at E
    have I0 := D.begin
    refine x_aload_n C dX0_put_55 rfl ?_
    refine x_dup C dX0_put_56 rfl ?_
    refine e_get C Y kd_X0 2 (by decide) wf_X0_24 dX0_put_57 B rfl ?_
    refine x_iconst (v := 1) C dX0_put_60 (by decide) ?_
    refine x_iadd C dX0_put_61 ?_
    refine e_put C Y kd_X0 2 (by decide) rfl wf_X0_24 dX0_put_62 B (Nat.le_of_ble_eq_true rfl) rfl rfl rfl ?_
    refine x_aload_n C dX0_put_65 rfl ?_
    refine x_iconst (v := 0) C dX0_put_66 (by decide) ?_
    have I12 : IB c u ma an aa h0 W α f κ ω 12 (f_begin S) (hs h u (.inr (0, [.ref ma, .ref an, .int (S.i 8 + 1), .int (S.i 9)]))) := by
      obtain ⟨i1, i2, i3, i4, i5, i6, t, t1, t2⟩ := I0
      exact ⟨i1, i2, i3, i4, i5, i6, t, by omega, t2⟩
    refine k_callR (kc := 0) (ks := 0) (mc' := 0) (ms' := 0) (st := []) C Y hW E.cs (u_outcomeX hX I12 0 (y := 0) (by rw [if_neg (by decide)]; rfl)) rfl md_X0_outcome wi_X0_outcome ws_X0_outcome wm_X0_54 dX0_put_67 rfl (by decide) (by decide) (hs_self ..) rfl rfl (by decide) (fun r g hg => ?_)
    have hr := hg.1
    subst hr
    exact x_iret C E dX0_put_70 (fun q e => by rw [show q = _ from e]; exact hg)
  refine x_aload_n C dX0_put_0 rfl ?_
  refine u_callV (st := []) C Y hW E.cs (r_isShortFrame hW R) md_X5_isShortFrame wi_X5_isShortFrame ws_X5_isShortFrame wm_X0_35 dX0_put_1 rfl (by decide) (by decide) R.2.1 rfl rfl (by decide) ?_
  refine x_if_eq (tgt := 22) C dX0_put_4 (by decide) (fun q => ?_) (fun q => ?_)
  · have nS : ¬ f_isS S := fun g => (bI_0.mp q) (F.isS.mpr g)
    refine x_aload_n C dX0_put_22 rfl ?_
    refine u_callV (st := []) C Y hW E.cs (r_isLongFrame hW R) md_X5_isLongFrame wi_X5_isLongFrame ws_X5_isLongFrame wm_X0_47 dX0_put_23 rfl (by decide) (by decide) R.2.1 rfl rfl (by decide) ?_
    refine x_if_eq (tgt := 55) C dX0_put_26 (by decide) (fun q2 => T55 ?_) (fun q2 => ?_)
    · have nL : ¬ f_isL S nb := fun g => (bI_0.mp q2) (F.isL.mpr g)
      unfold f_bus
      rw [if_neg nS, if_neg nL]
    have hL : f_isL S nb := F.isL.mp (bI_0n.mp q2)
    have FLb := F.long hL
    have eb : f_bus S nb = f_end (f_run (f_begin S) false (decide (f_selects S)) (S.a 3 4) (S.a 3 5) 12) (S.a 3 5) := by unfold f_bus; rw [if_neg nS, if_pos hL]
    have a4 : rAt fb nb 4 = S.a 3 4 := F.at (j := 4) (by obtain ⟨L, l1, l2, l3, -⟩ := FLb; omega)
    have T49 : (S.a 3 4 = 83 ∨ S.a 3 4 = 115) → X z 0 0 (EQ h) 49 [some (.ref u), some (.ref b)] [] := fun hc => by
      rw [eb] at E
      refine x_aload_n C dX0_put_49 rfl ?_
      refine x_aload_n C dX0_put_50 rfl ?_
      refine k_callR (kc := 0) (ks := 0) (mc' := 0) (ms' := 0) (st := []) C Y hW E.cs (u_putSendingX hX D Rb o1 o2 FLb hc) rfl md_X0_putSendingFrame wi_X0_putSendingFrame ws_X0_putSendingFrame wm_X0_50 dX0_put_51 rfl (by decide) (by decide) B rfl rfl (by decide) (fun r g hg => ?_)
      have hr := hg.1
      subst hr
      exact x_iret C E dX0_put_54 (fun q e => by rw [show q = _ from e]; exact hg)
    refine x_aload_n C dX0_put_29 rfl ?_
    refine x_iconst (v := 4) C dX0_put_30 (by decide) ?_
    refine kat (st := []) R _ dX0_put_31 (by decide) ?_
    rw [a4]
    refine x_bipush (v := 83) C dX0_put_34 (by decide) ?_
    refine x_icmp_eq (tgt := 49) C dX0_put_36 (by decide) (fun g => T49 (Or.inl g)) (fun g => ?_)
    refine x_aload_n C dX0_put_39 rfl ?_
    refine x_iconst (v := 4) C dX0_put_40 (by decide) ?_
    refine kat (st := []) R _ dX0_put_41 (by decide) ?_
    rw [a4]
    refine x_bipush (v := 115) C dX0_put_44 (by decide) ?_
    refine x_icmp_ne (tgt := 55) C dX0_put_46 (by decide) (fun g2 => T55 ?_) (fun g2 => T49 (Or.inr g2))
    have nc : ¬ (S.a 3 4 = 83 ∨ S.a 3 4 = 115) := fun x => x.elim g g2
    rw [eb, decide_eq_false (fun s : f_selects S => nc s.1), run_nl nc, end_bg]
  · have hS : f_isS S := F.isS.mp (bI_0n.mp q)
    have eb : f_bus S nb = f_end (f_run (f_begin S) true false (S.a 3 1) (S.a 3 2) 12) (S.a 3 2) := by unfold f_bus; rw [if_pos hS]
    rw [eb] at E
    have n5 : nb = 5 := (nI_eq (by have := F.2.1; omega) (by decide)).mp (F.1.symm.trans hS.1)
    have a1 : rAt fb nb 1 = S.a 3 1 := F.at (j := 1) (by omega)
    have a2 : rAt fb nb 2 = S.a 3 2 := F.at (j := 2) (by omega)
    refine x_aload_n C dX0_put_7 rfl ?_
    refine x_aload_n C dX0_put_8 rfl ?_
    refine x_iconst (v := 1) C dX0_put_9 (by decide) ?_
    refine kat (st := [.ref u]) R _ dX0_put_10 (by simp [Value.category]) ?_
    refine x_aload_n C dX0_put_13 rfl ?_
    refine x_iconst (v := 2) C dX0_put_14 (by decide) ?_
    refine kat (st := [_, .ref u]) R _ dX0_put_15 (by simp [Value.category]) ?_
    rw [a1, a2]
    refine k_callR (kc := 0) (ks := 0) (mc' := 0) (ms' := 0) (st := []) C Y hW E.cs (u_putShortX hX D (S.a 3 1) (S.a 3 2)) rfl md_X0_putShort wi_X0_putShort ws_X0_putShort wm_X0_43 dX0_put_18 rfl (by decide) (by decide) B rfl rfl (by decide) (fun r g hg => ?_)
    have hr := hg.1
    subst hr
    exact x_iret C E dX0_put_21 (fun q e => by rw [show q = _ from e]; exact hg)
end Frames
end Bus
end
section
/-! A MeterBus against the model, told whole. -/
def EU (a : Nat → Nat) (S : MS) (h : PH) : Prop := h (a 3) = some (.inr (0, [.ref (a 4), .ref (a 5), .int (S.i 8), .int (S.i 9)]))
/-- the buffer -/
def EB (c : Nat → ClassId) (a : Nat → Nat) (S : MS) (h : PH) : Prop := ∃ (g : Nat → Int32) (n : Nat), RW c h (a 1) (a 2) g n ∧ S.i 2 = nI n ∧ ∀ j, j < n → g j = S.a 1 j
/-- the found ones -/
def EF (c : Nat → ClassId) (a : Nat → Nat) (S : MS) (h : PH) : Prop := ∃ (fn : Nat) (gf : Nat → Int64), h (a 0) = some (.inr (6, [.ref (a 1), .ref (a 3), .ref (a 7), .ref (a 9), .ref (a 10), .int (nI fn)])) ∧ S.i 20 = nI fn ∧ fn ≤ 12 ∧ h (a 10) = some (.inl (c 1, 12, .inr (.inl gf))) ∧ ∀ k, k < fn → AB (gf k) (fun b => S.a 21 (8 * k + b))
/-- reading i, at p: whose its rows are -/
def RL_ (h : PH) (ω : Nat → Nat) (i p : Nat) : Prop := ω p = 4 * i + 1 ∧ ∃ (va sg : Int64) (co fu ta un vn ln : Int32) (v : Nat) (lt : Value), h p = some (.inr (3, rdL va co fu sg ta un v vn lt ln)) ∧ ω v = 4 * i + 2 ∧ ∀ t, lt = .ref t → ω t = 4 * i + 3
/-- reading i, at p, is the model's record i -/
def REx (c : Nat → ClassId) (h : PH) (S : MS) (i p : Nat) : Prop := ∃ (v : Nat) (lt : Value) (fv : Nat → Int32), h p = some (.inr (3, rdL (S.w 24 i) (S.a 25 i) (S.a 26 i) (S.w 27 i) (S.a 28 i) (S.a 29 i) v (S.a 30 i) lt (S.a 33 i))) ∧ h v = some (.inl (c 0, 11, .inl fv)) ∧ (∀ j, j < (S.a 30 i).toNatClampNeg → fv j = S.a 31 (11 * i + j)) ∧
  ∀ j, j < (S.a 33 i).toNatClampNeg → ∃ (t m : Nat) (fl : Nat → Int32), lt = .ref t ∧ h t = some (.inl (c 0, m, .inl fl)) ∧ j < m ∧ fl j = S.a 35 ((S.a 32 i).toNatClampNeg + j)
/-- the letters of the records before r lie below the next one's -/
def TI (S : MS) (r : Nat) : Prop := ∀ i, i < r → ∀ j, j < (S.a 33 i).toNatClampNeg → (S.a 32 i).toNatClampNeg + j < f_tx S
/-- the list -/
def EL (c : Nat → ClassId) (a κ ω : Nat → Nat) (S : MS) (h : PH) : Prop := (∀ q, ω q ≠ 0 → κ q ≠ 0) ∧ ∃ (r : Nat) (gr : Nat → Option Nat), h (a 7) = some (.inr (4, [.ref (a 8), .int (nI r)])) ∧ S.i 23 = nI r ∧ r ≤ 100 ∧ h (a 8) = some (zR c gr) ∧ (∀ i p, i < 101 → gr i = some p → RL_ h ω i p) ∧ (∀ i, i < r → ∃ p, gr i = some p ∧ REx c h S i p) ∧ TI S r
/-- what the list is told by stays -/
def LSx (S S' : MS) : Prop := (∀ q, q = 23 ∨ q = 34 → S'.i q = S.i q) ∧ (∀ q j, S'.w q j = S.w q j) ∧ ∀ q j, 25 ≤ q → q ≤ 35 → S'.a q j = S.a q j
theorem LSx.rf (S : MS) : LSx S S := ⟨fun _ _ => rfl, fun _ _ => rfl, fun _ _ _ _ => rfl⟩
theorem LSx.tr {S S1 S2 : MS} (h : LSx S S1) (g : LSx S1 S2) : LSx S S2 := ⟨fun q hq => (g.1 q hq).trans (h.1 q hq), fun q j => (g.2.1 q j).trans (h.2.1 q j), fun q j q1 q2 => (g.2.2 q j q1 q2).trans (h.2.2 q j q1 q2)⟩
/-- the object, the model in any state of its -/
def ZI (c : Nat → ClassId) (a : Nat → Nat) (h9 : PH) (V : Nat → Prop) (α : Nat → Int64) (f : Nat → Option Nat) (κ κd ω ωd : Nat → Nat) (S : MS) (h : PH) : Prop :=
  ZZ c a h9 V α f κ κd h ∧ RK f α S ∧ (WFa S ∧ WFb S) ∧ ER c α f κ ω S h ∧ EU a S h ∧ EB c a S h ∧ EF c a S h ∧ EL c a κd ωd S h
section ZI
variable {w : Wd} {c : Nat → ClassId} {a : Nat → Nat} {h9 : PH} {V : Nat → Prop} {α : Nat → Int64} {f : Nat → Option Nat} {κ κd ω ωd : Nat → Nat} {S S' S1 S2 : MS} {h g : PH} {r : Option Value}
theorem EB.go (E : EB c a S h) (e1 : g (a 1) = h (a 1)) (e2 : g (a 2) = h (a 2)) (s2 : S'.i 2 = S.i 2) (s1 : ∀ j, S'.a 1 j = S.a 1 j) : EB c a S' g := by
  obtain ⟨gr, n, R, e, b⟩ := E
  exact ⟨gr, n, ⟨R.1, by rw [e1]; exact R.2.1, by rw [e2]; exact R.2.2.1, R.2.2.2⟩, s2.trans e, fun j hj => (b j hj).trans (s1 j).symm⟩
theorem EF.go (E : EF c a S h) (e0 : g (a 0) = h (a 0)) (e10 : g (a 10) = h (a 10)) (s20 : S'.i 20 = S.i 20) (s21 : ∀ j, S'.a 21 j = S.a 21 j) : EF c a S' g := by
  obtain ⟨fn, gf, x1, x2, x3, x4, x5⟩ := E
  exact ⟨fn, gf, by rw [e0]; exact x1, s20.trans x2, x3, by rw [e10]; exact x4, fun k hk b hb => (x5 k hk b hb).trans (s21 _).symm⟩
theorem RL_.go {i p : Nat} (R : RL_ h ωd i p) (e : g p = h p) : RL_ g ωd i p := by
  obtain ⟨r1, va, sg, co, fu, ta, un, vn, ln, v, lt, r2, r3⟩ := R
  exact ⟨r1, va, sg, co, fu, ta, un, vn, ln, v, lt, by rw [e]; exact r2, r3⟩
theorem rd_inj {va va' sg sg' : Int64} {co fu ta un vn ln co' fu' ta' un' vn' ln' : Int32} {v v' : Nat} {lt lt' : Value} {o : Option va_E} (h1 : o = some (.inr (3, rdL va co fu sg ta un v vn lt ln))) (h2 : o = some (.inr (3, rdL va' co' fu' sg' ta' un' v' vn' lt' ln'))) : v = v' ∧ lt = lt' := by
  have := h1.symm.trans h2
  simp only [Option.some.injEq, Sum.inr.injEq, Prod.mk.injEq, List.cons.injEq, Value.long.injEq, Value.int.injEq, Value.ref.injEq, true_and, and_true] at this
  exact ⟨this.2.2.2.2.2.2.1, this.2.2.2.2.2.2.2.2.1⟩
/-- record i stays, where its cells and the model's do -/
theorem REx.go {i p : Nat} (R : REx c h S i p) (L : RL_ h ωd i p) (e : ∀ q, 4 * i + 1 ≤ ωd q → ωd q ≤ 4 * i + 3 → g q = h q) (s : ∀ q, q = 24 ∨ q = 27 → S'.w q i = S.w q i) (s1 : ∀ q, (25 ≤ q ∧ q ≤ 30) ∨ q = 32 ∨ q = 33 → S'.a q i = S.a q i) (s31 : ∀ j, j < (S.a 30 i).toNatClampNeg → S'.a 31 (11 * i + j) = S.a 31 (11 * i + j)) (s35 : ∀ j, j < (S.a 33 i).toNatClampNeg → S'.a 35 ((S.a 32 i).toNatClampNeg + j) = S.a 35 ((S.a 32 i).toNatClampNeg + j)) : REx c g S' i p := by
  obtain ⟨l1, va, sg, co, fu, ta, un, vn, ln, v0, lt0, l2, l3, l4⟩ := L
  obtain ⟨v, lt, fv, r1, r2, r3, r4⟩ := R
  obtain ⟨e1, e2⟩ := rd_inj r1 l2
  subst e1 e2
  refine ⟨v, lt, fv, ?_, by rw [e v (by omega) (by omega)]; exact r2, fun j hj => ?_, fun j hj => ?_⟩
  · rw [e p (by omega) (by omega), s 24 (Or.inl rfl), s 27 (Or.inr rfl), s1 25 (by omega), s1 26 (by omega), s1 28 (by omega), s1 29 (by omega), s1 30 (by omega), s1 33 (by omega)]
    exact r1
  · rw [s1 30 (by omega)] at hj
    rw [s31 j hj]
    exact r3 j hj
  · rw [s1 33 (by omega)] at hj
    obtain ⟨t, m, fl, t1, t2, t3, t4⟩ := r4 j hj
    refine ⟨t, m, fl, t1, by rw [e t (by rw [l4 t t1]; omega) (by rw [l4 t t1]; omega)]; exact t2, t3, ?_⟩
    rw [s1 32 (by omega), s35 j hj]
    exact t4
theorem EL.go (E : EL c a κd ωd S h) (e7 : g (a 7) = h (a 7)) (e8 : g (a 8) = h (a 8)) (e : ∀ q, ωd q ≠ 0 → g q = h q) (s : LSx S S') : EL c a κd ωd S' g := by
  obtain ⟨x0, r, gr, x1, x2, x3, x4, x5, x6, x7⟩ := E
  refine ⟨x0, r, gr, by rw [e7]; exact x1, (s.1 23 (Or.inl rfl)).trans x2, x3, by rw [e8]; exact x4, fun i p hi hp => ?_, fun i hi => ?_, fun i hi j hj => ?_⟩
  · have L := x5 i p hi hp
    exact L.go (e p (by rw [L.1]; omega))
  · obtain ⟨p, p1, p2⟩ := x6 i hi
    have L := x5 i p (by omega) p1
    exact ⟨p, p1, p2.go L (fun q q1 _ => e q (by omega)) (fun q _ => s.2.1 q i) (fun q hq => s.2.2 q i (by omega) (by omega)) (fun j _ => s.2.2 31 _ (by omega) (by omega)) (fun j _ => s.2.2 35 _ (by omega) (by omega))⟩
  · rw [s.2.2 33 i (by omega) (by omega)] at hj
    rw [s.2.2 32 i (by omega) (by omega), show f_tx S' = f_tx S from by unfold f_tx; rw [s.1 34 (Or.inr rfl)]]
    exact x7 i hi j hj
theorem ZI.bb (Z : ZI c a h9 V α f κ κd ω ωd S h) : BB c (a 3) (a 4) (a 5) (a 6) h (WB a κ h) α f κ ω S h := ⟨Z.1.bus, Z.2.1, Z.2.2.2.1, Z.2.2.1, Z.2.2.2.2.1⟩
theorem BB.mod {u ma an aa : Nat} {h0 : PH} {W : Nat → Prop} (D : BB c u ma an aa h0 W α f κ ω S h) (s : ∀ q j, 10 ≤ q → q ≤ 18 → S'.a q j = S.a q j) (e8 : S'.i 8 = S.i 8) (e9 : S'.i 9 = S.i 9) (wf : WFa S' ∧ WFb S') : BB c u ma an aa h0 W α f κ ω S' h := by
  obtain ⟨d1, d2, d3, d4, d5⟩ := D
  exact ⟨d1, d2.sm ⟨fun j => s 10 j (by omega) (by omega), fun j => s 12 j (by omega) (by omega)⟩, d3.same (fun _ _ => rfl) (fun q j hq => s q j (by omega) (by omega)), wf, by rw [e8, e9]; exact d5⟩
/-- the bus went on, and what it did is the model's -/
theorem ZI.ofO (Z : ZI c a h9 V α f κ κd ω ωd S h) (O : OC c (a 3) (a 4) (a 5) (a 6) h (WB a κ h) α f κ ω S' r g) (s1 : ∀ q j, q = 1 ∨ q = 21 → S'.a q j = S.a q j) (s2 : S'.i 2 = S.i 2) (s20 : S'.i 20 = S.i 20) (sl : LSx S S') : ZI c a h9 V α f κ κd ω ωd S' g := by
  obtain ⟨z1, z2, z3, z4, z5, z6, z7, z8⟩ := Z
  obtain ⟨-, ⟨b1, b2, b3, b4, b5⟩, -⟩ := O
  have st : ∀ q, WB a κ h q → g q = h q := fun q hq => by obtain ⟨n, n90, -, -, -, -, -, -, D7⟩ := b1; exact (D7 q hq).2.2.2.2.2.2
  have wd : ∀ q, κd q ≠ 0 → WB a κ h q := fun q hq => by
    have kq : κ q = 0 := Decidable.byContradiction fun n => hq (z1.2.2.2.2.2.1 q n)
    have ne : ∀ i, i ≤ 10 → q ≠ a i := fun i hi e => hq (by rw [e]; exact (z1.2.2.2.2.2.2.1 i hi).2)
    exact ⟨z1.dec.nn.2 q hq, kq, ne 3 (by omega), ne 4 (by omega), ne 5 (by omega), ne 6 (by omega)⟩
  refine ⟨z1.ofB0 b1, b2, b4, b3, b5, z6.go (st _ (z1.wb (i := 1) (by omega))) (st _ (z1.wb (i := 2) (by omega))) s2 (fun j => s1 1 j (Or.inl rfl)), z7.go (st _ (z1.wb (i := 0) (by omega))) (st _ (z1.wb (i := 10) (by omega))) s20 (fun j => s1 21 j (Or.inr rfl)), z8.go (st _ (z1.wb (i := 7) (by omega))) (st _ (z1.wb (i := 8) (by omega))) (fun q hq => st q (wd q (z8.1 q hq))) sl⟩
/-- the model alone went on, nothing of it that is told -/
theorem ZI.mod (Z : ZI c a h9 V α f κ κd ω ωd S h) (wf : WFa S' ∧ WFb S') (s : ∀ q j, q = 1 ∨ (10 ≤ q ∧ q ≤ 18) ∨ q = 21 → S'.a q j = S.a q j) (si : ∀ q, q = 2 ∨ q = 8 ∨ q = 9 ∨ q = 20 → S'.i q = S.i q) (sl : LSx S S') : ZI c a h9 V α f κ κd ω ωd S' h := by
  obtain ⟨z1, z2, z3, z4, z5, z6, z7, z8⟩ := Z
  exact ⟨z1, z2.sm ⟨fun j => s 10 j (by omega), fun j => s 12 j (by omega)⟩, wf, z4.same (fun _ _ => rfl) (fun q j hq => s q j (by omega)), by rw [EU, si 8 (by omega), si 9 (by omega)]; exact z5, z6.go rfl rfl (si 2 (by omega)) (fun j => s 1 j (by omega)), z7.go rfl rfl (si 20 (by omega)) (fun j => s 21 j (by omega)), z8.go rfl rfl (fun _ _ => rfl) sl⟩
theorem ZI.x (Z : ZI c a h9 V α f κ κd ω ωd S h) : h (a 0) = some (.inr (6, [.ref (a 1), .ref (a 3), .ref (a 7), .ref (a 9), .ref (a 10), .int (S.i 20)])) := by
  obtain ⟨fn, gf, x1, x2, -⟩ := Z.2.2.2.2.2.2.1
  rw [x2]; exact x1
end ZI
/-! The bus leaves the rest of the model alone. -/
section Stay
variable {S : MS}
theorem step_w (isS sel : Bool) (c a : Int32) (k q j : Nat) : (f_step S isS sel c a k).w q j = S.w q j := by
  unfold f_step
  split
  · unfold f_does
    split
    · unfold f_sel; split <;> rfl
    · split
      · unfold f_short
        split
        · rfl
        · split <;> rfl
      · split
        · unfold f_long
          split
          · rfl
          · split <;> rfl
        · rfl
  · rfl
theorem run_w (isS sel : Bool) (c a : Int32) (q j : Nat) : ∀ n, (f_run S isS sel c a n).w q j = S.w q j
  | 0 => rfl
  | n + 1 => (step_w isS sel c a n q j).trans (run_w isS sel c a q j n)
theorem end_w (a : Int32) (q j : Nat) : (f_end S a).w q j = S.w q j := rfl
theorem begin_w (q j : Nat) : (f_begin S).w q j = S.w q j := rfl
theorem bus_w (n q j : Nat) : (f_bus S n).w q j = S.w q j := by
  unfold f_bus
  split
  · rw [end_w, run_w, begin_w]
  · split
    · rw [end_w, run_w, begin_w]
    · exact begin_w q j
theorem mcp_w (q j : Nat) : ∀ n, (f_mcp S n).w q j = S.w q j
  | 0 => rfl
  | n + 1 => by rw [f_mcp]; exact mcp_w q j n
theorem putM0_w (q j : Nat) : (f_putM0 S).w q j = S.w q j := (mcp_w (S := f_mhd S) q j 8)
theorem putM_w (q j : Nat) : (f_putM S).w q j = S.w q j := by unfold f_putM; rw [bus_w, putM0_w]
theorem putS_w (c : Int32) (q j : Nat) : (f_putS S c).w q j = S.w q j := by unfold f_putS; rw [bus_w]; rfl
theorem LSx.putM : LSx S (f_putM S) := ⟨fun q hq => f_putM_i _ (by omega) (by omega) (by omega) (by omega) (by omega), putM_w, fun q j q1 q2 => putM_bz (by unfold bz; split <;> first | omega | rfl) (by omega)⟩
theorem LSx.putS (c : Int32) : LSx S (f_putS S c) := ⟨fun q hq => f_putS_i _ _ (by omega) (by omega) (by omega) (by omega) (by omega), putS_w c, fun q j q1 q2 => putS_bz (by unfold bz; split <;> first | omega | rfl) (by omega)⟩
theorem putS_isS (c : Int32) : f_isS (f_putS0 S c) := by
  unfold f_isS f_putS0
  refine ⟨rfl, ?_, ?_, ?_⟩
  · simp [MS.si_a, MS.sa_a]
  · simp [MS.si_a, MS.sa_a]
  · simp [MS.si_a, MS.sa_a]
theorem putS_eq (c : Int32) : f_putS S c = f_end (f_run (f_begin (f_putS0 S c)) true false c 253 12) 253 := by
  have e1 : (f_putS0 S c).a 3 1 = c := by unfold f_putS0; simp [MS.si_a, MS.sa_a]
  have e2 : (f_putS0 S c).a 3 2 = 253 := by unfold f_putS0; simp [MS.si_a, MS.sa_a]
  unfold f_putS f_bus
  rw [if_pos (putS_isS c), e1, e2]
theorem putS0_a {c : Int32} {q j : Nat} (h : q ≠ 3) : (f_putS0 S c).a q j = S.a q j := by
  unfold f_putS0
  rw [MS.si_a, sa_ne h, sa_ne h, sa_ne h, sa_ne h, sa_ne h]
theorem WFb.putS0 {c : Int32} (h : WFb S) (hc : byt c) : WFb (f_putS0 S c) := ((((h.sa (fun _ => ⟨16, by decide, rfl⟩)).sa (fun _ => hc)).sa (fun _ => ⟨253, by decide, rfl⟩)).sa (fun _ => byt_and _)).sa (fun _ => ⟨22, by decide, rfl⟩)
theorem putM0_ne {q j : Nat} (h : q ≠ 3) : (f_putM0 S).a q j = S.a q j := by
  unfold f_putM0
  rw [MS.si_a, sa_ne h, sa_ne h, f_mcp_a _ _ h]
  unfold f_mhd
  rw [sa_ne h, sa_ne h, sa_ne h, sa_ne h, sa_ne h, sa_ne h, sa_ne h]
theorem WFb.putM0 (h : WFb S) : WFb (f_putM0 S) := by
  have hh : WFb (f_mhd S) := (((((((h.sa (fun _ => ⟨104, by decide, rfl⟩)).sa (fun _ => ⟨11, by decide, rfl⟩)).sa (fun _ => ⟨11, by decide, rfl⟩)).sa (fun _ => ⟨104, by decide, rfl⟩)).sa (fun _ => ⟨83, by decide, rfl⟩)).sa (fun _ => ⟨253, by decide, rfl⟩)).sa (fun _ => ⟨82, by decide, rfl⟩))
  exact ((hh.mcp 8).sa (fun _ => byt_and _)).sa (fun _ => ⟨22, by decide, rfl⟩)
end Stay
section Put
variable {w : Wd} {c : Nat → ClassId} {a : Nat → Nat} {h9 : PH} {V : Nat → Prop} {α : Nat → Int64} {f : Nat → Option Nat} {κ κd ω ωd : Nat → Nat} {S S' S1 S2 : MS} {h g : PH} {r : Option Value}
variable {z : Fx} {cc : ByteArray} {kc ks pc : Nat} {L : List (Option Value)} {st : List Value} {fr lo : Nat}
/-- bus.putShort of the master -/
theorem k_putS (hX : Wx w c) (C : Cx z RX6 cc gw) (Y : Cty z c) (E : Cs z w fr lo) (hf : 6 ≤ fr) (hlo : 240 ≤ lo) (Z : ZI c a h9 V α f κ κd ω ωd S h) {cm : Int32} (hc : byt cm) (d : decode cc pc = .ok (.invokevirtual 166, 3)) (hcat : (st.map fun v => v.category).sum ≤ 8)
    (k : ∀ g, ZI c a h9 V α f κ κd ω ωd (f_putS S cm) g → AW c g (a 5) (a 6) (f_putS S cm) → X z kc ks (EQ g) (pc + 3) L (.int (outV (f_putS S cm)) :: st)) : X z kc ks (EQ h) pc L (.int 253 :: .int cm :: .ref (a 3) :: st) := by
  have D : BB c (a 3) (a 4) (a 5) (a 6) h (WB a κ h) α f κ ω (f_putS0 S cm) h := Z.bb.mod (fun q j q1 q2 => putS0_a (by omega)) rfl rfl ⟨Z.2.2.1.1.putS0, Z.2.2.1.2.putS0 hc⟩
  have M := u_putShortX hX D cm 253
  rw [← putS_eq] at M
  refine k_callR (kc := kc) (ks := ks) (mc' := 0) (ms' := 0) (st := st) C Y hX.1 E M rfl md_X0_putShort wi_X0_putShort ws_X0_putShort wm_X6_166 d rfl hf (by omega) Z.2.2.2.2.1 rfl rfl hcat (fun r g hg => ?_)
  have hr := hg.1
  subst hr
  exact k g (Z.ofO hg (fun q j hq => putS_bz (by rcases hq with rfl | rfl <;> rfl) (by omega)) (f_putS_i _ _ (by decide) (by decide) (by decide) (by decide) (by decide)) (f_putS_i _ _ (by decide) (by decide) (by decide) (by decide) (by decide)) (LSx.putS cm)) hg.2.2
/-- bus.putSelect of the master -/
theorem k_putM (hX : Wx w c) (C : Cx z RX6 cc gw) (Y : Cty z c) (E : Cs z w fr lo) (hf : 6 ≤ fr) (hlo : 240 ≤ lo) (Z : ZI c a h9 V α f κ κd ω ωd S h) {mk : Int64} (hm : AB mk (fun b => S.a 19 b)) (d : decode cc pc = .ok (.invokevirtual 217, 3)) (hcat : (st.map fun v => v.category).sum ≤ 8)
    (k : ∀ g, ZI c a h9 V α f κ κd ω ωd (f_putM S) g → AW c g (a 5) (a 6) (f_putM S) → X z kc ks (EQ g) (pc + 3) L (.int (outV (f_putM S)) :: st)) : X z kc ks (EQ h) pc L (.long mk :: .ref (a 3) :: st) := by
  have D : BB c (a 3) (a 4) (a 5) (a 6) h (WB a κ h) α f κ ω (f_putM0 S) h := Z.bb.mod (fun q j q1 q2 => putM0_ne (by omega)) (f_mcp_i (f_mhd S) 8 8) (f_mcp_i (f_mhd S) 8 9) ⟨Z.2.2.1.1.putM0, Z.2.2.1.2.putM0⟩
  have M := u_putSelectX hX D (mk := mk) (fun b hb => (hm b hb).trans (by show S.a 19 b = (f_putM0 S).a 3 (7 + b); rw [putM0_a S (7 + b) (by omega), if_pos (by omega), show 7 + b - 7 = b by omega])) 83
  rw [← putM_eq] at M
  refine k_callR (kc := kc) (ks := ks) (mc' := 0) (ms' := 0) (st := st) C Y hX.1 E M rfl md_X0_putSelect wi_X0_putSelect ws_X0_putSelect wm_X6_217 d rfl hf (by omega) Z.2.2.2.2.1 rfl rfl hcat (fun r g hg => ?_)
  have hr := hg.1
  subst hr
  exact k g (Z.ofO hg (fun q j hq => putM_bz (by rcases hq with rfl | rfl <;> rfl) (by omega)) (f_putM_i _ (by decide) (by decide) (by decide) (by decide) (by decide)) (f_putM_i _ (by decide) (by decide) (by decide) (by decide) (by decide)) LSx.putM) hg.2.2
end Put
end
section
/-! A MeterBus against the model: the buffer's calls. -/
theorem bl_sshr (x : Int64) (n : Nat) (hn : n < 64) {i : Nat} (hi : i < 64) : bl (x >>> ((nI n).toInt64 &&& 63)) i = if n + i < 64 then bl x (n + i) else bl x 63 := by
  unfold bl
  rw [Int64.toBitVec_shiftRight]
  show (x.toBitVec.sshiftRight (((nI n).toInt64 &&& 63).toBitVec.smod 64).toNat).getLsbD i = _
  rw [sh_l n hn, BitVec.getLsbD_sshiftRight, BitVec.msb_eq_getLsbD_last]
  simp [hi]
theorem f_by_eq (b : Int64) {k : Nat} (hk : k < 8) : by8 b k &&& 255 = f_by b k := b_ext (fun t ht => by
  rw [by8_bit b hk]
  unfold f_by
  rw [bl_l2i, bl_and, bl_255, show (8 : Int32) * nI k = nI (8 * k) from pk_mul 8 k, bl_sshr _ _ (by omega) (show t < 64 by omega), decide_eq_true ht]
  by_cases q : t < 8
  · rw [decide_eq_true q, if_pos (show 8 * k + t < 64 by omega)]; simp
  · rw [decide_eq_false q]; simp)
/-- the object against the model, somehow; the model as it must be -/
def ZQ (c : Nat → ClassId) (a : Nat → Nat) (h9 : PH) (V : Nat → Prop) (S : MS) (g : PH) : Prop := MH S ∧ ∃ α f κ κd ω ωd, ZI c a h9 V α f κ κd ω ωd S g
section Buf
variable {w : Wd} {c : Nat → ClassId} {a : Nat → Nat} {h9 : PH} {V : Nat → Prop} {α : Nat → Int64} {f : Nat → Option Nat} {κ κd ω ωd : Nat → Nat} {S S' S1 S2 : MS} {h g : PH} {r : Option Value}
theorem ZI.nw (Z : ZI c a h9 V α f κ κd ω ωd S h) {q : Nat} (hq : ω q ≠ 0 ∨ ωd q ≠ 0) : ∀ i, i ≤ 10 → q ≠ a i := fun i hi e => by
  have k := Z.1.2.2.2.2.2.2.1 i hi
  rcases hq with hq | hq
  · exact Z.2.2.2.1.1 q hq (by rw [e]; exact k.1)
  · exact Z.2.2.2.2.2.2.2.1 q hq (by rw [e]; exact k.2)
/-- the buffer written anew -/
theorem ZI.putB (Z : ZI c a h9 V α f κ κd ω ωd S h) {gr : Nat → Int32} {n : Nat} (hn : n ≤ 300) (wf : WFa S' ∧ WFb S') (e2 : S'.i 2 = nI n) (e1 : ∀ j, j < n → gr j = S'.a 1 j) (s : ∀ q j, (10 ≤ q ∧ q ≤ 18) ∨ q = 21 → S'.a q j = S.a q j) (si : ∀ q, q = 8 ∨ q = 9 ∨ q = 20 → S'.i q = S.i q) (sl : LSx S S') : ZI c a h9 V α f κ κd ω ωd S' (rowh c h (a 1) (a 2) gr n) := by
  have nw := fun q hq => Z.nw (q := q) hq
  obtain ⟨z1, z2, z3, z4, z5, z6, z7, z8⟩ := Z
  have d := z1.dif
  have hb : HB gr n := fun j hj => by
    obtain ⟨v, v1, v2⟩ := wf.2 1 j rfl
    exact ⟨v, v1, (e1 j hj).trans v2⟩
  have rn : ∀ i, i ≤ 10 → i ≠ 1 → i ≠ 2 → rowh c h (a 1) (a 2) gr n (a i) = h (a i) := fun i hi n1 n2 => rw_ne (d i 1 hi (by omega) n1) (d i 2 hi (by omega) n2)
  refine ⟨z1.putB hn hb, z2.sm ⟨fun j => s 10 j (by omega), fun j => s 12 j (by omega)⟩, wf, z4.same (fun q hq => rw_ne (nw q (Or.inl hq) 1 (by omega)) (nw q (Or.inl hq) 2 (by omega))) (fun q j hq => s q j (by omega)), ?_, ⟨gr, n, RW.of (d 1 2 (by omega) (by omega) (by omega)) hn, e2, e1⟩, z7.go (rn 0 (by omega) (by omega) (by omega)) (rn 10 (by omega) (by omega) (by omega)) (si 20 (by omega)) (fun j => s 21 j (by omega)), z8.go (rn 7 (by omega) (by omega) (by omega)) (rn 8 (by omega) (by omega) (by omega)) (fun q hq => rw_ne (nw q (Or.inr hq) 1 (by omega)) (nw q (Or.inr hq) 2 (by omega))) sl⟩
  rw [EU, rn 3 (by omega) (by omega) (by omega), si 8 (by omega), si 9 (by omega)]
  exact z5
theorem bc_at (f g : Nat → Int32) : ∀ m j, j < m → bcF f g m j = g j &&& 255
  | 0, j, h => absurd h (Nat.not_lt_zero j)
  | m + 1, j, h => by
    show upd (bcF f g m) m (g m &&& 255) j = _
    by_cases e : j = m
    · subst e; simp [upd]
    · rw [show upd (bcF f g m) m (g m &&& 255) j = bcF f g m j from by simp [upd, e]]
      exact bc_at f g m j (by omega)
theorem LSx.si (S : MS) (q : Nat) (v : Int32) (h : q ≠ 23 ∧ q ≠ 34) : LSx S (S.si q v) := ⟨fun x hx => by rw [MS.si_i, if_neg (by omega)], fun _ _ => rfl, fun _ _ _ _ => rfl⟩
theorem cp_w (S : MS) (q r x y : Nat) : ∀ n, (f_cp S q r n).w x y = S.w x y
  | 0 => rfl
  | n + 1 => by rw [f_cp]; exact cp_w S q r x y n
theorem LSx.cp (S : MS) (q r n : Nat) (h : q < 25) : LSx S (f_cp S q r n) := ⟨fun x _ => f_cp_i S n x, fun x y => cp_w S q r x y n, fun x j x1 x2 => f_cp_ne S n (by omega)⟩
theorem LSx.bus (S : MS) (n : Nat) : LSx S (f_bus S n) := ⟨fun x hx => f_bus_i S n (by omega) (by omega) (by omega) (by omega), bus_w n, fun q j q1 q2 => bus_bz (by unfold bz; split <;> first | omega | rfl)⟩
theorem LSx.send (S : MS) (n : Nat) : LSx S (f_send S n) := by
  have h0 : LSx S (f_send0 S n) := (((LSx.si S 0 0 (by decide)).tr (LSx.cp _ 3 1 n (by decide))).tr (LSx.si _ 4 _ (by decide))).tr (LSx.bus _ n)
  unfold f_send
  split
  · exact ((h0.tr (LSx.si _ 2 0 (by decide))).tr (LSx.cp _ 1 5 _ (by decide))).tr (LSx.si _ 2 _ (by decide))
  · exact h0.tr (LSx.si _ 2 0 (by decide))
theorem zy_send (hX : Wx w c) (hS : MH S) (Z : ZI c a h9 V α f κ κd ω ωd S h) : T w gw yX6_send cX6_send 2 (some .int) 8 (40 * 8) 0 0 [.ref (a 0)] (EQ h) (fun r g => ∃ n, S.i 2 = nI n ∧ n ≤ 300 ∧ r = some (.int (f_sendR S n)) ∧ ZQ c a h9 V (f_send S n) g) := by
  have hW := hX.1
  refine TA.intro hW rfl (by decide +kernel) (Nat.le_of_ble_eq_true rfl) (fun z C Y E hn h1 hA => ?_)
  rw [show h1 = h from hA]
  clear hA
  have Bx := Z.x
  obtain ⟨gb, n, R, e2, e1⟩ := Z.2.2.2.2.2.1
  have hn3 := R.2.2.2
  obtain ⟨hwa, hwb⟩ := Z.2.2.1
  -- the model's frame
  have w0 : WFa ((f_cp (S.si 0 0) 3 1 n).si 4 (nI n)) ∧ WFb ((f_cp (S.si 0 0) 3 1 n).si 4 (nI n)) := ⟨(WFa.cp hwa.si (by decide) (by decide) (by decide) n).si, (WFb.cp hwb.si rfl n).si⟩
  have D : BB c (a 3) (a 4) (a 5) (a 6) h (WB a κ h) α f κ ω ((f_cp (S.si 0 0) 3 1 n).si 4 (nI n)) h := Z.bb.mod (fun q j q1 q2 => by rw [MS.si_a, f_cp_ne _ _ (by omega)]; rfl) (by rw [MS.si_i, if_neg (by decide), f_cp_i]; rfl) (by rw [MS.si_i, if_neg (by decide), f_cp_i]; rfl) w0
  have F : FM gb n ((f_cp (S.si 0 0) 3 1 n).si 4 (nI n)) := ⟨rfl, hn3, fun j hj => by rw [MS.si_a, f_cp_eq, if_pos hj]; exact e1 j hj⟩
  have M := u_putX hX D R (Z.1.wb (i := 1) (by omega)) (Z.1.wb (i := 2) (by omega)) F
  rw [show f_bus ((f_cp (S.si 0 0) 3 1 n).si 4 (nI n)) n = f_send0 S n from rfl] at M
  have ls0 : LSx S (f_send0 S n) := (((LSx.si S 0 0 (by decide)).tr (LSx.cp _ 3 1 n (by decide))).tr (LSx.si _ 4 _ (by decide))).tr (LSx.bus _ n)
  have sb : ∀ q j, q ≠ 3 → bz q = false → (f_send0 S n).a q j = S.a q j := fun q j q3 qb => by
    unfold f_send0
    rw [bus_bz qb, MS.si_a, f_cp_ne _ _ q3]
    rfl
  have sbi : ∀ q, q = 2 ∨ q = 20 → (f_send0 S n).i q = S.i q := fun q hq => by
    unfold f_send0
    rw [f_bus_i _ _ (by omega) (by omega) (by omega) (by omega), MS.si_i, if_neg (by omega), f_cp_i, MS.si_i, if_neg (by omega)]
  refine x_aload_n C dX6_send_0 rfl ?_
  refine e_get C Y kd_X6 1 (by decide) wf_X6_19 dX6_send_1 Bx rfl ?_
  refine x_aload_n C dX6_send_4 rfl ?_
  refine e_get C Y kd_X6 0 (by decide) wf_X6_10 dX6_send_5 Bx rfl ?_
  refine k_callR (kc := 0) (ks := 0) (mc' := 0) (ms' := 0) (st := []) C Y hW E.cs M rfl md_X0_put wi_X0_put ws_X0_put wm_X6_134 dX6_send_8 rfl (by decide) (by decide) Z.2.2.2.2.1 rfl rfl (by decide) (fun r g hg => ?_)
  have hr := hg.1
  subst hr
  have Zg : ZI c a h9 V α f κ κd ω ωd (f_send0 S n) g := Z.ofO hg (fun q j hq => sb q j (by omega) (by rcases hq with rfl | rfl <;> rfl)) (sbi 2 (Or.inl rfl)) (sbi 20 (Or.inr rfl)) ls0
  obtain ⟨ga, na, Ra, a1, a2⟩ := hg.2.2
  have Bx := Zg.x
  have B : g (a 3) = _ := Zg.2.2.2.2.1
  obtain ⟨gb2, n2, R2, -, -⟩ := Zg.2.2.2.2.2.1
  have d := Zg.1.dif
  refine o_istore_nE (L' := [some _, some _]) C dX6_send_11 (by rw [hn]; decide) rfl ?_
  refine x_aload_n C dX6_send_12 rfl ?_
  refine e_get C Y kd_X6 0 (by decide) wf_X6_10 dX6_send_13 Bx rfl ?_
  refine x_aload_n C dX6_send_16 rfl ?_
  refine e_get C Y kd_X6 1 (by decide) wf_X6_19 dX6_send_17 Bx rfl ?_
  refine u_callV (st := [.ref (a 1)]) C Y hW E.cs (u_lastAnswer hX B) md_X0_lastAnswer wi_X0_lastAnswer ws_X0_lastAnswer wm_X6_138 dX6_send_20 rfl (by decide) (by decide) B rfl rfl (by simp [Value.category]) ?_
  refine u_callV (st := []) C Y hW E.cs (r_become hW R2 Ra (d 5 1 (by omega) (by omega) (by omega)) (d 5 2 (by omega) (by omega) (by omega)) (d 6 1 (by omega) (by omega) (by omega)) (d 6 2 (by omega) (by omega) (by omega))) md_X5_become wi_X5_become ws_X5_become wm_X6_142 dX6_send_23 rfl (by decide) (by decide) R2.2.1 rfl rfl (by decide) ?_
  refine x_iload_n C dX6_send_26 rfl ?_
  refine x_iret C E dX6_send_27 (fun q e => ?_)
  rw [show q = _ from e]
  have hna := Ra.2.2.2
  have hm := (AO.bus (S := (f_cp (S.si 0 0) 3 1 n).si 4 (nI n)) w0.1 n).m
  rw [show f_bus ((f_cp (S.si 0 0) 3 1 n).si 4 (nI n)) n = f_send0 S n from rfl] at hm
  have wg := Zg.2.2.1
  refine ⟨n, e2, hn3, ?_, hS.send, α, f, κ, κd, ω, ωd, ?_⟩
  · unfold f_sendR outV
    by_cases q7 : (f_send0 S n).i 7 = 1
    · rw [if_pos q7, if_pos q7, hm.2]
    · rw [if_neg q7, if_neg q7]
  · have wf : WFa (f_send S n) ∧ WFb (f_send S n) := ⟨hS.send.1.mi.2.1, hS.send.1.mi.1⟩
    by_cases q7 : (f_send0 S n).i 7 = 1
    · obtain ⟨x1, x2⟩ := a1 q7
      have em : f_m (f_send0 S n) = na := (nI_eq (by omega) (by omega)).mp (hm.2.symm.trans x1)
      have eS : f_send S n = (f_cp ((f_send0 S n).si 2 0) 1 5 na).si 2 (nI na) := by unfold f_send; rw [if_pos q7, em]
      rw [eS] at wf ⊢
      refine Zg.putB hna wf rfl (fun j hj => ?_) (fun q j hq => ?_) (fun q hq => ?_) ?_
      · rw [bc_at _ _ _ _ hj, x2 j hj, MS.si_a, f_cp_eq, if_pos hj]
        exact byt_id (wg.2 5 j rfl)
      · rw [MS.si_a, f_cp_ne _ _ (by omega)]; rfl
      · rw [MS.si_i, if_neg (by omega), f_cp_i, MS.si_i, if_neg (by omega)]
      · exact ((LSx.si _ 2 0 (by decide)).tr (LSx.cp _ 1 5 _ (by decide))).tr (LSx.si _ 2 _ (by decide))
    · have n0 := a2 q7
      subst n0
      have eS : f_send S n = (f_send0 S n).si 2 0 := by unfold f_send; rw [if_neg q7]
      rw [eS] at wf ⊢
      exact Zg.putB hna wf rfl (fun j hj => absurd hj (Nat.not_lt_zero j)) (fun q j hq => rfl) (fun q hq => by rw [MS.si_i, if_neg (by omega)]) (LSx.si _ 2 0 (by decide))
theorem ZI.s0 (Z : ZI c a h9 V α f κ κd ω ωd S h) (v : Int32) : ZI c a h9 V α f κ κd ω ωd (S.si 0 v) h := Z.mod ⟨Z.2.2.1.1.si, Z.2.2.1.2.si⟩ (fun _ _ _ => rfl) (fun q hq => by rw [MS.si_i, if_neg (by omega)]) (LSx.si S 0 v (by decide))
theorem ZI.q0 (Z : ZI c a h9 V α f κ κd ω ωd S h) (hS : MH S) (v : Int32) : ZQ c a h9 V (S.si 0 v) h := ⟨hS.s0 v, α, f, κ, κd, ω, ωd, Z.s0 v⟩
theorem zy_keep (hX : Wx w c) (hS : MH S) (Z : ZI c a h9 V α f κ κd ω ωd S h) (n : Int32) : TCX w yX6_keep cX6_keep 2 none 1 6 [.ref (a 0), .int n] h
    (fun r g => r = none ∧ ∃ S', (∀ M, Wm w M → TF w M yX7_keep cX7_keep 2 none 1 [.int n] S none S') ∧ S'.i 0 = 0 ∧ ZQ c a h9 V S' g) (fun En g => ∃ S', (∀ M, Wm w M → TF w M yX7_keep cX7_keep 2 none 1 [.int n] S none S') ∧ (En = IAE ∧ S'.i 0 = 1) ∧ ZQ c a h9 V S' g) := by
  have hW := hX.1
  have Bx := Z.x
  obtain ⟨gb, nb, R, e2, e1⟩ := Z.2.2.2.2.2.1
  have hn3 := R.2.2.2
  refine TCX.intro hX.1 rfl (by decide +kernel) (Nat.le_of_ble_eq_true rfl) (fun z C Y E hn => ?_)
  have T15 : ¬ q_keep S n → X z 1 6 (EQ h) 15 [some (.ref (a 0)), some (.int n)] [] := fun nk => u_thr (kc := 0) (ks := 0) hX C E exs_IAE at_51 wc_X6_47 wz_IllegalArgumentException (show (67, "the buffer has not so many bytes") ∈ txts by simp [txts]) dX6_keep_15 dX6_keep_18 dX6_keep_19 dX6_keep_21 dX6_keep_24 (by decide) (fun g e => ⟨_, fun M hM => by have := s_keep (S := S) hM n; rw [if_neg nk] at this; exact this, ⟨rfl, rfl⟩, by rw [show g = _ from e]; exact Z.q0 hS 1⟩)
  refine x_iload_n C dX6_keep_0 rfl ?_
  refine x_if_lt (tgt := 15) C dX6_keep_1 (by decide) (fun c1 => T15 (fun q => absurd q.1 (Int32.not_le.mpr c1))) (fun c1 => ?_)
  refine x_iload_n C dX6_keep_4 rfl ?_
  refine x_aload_n C dX6_keep_5 rfl ?_
  refine e_get C Y kd_X6 0 (by decide) wf_X6_10 dX6_keep_6 Bx rfl ?_
  refine u_callV (st := [.int n]) C Y hW E.1 (r_size hW R) md_X5_size wi_X5_size ws_X5_size wm_X6_54 dX6_keep_9 rfl (by decide) (by decide) R.2.1 rfl rfl (by simp [Value.category]) ?_
  rw [← e2]
  refine x_icmp_le (tgt := 25) C dX6_keep_12 (by decide) (fun c2 => ?_) (fun c2 => T15 (fun q => c2 q.2))
  have qk : q_keep S n := ⟨Int32.not_lt.mp c1, c2⟩
  obtain ⟨m, hm, rfl⟩ := nI_of c1
  have hmn : m ≤ nb := by rw [e2] at c2; exact (nI_leI hm (by omega)).mp c2
  have ec : rCut nb (nI m) = m := by
    unfold rCut
    by_cases q : m < nb
    · rw [if_pos ⟨nI_le (a := 0) (Nat.zero_le _) hm, nI_lt q (by omega)⟩, nI_clamp hm]
    · rw [if_neg (fun g => q ((nI_ltI hm (by omega)).mp g.2))]; omega
  have rc := r_cutTo hW R (nI m)
  rw [ec] at rc
  refine x_aload_n C dX6_keep_25 rfl ?_
  refine e_get C Y kd_X6 0 (by decide) wf_X6_10 dX6_keep_26 Bx rfl ?_
  refine x_iload_n C dX6_keep_29 rfl ?_
  refine u_callV (st := []) C Y hW E.1 rc md_X5_cutTo wi_X5_cutTo ws_X5_cutTo wm_X6_69 dX6_keep_30 rfl (by decide) (by decide) R.2.1 rfl rfl (by decide) ?_
  refine E.go C Y (fun z' C Y E hn => x_vret C E dX6_keep_33 (fun g e => ⟨rfl, _, fun M hM => by have := s_keep (S := S) hM (nI m); rw [if_pos qk] at this; exact this, rfl, hS.keep (by omega), α, f, κ, κd, ω, ωd, ?_⟩))
  rw [show g = _ from e]
  exact Z.putB (by omega) ⟨Z.2.2.1.1.si.si, Z.2.2.1.2.si.si⟩ rfl (fun j hj => e1 j (by omega)) (fun _ _ _ => rfl) (fun q hq => by rw [MS.si_i, if_neg (by omega), MS.si_i, if_neg (by omega)]) ((LSx.si S 0 0 (by decide)).tr (LSx.si _ 2 _ (by decide)))
theorem zy_typed (hX : Wx w c) (hS : MH S) (Z : ZI c a h9 V α f κ κd ω ωd S h) (i : Int32) : TCX w yX6_typed cX6_typed 2 (some .int) 1 6 [.ref (a 0), .int i] h
    (fun r g => ∃ v S', r = some (.int v) ∧ (∀ M, Wm w M → TF w M yX7_typed cX7_typed 2 (some .int) 1 [.int i] S (some (.int v)) S') ∧ S'.i 0 = 0 ∧ ZQ c a h9 V S' g) (fun En g => ∃ v S', (∀ M, Wm w M → TF w M yX7_typed cX7_typed 2 (some .int) 1 [.int i] S (some (.int v)) S') ∧ (En = IOE ∧ S'.i 0 = 1) ∧ ZQ c a h9 V S' g) := by
  have hW := hX.1
  have Bx := Z.x
  obtain ⟨gb, nb, R, e2, e1⟩ := Z.2.2.2.2.2.1
  have hn3 := R.2.2.2
  have md := fun M (hM : Wm w M) => s_typed (S := S) hM nb e2 hn3 i
  refine TCX.intro hX.1 rfl (by decide +kernel) (Nat.le_of_ble_eq_true rfl) (fun z C Y E hn => ?_)
  have T15 : ¬ q_typed S i → X z 1 6 (EQ h) 15 [some (.ref (a 0)), some (.int i)] [] := fun nk => u_thr (kc := 0) (ks := 0) hX C E exs_IOE at_76 wc_X6_72 wz_IndexOutOfBoundsException (show (74, "no such place") ∈ txts by simp [txts]) dX6_typed_15 dX6_typed_18 dX6_typed_19 dX6_typed_21 dX6_typed_24 (by decide) (fun g e => ⟨_, _, md, ⟨rfl, by rw [bI_t nk]; rfl⟩, by rw [show g = _ from e]; exact Z.q0 hS _⟩)
  refine x_iload_n C dX6_typed_0 rfl ?_
  refine x_if_lt (tgt := 15) C dX6_typed_1 (by decide) (fun c1 => T15 (fun q => absurd q.1 (Int32.not_le.mpr c1))) (fun c1 => ?_)
  obtain ⟨j, hj, rfl⟩ := nI_of c1
  have qt : q_typed S (nI j) ↔ j < nb := by
    unfold q_typed
    rw [e2]
    constructor
    · intro q
      have h0 : 1 ≤ nb := Nat.le_of_not_lt (fun q2 => by
        obtain rfl : nb = 0 := by omega
        exact absurd (Int32.le_trans q.1 q.2) (by decide))
      have := q.2
      rw [show nI nb - 1 = nI (nb - 1) from nI_sub' (v := nb) (b := 1) h0] at this
      have := (nI_leI hj (by omega)).mp this
      omega
    · intro q
      refine ⟨nI_le (a := 0) (Nat.zero_le _) hj, ?_⟩
      rw [show nI nb - 1 = nI (nb - 1) from nI_sub' (v := nb) (b := 1) (by omega)]
      exact nI_le (by omega) (by omega)
  refine x_iload_n C dX6_typed_4 rfl ?_
  refine x_aload_n C dX6_typed_5 rfl ?_
  refine e_get C Y kd_X6 0 (by decide) wf_X6_10 dX6_typed_6 Bx rfl ?_
  refine u_callV (st := [.int (nI j)]) C Y hW E.1 (r_size hW R) md_X5_size wi_X5_size ws_X5_size wm_X6_54 dX6_typed_9 rfl (by decide) (by decide) R.2.1 rfl rfl (by simp [Value.category]) ?_
  refine x_icmp_lt (tgt := 25) C dX6_typed_12 (by decide) (fun c2 => ?_) (fun c2 => T15 (fun q => c2 (nI_lt (qt.mp q) (by omega))))
  have jn : j < nb := (nI_ltI hj (by omega)).mp c2
  have ra := r_at hW R (nI j)
  rw [rAt_in jn hn3, e1 j jn] at ra
  refine x_aload_n C dX6_typed_25 rfl ?_
  refine e_get C Y kd_X6 0 (by decide) wf_X6_10 dX6_typed_26 Bx rfl ?_
  refine x_iload_n C dX6_typed_29 rfl ?_
  refine u_callV (st := []) C Y hW E.1 ra md_X5_at wi_X5_at ws_X5_at wm_X6_77 dX6_typed_30 rfl (by decide) (by decide) R.2.1 rfl rfl (by decide) ?_
  refine E.go C Y (fun z' C Y E hn => x_iret C E dX6_typed_33 (fun g e => ⟨_, S.si 0 (bI (¬ q_typed S (nI j))), rfl, fun M hM => ?_, ?_, by rw [show g = _ from e]; exact Z.q0 hS (bI (¬ q_typed S (nI j)))⟩))
  · have := md M hM
    rw [if_pos (qt.mpr jn), nI_clamp hj] at this
    exact this
  · rw [MS.si_i, if_pos rfl, bI_f (not_not_intro (qt.mpr jn))]
theorem ty_w (b : Int64) (q j : Nat) : ∀ (k s : Nat) (S : MS), (f_ty b k s S).w q j = S.w q j
  | 0, _, _ => rfl
  | k + 1, s, S => by rw [f_ty]; exact ty_w b q j k (s + 1) _
theorem zy_type (hX : Wx w c) (hS : MH S) (Z : ZI c a h9 V α f κ κd ω ωd S h) (b : Int64) (n : Int32) : TCX w yX6_type cX6_type 5 (some .int) 1 6 [.ref (a 0), .long b, .int n] h
    (fun r g => ∃ v S', r = some (.int v) ∧ (∀ M, Wm w M → TF w M yX7_type cX7_type 5 (some .int) 1 [.long b, .int n] S (some (.int v)) S') ∧ S'.i 0 = 0 ∧ ZQ c a h9 V S' g) (fun En g => ∃ v S', (∀ M, Wm w M → TF w M yX7_type cX7_type 5 (some .int) 1 [.long b, .int n] S (some (.int v)) S') ∧ ((En = IAE ∧ S'.i 0 = 1) ∨ (En = UOE ∧ S'.i 0 = 2)) ∧ ZQ c a h9 V S' g) := by
  have hW := hX.1
  have Bx := Z.x
  obtain ⟨gb, nb, R, e2, e1⟩ := Z.2.2.2.2.2.1
  have hn3 := R.2.2.2
  refine TCX.intro hX.1 rfl (by decide +kernel) (Nat.le_of_ble_eq_true rfl) (fun z C Y E hn => ?_)
  have T11 : ¬ ((1 : Int32) ≤ n ∧ n ≤ 8) → X z 1 6 (EQ h) 11 [some (.ref (a 0)), some (.long b), none, some (.int n), none] [] := fun nk => u_thr (kc := 0) (ks := 0) hX C E exs_IAE at_51 wc_X6_47 wz_IllegalArgumentException (show (49, "n is not 1 .. 8") ∈ txts by simp [txts]) dX6_type_11 dX6_type_14 dX6_type_15 dX6_type_17 dX6_type_20 (by decide) (fun g e => ⟨_, _, fun M hM => s_type_f hM b n nk, Or.inl ⟨rfl, rfl⟩, by rw [show g = _ from e]; exact Z.q0 hS 1⟩)
  refine x_iload_n C dX6_type_0 rfl ?_
  refine x_iconst (v := 1) C dX6_type_1 (by decide) ?_
  refine x_icmp_lt (tgt := 11) C dX6_type_2 (by decide) (fun c2 => T11 (fun q => absurd q.1 (Int32.not_le.mpr c2))) (fun c2 => ?_)
  refine x_iload_n C dX6_type_5 rfl ?_
  refine x_bipush (v := 8) C dX6_type_6 (by decide) ?_
  refine x_icmp_le (tgt := 21) C dX6_type_8 (by decide) (fun c8 => ?_) (fun c8 => T11 (fun q => c8 q.2))
  obtain ⟨m, hm, rfl⟩ := nI_of (x := n) (Int32.not_lt.mpr (Int32.le_trans (by decide) (Int32.not_lt.mp c2)))
  have hm8 : m ≤ 8 := Nat.le_of_not_lt (fun g => absurd (nI_lt g hm) (Int32.not_lt.mpr c8))
  have hm1 : 1 ≤ m := Nat.le_of_not_lt (fun g => c2 (nI_lt g (by decide)))
  refine x_aload_n C dX6_type_21 rfl ?_
  refine e_get C Y kd_X6 0 (by decide) wf_X6_10 dX6_type_22 Bx rfl ?_
  refine u_callV (st := []) C Y hW E.1 (r_size hW R) md_X5_size wi_X5_size ws_X5_size wm_X6_54 dX6_type_25 rfl (by decide) (by decide) R.2.1 rfl rfl (by decide) ?_
  refine x_iload_n C dX6_type_28 rfl ?_
  refine x_iadd C dX6_type_29 ?_
  rw [nI_add]
  refine x_sipush (v := 300) C dX6_type_30 (by decide) ?_
  refine x_icmp_le (tgt := 46) C dX6_type_33 (by decide) (fun c33 => ?_) (fun c33 => u_thr (kc := 0) (ks := 0) hX C E exs_UOE at_62 wc_X6_58 wz_UnsupportedOperationException (show (60, "the buffer would have more than 300 bytes") ∈ txts by simp [txts]) dX6_type_36 dX6_type_39 dX6_type_40 dX6_type_42 dX6_type_45 (by decide) (fun g e => ⟨_, _, fun M hM => s_type_u hM b m nb ⟨hm1, hm8⟩ e2 hn3 (fun q => c33 (nI_le (b := 300) q (by decide))), Or.inr ⟨rfl, rfl⟩, by rw [show g = _ from e]; exact Z.q0 hS 2⟩))
  have h300 : nb + m ≤ 300 := (nI_leI (b := 300) (by omega) (by decide)).mp c33
  refine E.go C Y (fun z' C Y E hn1 => ?_)
  rw [hn] at hn1
  have hn := hn1
  have LP : ∀ (rem s : Nat) (Q : MS) (h : PH), rem ≤ 8 → s + rem = nb + m → Q.i 2 = nI s → f_ty b rem s Q = f_ty b m nb (S.si 0 0) → ZI c a h9 V α f κ κd ω ωd Q h → X z' 1 6 (EQ h) 51 [some (.ref (a 0)), some (.long b), none, some (.int (nI m)), some (.int (nI rem - 1))] [] := by
    intro rem
    induction rem with
    | zero =>
      intro s Q h _ hs q2 qf Z
      have Bx := Z.x
      obtain ⟨gb, n0, R, e2, e1⟩ := Z.2.2.2.2.2.1
      have en : nI n0 = nI (nb + m) := by rw [← e2, q2]; exact congrArg nI (by omega)
      refine x_iload C dX6_type_51 rfl ?_
      refine x_if_lt (tgt := 77) C dX6_type_53 (by decide) (fun c53 => ?_) (fun c53 => absurd c53 (not_not_intro (by decide)))
      refine x_aload_n C dX6_type_77 rfl ?_
      refine e_get C Y kd_X6 0 (by decide) wf_X6_10 dX6_type_78 Bx rfl ?_
      refine u_callV (st := []) C Y hW E.cs (r_size hW R) md_X5_size wi_X5_size ws_X5_size wm_X6_54 dX6_type_81 rfl (by decide) (by decide) R.2.1 rfl rfl (by decide) ?_
      rw [en]
      refine x_iret C E dX6_type_84 (fun g e => ⟨_, _, rfl, fun M hM => s_type_t hM b m nb ⟨hm1, hm8⟩ ‹S.i 2 = nI nb› h300, ?_, hS.type ‹S.i 2 = nI nb› h300, α, f, κ, κd, ω, ωd, by rw [show g = _ from e, ← qf]; exact Z⟩)
      rw [ty_i (by decide)]; rfl
    | succ rem ih =>
      intro s Q h hr hs q2 qf Z
      have Bx := Z.x
      obtain ⟨gb, n0, R, e2, e1⟩ := Z.2.2.2.2.2.1
      have en : n0 = s := (nI_eq (by have := R.2.2.2; omega) (by omega)).mp (e2.symm.trans q2)
      subst en
      have e1' : nI (rem + 1) - 1 = nI rem := by rw [← nI_1]; exact Int32.add_sub_cancel ..
      rw [e1']
      refine x_iload C dX6_type_51 rfl ?_
      refine x_if_lt (tgt := 77) C dX6_type_53 (by decide) (fun c53 => absurd c53 (nI_pos (by omega))) (fun c53 => ?_)
      refine x_aload_n C dX6_type_56 rfl ?_
      refine e_get C Y kd_X6 0 (by decide) wf_X6_10 dX6_type_57 Bx rfl ?_
      refine x_lload_n C dX6_type_60 rfl ?_
      refine x_bipush (v := 8) C dX6_type_61 (by decide) ?_
      refine x_iload C dX6_type_63 rfl ?_
      refine x_imul C dX6_type_65 ?_
      refine x_lushr C dX6_type_66 ?_
      refine x_l2i C dX6_type_67 ?_
      refine u_callV (st := []) C Y hW E.cs (r_add hW R _) md_X5_add wi_X5_add ws_X5_add wm_X6_63 dX6_type_68 rfl (by decide) (by decide) R.2.1 rfl rfl (by decide) ?_
      refine o_iincE (v := nI rem - 1) (L' := [some _, some _, none, some _, some _]) C dX6_type_71 rfl (by rw [Int32.sub_eq_add_neg]; rfl) (by rw [hn]; decide) rfl ?_
      refine x_goto (tgt := 51) C dX6_type_74 (by decide) ?_
      refine ih (n0 + 1) ((Q.sa 1 n0 (f_by b rem)).si 2 (nI (n0 + 1))) _ (by omega) (by omega) rfl qf ?_
      rw [show rNum n0 = n0 + 1 from if_pos (by omega), show ∀ x, rAdd gb n0 x = upd gb n0 (x &&& 255) from fun x => if_pos (by omega)]
      refine Z.putB (by omega) ⟨(Z.2.2.1.1.sa (by decide) (by decide) (by decide)).si, (Z.2.2.1.2.sa (fun _ => by rw [← f_by_eq b (show rem < 8 by omega)]; exact byt_and _)).si⟩ rfl (fun j hj => ?_) (fun q j hq => ?_) (fun q hq => ?_) ⟨fun q hq => by rw [MS.si_i, if_neg (by omega), MS.sa_i], fun _ _ => rfl, fun q j q1 q2 => sa_ne (by omega)⟩
      · rw [MS.si_a, MS.sa_a]
        by_cases ej : j = n0
        · subst ej
          rw [if_pos ⟨rfl, rfl⟩, ← f_by_eq b (show rem < 8 by omega)]
          simp [upd, by8]
        · rw [if_neg (fun q => ej q.2), ← e1 j (by omega)]
          simp [upd, ej]
      · rw [MS.si_a, sa_ne (by omega)]
      · rw [MS.si_i, if_neg (by omega)]; rfl
  refine x_iload_n C dX6_type_46 rfl ?_
  refine x_iconst (v := 1) C dX6_type_47 (by decide) ?_
  refine x_isub C dX6_type_48 ?_
  refine o_istoreE (L' := [some _, some _, none, some _, some _]) C dX6_type_49 (by rw [hn]; decide) rfl ?_
  exact LP m nb (S.si 0 0) h hm8 rfl e2 rfl (Z.s0 0)
end Buf
end
