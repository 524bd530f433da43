/-! The bus: the three ways of putting a frame on it, against the model's. -/
section Bus
variable {w : Wd} {c : Nat → ClassId} {u ma an aa n k m N : Nat} {h0 h g : PH} {W : Nat → Prop} {α : Nat → Int64} {f : Nat → Option Nat} {κ ω : Nat → Nat} {S S' : MS} {pg sz : Nat}
theorem u_putShortX (hX : Wx w c) (D : BB c u ma an aa h0 W α f κ ω S h) (cm a : Int32) : T w gw yX0_putShort cX0_putShort 6 (some .int) 5 (40 * 5) 0 0 [.ref u, .int cm, .int a] (EQ h) (OC c u ma an aa h0 W α f κ ω (f_end (f_run (f_begin S) true false cm a 12) a)) := by
  have hW := hX.1
  refine TA.intro hW rfl (by decide +kernel) (Nat.le_of_ble_eq_true rfl) (fun z C Y E hn h1 hA => ?_)
  rw [show h1 = h from hA]
  clear hA
  have B := D.2.2.2.2
  have I0 := D.begin
  refine x_aload_n C dX0_putShort_0 rfl ?_
  refine x_dup C dX0_putShort_1 rfl ?_
  refine e_get C Y kd_X0 2 (by decide) wf_X0_24 dX0_putShort_2 B rfl ?_
  refine x_iconst (v := 1) C dX0_putShort_5 (by decide) ?_
  refine x_iadd C dX0_putShort_6 ?_
  refine e_put C Y kd_X0 2 (by decide) rfl wf_X0_24 dX0_putShort_7 B (Nat.le_of_ble_eq_true rfl) rfl rfl rfl ?_
  generalize f_begin S = T at E I0
  have LP : ∀ (r j : Nat) (x : Int32) (l5 : Option Value) (h : PH), j + r = 12 → x = (f_run T true false cm a j).i 7 → IB c u ma an aa h0 W α f κ ω j (f_run T true false cm a j) h → X z 0 0 (EQ h) 15 [some (.ref u), some (.int cm), some (.int a), some (.int x), some (.int (nI j)), l5] [] := by
    intro r
    induction r with
    | zero =>
      intro j x l5 h hj hx I
      obtain rfl : j = 12 := by omega
      have T81 : ∀ y : Int32, (y = if a = 255 then 0 else (f_run T true false cm a 12).i 7) → X z 0 0 (EQ h) 81 [some (.ref u), some (.int cm), some (.int a), some (.int x), some (.int (nI 12)), l5] [.int y, .ref u] := fun y hy => by
        refine k_callR (kc := 0) (ks := 0) (mc' := 0) (ms' := 0) (st := []) C Y hW E.cs (u_outcomeX hX I a hy) rfl md_X0_outcome wi_X0_outcome ws_X0_outcome wm_X0_54 dX0_putShort_81 rfl (by decide) (by decide) I.2.2.2.2.1 rfl rfl (by decide) (fun r g hg => ?_)
        have hr := hg.1
        subst hr
        exact x_iret C E dX0_putShort_84 (fun q e => by rw [show q = _ from e]; exact hg)
      refine x_iload C dX0_putShort_15 rfl ?_
      refine x_bipush (v := 12) C dX0_putShort_17 (by decide) ?_
      refine x_icmp_ge (tgt := 68) C dX0_putShort_19 (by decide) (fun _ => ?_) (fun q => absurd (Int32.le_refl _) q)
      refine x_aload_n C dX0_putShort_68 rfl ?_
      refine x_iload_n C dX0_putShort_69 rfl ?_
      refine x_sipush (v := 255) C dX0_putShort_70 (by decide) ?_
      refine x_icmp_ne (tgt := 80) C dX0_putShort_73 (by decide) (fun q => ?_) (fun q => ?_)
      · exact x_iload_n C dX0_putShort_80 rfl (T81 _ (by rw [if_neg q]; exact hx))
      · refine x_iconst (v := 0) C dX0_putShort_76 (by decide) ?_
        exact x_goto (tgt := 81) C dX0_putShort_77 (by decide) (T81 _ (by rw [if_pos q]))
    | succ r ih =>
      intro j x l5 h hj hx I
      have hj12 : j < 12 := by omega
      have B := I.2.2.2.2.1
      have er : f_run T true false cm a (j + 1) = f_step (f_run T true false cm a j) true false cm a j := rfl
      have T62 : ∀ (x : Int32) (l5 : Option Value) (h : PH), x = (f_run T true false cm a (j + 1)).i 7 → IB c u ma an aa h0 W α f κ ω (j + 1) (f_run T true false cm a (j + 1)) h → X z 0 0 (EQ h) 62 [some (.ref u), some (.int cm), some (.int a), some (.int x), some (.int (nI j)), l5] [] := fun x l5 h hx D => by
        refine o_iincE (v := nI (j + 1)) (L' := [some _, some _, some _, some _, some _, l5]) C dX0_putShort_62 rfl (nI_1 j) (by rw [hn]; decide) rfl ?_
        refine x_goto (tgt := 15) C dX0_putShort_65 (by decide) ?_
        exact ih (j + 1) x l5 h (by omega) hx D
      rw [er] at T62
      clear ih er
      generalize f_run T true false cm a j = Q at hx I B T62
      refine x_iload C dX0_putShort_15 rfl ?_
      refine x_bipush (v := 12) C dX0_putShort_17 (by decide) ?_
      refine x_icmp_ge (tgt := 68) C dX0_putShort_19 (by decide) (fun q => absurd q (Int32.not_le.mpr (nI_lt (show j < 12 by omega) (by decide)))) (fun _ => ?_)
      refine x_aload_n C dX0_putShort_22 rfl ?_
      refine e_get C Y kd_X0 0 (by decide) wf_X0_11 dX0_putShort_23 B rfl ?_
      refine x_iload C dX0_putShort_26 rfl ?_
      refine k_meter hX C E.cs I.1 hj12 dX0_putShort_28 (fun em => ?_) (fun m em hm => ?_)
      · have e1 : f_step Q true false cm a j = Q := step_no (I.2.1.no hj12 em)
        rw [e1] at T62
        refine o_astoreN (L' := [some _, some _, some _, some _, some _, some _]) C dX0_putShort_29 (by rw [hn]; decide) rfl ?_
        refine x_aloadN C dX0_putShort_31 rfl ?_
        exact x_ifnullN (tgt := 62) C dX0_putShort_33 (by decide) (T62 _ _ _ hx I.more)
      · refine o_astoreE (L' := [some _, some _, some _, some _, some _, some _]) C dX0_putShort_29 (by rw [hn]; decide) rfl ?_
        refine x_aload C dX0_putShort_31 rfl ?_
        refine x_ifnull C dX0_putShort_33 ?_
        refine x_aload C dX0_putShort_36 rfl ?_
        refine x_iload_n C dX0_putShort_38 rfl ?_
        refine k_meantX (st := []) hX C Y E.cs (by decide) hj12 em I a dX0_putShort_39 (by decide) (fun y hy => ?_)
        refine x_if_eq (tgt := 62) C dX0_putShort_42 (by decide) (fun q => ?_) (fun q => ?_)
        · have e1 : f_step Q true false cm a j = Q := step_nc (hy.mp q)
          rw [e1] at T62
          exact T62 _ _ _ hx I.more
        have e1 : f_step Q true false cm a j = f_short Q j cm a := step_S (Decidable.byContradiction fun q2 => q (hy.mpr q2))
        rw [e1] at T62
        refine x_aload C dX0_putShort_45 rfl ?_
        refine x_iload_n C dX0_putShort_47 rfl ?_
        refine x_iload_n C dX0_putShort_48 rfl ?_
        refine x_aload_n C dX0_putShort_49 rfl ?_
        refine e_get C Y kd_X0 1 (by decide) wf_X0_20 dX0_putShort_50 B rfl ?_
        refine k_shortX (st := []) hX C Y E.cs (by decide) hj12 em I cm a dX0_putShort_53 (by decide) (fun g y2 y01 ey Dg => ?_)
        refine x_if_eq (tgt := 62) C dX0_putShort_56 (by decide) (fun q0 => ?_) (fun q0 => ?_)
        · exact T62 _ _ _ (by rw [hx, ← ey, q0, Int32.add_zero]) Dg
        · refine o_iincE (v := (f_short Q j cm a).i 7) (L' := [some _, some _, some _, some _, some _, some _]) C dX0_putShort_59 rfl (by rw [← ey, y01.resolve_left q0, hx]; rfl) (by rw [hn]; decide) rfl ?_
          exact T62 _ _ _ rfl Dg
  refine x_iconst (v := 0) C dX0_putShort_10 (by decide) ?_
  refine o_istore_nE (L' := [some _, some _, some _, some _, none, none]) C dX0_putShort_11 (by rw [hn]; decide) rfl ?_
  refine x_iconst (v := 0) C dX0_putShort_12 (by decide) ?_
  refine o_istoreE (L' := [some _, some _, some _, some _, some _, none]) C dX0_putShort_13 (by rw [hn]; decide) rfl ?_
  refine LP 12 0 _ _ _ rfl ?_ I0
  obtain ⟨-, -, -, -, -, -, t, t1, t2⟩ := I0
  obtain rfl : t = 0 := by omega
  exact t2.symm
theorem run_3 {isS sel : Bool} {cm a : Int32} : ∀ n j, (f_run S isS sel cm a n).a 3 j = S.a 3 j := fun n j => run_bz rfl n
theorem u_putSelectX (hX : Wx w c) (D : BB c u ma an aa h0 W α f κ ω S h) {mk : Int64} (hm1 : AB mk (fun b => S.a 3 (7 + b))) (cm : Int32) : T w gw yX0_putSelect cX0_putSelect 8 (some .int) 5 (40 * 5) 0 0 [.ref u, .long mk] (EQ h) (OC c u ma an aa h0 W α f κ ω (f_end (f_run (f_begin S) false true cm 253 12) 253)) := by
  have hW := hX.1
  refine TA.intro hW rfl (by decide +kernel) (Nat.le_of_ble_eq_true rfl) (fun z C Y E hn h1 hA => ?_)
  rw [show h1 = h from hA]
  clear hA
  have B := D.2.2.2.2
  have I0 := D.begin
  have hT : AB mk (fun b => (f_begin S).a 3 (7 + b)) := hm1
  refine x_aload_n C dX0_putSelect_0 rfl ?_
  refine x_dup C dX0_putSelect_1 rfl ?_
  refine e_get C Y kd_X0 2 (by decide) wf_X0_24 dX0_putSelect_2 B rfl ?_
  refine x_iconst (v := 1) C dX0_putSelect_5 (by decide) ?_
  refine x_iadd C dX0_putSelect_6 ?_
  refine e_put C Y kd_X0 2 (by decide) rfl wf_X0_24 dX0_putSelect_7 B (Nat.le_of_ble_eq_true rfl) rfl rfl rfl ?_
  refine x_lload_n C dX0_putSelect_10 rfl ?_
  refine k_callS (kc := 0) (ks := 0) (mc' := 0) (ms' := 0) (st := []) C E.cs hW.1 gw_good (b_caredX hW mk) md_X0_caredBits wt_X0_caredBits wm_X0_65 dX0_putSelect_11 rfl (by decide) (by decide) rfl (by decide) (fun r => X.opn (fun g hg => ?_))
  obtain ⟨⟨cd, rfl, hcd⟩, eg⟩ := hg
  rw [eg]
  clear eg
  generalize f_begin S = T at E I0 hT
  have LP : ∀ (r j : Nat) (x : Int32) (l7 : Option Value) (h : PH), j + r = 12 → x = (f_run T false true cm 253 j).i 7 → IB c u ma an aa h0 W α f κ ω j (f_run T false true cm 253 j) h → X z 0 0 (EQ h) 21 [some (.ref u), some (.long mk), none, some (.long cd), none, some (.int x), some (.int (nI j)), l7] [] := by
    intro r
    induction r with
    | zero =>
      intro j x l7 h hj hx I
      obtain rfl : j = 12 := by omega
      refine x_iload C dX0_putSelect_21 rfl ?_
      refine x_bipush (v := 12) C dX0_putSelect_23 (by decide) ?_
      refine x_icmp_ge (tgt := 65) C dX0_putSelect_25 (by decide) (fun _ => ?_) (fun q => absurd (Int32.le_refl _) q)
      refine x_aload_n C dX0_putSelect_65 rfl ?_
      refine x_iload C dX0_putSelect_66 rfl ?_
      refine k_callR (kc := 0) (ks := 0) (mc' := 0) (ms' := 0) (st := []) C Y hW E.cs (u_outcomeX hX I 253 (y := x) (by rw [if_neg (by decide)]; exact hx)) rfl md_X0_outcome wi_X0_outcome ws_X0_outcome wm_X0_54 dX0_putSelect_68 rfl (by decide) (by decide) I.2.2.2.2.1 rfl rfl (by decide) (fun r g hg => ?_)
      have hr := hg.1
      subst hr
      exact x_iret C E dX0_putSelect_71 (fun q e => by rw [show q = _ from e]; exact hg)
    | succ r ih =>
      intro j x l7 h hj hx I
      have hj12 : j < 12 := by omega
      have B := I.2.2.2.2.1
      have er : f_run T false true cm 253 (j + 1) = f_step (f_run T false true cm 253 j) false true cm 253 j := rfl
      have h3 : AB mk (fun b => (f_run T false true cm 253 j).a 3 (7 + b)) := fun b hb => (hT b hb).trans (run_3 (S := T) j (7 + b)).symm
      have T59 : ∀ (x : Int32) (l7 : Option Value) (h : PH), x = (f_run T false true cm 253 (j + 1)).i 7 → IB c u ma an aa h0 W α f κ ω (j + 1) (f_run T false true cm 253 (j + 1)) h → X z 0 0 (EQ h) 59 [some (.ref u), some (.long mk), none, some (.long cd), none, some (.int x), some (.int (nI j)), l7] [] := fun x l7 h hx D => by
        refine o_iincE (v := nI (j + 1)) (L' := [some _, some _, none, some _, none, some _, some _, l7]) C dX0_putSelect_59 rfl (nI_1 j) (by rw [hn]; decide) rfl ?_
        refine x_goto (tgt := 21) C dX0_putSelect_62 (by decide) ?_
        exact ih (j + 1) x l7 h (by omega) hx D
      rw [er] at T59
      clear ih er
      generalize f_run T false true cm 253 j = Q at hx I B T59 h3
      refine x_iload C dX0_putSelect_21 rfl ?_
      refine x_bipush (v := 12) C dX0_putSelect_23 (by decide) ?_
      refine x_icmp_ge (tgt := 65) C dX0_putSelect_25 (by decide) (fun q => absurd q (Int32.not_le.mpr (nI_lt (show j < 12 by omega) (by decide)))) (fun _ => ?_)
      refine x_aload_n C dX0_putSelect_28 rfl ?_
      refine e_get C Y kd_X0 0 (by decide) wf_X0_11 dX0_putSelect_29 B rfl ?_
      refine x_iload C dX0_putSelect_32 rfl ?_
      refine k_meter hX C E.cs I.1 hj12 dX0_putSelect_34 (fun em => ?_) (fun m em hm => ?_)
      · have e1 : f_step Q false true cm 253 j = Q := step_no (I.2.1.no hj12 em)
        rw [e1] at T59
        refine o_astoreN (L' := [some _, some _, none, some _, none, some _, some _, some _]) C dX0_putSelect_35 (by rw [hn]; decide) rfl ?_
        refine x_aloadN C dX0_putSelect_37 rfl ?_
        exact x_ifnullN (tgt := 59) C dX0_putSelect_39 (by decide) (T59 _ _ _ hx I.more)
      · have e1 : f_step Q false true cm 253 j = f_sel Q j := step_M (I.2.1.ab hj12 em).1
        rw [e1] at T59
        refine o_astoreE (L' := [some _, some _, none, some _, none, some _, some _, some _]) C dX0_putSelect_35 (by rw [hn]; decide) rfl ?_
        refine x_aload C dX0_putSelect_37 rfl ?_
        refine x_ifnull C dX0_putSelect_39 ?_
        refine x_aload C dX0_putSelect_42 rfl ?_
        refine x_lload_n C dX0_putSelect_44 rfl ?_
        refine x_lload_n C dX0_putSelect_45 rfl ?_
        refine x_aload_n C dX0_putSelect_46 rfl ?_
        refine e_get C Y kd_X0 1 (by decide) wf_X0_20 dX0_putSelect_47 B rfl ?_
        refine k_looksX (st := []) hX C Y E.cs (by decide) hj12 em I h3 hcd dX0_putSelect_50 (by decide) (fun g y2 y01 ey Dg => ?_)
        refine x_if_eq (tgt := 59) C dX0_putSelect_53 (by decide) (fun q0 => ?_) (fun q0 => ?_)
        · exact T59 _ _ _ (by rw [hx, ← ey, q0, Int32.add_zero]) Dg
        · refine o_iincE (v := (f_sel Q j).i 7) (L' := [some _, some _, none, some _, none, some _, some _, some _]) C dX0_putSelect_56 rfl (by rw [← ey, y01.resolve_left q0, hx]; rfl) (by rw [hn]; decide) rfl ?_
          exact T59 _ _ _ rfl Dg
  refine o_lstore_nE (L' := [some _, some _, none, some _, none, none, none, none]) C dX0_putSelect_14 (by rw [hn]; decide) rfl ?_
  refine x_iconst (v := 0) C dX0_putSelect_15 (by decide) ?_
  refine o_istoreE (L' := [some _, some _, none, some _, none, some _, none, none]) C dX0_putSelect_16 (by rw [hn]; decide) rfl ?_
  refine x_iconst (v := 0) C dX0_putSelect_18 (by decide) ?_
  refine o_istoreE (L' := [some _, some _, none, some _, none, some _, some _, none]) C dX0_putSelect_19 (by rw [hn]; decide) rfl ?_
  refine LP 12 0 _ _ _ rfl ?_ I0
  obtain ⟨-, -, -, -, -, -, t, t1, t2⟩ := I0
  obtain rfl : t = 0 := by omega
  exact t2.symm
section Frames
variable {b ba nb : Nat} {fb : Nat → Int32}
theorem adA_bit (i : Nat) : ∀ k, k ≤ 8 → ∀ t, t < 64 → bl (adA fb nb i k) t = (decide (t < 8 * k) && bt (rAt fb nb (nI (i + (8 - k + t / 8))) &&& 255) (t % 8))
  | 0, _, t, _ => by rw [adA, bl_0]; simp
  | k + 1, hk, t, ht => by
    rw [adA, bl_or, bl_shl _ 8 8 (by decide) ht, bl_i2l _ ht]
    by_cases q : t < 8
    · rw [decide_eq_false (show ¬ 8 ≤ t by omega), if_pos (show t < 32 by omega), decide_eq_true (show t < 8 * (k + 1) by omega), show 8 - (k + 1) + t / 8 = 7 - k by omega, show t % 8 = t by omega]
      simp
    · rw [decide_eq_true (show 8 ≤ t by omega), adA_bit i k (by omega) (t - 8) (by omega), show (t - 8) % 8 = t % 8 by omega, show 8 - k + (t - 8) / 8 = 8 - (k + 1) + t / 8 by omega]
      have z1 : (if t < 32 then bt (rAt fb nb (nI (i + (7 - k))) &&& 255) t else bt (rAt fb nb (nI (i + (7 - k))) &&& 255) 31) = false := by
        split
        · rw [b_and, b_255, decide_eq_false q, Bool.and_false]
        · rw [b_and, b_255, decide_eq_false (by omega), Bool.and_false]
      rw [z1, Bool.or_false, Bool.true_and]
      by_cases q2 : t < 8 * (k + 1)
      · rw [decide_eq_true q2, decide_eq_true (show t - 8 < 8 * k by omega)]
      · rw [decide_eq_false q2, decide_eq_false (show ¬ t - 8 < 8 * k by omega)]
theorem AB.adA {i : Nat} {X : Nat → Int32} (h : ∀ b, b < 8 → rAt fb nb (nI (i + b)) &&& 255 = X b) : AB (adA fb nb i 8) X := by
  refine AB.of (fun b hb => by rw [← h b hb, and_255_255]) (fun t ht => ?_)
  rw [adA_bit i 8 (Nat.le_refl _) t ht, decide_eq_true (show t < 8 * 8 by omega), show 8 - 8 + t / 8 = t / 8 by omega, h (t / 8) (by omega)]
  rfl
theorem run_nl {cm a : Int32} (hc : ¬ (cm = 83 ∨ cm = 115)) : ∀ n, f_run S false false cm a n = S
  | 0 => rfl
  | n + 1 => by
    rw [f_run, run_nl hc n]
    unfold f_step
    split
    · rw [f_does, if_neg (by decide), if_neg (by decide), if_neg hc]
    · rfl
theorem si_same (S : MS) (k : Nat) {v : Int32} (h : v = S.i k) : S.si k v = S := by
  subst h
  refine MS.ext (fun q => ?_) (fun _ _ => rfl) (fun _ _ => rfl)
  rw [MS.si_i]
  split
  · rename_i e; rw [e]
  · rfl
theorem end_bg (S : MS) (a : Int32) : f_end (f_begin S) a = f_begin S := by
  unfold f_end
  have e7 : (f_begin S).i 7 = 0 := rfl
  rw [e7, ite_self, if_neg (by decide), Int32.add_zero, si_same (f_begin S) 7 e7.symm, si_same (f_begin S) 9 rfl]
/-- the frame in the row b is the model's -/
def FM (fb : Nat → Int32) (nb : Nat) (S : MS) : Prop := S.i 4 = nI nb ∧ nb ≤ 300 ∧ ∀ j, j < nb → fb j = S.a 3 j
theorem FM.at (F : FM fb nb S) {j : Nat} (hj : j < nb) : rAt fb nb (nI j) = S.a 3 j := by rw [rAt_in hj F.2.1, F.2.2 j hj]
theorem FM.isS (F : FM fb nb S) : rShort fb nb ↔ f_isS S := by
  have hn := F.2.1
  have e5 : nI nb = 5 ↔ nb = 5 := nI_eq (b := 5) (by omega) (by decide)
  unfold rShort f_isS
  rw [F.1, e5]
  refine and_congr_right (fun e => ?_)
  subst e
  have h0 : rAt fb 5 0 = S.a 3 0 := F.at (j := 0) (by omega)
  have h3 : rAt fb 5 3 = S.a 3 3 := F.at (j := 3) (by omega)
  have h4 : rAt fb 5 4 = S.a 3 4 := F.at (j := 4) (by omega)
  have hs : sumR fb 1 (min 3 5 - 1) = S.a 3 1 + S.a 3 2 := by
    show (0 : Int32) + fb (1 + 0) + fb (1 + 1) = _
    rw [F.2.2 _ (by omega), F.2.2 _ (by omega), Int32.zero_add]
  rw [h0, h3, h4, hs]
  exact and_congr_right (fun _ => and_comm)
theorem sumR_F {S : MS} (h : ∀ j, j < nb → fb j = S.a 3 j) (a : Nat) : ∀ t, a + t ≤ nb → sumR fb a t = sumF (S.a 3) a (a + t)
  | 0, _ => by rw [Nat.add_zero, sumF_0]; rfl
  | t + 1, ht => by rw [show a + (t + 1) = (a + t) + 1 by omega, sumF_s _ (by omega), sumR, sumR_F h a t (by omega), h _ (by omega)]
theorem FM.isL (F : FM fb nb S) : rLong fb nb ↔ f_isL S nb := by
  have hn := F.2.1
  have low : ∀ j, nb ≤ j → j < 600 → rAt fb nb (nI j) = -1 := fun j hj hj2 => by
    unfold rAt
    rw [if_neg (fun g => absurd ((nI_ltI (by omega) (by omega)).mp g.2) (by omega))]
  constructor
  · intro g
    unfold rLong at g
    obtain ⟨⟨g1, g2⟩, g3, g4, g5, g6, g7, g8⟩ := g
    have n2 : 2 ≤ nb := Nat.le_of_not_lt (fun q => by
      rw [show (1 : Int32) = nI 1 from rfl, low 1 (by omega) (by omega)] at g1
      exact absurd g1 (by decide))
    have a1 : rAt fb nb 1 = S.a 3 1 := F.at (j := 1) (by omega)
    rw [a1] at g1 g2 g3 g5 g7 g8
    obtain ⟨L, l1, l2, el⟩ := in_nI (lo := 3) (hi := 252) (by decide) ⟨g1, g2⟩ (by decide)
    rw [el, show (6 : Int32) = nI 6 from rfl, nI_add, nI_eq (by omega) (by omega)] at g3
    subst g3
    have a0 : rAt fb (L + 6) 0 = S.a 3 0 := F.at (j := 0) (by omega)
    have a2 : rAt fb (L + 6) 2 = S.a 3 2 := F.at (j := 2) (by omega)
    have a3 : rAt fb (L + 6) 3 = S.a 3 3 := F.at (j := 3) (by omega)
    rw [el, show nI L + 4 = nI (L + 4) from nI_add L 4, F.at (j := L + 4) (by omega), nI_clamp (by omega), show min (L + 4) (L + 6) - 4 = L by omega, sumR_F F.2.2 4 L (by omega)] at g7
    rw [el, show nI L + 5 = nI (L + 5) from nI_add L 5, F.at (j := L + 5) (by omega)] at g8
    unfold f_isL
    refine ⟨by omega, a0.symm.trans g4, Int32.not_lt.mpr g1, g2, a2.symm.trans g5, a3.symm.trans g6, by rw [el]; exact (nI_add L 6).symm, g8, ?_⟩
    rw [show L + 6 - 2 = L + 4 by omega, g7, show 4 + L = L + 4 by omega]
  · intro g
    unfold f_isL at g
    obtain ⟨g0, g1, g2, g3, g4, g5, g6, g7, g8⟩ := g
    obtain ⟨L, l1, l2, el⟩ := in_nI (lo := 3) (hi := 252) (by decide) ⟨Int32.not_lt.mp g2, g3⟩ (by decide)
    rw [el, show (6 : Int32) = nI 6 from rfl, nI_add, nI_eq (by omega) (by omega)] at g6
    subst g6
    have a0 : rAt fb (L + 6) 0 = S.a 3 0 := F.at (j := 0) (by omega)
    have a1 : rAt fb (L + 6) 1 = S.a 3 1 := F.at (j := 1) (by omega)
    have a2 : rAt fb (L + 6) 2 = S.a 3 2 := F.at (j := 2) (by omega)
    have a3 : rAt fb (L + 6) 3 = S.a 3 3 := F.at (j := 3) (by omega)
    unfold rLong
    rw [a0, a1, a2, a3]
    refine ⟨⟨Int32.not_lt.mp g2, g3⟩, by rw [el]; exact (nI_add L 6).symm, g1, g4, g5, ?_, ?_⟩
    · rw [el, show nI L + 4 = nI (L + 4) from nI_add L 4, F.at (j := L + 4) (by omega), nI_clamp (by omega), show min (L + 4) (L + 6) - 4 = L by omega, sumR_F F.2.2 4 L (by omega), show 4 + L = L + 4 by omega]
      exact g8
    · rw [el, show nI L + 5 = nI (L + 5) from nI_add L 5, F.at (j := L + 5) (by omega)]
      exact g7
theorem FM.long (F : FM fb nb S) (hL : f_isL S nb) : FL fb nb S := by
  have hn := F.2.1
  unfold f_isL at hL
  obtain ⟨g0, g1, g2, g3, g4, g5, g6, g7, g8⟩ := hL
  obtain ⟨L, l1, l2, el⟩ := in_nI (lo := 3) (hi := 252) (by decide) ⟨Int32.not_lt.mp g2, g3⟩ (by decide)
  rw [el, show (6 : Int32) = nI 6 from rfl, nI_add, nI_eq (by omega) (by omega)] at g6
  exact ⟨L, l1, l2, g6, el, F.2.2⟩
theorem FL.same {S' : MS} (F : FL fb nb S) (h : ∀ j, S'.a 3 j = S.a 3 j) : FL fb nb S' := by
  obtain ⟨L, l1, l2, l3, l4, l5⟩ := F
  exact ⟨L, l1, l2, l3, (h 1).trans l4, fun j hj => (l5 j hj).trans (h j).symm⟩
theorem u_putSendingX (hX : Wx w c) (D : BB c u ma an aa h0 W α f κ ω S h) (Rb : RW c h0 b ba fb nb) (o1 : W b) (o2 : W ba) (F : FL fb nb S) (hc : S.a 3 4 = 83 ∨ S.a 3 4 = 115) : T w gw yX0_putSendingFrame cX0_putSendingFrame 6 (some .int) 6 (40 * 6) 0 0 [.ref u, .ref b] (EQ h) (OC c u ma an aa h0 W α f κ ω (f_end (f_run (f_begin S) false (decide (f_selects S)) (S.a 3 4) (S.a 3 5) 12) (S.a 3 5))) := by
  have hW := hX.1
  refine TA.intro hW rfl (by decide +kernel) (Nat.le_of_ble_eq_true rfl) (fun z C Y E hn h1 hA => ?_)
  rw [show h1 = h from hA]
  clear hA
  have B := D.2.2.2.2
  have R := D.1.out Rb o1 o2
  have n9 : 9 ≤ nb := by obtain ⟨L, l1, l2, l3, -⟩ := F; omega
  have a5 : rAt fb nb 5 = S.a 3 5 := F.at (j := 5) (by omega)
  have a6 : rAt fb nb 6 = S.a 3 6 := F.at (j := 6) (by omega)
  have kat : ∀ {kc ks pc : Nat} {L : List (Option Value)} {st : List Value} {h : PH} (R : RW c h b ba fb nb) (x : Int32) (d : decode cX0_putSendingFrame pc = .ok (.invokevirtual 39, 3)) (hcat : (st.map fun v => v.category).sum ≤ 8) (k : X z kc ks (EQ h) (pc + 3) L (.int (rAt fb nb x) :: st)), X z kc ks (EQ h) pc L (.int x :: .ref b :: st) := fun R x d hcat k => u_callV C Y hW E.cs (r_at hW R x) md_X5_at wi_X5_at ws_X5_at wm_X0_39 d rfl (by decide) (by decide) R.2.1 rfl rfl hcat k
  refine x_aload_n C dX0_putSendingFrame_0 rfl ?_
  refine x_iconst (v := 5) C dX0_putSendingFrame_1 (by decide) ?_
  refine kat (st := []) R _ dX0_putSendingFrame_2 (by decide) ?_
  rw [a5]
  refine o_istore_nE (L' := [some _, some _, some _, none, none, none]) C dX0_putSendingFrame_5 (by rw [hn]; decide) rfl ?_
  have T44 : ¬ f_selects S → X z 0 0 (EQ h) 44 [some (.ref u), some (.ref b), some (.int (S.a 3 5)), none, none, none] [] := fun ns => by
    rw [decide_eq_false ns] at E
    have I0 := D.begin
    have F0 : FL fb nb (f_begin S) := F
    generalize S.a 3 4 = cm at E hc
    generalize S.a 3 5 = a at E
    refine x_aload_n C dX0_putSendingFrame_44 rfl ?_
    refine x_dup C dX0_putSendingFrame_45 rfl ?_
    refine e_get C Y kd_X0 2 (by decide) wf_X0_24 dX0_putSendingFrame_46 B rfl ?_
    refine x_iconst (v := 1) C dX0_putSendingFrame_49 (by decide) ?_
    refine x_iadd C dX0_putSendingFrame_50 ?_
    refine e_put C Y kd_X0 2 (by decide) rfl wf_X0_24 dX0_putSendingFrame_51 B (Nat.le_of_ble_eq_true rfl) rfl rfl rfl ?_
    generalize f_begin S = T at E I0 F0
    have LP : ∀ (r j : Nat) (x : Int32) (l5 : Option Value) (h : PH), j + r = 12 → x = (f_run T false false cm a j).i 7 → IB c u ma an aa h0 W α f κ ω j (f_run T false false cm a j) h → X z 0 0 (EQ h) 59 [some (.ref u), some (.ref b), some (.int a), some (.int x), some (.int (nI j)), l5] [] := by
      intro r
      induction r with
      | zero =>
        intro j x l5 h hj hx I
        obtain rfl : j = 12 := by omega
        have T124 : ∀ y : Int32, (y = if a = 255 then 0 else (f_run T false false cm a 12).i 7) → X z 0 0 (EQ h) 124 [some (.ref u), some (.ref b), some (.int a), some (.int x), some (.int (nI 12)), l5] [.int y, .ref u] := fun y hy => by
          refine k_callR (kc := 0) (ks := 0) (mc' := 0) (ms' := 0) (st := []) C Y hW E.cs (u_outcomeX hX I a hy) rfl md_X0_outcome wi_X0_outcome ws_X0_outcome wm_X0_54 dX0_putSendingFrame_124 rfl (by decide) (by decide) I.2.2.2.2.1 rfl rfl (by decide) (fun r g hg => ?_)
          have hr := hg.1
          subst hr
          exact x_iret C E dX0_putSendingFrame_127 (fun q e => by rw [show q = _ from e]; exact hg)
        refine x_iload C dX0_putSendingFrame_59 rfl ?_
        refine x_bipush (v := 12) C dX0_putSendingFrame_61 (by decide) ?_
        refine x_icmp_ge (tgt := 111) C dX0_putSendingFrame_63 (by decide) (fun _ => ?_) (fun q => absurd (Int32.le_refl _) q)
        refine x_aload_n C dX0_putSendingFrame_111 rfl ?_
        refine x_iload_n C dX0_putSendingFrame_112 rfl ?_
        refine x_sipush (v := 255) C dX0_putSendingFrame_113 (by decide) ?_
        refine x_icmp_ne (tgt := 123) C dX0_putSendingFrame_116 (by decide) (fun q => ?_) (fun q => ?_)
        · exact x_iload_n C dX0_putSendingFrame_123 rfl (T124 _ (by rw [if_neg q]; exact hx))
        · refine x_iconst (v := 0) C dX0_putSendingFrame_119 (by decide) ?_
          exact x_goto (tgt := 124) C dX0_putSendingFrame_120 (by decide) (T124 _ (by rw [if_pos q]))
      | succ r ih =>
        intro j x l5 h hj hx I
        have hj12 : j < 12 := by omega
        have B := I.2.2.2.2.1
        have er : f_run T false false cm a (j + 1) = f_step (f_run T false false cm a j) false false cm a j := rfl
        have Fj : FL fb nb (f_run T false false cm a j) := F0.same (fun q => run_3 j q)
        have T105 : ∀ (x : Int32) (l5 : Option Value) (h : PH), x = (f_run T false false cm a (j + 1)).i 7 → IB c u ma an aa h0 W α f κ ω (j + 1) (f_run T false false cm a (j + 1)) h → X z 0 0 (EQ h) 105 [some (.ref u), some (.ref b), some (.int a), some (.int x), some (.int (nI j)), l5] [] := fun x l5 h hx D => by
          refine o_iincE (v := nI (j + 1)) (L' := [some _, some _, some _, some _, some _, l5]) C dX0_putSendingFrame_105 rfl (nI_1 j) (by rw [hn]; decide) rfl ?_
          refine x_goto (tgt := 59) C dX0_putSendingFrame_108 (by decide) ?_
          exact ih (j + 1) x l5 h (by omega) hx D
        rw [er] at T105
        clear ih er
        generalize f_run T false false cm a j = Q at hx I B T105 Fj
        refine x_iload C dX0_putSendingFrame_59 rfl ?_
        refine x_bipush (v := 12) C dX0_putSendingFrame_61 (by decide) ?_
        refine x_icmp_ge (tgt := 111) C dX0_putSendingFrame_63 (by decide) (fun q => absurd q (Int32.not_le.mpr (nI_lt (show j < 12 by omega) (by decide)))) (fun _ => ?_)
        refine x_aload_n C dX0_putSendingFrame_66 rfl ?_
        refine e_get C Y kd_X0 0 (by decide) wf_X0_11 dX0_putSendingFrame_67 B rfl ?_
        refine x_iload C dX0_putSendingFrame_70 rfl ?_
        refine k_meter hX C E.cs I.1 hj12 dX0_putSendingFrame_72 (fun em => ?_) (fun m em hm => ?_)
        · have e1 : f_step Q false false cm a j = Q := step_no (I.2.1.no hj12 em)
          rw [e1] at T105
          refine o_astoreN (L' := [some _, some _, some _, some _, some _, some _]) C dX0_putSendingFrame_73 (by rw [hn]; decide) rfl ?_
          refine x_aloadN C dX0_putSendingFrame_75 rfl ?_
          exact x_ifnullN (tgt := 105) C dX0_putSendingFrame_77 (by decide) (T105 _ _ _ hx I.more)
        · refine o_astoreE (L' := [some _, some _, some _, some _, some _, some _]) C dX0_putSendingFrame_73 (by rw [hn]; decide) rfl ?_
          refine x_aload C dX0_putSendingFrame_75 rfl ?_
          refine x_ifnull C dX0_putSendingFrame_77 ?_
          refine x_aload C dX0_putSendingFrame_80 rfl ?_
          refine x_iload_n C dX0_putSendingFrame_82 rfl ?_
          refine k_meantX (st := []) hX C Y E.cs (by decide) hj12 em I a dX0_putSendingFrame_83 (by decide) (fun y hy => ?_)
          refine x_if_eq (tgt := 105) C dX0_putSendingFrame_86 (by decide) (fun q => ?_) (fun q => ?_)
          · have e1 : f_step Q false false cm a j = Q := step_nc (hy.mp q)
            rw [e1] at T105
            exact T105 _ _ _ hx I.more
          have e1 : f_step Q false false cm a j = f_long Q j := step_L (Decidable.byContradiction fun q2 => q (hy.mpr q2)) hc
          rw [e1] at T105
          refine x_aload C dX0_putSendingFrame_89 rfl ?_
          refine x_aload_n C dX0_putSendingFrame_91 rfl ?_
          refine x_aload_n C dX0_putSendingFrame_92 rfl ?_
          refine e_get C Y kd_X0 1 (by decide) wf_X0_20 dX0_putSendingFrame_93 B rfl ?_
          refine k_longX (st := []) hX C Y E.cs (by decide) hj12 em I Rb o1 o2 Fj dX0_putSendingFrame_96 (by decide) (fun g y2 y01 ey Dg => ?_)
          refine x_if_eq (tgt := 105) C dX0_putSendingFrame_99 (by decide) (fun q0 => ?_) (fun q0 => ?_)
          · exact T105 _ _ _ (by rw [hx, ← ey, q0, Int32.add_zero]) Dg
          · refine o_iincE (v := (f_long Q j).i 7) (L' := [some _, some _, some _, some _, some _, some _]) C dX0_putSendingFrame_102 rfl (by rw [← ey, y01.resolve_left q0, hx]; rfl) (by rw [hn]; decide) rfl ?_
            exact T105 _ _ _ rfl Dg
    refine x_iconst (v := 0) C dX0_putSendingFrame_54 (by decide) ?_
    refine o_istore_nE (L' := [some _, some _, some _, some _, none, none]) C dX0_putSendingFrame_55 (by rw [hn]; decide) rfl ?_
    refine x_iconst (v := 0) C dX0_putSendingFrame_56 (by decide) ?_
    refine o_istoreE (L' := [some _, some _, some _, some _, some _, none]) C dX0_putSendingFrame_57 (by rw [hn]; decide) rfl ?_
    refine LP 12 0 _ _ _ rfl ?_ I0
    obtain ⟨-, -, -, -, -, -, t, t1, t2⟩ := I0
    obtain rfl : t = 0 := by omega
    exact t2.symm
  refine x_aload_n C dX0_putSendingFrame_6 rfl ?_
  refine x_bipush (v := 6) C dX0_putSendingFrame_7 (by decide) ?_
  refine kat (st := []) R _ dX0_putSendingFrame_9 (by decide) ?_
  rw [a6]
  refine x_bipush (v := 82) C dX0_putSendingFrame_12 (by decide) ?_
  refine x_icmp_ne (tgt := 44) C dX0_putSendingFrame_14 (by decide) (fun q => T44 (fun s => q s.2.1)) (fun q6 => ?_)
  refine x_aload_n C dX0_putSendingFrame_17 rfl ?_
  refine u_callV (st := []) C Y hW E.cs (r_dataSize hW R) md_X5_dataSize wi_X5_dataSize ws_X5_dataSize wm_X0_73 dX0_putSendingFrame_18 rfl (by decide) (by decide) R.2.1 rfl rfl (by decide) ?_
  refine x_bipush (v := 8) C dX0_putSendingFrame_21 (by decide) ?_
  refine x_icmp_ne (tgt := 44) C dX0_putSendingFrame_23 (by decide) (fun q => T44 (fun s => q ((F.ds (d := 8) (by omega)).mpr s.2.2.1))) (fun q8 => ?_)
  refine x_iload_n C dX0_putSendingFrame_26 rfl ?_
  refine x_sipush (v := 253) C dX0_putSendingFrame_27 (by decide) ?_
  refine x_icmp_ne (tgt := 44) C dX0_putSendingFrame_30 (by decide) (fun q => T44 (fun s => q s.2.2.2)) (fun q5 => ?_)
  have e1 := (F.ds (d := 8) (by omega)).mp q8
  have hs : f_selects S := ⟨hc, q6, e1, q5⟩
  rw [decide_eq_true hs, q5] at E
  have n17 : nb = 17 := by
    obtain ⟨L, l1, l2, l3, l4, -⟩ := F
    have := (nI_eq (by omega) (by omega)).mp (l4.symm.trans e1)
    omega
  have hAB : AB (adA fb nb 7 8) (fun b => S.a 3 (7 + b)) := AB.adA (fun b hb => by rw [F.at (by omega)]; exact byt_id (D.2.2.2.1.2 3 _ rfl))
  refine x_aload_n C dX0_putSendingFrame_33 rfl ?_
  refine x_aload_n C dX0_putSendingFrame_34 rfl ?_
  refine x_bipush (v := 7) C dX0_putSendingFrame_35 (by decide) ?_
  refine u_callV (st := [.ref u]) C Y hW E.cs (r_addressAt hW R 7 (by decide)) md_X5_addressAt wi_X5_addressAt ws_X5_addressAt wm_X0_77 dX0_putSendingFrame_37 rfl (by decide) (by decide) R.2.1 rfl rfl (by simp [Value.category]) ?_
  refine k_callR (kc := 0) (ks := 0) (mc' := 0) (ms' := 0) (st := []) C Y hW E.cs (u_putSelectX hX D hAB (S.a 3 4)) rfl md_X0_putSelect wi_X0_putSelect ws_X0_putSelect wm_X0_81 dX0_putSendingFrame_40 rfl (by decide) (by decide) B rfl rfl (by decide) (fun r g hg => ?_)
  have hr := hg.1
  subst hr
  exact x_iret C E dX0_putSendingFrame_43 (fun q e => by rw [show q = _ from e]; exact hg)
theorem u_putX (hX : Wx w c) (D : BB c u ma an aa h0 W α f κ ω S h) (Rb : RW c h0 b ba fb nb) (o1 : W b) (o2 : W ba) (F : FM fb nb S) : T w gw yX0_put cX0_put 2 (some .int) 7 (40 * 7) 0 0 [.ref u, .ref b] (EQ h) (OC c u ma an aa h0 W α f κ ω (f_bus S nb)) := by
  have hW := hX.1
  refine TA.intro hW rfl (by decide +kernel) (Nat.le_of_ble_eq_true rfl) (fun z C Y E hn h1 hA => ?_)
  rw [show h1 = h from hA]
  clear hA
  have B := D.2.2.2.2
  have R := D.1.out Rb o1 o2
  have kat : ∀ {kc ks pc : Nat} {L : List (Option Value)} {st : List Value} {h : PH} (R : RW c h b ba fb nb) (x : Int32) (d : decode cX0_put pc = .ok (.invokevirtual 39, 3)) (hcat : (st.map fun v => v.category).sum ≤ 8) (k : X z kc ks (EQ h) (pc + 3) L (.int (rAt fb nb x) :: st)), X z kc ks (EQ h) pc L (.int x :: .ref b :: st) := fun R x d hcat k => u_callV C Y hW E.cs (r_at hW R x) md_X5_at wi_X5_at ws_X5_at wm_X0_39 d rfl (by decide) (by decide) R.2.1 rfl rfl hcat k
  have T55 : f_bus S nb = f_begin S → X z 0 0 (EQ h) 55 [some (.ref u), some (.ref b)] [] := fun eb => by
    rw [eb, ← end_bg S 0] at E
    have I0 := D.begin
    refine x_aload_n C dX0_put_55 rfl ?_
    refine x_dup C dX0_put_56 rfl ?_
    refine e_get C Y kd_X0 2 (by decide) wf_X0_24 dX0_put_57 B rfl ?_
    refine x_iconst (v := 1) C dX0_put_60 (by decide) ?_
    refine x_iadd C dX0_put_61 ?_
    refine e_put C Y kd_X0 2 (by decide) rfl wf_X0_24 dX0_put_62 B (Nat.le_of_ble_eq_true rfl) rfl rfl rfl ?_
    refine x_aload_n C dX0_put_65 rfl ?_
    refine x_iconst (v := 0) C dX0_put_66 (by decide) ?_
    have I12 : IB c u ma an aa h0 W α f κ ω 12 (f_begin S) (hs h u (.inr (0, [.ref ma, .ref an, .int (S.i 8 + 1), .int (S.i 9)]))) := by
      obtain ⟨i1, i2, i3, i4, i5, i6, t, t1, t2⟩ := I0
      exact ⟨i1, i2, i3, i4, i5, i6, t, by omega, t2⟩
    refine k_callR (kc := 0) (ks := 0) (mc' := 0) (ms' := 0) (st := []) C Y hW E.cs (u_outcomeX hX I12 0 (y := 0) (by rw [if_neg (by decide)]; rfl)) rfl md_X0_outcome wi_X0_outcome ws_X0_outcome wm_X0_54 dX0_put_67 rfl (by decide) (by decide) (hs_self ..) rfl rfl (by decide) (fun r g hg => ?_)
    have hr := hg.1
    subst hr
    exact x_iret C E dX0_put_70 (fun q e => by rw [show q = _ from e]; exact hg)
  refine x_aload_n C dX0_put_0 rfl ?_
  refine u_callV (st := []) C Y hW E.cs (r_isShortFrame hW R) md_X5_isShortFrame wi_X5_isShortFrame ws_X5_isShortFrame wm_X0_35 dX0_put_1 rfl (by decide) (by decide) R.2.1 rfl rfl (by decide) ?_
  refine x_if_eq (tgt := 22) C dX0_put_4 (by decide) (fun q => ?_) (fun q => ?_)
  · have nS : ¬ f_isS S := fun g => (bI_0.mp q) (F.isS.mpr g)
    refine x_aload_n C dX0_put_22 rfl ?_
    refine u_callV (st := []) C Y hW E.cs (r_isLongFrame hW R) md_X5_isLongFrame wi_X5_isLongFrame ws_X5_isLongFrame wm_X0_47 dX0_put_23 rfl (by decide) (by decide) R.2.1 rfl rfl (by decide) ?_
    refine x_if_eq (tgt := 55) C dX0_put_26 (by decide) (fun q2 => T55 ?_) (fun q2 => ?_)
    · have nL : ¬ f_isL S nb := fun g => (bI_0.mp q2) (F.isL.mpr g)
      unfold f_bus
      rw [if_neg nS, if_neg nL]
    have hL : f_isL S nb := F.isL.mp (bI_0n.mp q2)
    have FLb := F.long hL
    have eb : f_bus S nb = f_end (f_run (f_begin S) false (decide (f_selects S)) (S.a 3 4) (S.a 3 5) 12) (S.a 3 5) := by unfold f_bus; rw [if_neg nS, if_pos hL]
    have a4 : rAt fb nb 4 = S.a 3 4 := F.at (j := 4) (by obtain ⟨L, l1, l2, l3, -⟩ := FLb; omega)
    have T49 : (S.a 3 4 = 83 ∨ S.a 3 4 = 115) → X z 0 0 (EQ h) 49 [some (.ref u), some (.ref b)] [] := fun hc => by
      rw [eb] at E
      refine x_aload_n C dX0_put_49 rfl ?_
      refine x_aload_n C dX0_put_50 rfl ?_
      refine k_callR (kc := 0) (ks := 0) (mc' := 0) (ms' := 0) (st := []) C Y hW E.cs (u_putSendingX hX D Rb o1 o2 FLb hc) rfl md_X0_putSendingFrame wi_X0_putSendingFrame ws_X0_putSendingFrame wm_X0_50 dX0_put_51 rfl (by decide) (by decide) B rfl rfl (by decide) (fun r g hg => ?_)
      have hr := hg.1
      subst hr
      exact x_iret C E dX0_put_54 (fun q e => by rw [show q = _ from e]; exact hg)
    refine x_aload_n C dX0_put_29 rfl ?_
    refine x_iconst (v := 4) C dX0_put_30 (by decide) ?_
    refine kat (st := []) R _ dX0_put_31 (by decide) ?_
    rw [a4]
    refine x_bipush (v := 83) C dX0_put_34 (by decide) ?_
    refine x_icmp_eq (tgt := 49) C dX0_put_36 (by decide) (fun g => T49 (Or.inl g)) (fun g => ?_)
    refine x_aload_n C dX0_put_39 rfl ?_
    refine x_iconst (v := 4) C dX0_put_40 (by decide) ?_
    refine kat (st := []) R _ dX0_put_41 (by decide) ?_
    rw [a4]
    refine x_bipush (v := 115) C dX0_put_44 (by decide) ?_
    refine x_icmp_ne (tgt := 55) C dX0_put_46 (by decide) (fun g2 => T55 ?_) (fun g2 => T49 (Or.inr g2))
    have nc : ¬ (S.a 3 4 = 83 ∨ S.a 3 4 = 115) := fun x => x.elim g g2
    rw [eb, decide_eq_false (fun s : f_selects S => nc s.1), run_nl nc, end_bg]
  · have hS : f_isS S := F.isS.mp (bI_0n.mp q)
    have eb : f_bus S nb = f_end (f_run (f_begin S) true false (S.a 3 1) (S.a 3 2) 12) (S.a 3 2) := by unfold f_bus; rw [if_pos hS]
    rw [eb] at E
    have n5 : nb = 5 := (nI_eq (by have := F.2.1; omega) (by decide)).mp (F.1.symm.trans hS.1)
    have a1 : rAt fb nb 1 = S.a 3 1 := F.at (j := 1) (by omega)
    have a2 : rAt fb nb 2 = S.a 3 2 := F.at (j := 2) (by omega)
    refine x_aload_n C dX0_put_7 rfl ?_
    refine x_aload_n C dX0_put_8 rfl ?_
    refine x_iconst (v := 1) C dX0_put_9 (by decide) ?_
    refine kat (st := [.ref u]) R _ dX0_put_10 (by simp [Value.category]) ?_
    refine x_aload_n C dX0_put_13 rfl ?_
    refine x_iconst (v := 2) C dX0_put_14 (by decide) ?_
    refine kat (st := [_, .ref u]) R _ dX0_put_15 (by simp [Value.category]) ?_
    rw [a1, a2]
    refine k_callR (kc := 0) (ks := 0) (mc' := 0) (ms' := 0) (st := []) C Y hW E.cs (u_putShortX hX D (S.a 3 1) (S.a 3 2)) rfl md_X0_putShort wi_X0_putShort ws_X0_putShort wm_X0_43 dX0_put_18 rfl (by decide) (by decide) B rfl rfl (by decide) (fun r g hg => ?_)
    have hr := hg.1
    subst hr
    exact x_iret C E dX0_put_21 (fun q e => by rw [show q = _ from e]; exact hg)
end Frames
end Bus
