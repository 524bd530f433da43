/-! A MeterBus against the model: the search. -/
def pidx (t : Nat) : Nat := if t < 32 then 7 - t / 4 else 4 + t / 8
def poff (t : Nat) : Nat := if t < 32 then t % 4 else t % 8
theorem bt_nI (x : Nat) {i : Nat} (hi : i < 32) : bt (nI x) i = x.testBit i := by
  unfold bt
  show (BitVec.ofNat 32 x).getLsbD i = _
  rw [BitVec.getLsbD_ofNat, decide_eq_true hi]
  rfl
theorem prt_bit (F : Nat → Nat) {t : Nat} (ht : t < 64) : (F (t / 8)).testBit (t % 8) = (prt F (pidx t)).testBit (poff t) := by
  unfold pidx poff prt
  by_cases h : t < 32
  · rw [if_pos h, if_pos h, if_pos (show 7 - t / 4 < 8 by omega)]
    rcases (show t / 4 % 2 = 0 ∨ t / 4 % 2 = 1 by omega) with e | e
    · rw [if_neg (show ¬ (7 - t / 4) % 2 = 0 by omega), show 3 - (7 - t / 4) / 2 = t / 8 by omega, show (16 : Nat) = 2 ^ 4 from rfl, Nat.testBit_mod_two_pow, decide_eq_true (show t % 4 < 4 by omega), show t % 8 = t % 4 by omega]
      rfl
    · rw [if_pos (show (7 - t / 4) % 2 = 0 by omega), show 3 - (7 - t / 4) / 2 = t / 8 by omega, show (16 : Nat) = 2 ^ 4 from rfl, Nat.testBit_div_two_pow, show t % 8 = t % 4 + 4 by omega]
  · rw [if_neg h, if_neg h, if_neg (show ¬ 4 + t / 8 < 8 by omega), show 4 + t / 8 - 4 = t / 8 by omega]
theorem ABprt {mk : Int64} {X : Nat → Int32} {F : Nat → Nat} (hX : ∀ b, b < 8 → F b < 256 ∧ X b = nI (F b)) : AB mk X ↔ ∀ t, t < 64 → bl mk t = (prt F (pidx t)).testBit (poff t) := by
  constructor
  · intro h t ht
    rw [h.bit ht, (hX (t / 8) (by omega)).2, bt_nI _ (by omega), prt_bit F ht]
  · intro h
    refine AB.of (fun b hb => ?_) (fun t ht => ?_)
    · refine b_ext (fun i hi => ?_)
      rw [(hX b hb).2, b_and, b_255, bt_nI _ hi]
      by_cases q : i < 8
      · simp [q]
      · rw [Nat.testBit_lt_two_pow (Nat.lt_of_lt_of_le (hX b hb).1 (Nat.pow_le_pow_right (n := 2) (by decide) (show 8 ≤ i by omega)))]
        simp
    · rw [h t ht, (hX (t / 8) (by omega)).2, bt_nI _ (by omega), prt_bit F ht]
/-- part n of the mask gets the value v -/
def wpF (mk : Int64) (n v : Nat) : Int64 := if n < 8 then mk &&& ((15 <<< ((nI (4 * (7 - n))).toInt64 &&& 63)) ^^^ (-1)) ||| (nI v).toInt64 <<< ((nI (4 * (7 - n))).toInt64 &&& 63) else mk &&& ((255 <<< ((nI (32 + 8 * (n - 8))).toInt64 &&& 63)) ^^^ (-1)) ||| (nI v).toInt64 <<< ((nI (32 + 8 * (n - 8))).toInt64 &&& 63)
theorem bl_nI {v : Nat} (hv : v < 256) {i : Nat} (hi : i < 64) : bl (nI v).toInt64 i = v.testBit i := by
  rw [bl_i2l _ hi]
  by_cases q : i < 32
  · rw [if_pos q, bt_nI _ q]
  · rw [if_neg q, bt_nI _ (by decide), Nat.testBit_lt_two_pow (Nat.lt_of_lt_of_le hv (by decide)), Nat.testBit_lt_two_pow (Nat.lt_of_lt_of_le hv (Nat.pow_le_pow_right (n := 2) (by decide) (show 8 ≤ i by omega)))]
theorem wpF_bit (mk : Int64) {n v : Nat} (hn : n < 12) (hv : v < if n < 8 then 16 else 256) {t : Nat} (ht : t < 64) : bl (wpF mk n v) t = if pidx t = n then v.testBit (poff t) else bl mk t := by
  unfold wpF
  have hv2 : v < 256 := by split at hv <;> omega
  by_cases h8 : n < 8
  · rw [if_pos h8] at hv
    rw [if_pos h8, bl_or, bl_and, bl_xor, bl_shl _ _ (4 * (7 - n)) (sh_l _ (by omega)) ht, bl_shl _ _ (4 * (7 - n)) (sh_l _ (by omega)) ht, bl_15, bl_m1 t ht]
    unfold pidx poff
    by_cases q : 4 * (7 - n) ≤ t ∧ t < 4 * (7 - n) + 4
    · rw [decide_eq_true q.1, decide_eq_true (show t - 4 * (7 - n) < 4 by omega), bl_nI hv2 (by omega), if_pos (show t < 32 by omega), if_pos (show t < 32 by omega), if_pos (show 7 - t / 4 = n by omega), show t - 4 * (7 - n) = t % 4 by omega]
      simp
    · have e1 : (decide (4 * (7 - n) ≤ t) && decide (t - 4 * (7 - n) < 4)) = false := by
        by_cases q2 : 4 * (7 - n) ≤ t
        · rw [decide_eq_false (show ¬ t - 4 * (7 - n) < 4 by omega), Bool.and_false]
        · rw [decide_eq_false q2, Bool.false_and]
      have e2 : (decide (4 * (7 - n) ≤ t) && bl (nI v).toInt64 (t - 4 * (7 - n))) = false := by
        by_cases q2 : 4 * (7 - n) ≤ t
        · rw [bl_nI hv2 (by omega), Nat.testBit_lt_two_pow (Nat.lt_of_lt_of_le hv (Nat.pow_le_pow_right (n := 2) (by decide) (show 4 ≤ t - 4 * (7 - n) by omega))), Bool.and_false]
        · rw [decide_eq_false q2, Bool.false_and]
      rw [e1, e2, if_neg (by split <;> omega)]
      simp
  · rw [if_neg h8] at hv
    rw [if_neg h8, bl_or, bl_and, bl_xor, bl_shl _ _ (32 + 8 * (n - 8)) (sh_l _ (by omega)) ht, bl_shl _ _ (32 + 8 * (n - 8)) (sh_l _ (by omega)) ht, bl_255, bl_m1 t ht]
    unfold pidx poff
    by_cases q : 32 + 8 * (n - 8) ≤ t ∧ t < 32 + 8 * (n - 8) + 8
    · rw [decide_eq_true q.1, decide_eq_true (show t - (32 + 8 * (n - 8)) < 8 by omega), bl_nI hv2 (by omega), if_neg (show ¬ t < 32 by omega), if_neg (show ¬ t < 32 by omega), if_pos (show 4 + t / 8 = n by omega), show t - (32 + 8 * (n - 8)) = t % 8 by omega]
      simp
    · have e1 : (decide (32 + 8 * (n - 8) ≤ t) && decide (t - (32 + 8 * (n - 8)) < 8)) = false := by
        by_cases q2 : 32 + 8 * (n - 8) ≤ t
        · rw [decide_eq_false (show ¬ t - (32 + 8 * (n - 8)) < 8 by omega), Bool.and_false]
        · rw [decide_eq_false q2, Bool.false_and]
      have e2 : (decide (32 + 8 * (n - 8) ≤ t) && bl (nI v).toInt64 (t - (32 + 8 * (n - 8)))) = false := by
        by_cases q2 : 32 + 8 * (n - 8) ≤ t
        · rw [bl_nI hv2 (by omega), Nat.testBit_lt_two_pow (Nat.lt_of_lt_of_le hv (Nat.pow_le_pow_right (n := 2) (by decide) (show 8 ≤ t - (32 + 8 * (n - 8)) by omega))), Bool.and_false]
        · rw [decide_eq_false q2, Bool.false_and]
      rw [e1, e2, if_neg (by split <;> omega)]
      simp
section Mod
variable {S : MS}
theorem run_6 {cm a : Int32} : ∀ n, (f_run S false true cm a n).i 7 = S.i 7 ∨ (f_run S false true cm a n).i 6 = 1
  | 0 => Or.inl rfl
  | n + 1 => by
    rw [f_run, step_sel]
    split
    · exact run_6 n
    · unfold f_sel
      split
      · exact Or.inr rfl
      · exact run_6 n
theorem end_7 (S : MS) (a : Int32) : (f_end S a).i 7 = if a = 255 then 0 else S.i 7 := by unfold f_end; rw [MS.si_i, if_neg (by decide), MS.si_i, if_pos rfl]
theorem end_6 (S : MS) (a : Int32) : (f_end S a).i 6 = S.i 6 := rfl
theorem begin_7 (S : MS) : (f_begin S).i 7 = 0 := rfl
theorem putM_6 (h : (f_putM S).i 7 = 1) : (f_putM S).i 6 = 1 := by
  rw [putM_eq, end_7, if_neg (by decide)] at h
  rw [putM_eq, end_6]
  refine (run_6 12).resolve_left (fun q => ?_)
  rw [h, begin_7] at q
  exact absurd q (by decide)
theorem run_61 (hw : WFa S) {cm a : Int32} (hc : cm = 91 ∨ cm = 123) : ∀ n, n ≤ 12 → (f_run S true false cm a n).i 7 = S.i 7 ∨ ∃ L, 21 ≤ L ∧ L ≤ 90 ∧ (f_run S true false cm a n).i 6 = nI L
  | 0, _ => Or.inl rfl
  | n + 1, hn => by
    rw [f_run]
    have wn := (WFa.run (isS := true) (sel := false) (c := cm) (a := a) hw n) n (by omega)
    have ih := run_61 hw (cm := cm) (a := a) hc n (by omega)
    generalize f_run S true false cm a n = Q at wn ih
    by_cases q : f_cares Q false a n
    · rw [step_S q]
      unfold f_short
      rw [if_neg (by rcases hc with e | e <;> (rw [e]; decide)), if_pos hc]
      have n60 := (wn.N (f_p_lt Q n (if cm = 123 then 1 else 0))).1
      generalize (if cm = 123 then (1 : Int32) else 0) = nb at n60
      refine Or.inr ⟨(f_tel Q n (f_p Q n nb) (f_N Q n (f_p Q n nb))).length, ?_, ?_, rfl⟩
      · rw [f_tel_len]; split <;> omega
      · rw [f_tel_len]; split <;> omega
    · rw [step_nc q]; exact ih
theorem putS_6 (hw : WFa S) {cm : Int32} (hc : cm = 91 ∨ cm = 123) (h : (f_putS S cm).i 7 = 1) : ∃ L, 21 ≤ L ∧ L ≤ 90 ∧ (f_putS S cm).i 6 = nI L := by
  rw [putS_eq, end_7, if_neg (by decide)] at h
  rw [putS_eq, end_6]
  refine (run_61 (S := f_begin (f_putS0 S cm)) hw.putS0.bg hc 12 (Nat.le_refl _)).resolve_left (fun q => ?_)
  rw [h, begin_7] at q
  exact absurd q (by decide)
theorem part_w (n : Nat) (v : Int32) (q j : Nat) : (f_part S n v).w q j = S.w q j := by
  unfold f_part
  split
  · rfl
  · split <;> rfl
theorem fcp_w (f q j : Nat) : ∀ n, (f_fcp S f n).w q j = S.w q j
  | 0 => rfl
  | n + 1 => by rw [f_fcp]; exact fcp_w f q j n
theorem fcp_21 (S : MS) (f q : Nat) : ∀ n, (f_fcp S f n).a 21 q = if 8 * f ≤ q ∧ q < 8 * f + n then S.a 5 (7 + (q - 8 * f)) else S.a 21 q
  | 0 => by rw [if_neg (by omega)]; rfl
  | n + 1 => by
    rw [f_fcp, MS.sa_a]
    by_cases e : q = 8 * f + n
    · rw [if_pos ⟨rfl, e⟩, if_pos (by omega), e, show 8 * f + n - 8 * f = n by omega]
    · rw [if_neg (fun x => e x.2), fcp_21 S f q n]
      by_cases e2 : 8 * f ≤ q ∧ q < 8 * f + n
      · rw [if_pos e2, if_pos (by omega)]
      · rw [if_neg e2, if_neg (by omega)]
end Mod
section Search
variable {w : Wd} {c : Nat → ClassId} {a : Nat → Nat} {h9 : PH} {V : Nat → Prop} {α : Nat → Int64} {f : Nat → Option Nat} {κ κd ω ωd : Nat → Nat} {S S' : MS} {h g : PH}
theorem zy_withPart (hX : Wx w c) (mk : Int64) {n v : Nat} (hn12 : n < 12) : T w gw yX6_withPart cX6_withPart 5 (some .long) 0 (40 * 0) 0 0 [.long mk, .int (nI n), .int (nI v)] (EQ h) (fun r g => r = some (.long (wpF mk n v)) ∧ g = h) := by
  have hW := hX.1
  refine TA.intro hW rfl (by decide +kernel) (Nat.le_of_ble_eq_true rfl) (fun z C Y E hn h1 hA => ?_)
  rw [show h1 = h from hA]
  clear hA
  refine x_iload_n C dX6_withPart_0 rfl ?_
  refine x_bipush (v := 8) C dX6_withPart_1 (by decide) ?_
  refine x_icmp_ge (tgt := 33) C dX6_withPart_3 (by decide) (fun c3 => ?_) (fun c3 => ?_)
  · have h8 : ¬ n < 8 := fun q => absurd (nI_lt q (by decide)) (Int32.not_lt.mpr c3)
    have es : (32 : Int32) + 8 * (nI n - 8) = nI (32 + 8 * (n - 8)) := by
      rw [show nI n - 8 = nI (n - 8) from nI_sub' (v := n) (b := 8) (by omega), show (8 : Int32) * nI (n - 8) = nI (8 * (n - 8)) from pk_mul 8 (n - 8)]
      exact nI_add 32 (8 * (n - 8))
    refine x_bipush (v := 32) C dX6_withPart_33 (by decide) ?_
    refine x_bipush (v := 8) C dX6_withPart_35 (by decide) ?_
    refine x_iload_n C dX6_withPart_37 rfl ?_
    refine x_bipush (v := 8) C dX6_withPart_38 (by decide) ?_
    refine x_isub C dX6_withPart_40 ?_
    refine x_imul C dX6_withPart_41 ?_
    refine x_iadd C dX6_withPart_42 ?_
    rw [es]
    refine o_istoreE (L' := [some _, none, some _, some _, some _]) C dX6_withPart_43 (by rw [hn]; decide) rfl ?_
    refine x_lload_n C dX6_withPart_45 rfl ?_
    refine x_ldc2 C wk_X6_234 dX6_withPart_46 ?_
    refine x_iload C dX6_withPart_49 rfl ?_
    refine x_lshl C dX6_withPart_51 ?_
    refine x_ldc2 C wk_X6_146 dX6_withPart_52 ?_
    refine x_lxor C dX6_withPart_55 ?_
    refine x_land C dX6_withPart_56 ?_
    refine x_iload_n C dX6_withPart_57 rfl ?_
    refine x_i2l C dX6_withPart_58 ?_
    refine x_iload C dX6_withPart_59 rfl ?_
    refine x_lshl C dX6_withPart_61 ?_
    refine x_lor C dX6_withPart_62 ?_
    exact x_lret C E dX6_withPart_63 (fun g e => ⟨by unfold wpF; rw [if_neg h8], e⟩)
  · have h8 : n < 8 := (nI_ltI (by omega) (by decide)).mp (Int32.not_le.mp c3)
    have es : (4 : Int32) * (7 - nI n) = nI (4 * (7 - n)) := by
      rw [show (7 : Int32) - nI n = nI (7 - n) from nI_sub' (v := 7) (b := n) (by omega)]
      exact pk_mul 4 (7 - n)
    refine x_iconst (v := 4) C dX6_withPart_6 (by decide) ?_
    refine x_bipush (v := 7) C dX6_withPart_7 (by decide) ?_
    refine x_iload_n C dX6_withPart_9 rfl ?_
    refine x_isub C dX6_withPart_10 ?_
    refine x_imul C dX6_withPart_11 ?_
    rw [es]
    refine o_istoreE (L' := [some _, none, some _, some _, some _]) C dX6_withPart_12 (by rw [hn]; decide) rfl ?_
    refine x_lload_n C dX6_withPart_14 rfl ?_
    refine x_ldc2 C wk_X6_232 dX6_withPart_15 ?_
    refine x_iload C dX6_withPart_18 rfl ?_
    refine x_lshl C dX6_withPart_20 ?_
    refine x_ldc2 C wk_X6_146 dX6_withPart_21 ?_
    refine x_lxor C dX6_withPart_24 ?_
    refine x_land C dX6_withPart_25 ?_
    refine x_iload_n C dX6_withPart_26 rfl ?_
    refine x_i2l C dX6_withPart_27 ?_
    refine x_iload C dX6_withPart_28 rfl ?_
    refine x_lshl C dX6_withPart_30 ?_
    refine x_lor C dX6_withPart_31 ?_
    exact x_lret C E dX6_withPart_32 (fun g e => ⟨by unfold wpF; rw [if_pos h8], e⟩)
theorem zy_reset (hX : Wx w c) (Z : ZI c a h9 V α f κ κd ω ωd S h) {mk : Int64} (hm : AB mk (fun b => S.a 19 b)) : T w gw yX6_resetSelected cX6_resetSelected 3 none 6 (40 * 6) 0 0 [.ref (a 0), .long mk] (EQ h) (fun r g => r = none ∧ ZI c a h9 V α f κ κd ω ωd (f_putM (f_putS S 64)) g) := by
  have hW := hX.1
  refine TA.intro hW rfl (by decide +kernel) (Nat.le_of_ble_eq_true rfl) (fun z C Y E hn h1 hA => ?_)
  rw [show h1 = h from hA]
  clear hA
  refine x_aload_n C dX6_resetSelected_0 rfl ?_
  refine e_get C Y kd_X6 1 (by decide) wf_X6_19 dX6_resetSelected_1 Z.x rfl ?_
  refine x_bipush (v := 64) C dX6_resetSelected_4 (by decide) ?_
  refine x_sipush (v := 253) C dX6_resetSelected_6 (by decide) ?_
  refine k_putS (st := []) hX C Y E.cs (by decide) (by decide) Z ⟨64, by decide, rfl⟩ dX6_resetSelected_9 (by decide) (fun g Zg _ => ?_)
  refine x_pop C dX6_resetSelected_12 rfl ?_
  refine x_aload_n C dX6_resetSelected_13 rfl ?_
  refine e_get C Y kd_X6 1 (by decide) wf_X6_19 dX6_resetSelected_14 Zg.x rfl ?_
  refine x_lload_n C dX6_resetSelected_17 rfl ?_
  refine k_putM (st := []) hX C Y E.cs (by decide) (by decide) Zg (mk := mk) (fun b hb => (hm b hb).trans (putS_bz rfl (by decide)).symm) dX6_resetSelected_18 (by decide) (fun g2 Zg2 _ => ?_)
  refine x_pop C dX6_resetSelected_21 rfl ?_
  exact x_vret C E dX6_resetSelected_22 (fun g e => ⟨rfl, by rw [show g = _ from e]; exact Zg2⟩)
/-- a found one more -/
theorem ZI.putF (Z : ZI c a h9 V α f κ κd ω ωd S h) {fn : Nat} (h20 : S.i 20 = nI fn) (f12 : fn < 12) {ad : Int64} (hab : AB ad (fun b => S.a 5 (7 + b))) {gf : Nat → Int64} (Bf : h (a 10) = some (.inl (c 1, 12, .inr (.inl gf)))) : ZI c a h9 V α f κ κd ω ωd ((f_fcp S fn 8).si 20 (nI (fn + 1))) (hs (hs h (a 10) (.inl (c 1, 12, .inr (.inl (vp_updL gf fn ad))))) (a 0) (.inr (6, [.ref (a 1), .ref (a 3), .ref (a 7), .ref (a 9), .ref (a 10), .int (nI (fn + 1))]))) := by
  have nw := fun q hq => Z.nw (q := q) hq
  obtain ⟨z1, z2, z3, z4, z5, z6, z7, z8⟩ := Z
  have d := z1.dif
  obtain ⟨fn0, gf0, x1, x2, x3, x4, x5⟩ := z7
  obtain rfl : fn0 = fn := (nI_eq (by omega) (by omega)).mp (x2.symm.trans h20)
  obtain rfl : gf0 = gf := by have := x4.symm.trans Bf; simp only [Option.some.injEq, Sum.inl.injEq, Prod.mk.injEq, Sum.inr.injEq, true_and] at this; exact this
  have rn : ∀ q, q ≠ a 0 → q ≠ a 10 → hs (hs h (a 10) (.inl (c 1, 12, .inr (.inl (vp_updL gf0 fn0 ad))))) (a 0) (.inr (6, [.ref (a 1), .ref (a 3), .ref (a 7), .ref (a 9), .ref (a 10), .int (nI (fn0 + 1))])) q = h q := fun q n1 n2 => by rw [hs_ne n1, hs_ne n2]
  have ra : ∀ i, i ≤ 10 → i ≠ 0 → i ≠ 10 → hs (hs h (a 10) (.inl (c 1, 12, .inr (.inl (vp_updL gf0 fn0 ad))))) (a 0) (.inr (6, [.ref (a 1), .ref (a 3), .ref (a 7), .ref (a 9), .ref (a 10), .int (nI (fn0 + 1))])) (a i) = h (a i) := fun i hi n0 n10 => rn _ (d i 0 hi (by omega) n0) (d i 10 hi (by omega) n10)
  have sf : ∀ q j, q ≠ 21 → ((f_fcp S fn0 8).si 20 (nI (fn0 + 1))).a q j = S.a q j := fun q j hq => by rw [MS.si_a, f_fcp_a _ _ _ hq]
  have sfi : ∀ q, q ≠ 20 → ((f_fcp S fn0 8).si 20 (nI (fn0 + 1))).i q = S.i q := fun q hq => by rw [MS.si_i, if_neg hq, f_fcp_i]
  refine ⟨(z1.putF _).putX (by omega), z2.sm ⟨fun j => sf 10 j (by decide), fun j => sf 12 j (by decide)⟩, ⟨(z3.1.fcp 8).si, (z3.2.fcp 8).si⟩, z4.same (fun q hq => rn q (nw q (Or.inl hq) 0 (by omega)) (nw q (Or.inl hq) 10 (by omega))) (fun q j hq => sf q j (by omega)), ?_, z6.go (ra 1 (by omega) (by omega) (by omega)) (ra 2 (by omega) (by omega) (by omega)) (sfi 2 (by decide)) (fun j => sf 1 j (by decide)), ⟨fn0 + 1, _, hs_self .., rfl, by omega, by rw [hs_ne (d 10 0 (by omega) (by omega) (by omega)), hs_self], fun k hk => ?_⟩, z8.go (ra 7 (by omega) (by omega) (by omega)) (ra 8 (by omega) (by omega) (by omega)) (fun q hq => rn q (nw q (Or.inr hq) 0 (by omega)) (nw q (Or.inr hq) 10 (by omega))) ⟨fun q hq => sfi q (by omega), fun q j => fcp_w fn0 q j 8, fun q j q1 q2 => sf q j (by omega)⟩⟩
  · rw [EU, ra 3 (by omega) (by omega) (by omega), sfi 8 (by decide), sfi 9 (by decide)]
    exact z5
  · by_cases e : k = fn0
    · subst e
      intro b hb
      show by8 (vp_updL gf0 k ad k) b &&& 255 = (f_fcp S k 8).a 21 (8 * k + b)
      rw [fcp_21, if_pos (by omega), show 8 * k + b - 8 * k = b by omega, show vp_updL gf0 k ad k = ad from by simp [vp_updL]]
      exact hab b hb
    · intro b hb
      show by8 (vp_updL gf0 fn0 ad k) b &&& 255 = (f_fcp S fn0 8).a 21 (8 * k + b)
      rw [fcp_21, if_neg (by omega), show vp_updL gf0 fn0 ad k = gf0 k from by simp [vp_updL, e]]
      exact x5 k (by omega) b hb
theorem zy_addFound (hX : Wx w c) (Z : ZI c a h9 V α f κ κd ω ωd S h) {fn : Nat} (h20 : S.i 20 = nI fn) (f12 : fn < 12) : T w gw yX6_addFound cX6_addFound 2 none 6 (40 * 6) 0 0 [.ref (a 0)] (EQ h) (fun r g => r = none ∧ ZI c a h9 V α f κ κd ω ωd (if (f_putS S 91).i 7 = 1 then (f_fcp (f_putS S 91) fn 8).si 20 (nI (fn + 1)) else f_putS S 91) g) := by
  have hW := hX.1
  refine TA.intro hW rfl (by decide +kernel) (Nat.le_of_ble_eq_true rfl) (fun z C Y E hn h1 hA => ?_)
  rw [show h1 = h from hA]
  clear hA
  refine x_aload_n C dX6_addFound_0 rfl ?_
  refine e_get C Y kd_X6 1 (by decide) wf_X6_19 dX6_addFound_1 Z.x rfl ?_
  refine x_bipush (v := 91) C dX6_addFound_4 (by decide) ?_
  refine x_sipush (v := 253) C dX6_addFound_6 (by decide) ?_
  refine k_putS (st := []) hX C Y E.cs (by decide) (by decide) Z ⟨91, by decide, rfl⟩ dX6_addFound_9 (by decide) (fun g Zg aw => ?_)
  have s6 := putS_6 Z.2.2.1.1 (cm := 91) (Or.inl rfl)
  have p20 : (f_putS S 91).i 20 = nI fn := (f_putS_i _ _ (by decide) (by decide) (by decide) (by decide) (by decide)).trans h20
  generalize f_putS S 91 = Q at Zg aw E s6 p20
  have Bx := Zg.x
  have B : g (a 3) = _ := Zg.2.2.2.2.1
  obtain ⟨ga, na, Ra, a1, a2⟩ := aw
  refine o_istore_nE (L' := [some _, some _]) C dX6_addFound_12 (by rw [hn]; decide) rfl ?_
  refine x_iload_n C dX6_addFound_13 rfl ?_
  by_cases q7 : Q.i 7 = 1
  · rw [if_pos q7] at E
    obtain ⟨L0, l1, l2, l3⟩ := s6 q7
    obtain ⟨y1, y2⟩ := a1 q7
    have en : na = L0 := (nI_eq (by have := Ra.2.2.2; omega) (by omega)).mp (y1.symm.trans l3)
    have or1 : outV Q = nI L0 := by unfold outV; rw [if_pos q7, l3]
    rw [or1]
    refine x_if_le (tgt := 57) C dX6_addFound_14 (by decide) (fun q => absurd q (Int32.not_le.mpr (nI_lt (a := 0) (show 0 < L0 by omega) (by omega)))) (fun _ => ?_)
    obtain ⟨fn0, gf, x1, x2, x3, Bf, x5⟩ := Zg.2.2.2.2.2.2.1
    refine x_aload_n C dX6_addFound_17 rfl ?_
    refine e_get C Y kd_X6 5 (by decide) wf_X6_43 dX6_addFound_18 Bx rfl ?_
    rw [p20]
    refine x_bipush (v := 12) C dX6_addFound_21 (by decide) ?_
    refine x_icmp_ge (tgt := 57) C dX6_addFound_23 (by decide) (fun q => absurd q (Int32.not_le.mpr (nI_lt (b := 12) f12 (by decide)))) (fun c23 => ?_)
    have hab : AB (adA ga na 7 8) (fun b => Q.a 5 (7 + b)) := AB.adA (fun b hb => by rw [rAt_in (show 7 + b < na by omega) Ra.2.2.2, y2 _ (by omega)]; exact byt_id (Zg.2.2.1.2 5 _ rfl))
    refine x_aload_n C dX6_addFound_26 rfl ?_
    refine e_get C Y kd_X6 4 (by decide) wf_X6_39 dX6_addFound_27 Bx rfl ?_
    refine x_aload_n C dX6_addFound_30 rfl ?_
    refine e_get C Y kd_X6 5 (by decide) wf_X6_43 dX6_addFound_31 Bx rfl ?_
    rw [p20]
    refine x_aload_n C dX6_addFound_34 rfl ?_
    refine e_get C Y kd_X6 1 (by decide) wf_X6_19 dX6_addFound_35 Bx rfl ?_
    refine u_callV (st := [.int (nI fn), .ref (a 10)]) C Y hW E.cs (u_lastAnswer hX B) md_X0_lastAnswer wi_X0_lastAnswer ws_X0_lastAnswer wm_X6_138 dX6_addFound_38 rfl (by decide) (by decide) B rfl rfl (by simp [Value.category]) ?_
    refine x_bipush (v := 7) C dX6_addFound_41 (by decide) ?_
    refine u_callV (st := [.int (nI fn), .ref (a 10)]) C Y hW E.cs (r_addressAt hW Ra 7 (by decide)) md_X5_addressAt wi_X5_addressAt ws_X5_addressAt wm_X6_236 dX6_addFound_43 rfl (by decide) (by decide) Ra.2.1 rfl rfl (by simp [Value.category]) ?_
    refine e_lst C Y dX6_addFound_46 Bf (vp_in_nI f12 (by decide)) ?_
    rw [nI_clamp (by omega)]
    have Bx2 : hs g (a 10) (.inl (c 1, 12, .inr (.inl (vp_updL gf fn (adA ga na 7 8))))) (a 0) = _ := (hs_ne (Zg.1.dif 0 10 (by omega) (by omega) (by omega))).trans Bx
    refine x_aload_n C dX6_addFound_47 rfl ?_
    refine x_dup C dX6_addFound_48 rfl ?_
    refine e_get C Y kd_X6 5 (by decide) wf_X6_43 dX6_addFound_49 Bx2 rfl ?_
    refine x_iconst (v := 1) C dX6_addFound_52 (by decide) ?_
    refine x_iadd C dX6_addFound_53 ?_
    rw [p20, nI_1]
    refine e_put C Y kd_X6 5 (by decide) rfl wf_X6_43 dX6_addFound_54 Bx2 (Nat.le_of_ble_eq_true rfl) rfl rfl rfl ?_
    exact x_vret C E dX6_addFound_57 (fun g e => ⟨rfl, by rw [show g = _ from e]; exact Zg.putF p20 f12 hab Bf⟩)
  · rw [if_neg q7] at E
    have or1 : outV Q ≤ 0 := by
      unfold outV
      rw [if_neg q7]
      split <;> decide
    refine x_if_le (tgt := 57) C dX6_addFound_14 (by decide) (fun _ => ?_) (fun q => absurd or1 q)
    exact x_vret C E dX6_addFound_57 (fun g e => ⟨rfl, by rw [show g = _ from e]; exact Zg⟩)
end Search
