section
/-! A MeterBus against the model: the search. -/
def pidx (t : Nat) : Nat := if t < 32 then 7 - t / 4 else 4 + t / 8
def poff (t : Nat) : Nat := if t < 32 then t % 4 else t % 8
theorem bt_nI (x : Nat) {i : Nat} (hi : i < 32) : bt (nI x) i = x.testBit i := by
  unfold bt
  show (BitVec.ofNat 32 x).getLsbD i = _
  rw [BitVec.getLsbD_ofNat, decide_eq_true hi]
  rfl
theorem prt_bit (F : Nat → Nat) {t : Nat} (ht : t < 64) : (F (t / 8)).testBit (t % 8) = (prt F (pidx t)).testBit (poff t) := by
  unfold pidx poff prt
  by_cases h : t < 32
  · rw [if_pos h, if_pos h, if_pos (show 7 - t / 4 < 8 by omega)]
    rcases (show t / 4 % 2 = 0 ∨ t / 4 % 2 = 1 by omega) with e | e
    · rw [if_neg (show ¬ (7 - t / 4) % 2 = 0 by omega), show 3 - (7 - t / 4) / 2 = t / 8 by omega, show (16 : Nat) = 2 ^ 4 from rfl, Nat.testBit_mod_two_pow, decide_eq_true (show t % 4 < 4 by omega), show t % 8 = t % 4 by omega]
      rfl
    · rw [if_pos (show (7 - t / 4) % 2 = 0 by omega), show 3 - (7 - t / 4) / 2 = t / 8 by omega, show (16 : Nat) = 2 ^ 4 from rfl, Nat.testBit_div_two_pow, show t % 8 = t % 4 + 4 by omega]
  · rw [if_neg h, if_neg h, if_neg (show ¬ 4 + t / 8 < 8 by omega), show 4 + t / 8 - 4 = t / 8 by omega]
theorem ABprt {mk : Int64} {X : Nat → Int32} {F : Nat → Nat} (hX : ∀ b, b < 8 → F b < 256 ∧ X b = nI (F b)) : AB mk X ↔ ∀ t, t < 64 → bl mk t = (prt F (pidx t)).testBit (poff t) := by
  constructor
  · intro h t ht
    rw [h.bit ht, (hX (t / 8) (by omega)).2, bt_nI _ (by omega), prt_bit F ht]
  · intro h
    refine AB.of (fun b hb => ?_) (fun t ht => ?_)
    · refine b_ext (fun i hi => ?_)
      rw [(hX b hb).2, b_and, b_255, bt_nI _ hi]
      by_cases q : i < 8
      · simp [q]
      · rw [Nat.testBit_lt_two_pow (Nat.lt_of_lt_of_le (hX b hb).1 (Nat.pow_le_pow_right (n := 2) (by decide) (show 8 ≤ i by omega)))]
        simp
    · rw [h t ht, (hX (t / 8) (by omega)).2, bt_nI _ (by omega), prt_bit F ht]
/-- part n of the mask gets the value v -/
def wpF (mk : Int64) (n v : Nat) : Int64 := if n < 8 then mk &&& ((15 <<< ((nI (4 * (7 - n))).toInt64 &&& 63)) ^^^ (-1)) ||| (nI v).toInt64 <<< ((nI (4 * (7 - n))).toInt64 &&& 63) else mk &&& ((255 <<< ((nI (32 + 8 * (n - 8))).toInt64 &&& 63)) ^^^ (-1)) ||| (nI v).toInt64 <<< ((nI (32 + 8 * (n - 8))).toInt64 &&& 63)
theorem bl_nI {v : Nat} (hv : v < 256) {i : Nat} (hi : i < 64) : bl (nI v).toInt64 i = v.testBit i := by
  rw [bl_i2l _ hi]
  by_cases q : i < 32
  · rw [if_pos q, bt_nI _ q]
  · rw [if_neg q, bt_nI _ (by decide), Nat.testBit_lt_two_pow (Nat.lt_of_lt_of_le hv (by decide)), Nat.testBit_lt_two_pow (Nat.lt_of_lt_of_le hv (Nat.pow_le_pow_right (n := 2) (by decide) (show 8 ≤ i by omega)))]
theorem wpF_bit (mk : Int64) {n v : Nat} (hn : n < 12) (hv : v < if n < 8 then 16 else 256) {t : Nat} (ht : t < 64) : bl (wpF mk n v) t = if pidx t = n then v.testBit (poff t) else bl mk t := by
  unfold wpF
  have hv2 : v < 256 := by split at hv <;> omega
  by_cases h8 : n < 8
  · rw [if_pos h8] at hv
    rw [if_pos h8, bl_or, bl_and, bl_xor, bl_shl _ _ (4 * (7 - n)) (sh_l _ (by omega)) ht, bl_shl _ _ (4 * (7 - n)) (sh_l _ (by omega)) ht, bl_15, bl_m1 t ht]
    unfold pidx poff
    by_cases q : 4 * (7 - n) ≤ t ∧ t < 4 * (7 - n) + 4
    · rw [decide_eq_true q.1, decide_eq_true (show t - 4 * (7 - n) < 4 by omega), bl_nI hv2 (by omega), if_pos (show t < 32 by omega), if_pos (show t < 32 by omega), if_pos (show 7 - t / 4 = n by omega), show t - 4 * (7 - n) = t % 4 by omega]
      simp
    · have e1 : (decide (4 * (7 - n) ≤ t) && decide (t - 4 * (7 - n) < 4)) = false := by
        by_cases q2 : 4 * (7 - n) ≤ t
        · rw [decide_eq_false (show ¬ t - 4 * (7 - n) < 4 by omega), Bool.and_false]
        · rw [decide_eq_false q2, Bool.false_and]
      have e2 : (decide (4 * (7 - n) ≤ t) && bl (nI v).toInt64 (t - 4 * (7 - n))) = false := by
        by_cases q2 : 4 * (7 - n) ≤ t
        · rw [bl_nI hv2 (by omega), Nat.testBit_lt_two_pow (Nat.lt_of_lt_of_le hv (Nat.pow_le_pow_right (n := 2) (by decide) (show 4 ≤ t - 4 * (7 - n) by omega))), Bool.and_false]
        · rw [decide_eq_false q2, Bool.false_and]
      rw [e1, e2, if_neg (by split <;> omega)]
      simp
  · rw [if_neg h8] at hv
    rw [if_neg h8, bl_or, bl_and, bl_xor, bl_shl _ _ (32 + 8 * (n - 8)) (sh_l _ (by omega)) ht, bl_shl _ _ (32 + 8 * (n - 8)) (sh_l _ (by omega)) ht, bl_255, bl_m1 t ht]
    unfold pidx poff
    by_cases q : 32 + 8 * (n - 8) ≤ t ∧ t < 32 + 8 * (n - 8) + 8
    · rw [decide_eq_true q.1, decide_eq_true (show t - (32 + 8 * (n - 8)) < 8 by omega), bl_nI hv2 (by omega), if_neg (show ¬ t < 32 by omega), if_neg (show ¬ t < 32 by omega), if_pos (show 4 + t / 8 = n by omega), show t - (32 + 8 * (n - 8)) = t % 8 by omega]
      simp
    · have e1 : (decide (32 + 8 * (n - 8) ≤ t) && decide (t - (32 + 8 * (n - 8)) < 8)) = false := by
        by_cases q2 : 32 + 8 * (n - 8) ≤ t
        · rw [decide_eq_false (show ¬ t - (32 + 8 * (n - 8)) < 8 by omega), Bool.and_false]
        · rw [decide_eq_false q2, Bool.false_and]
      have e2 : (decide (32 + 8 * (n - 8) ≤ t) && bl (nI v).toInt64 (t - (32 + 8 * (n - 8)))) = false := by
        by_cases q2 : 32 + 8 * (n - 8) ≤ t
        · rw [bl_nI hv2 (by omega), Nat.testBit_lt_two_pow (Nat.lt_of_lt_of_le hv (Nat.pow_le_pow_right (n := 2) (by decide) (show 8 ≤ t - (32 + 8 * (n - 8)) by omega))), Bool.and_false]
        · rw [decide_eq_false q2, Bool.false_and]
      rw [e1, e2, if_neg (by split <;> omega)]
      simp
section Mod
variable {S : MS}
theorem run_6 {cm a : Int32} : ∀ n, (f_run S false true cm a n).i 7 = S.i 7 ∨ (f_run S false true cm a n).i 6 = 1
  | 0 => Or.inl rfl
  | n + 1 => by
    rw [f_run, step_sel]
    split
    · exact run_6 n
    · unfold f_sel
      split
      · exact Or.inr rfl
      · exact run_6 n
theorem end_7 (S : MS) (a : Int32) : (f_end S a).i 7 = if a = 255 then 0 else S.i 7 := by unfold f_end; rw [MS.si_i, if_neg (by decide), MS.si_i, if_pos rfl]
theorem end_6 (S : MS) (a : Int32) : (f_end S a).i 6 = S.i 6 := rfl
theorem begin_7 (S : MS) : (f_begin S).i 7 = 0 := rfl
theorem putM_6 (h : (f_putM S).i 7 = 1) : (f_putM S).i 6 = 1 := by
  rw [putM_eq, end_7, if_neg (by decide)] at h
  rw [putM_eq, end_6]
  refine (run_6 12).resolve_left (fun q => ?_)
  rw [h, begin_7] at q
  exact absurd q (by decide)
theorem run_61 (hw : WFa S) {cm a : Int32} (hc : cm = 91 ∨ cm = 123) : ∀ n, n ≤ 12 → (f_run S true false cm a n).i 7 = S.i 7 ∨ ∃ L, 21 ≤ L ∧ L ≤ 90 ∧ (f_run S true false cm a n).i 6 = nI L
  | 0, _ => Or.inl rfl
  | n + 1, hn => by
    rw [f_run]
    have wn := (WFa.run (isS := true) (sel := false) (c := cm) (a := a) hw n) n (by omega)
    have ih := run_61 hw (cm := cm) (a := a) hc n (by omega)
    generalize f_run S true false cm a n = Q at wn ih
    by_cases q : f_cares Q false a n
    · rw [step_S q]
      unfold f_short
      rw [if_neg (by rcases hc with e | e <;> (rw [e]; decide)), if_pos hc]
      have n60 := (wn.N (f_p_lt Q n (if cm = 123 then 1 else 0))).1
      generalize (if cm = 123 then (1 : Int32) else 0) = nb at n60
      refine Or.inr ⟨(f_tel Q n (f_p Q n nb) (f_N Q n (f_p Q n nb))).length, ?_, ?_, rfl⟩
      · rw [f_tel_len]; split <;> omega
      · rw [f_tel_len]; split <;> omega
    · rw [step_nc q]; exact ih
theorem putS_6 (hw : WFa S) {cm : Int32} (hc : cm = 91 ∨ cm = 123) (h : (f_putS S cm).i 7 = 1) : ∃ L, 21 ≤ L ∧ L ≤ 90 ∧ (f_putS S cm).i 6 = nI L := by
  rw [putS_eq, end_7, if_neg (by decide)] at h
  rw [putS_eq, end_6]
  refine (run_61 (S := f_begin (f_putS0 S cm)) hw.putS0.bg hc 12 (Nat.le_refl _)).resolve_left (fun q => ?_)
  rw [h, begin_7] at q
  exact absurd q (by decide)
theorem part_w (n : Nat) (v : Int32) (q j : Nat) : (f_part S n v).w q j = S.w q j := by
  unfold f_part
  split
  · rfl
  · split <;> rfl
theorem fcp_w (f q j : Nat) : ∀ n, (f_fcp S f n).w q j = S.w q j
  | 0 => rfl
  | n + 1 => by rw [f_fcp]; exact fcp_w f q j n
theorem fcp_21 (S : MS) (f q : Nat) : ∀ n, (f_fcp S f n).a 21 q = if 8 * f ≤ q ∧ q < 8 * f + n then S.a 5 (7 + (q - 8 * f)) else S.a 21 q
  | 0 => by rw [if_neg (by omega)]; rfl
  | n + 1 => by
    rw [f_fcp, MS.sa_a]
    by_cases e : q = 8 * f + n
    · rw [if_pos ⟨rfl, e⟩, if_pos (by omega), e, show 8 * f + n - 8 * f = n by omega]
    · rw [if_neg (fun x => e x.2), fcp_21 S f q n]
      by_cases e2 : 8 * f ≤ q ∧ q < 8 * f + n
      · rw [if_pos e2, if_pos (by omega)]
      · rw [if_neg e2, if_neg (by omega)]
end Mod
section Search
variable {w : Wd} {c : Nat → ClassId} {a : Nat → Nat} {h9 : PH} {V : Nat → Prop} {α : Nat → Int64} {f : Nat → Option Nat} {κ κd ω ωd : Nat → Nat} {S S' : MS} {h g : PH}
theorem zy_withPart (hX : Wx w c) (mk : Int64) {n v : Nat} (hn12 : n < 12) : T w gw yX6_withPart cX6_withPart 5 (some .long) 0 (40 * 0) 0 0 [.long mk, .int (nI n), .int (nI v)] (EQ h) (fun r g => r = some (.long (wpF mk n v)) ∧ g = h) := by
  have hW := hX.1
  refine TA.intro hW rfl (by decide +kernel) (Nat.le_of_ble_eq_true rfl) (fun z C Y E hn h1 hA => ?_)
  rw [show h1 = h from hA]
  clear hA
  refine x_iload_n C dX6_withPart_0 rfl ?_
  refine x_bipush (v := 8) C dX6_withPart_1 (by decide) ?_
  refine x_icmp_ge (tgt := 33) C dX6_withPart_3 (by decide) (fun c3 => ?_) (fun c3 => ?_)
  · have h8 : ¬ n < 8 := fun q => absurd (nI_lt q (by decide)) (Int32.not_lt.mpr c3)
    have es : (32 : Int32) + 8 * (nI n - 8) = nI (32 + 8 * (n - 8)) := by
      rw [show nI n - 8 = nI (n - 8) from nI_sub' (v := n) (b := 8) (by omega), show (8 : Int32) * nI (n - 8) = nI (8 * (n - 8)) from pk_mul 8 (n - 8)]
      exact nI_add 32 (8 * (n - 8))
    refine x_bipush (v := 32) C dX6_withPart_33 (by decide) ?_
    refine x_bipush (v := 8) C dX6_withPart_35 (by decide) ?_
    refine x_iload_n C dX6_withPart_37 rfl ?_
    refine x_bipush (v := 8) C dX6_withPart_38 (by decide) ?_
    refine x_isub C dX6_withPart_40 ?_
    refine x_imul C dX6_withPart_41 ?_
    refine x_iadd C dX6_withPart_42 ?_
    rw [es]
    refine o_istoreE (L' := [some _, none, some _, some _, some _]) C dX6_withPart_43 (by rw [hn]; decide) rfl ?_
    refine x_lload_n C dX6_withPart_45 rfl ?_
    refine x_ldc2 C wk_X6_234 dX6_withPart_46 ?_
    refine x_iload C dX6_withPart_49 rfl ?_
    refine x_lshl C dX6_withPart_51 ?_
    refine x_ldc2 C wk_X6_146 dX6_withPart_52 ?_
    refine x_lxor C dX6_withPart_55 ?_
    refine x_land C dX6_withPart_56 ?_
    refine x_iload_n C dX6_withPart_57 rfl ?_
    refine x_i2l C dX6_withPart_58 ?_
    refine x_iload C dX6_withPart_59 rfl ?_
    refine x_lshl C dX6_withPart_61 ?_
    refine x_lor C dX6_withPart_62 ?_
    exact x_lret C E dX6_withPart_63 (fun g e => ⟨by unfold wpF; rw [if_neg h8], e⟩)
  · have h8 : n < 8 := (nI_ltI (by omega) (by decide)).mp (Int32.not_le.mp c3)
    have es : (4 : Int32) * (7 - nI n) = nI (4 * (7 - n)) := by
      rw [show (7 : Int32) - nI n = nI (7 - n) from nI_sub' (v := 7) (b := n) (by omega)]
      exact pk_mul 4 (7 - n)
    refine x_iconst (v := 4) C dX6_withPart_6 (by decide) ?_
    refine x_bipush (v := 7) C dX6_withPart_7 (by decide) ?_
    refine x_iload_n C dX6_withPart_9 rfl ?_
    refine x_isub C dX6_withPart_10 ?_
    refine x_imul C dX6_withPart_11 ?_
    rw [es]
    refine o_istoreE (L' := [some _, none, some _, some _, some _]) C dX6_withPart_12 (by rw [hn]; decide) rfl ?_
    refine x_lload_n C dX6_withPart_14 rfl ?_
    refine x_ldc2 C wk_X6_232 dX6_withPart_15 ?_
    refine x_iload C dX6_withPart_18 rfl ?_
    refine x_lshl C dX6_withPart_20 ?_
    refine x_ldc2 C wk_X6_146 dX6_withPart_21 ?_
    refine x_lxor C dX6_withPart_24 ?_
    refine x_land C dX6_withPart_25 ?_
    refine x_iload_n C dX6_withPart_26 rfl ?_
    refine x_i2l C dX6_withPart_27 ?_
    refine x_iload C dX6_withPart_28 rfl ?_
    refine x_lshl C dX6_withPart_30 ?_
    refine x_lor C dX6_withPart_31 ?_
    exact x_lret C E dX6_withPart_32 (fun g e => ⟨by unfold wpF; rw [if_pos h8], e⟩)
theorem zy_reset (hX : Wx w c) (Z : ZI c a h9 V α f κ κd ω ωd S h) {mk : Int64} (hm : AB mk (fun b => S.a 19 b)) : T w gw yX6_resetSelected cX6_resetSelected 3 none 6 (40 * 6) 0 0 [.ref (a 0), .long mk] (EQ h) (fun r g => r = none ∧ ZI c a h9 V α f κ κd ω ωd (f_putM (f_putS S 64)) g) := by
  have hW := hX.1
  refine TA.intro hW rfl (by decide +kernel) (Nat.le_of_ble_eq_true rfl) (fun z C Y E hn h1 hA => ?_)
  rw [show h1 = h from hA]
  clear hA
  refine x_aload_n C dX6_resetSelected_0 rfl ?_
  refine e_get C Y kd_X6 1 (by decide) wf_X6_19 dX6_resetSelected_1 Z.x rfl ?_
  refine x_bipush (v := 64) C dX6_resetSelected_4 (by decide) ?_
  refine x_sipush (v := 253) C dX6_resetSelected_6 (by decide) ?_
  refine k_putS (st := []) hX C Y E.cs (by decide) (by decide) Z ⟨64, by decide, rfl⟩ dX6_resetSelected_9 (by decide) (fun g Zg _ => ?_)
  refine x_pop C dX6_resetSelected_12 rfl ?_
  refine x_aload_n C dX6_resetSelected_13 rfl ?_
  refine e_get C Y kd_X6 1 (by decide) wf_X6_19 dX6_resetSelected_14 Zg.x rfl ?_
  refine x_lload_n C dX6_resetSelected_17 rfl ?_
  refine k_putM (st := []) hX C Y E.cs (by decide) (by decide) Zg (mk := mk) (fun b hb => (hm b hb).trans (putS_bz rfl (by decide)).symm) dX6_resetSelected_18 (by decide) (fun g2 Zg2 _ => ?_)
  refine x_pop C dX6_resetSelected_21 rfl ?_
  exact x_vret C E dX6_resetSelected_22 (fun g e => ⟨rfl, by rw [show g = _ from e]; exact Zg2⟩)
/-- a found one more -/
theorem ZI.putF (Z : ZI c a h9 V α f κ κd ω ωd S h) {fn : Nat} (h20 : S.i 20 = nI fn) (f12 : fn < 12) {ad : Int64} (hab : AB ad (fun b => S.a 5 (7 + b))) {gf : Nat → Int64} (Bf : h (a 10) = some (.inl (c 1, 12, .inr (.inl gf)))) : ZI c a h9 V α f κ κd ω ωd ((f_fcp S fn 8).si 20 (nI (fn + 1))) (hs (hs h (a 10) (.inl (c 1, 12, .inr (.inl (vp_updL gf fn ad))))) (a 0) (.inr (6, [.ref (a 1), .ref (a 3), .ref (a 7), .ref (a 9), .ref (a 10), .int (nI (fn + 1))]))) := by
  have nw := fun q hq => Z.nw (q := q) hq
  obtain ⟨z1, z2, z3, z4, z5, z6, z7, z8⟩ := Z
  have d := z1.dif
  obtain ⟨fn0, gf0, x1, x2, x3, x4, x5⟩ := z7
  obtain rfl : fn0 = fn := (nI_eq (by omega) (by omega)).mp (x2.symm.trans h20)
  obtain rfl : gf0 = gf := by have := x4.symm.trans Bf; simp only [Option.some.injEq, Sum.inl.injEq, Prod.mk.injEq, Sum.inr.injEq, true_and] at this; exact this
  have rn : ∀ q, q ≠ a 0 → q ≠ a 10 → hs (hs h (a 10) (.inl (c 1, 12, .inr (.inl (vp_updL gf0 fn0 ad))))) (a 0) (.inr (6, [.ref (a 1), .ref (a 3), .ref (a 7), .ref (a 9), .ref (a 10), .int (nI (fn0 + 1))])) q = h q := fun q n1 n2 => by rw [hs_ne n1, hs_ne n2]
  have ra : ∀ i, i ≤ 10 → i ≠ 0 → i ≠ 10 → hs (hs h (a 10) (.inl (c 1, 12, .inr (.inl (vp_updL gf0 fn0 ad))))) (a 0) (.inr (6, [.ref (a 1), .ref (a 3), .ref (a 7), .ref (a 9), .ref (a 10), .int (nI (fn0 + 1))])) (a i) = h (a i) := fun i hi n0 n10 => rn _ (d i 0 hi (by omega) n0) (d i 10 hi (by omega) n10)
  have sf : ∀ q j, q ≠ 21 → ((f_fcp S fn0 8).si 20 (nI (fn0 + 1))).a q j = S.a q j := fun q j hq => by rw [MS.si_a, f_fcp_a _ _ _ hq]
  have sfi : ∀ q, q ≠ 20 → ((f_fcp S fn0 8).si 20 (nI (fn0 + 1))).i q = S.i q := fun q hq => by rw [MS.si_i, if_neg hq, f_fcp_i]
  refine ⟨(z1.putF _).putX (by omega), z2.sm ⟨fun j => sf 10 j (by decide), fun j => sf 12 j (by decide)⟩, ⟨(z3.1.fcp 8).si, (z3.2.fcp 8).si⟩, z4.same (fun q hq => rn q (nw q (Or.inl hq) 0 (by omega)) (nw q (Or.inl hq) 10 (by omega))) (fun q j hq => sf q j (by omega)), ?_, z6.go (ra 1 (by omega) (by omega) (by omega)) (ra 2 (by omega) (by omega) (by omega)) (sfi 2 (by decide)) (fun j => sf 1 j (by decide)), ⟨fn0 + 1, _, hs_self .., rfl, by omega, by rw [hs_ne (d 10 0 (by omega) (by omega) (by omega)), hs_self], fun k hk => ?_⟩, z8.go (ra 7 (by omega) (by omega) (by omega)) (ra 8 (by omega) (by omega) (by omega)) (fun q hq => rn q (nw q (Or.inr hq) 0 (by omega)) (nw q (Or.inr hq) 10 (by omega))) ⟨fun q hq => sfi q (by omega), fun q j => fcp_w fn0 q j 8, fun q j q1 q2 => sf q j (by omega)⟩⟩
  · rw [EU, ra 3 (by omega) (by omega) (by omega), sfi 8 (by decide), sfi 9 (by decide)]
    exact z5
  · by_cases e : k = fn0
    · subst e
      intro b hb
      show by8 (vp_updL gf0 k ad k) b &&& 255 = (f_fcp S k 8).a 21 (8 * k + b)
      rw [fcp_21, if_pos (by omega), show 8 * k + b - 8 * k = b by omega, show vp_updL gf0 k ad k = ad from by simp [vp_updL]]
      exact hab b hb
    · intro b hb
      show by8 (vp_updL gf0 fn0 ad k) b &&& 255 = (f_fcp S fn0 8).a 21 (8 * k + b)
      rw [fcp_21, if_neg (by omega), show vp_updL gf0 fn0 ad k = gf0 k from by simp [vp_updL, e]]
      exact x5 k (by omega) b hb
theorem zy_addFound (hX : Wx w c) (Z : ZI c a h9 V α f κ κd ω ωd S h) {fn : Nat} (h20 : S.i 20 = nI fn) (f12 : fn < 12) : T w gw yX6_addFound cX6_addFound 2 none 6 (40 * 6) 0 0 [.ref (a 0)] (EQ h) (fun r g => r = none ∧ ZI c a h9 V α f κ κd ω ωd (if (f_putS S 91).i 7 = 1 then (f_fcp (f_putS S 91) fn 8).si 20 (nI (fn + 1)) else f_putS S 91) g) := by
  have hW := hX.1
  refine TA.intro hW rfl (by decide +kernel) (Nat.le_of_ble_eq_true rfl) (fun z C Y E hn h1 hA => ?_)
  rw [show h1 = h from hA]
  clear hA
  refine x_aload_n C dX6_addFound_0 rfl ?_
  refine e_get C Y kd_X6 1 (by decide) wf_X6_19 dX6_addFound_1 Z.x rfl ?_
  refine x_bipush (v := 91) C dX6_addFound_4 (by decide) ?_
  refine x_sipush (v := 253) C dX6_addFound_6 (by decide) ?_
  refine k_putS (st := []) hX C Y E.cs (by decide) (by decide) Z ⟨91, by decide, rfl⟩ dX6_addFound_9 (by decide) (fun g Zg aw => ?_)
  have s6 := putS_6 Z.2.2.1.1 (cm := 91) (Or.inl rfl)
  have p20 : (f_putS S 91).i 20 = nI fn := (f_putS_i _ _ (by decide) (by decide) (by decide) (by decide) (by decide)).trans h20
  generalize f_putS S 91 = Q at Zg aw E s6 p20
  have Bx := Zg.x
  have B : g (a 3) = _ := Zg.2.2.2.2.1
  obtain ⟨ga, na, Ra, a1, a2⟩ := aw
  refine o_istore_nE (L' := [some _, some _]) C dX6_addFound_12 (by rw [hn]; decide) rfl ?_
  refine x_iload_n C dX6_addFound_13 rfl ?_
  by_cases q7 : Q.i 7 = 1
  · rw [if_pos q7] at E
    obtain ⟨L0, l1, l2, l3⟩ := s6 q7
    obtain ⟨y1, y2⟩ := a1 q7
    have en : na = L0 := (nI_eq (by have := Ra.2.2.2; omega) (by omega)).mp (y1.symm.trans l3)
    have or1 : outV Q = nI L0 := by unfold outV; rw [if_pos q7, l3]
    rw [or1]
    refine x_if_le (tgt := 57) C dX6_addFound_14 (by decide) (fun q => absurd q (Int32.not_le.mpr (nI_lt (a := 0) (show 0 < L0 by omega) (by omega)))) (fun _ => ?_)
    obtain ⟨fn0, gf, x1, x2, x3, Bf, x5⟩ := Zg.2.2.2.2.2.2.1
    refine x_aload_n C dX6_addFound_17 rfl ?_
    refine e_get C Y kd_X6 5 (by decide) wf_X6_43 dX6_addFound_18 Bx rfl ?_
    rw [p20]
    refine x_bipush (v := 12) C dX6_addFound_21 (by decide) ?_
    refine x_icmp_ge (tgt := 57) C dX6_addFound_23 (by decide) (fun q => absurd q (Int32.not_le.mpr (nI_lt (b := 12) f12 (by decide)))) (fun c23 => ?_)
    have hab : AB (adA ga na 7 8) (fun b => Q.a 5 (7 + b)) := AB.adA (fun b hb => by rw [rAt_in (show 7 + b < na by omega) Ra.2.2.2, y2 _ (by omega)]; exact byt_id (Zg.2.2.1.2 5 _ rfl))
    refine x_aload_n C dX6_addFound_26 rfl ?_
    refine e_get C Y kd_X6 4 (by decide) wf_X6_39 dX6_addFound_27 Bx rfl ?_
    refine x_aload_n C dX6_addFound_30 rfl ?_
    refine e_get C Y kd_X6 5 (by decide) wf_X6_43 dX6_addFound_31 Bx rfl ?_
    rw [p20]
    refine x_aload_n C dX6_addFound_34 rfl ?_
    refine e_get C Y kd_X6 1 (by decide) wf_X6_19 dX6_addFound_35 Bx rfl ?_
    refine u_callV (st := [.int (nI fn), .ref (a 10)]) C Y hW E.cs (u_lastAnswer hX B) md_X0_lastAnswer wi_X0_lastAnswer ws_X0_lastAnswer wm_X6_138 dX6_addFound_38 rfl (by decide) (by decide) B rfl rfl (by simp [Value.category]) ?_
    refine x_bipush (v := 7) C dX6_addFound_41 (by decide) ?_
    refine u_callV (st := [.int (nI fn), .ref (a 10)]) C Y hW E.cs (r_addressAt hW Ra 7 (by decide)) md_X5_addressAt wi_X5_addressAt ws_X5_addressAt wm_X6_236 dX6_addFound_43 rfl (by decide) (by decide) Ra.2.1 rfl rfl (by simp [Value.category]) ?_
    refine e_lst C Y dX6_addFound_46 Bf (vp_in_nI f12 (by decide)) ?_
    rw [nI_clamp (by omega)]
    have Bx2 : hs g (a 10) (.inl (c 1, 12, .inr (.inl (vp_updL gf fn (adA ga na 7 8))))) (a 0) = _ := (hs_ne (Zg.1.dif 0 10 (by omega) (by omega) (by omega))).trans Bx
    refine x_aload_n C dX6_addFound_47 rfl ?_
    refine x_dup C dX6_addFound_48 rfl ?_
    refine e_get C Y kd_X6 5 (by decide) wf_X6_43 dX6_addFound_49 Bx2 rfl ?_
    refine x_iconst (v := 1) C dX6_addFound_52 (by decide) ?_
    refine x_iadd C dX6_addFound_53 ?_
    rw [p20, nI_1]
    refine e_put C Y kd_X6 5 (by decide) rfl wf_X6_43 dX6_addFound_54 Bx2 (Nat.le_of_ble_eq_true rfl) rfl rfl rfl ?_
    exact x_vret C E dX6_addFound_57 (fun g e => ⟨rfl, by rw [show g = _ from e]; exact Zg.putF p20 f12 hab Bf⟩)
  · rw [if_neg q7] at E
    have or1 : outV Q ≤ 0 := by
      unfold outV
      rw [if_neg q7]
      split <;> decide
    refine x_if_le (tgt := 57) C dX6_addFound_14 (by decide) (fun _ => ?_) (fun q => absurd or1 q)
    exact x_vret C E dX6_addFound_57 (fun g e => ⟨rfl, by rw [show g = _ from e]; exact Zg⟩)
end Search
end
section
/-! A MeterBus against the model: PROBE, the search whole. -/
section Mod
variable {S : MS}
theorem outV_M : (outV (f_putM S) = 1 ↔ (f_putM S).i 7 = 1) ∧ (outV (f_putM S) = -2 ↔ 1 < (f_putM S).i 7) := by
  have e7 := putM_7 S
  have cl := cntM_le S 12
  unfold outV
  by_cases q1 : (f_putM S).i 7 = 1
  · rw [if_pos q1, putM_6 q1]
    exact ⟨⟨fun _ => q1, fun _ => rfl⟩, ⟨fun q => absurd q (by decide), fun q => by rw [q1] at q; exact absurd q (by decide)⟩⟩
  · rw [if_neg q1]
    by_cases q0 : (f_putM S).i 7 = 0
    · rw [if_pos q0]
      exact ⟨⟨fun q => absurd q (by decide), fun q => absurd q q1⟩, ⟨fun q => absurd q (by decide), fun q => by rw [q0] at q; exact absurd q (by decide)⟩⟩
    · rw [if_neg q0]
      refine ⟨⟨fun q => absurd q (by decide), fun q => absurd q q1⟩, ⟨fun _ => ?_, fun _ => rfl⟩⟩
      rw [e7]
      refine nI_lt (a := 1) (Nat.lt_of_not_le fun q => ?_) (by omega)
      rcases (show cntM S 12 = 0 ∨ cntM S 12 = 1 by omega) with e | e
      · exact q0 (by rw [e7, e]; rfl)
      · exact q1 (by rw [e7, e]; rfl)
theorem LSx.part (S : MS) (n : Nat) (x y : Int32) : LSx S (f_part (S.sa 22 n x) n y) := ⟨fun q hq => by rw [part_i]; rfl, fun q j => part_w n y q j, fun q j q1 q2 => by rw [part_ne (by omega), sa_ne (by omega)]⟩
end Mod
section Search
variable {w : Wd} {c : Nat → ClassId} {a : Nat → Nat} {h9 : PH} {V : Nat → Prop} {α : Nat → Int64} {f : Nat → Option Nat} {κ κd ω ωd : Nat → Nat} {S S' : MS} {h g : PH}
theorem ZI.part (Z : ZI c a h9 V α f κ κd ω ωd S h) (n : Nat) (x y : Int32) (wf : WFb (f_part (S.sa 22 n x) n y)) : ZI c a h9 V α f κ κd ω ωd (f_part (S.sa 22 n x) n y) h :=
  Z.mod ⟨(Z.2.2.1.1.sa (by decide) (by decide) (by decide)).part, wf⟩ (fun q j hq => by rw [part_ne (by omega), sa_ne (by omega)]) (fun q hq => by rw [part_i]; rfl) (LSx.part S n x y)
/-- a mask by its parts -/
theorem ABwp {mk : Int64} {C : MS} (hS : WFb S) (hC : WFb C) (hm : AB mk (fun b => S.a 19 b)) {n v : Nat} (hn : n < 12) (hv : v < if n < 8 then 16 else 256) (cp : ∀ m, m < 12 → prt (mby C) m = if m = n then v else prt (mby S) m) : AB (wpF mk n v) (fun b => C.a 19 b) := by
  refine (ABprt (F := mby C) (fun b _ => hC.m b)).mpr (fun t ht => ?_)
  have pl : pidx t < 12 := by unfold pidx; split <;> omega
  rw [wpF_bit mk hn hv ht, cp _ pl]
  by_cases e : pidx t = n
  · rw [if_pos e, if_pos e]
  · rw [if_neg e, if_neg e]
    exact (ABprt (F := mby S) (fun b _ => hS.m b)).mp hm t ht
/-- PROBE n, m = 12 - n: as deep as it goes -/
theorem zy_probe (hX : Wx w c) : ∀ (m n : Nat) (mk : Int64) (S : MS) (h : PH) (fn : Nat), n + m = 12 → ZI c a h9 V α f κ κd ω ωd S h → DS S → S.i 20 = nI fn → fn + cntM S 12 ≤ 12 → (∀ q, n ≤ q → q < 12 → prt (mby S) q = wld q) → (∀ q, q < n → q < 12 → prt (mby S) q ≠ wld q) → AB mk (fun b => S.a 19 b) →
    T w gw yX6_probe cX6_probe 7 none (7 + m) (40 * (7 + m)) 0 0 [.ref (a 0), .int (nI n), .long mk] (EQ h) (fun r g => r = none ∧ ∃ S', PRo (m + 1) n S = some S' ∧ ZI c a h9 V α f κ κd ω ωd S' g) := by
  intro m
  induction m with
  | zero =>
    intro n mk S h fn hm Z ds h20 hf hw hv hab
    obtain rfl : n = 12 := by omega
    have hW := hX.1
    refine TA.intro hW rfl (by decide +kernel) (Nat.le_of_ble_eq_true rfl) (fun z C Y E hn h1 hA => ?_)
    rw [show h1 = h from hA]
    clear hA
    obtain ⟨S', eP, -⟩ := PR_ok 1 12 S fn (by decide) (by decide) Z.2.2.1.2 Z.2.2.1.1 ds h20 (by omega) hw hv
    rw [eP] at E
    rw [PRo] at eP
    obtain ⟨o1, o2⟩ := outV_M (S := S)
    have n2 : ¬ 1 < (f_putM S).i 7 := fun q => by rw [if_pos q, if_neg (by decide)] at eP; exact nomatch eP
    rw [if_neg n2] at eP
    have eS : f_one (f_putM S) = S' := by
      split at eP
      · exact Option.some.inj eP
      · exact nomatch eP
    subst eS
    have p20 : (f_putM S).i 20 = nI fn := (f_putM_i _ (by decide) (by decide) (by decide) (by decide) (by decide)).trans h20
    have e7 := putM_7 S
    have cl := cntM_le S 12
    refine x_aload_n C dX6_probe_0 rfl ?_
    refine e_get C Y kd_X6 1 (by decide) wf_X6_19 dX6_probe_1 Z.x rfl ?_
    refine x_lload_n C dX6_probe_4 rfl ?_
    refine k_putM (st := []) hX C Y E.cs (by decide) (by decide) Z hab dX6_probe_5 (by decide) (fun g Zg _ => ?_)
    have T87 : ∀ (g : PH) (L : List (Option Value)), ZI c a h9 V α f κ κd ω ωd (f_one (f_putM S)) g → X z 0 0 (EQ g) 87 L [] := fun g L Z => x_vret C E dX6_probe_87 (fun g e => ⟨rfl, _, rfl, by rw [show g = _ from e]; exact Z⟩)
    refine o_istoreE (L' := [some _, some _, some _, none, some _, none, none]) C dX6_probe_8 (by rw [hn]; decide) rfl ?_
    refine x_iload C dX6_probe_10 rfl ?_
    refine x_iconst (v := 1) C dX6_probe_12 (by decide) ?_
    refine x_icmp_ne (tgt := 28) C dX6_probe_13 (by decide) (fun q1 => ?_) (fun q1 => ?_)
    · have e1 : f_one (f_putM S) = f_putM S := if_neg (fun q => q1 (o1.mpr q))
      rw [e1] at T87
      refine x_iload C dX6_probe_28 rfl ?_
      refine x_bipush (v := (-2)) C dX6_probe_30 (by decide) ?_
      exact x_icmp_ne (tgt := 87) C dX6_probe_32 (by decide) (fun _ => T87 _ _ Zg) (fun q => absurd (o2.mp q) n2)
    · have q7 := o1.mp q1
      have ec : f_c (f_putM S) = fn := by unfold f_c; rw [p20, nI_clamp (by omega)]
      have e1 : f_one (f_putM S) = f_find (f_putM S) fn := by unfold f_one; rw [if_pos q7, ec]
      have f12 : fn < 12 := by
        have : cntM S 12 = 1 := (nI_eq (by omega) (by omega)).mp (e7.symm.trans q7)
        omega
      rw [e1] at T87
      refine x_aload_n C dX6_probe_16 rfl ?_
      refine x_lload_n C dX6_probe_17 rfl ?_
      refine k_callR (kc := 0) (ks := 0) (mc' := 0) (ms' := 0) (st := []) C Y hW E.cs (zy_reset hX Zg (mk := mk) (fun b hb => (hab b hb).trans (putM_bz rfl (by decide)).symm)) rfl md_X6_resetSelected wi_X6_resetSelected ws_X6_resetSelected wm_X6_221 dX6_probe_18 rfl (by decide) (by decide) Zg.x rfl rfl (by decide) (fun r g2 hg => ?_)
      obtain ⟨rfl, Z2⟩ := hg
      refine x_aload_n C dX6_probe_21 rfl ?_
      have p20' : (f_putM (f_putS (f_putM S) 64)).i 20 = nI fn := (f_putM_i _ (by decide) (by decide) (by decide) (by decide) (by decide)).trans ((f_putS_i _ _ (by decide) (by decide) (by decide) (by decide) (by decide)).trans p20)
      refine k_callR (kc := 0) (ks := 0) (mc' := 0) (ms' := 0) (st := []) C Y hW E.cs (zy_addFound hX Z2 p20' f12) rfl md_X6_addFound wi_X6_addFound ws_X6_addFound wm_X6_225 dX6_probe_22 rfl (by decide) (by decide) Z2.x rfl rfl (by decide) (fun r g3 hg => ?_)
      obtain ⟨rfl, Z3⟩ := hg
      exact x_goto (tgt := 87) C dX6_probe_25 (by decide) (T87 _ _ Z3)
  | succ m ih =>
    intro n mk S h fn hm Z ds h20 hf hw hv hab
    have hW := hX.1
    have n12 : n < 12 := by omega
    refine TA.intro hW rfl (by decide +kernel) (Nat.le_of_ble_eq_true rfl) (fun z C Y E hn h1 hA => ?_)
    rw [show h1 = h from hA]
    clear hA
    obtain ⟨o1, o2⟩ := outV_M (S := S)
    have p20 : (f_putM S).i 20 = nI fn := (f_putM_i _ (by decide) (by decide) (by decide) (by decide) (by decide)).trans h20
    have e7 := putM_7 S
    have cl := cntM_le S 12
    have ec : f_c (f_putM S) = fn := by unfold f_c; rw [p20, nI_clamp (by omega)]
    have cOK : f_cOK (f_putM S) = true := by unfold f_cOK; rw [ec, p20]; simp; omega
    refine x_aload_n C dX6_probe_0 rfl ?_
    refine e_get C Y kd_X6 1 (by decide) wf_X6_19 dX6_probe_1 Z.x rfl ?_
    refine x_lload_n C dX6_probe_4 rfl ?_
    refine k_putM (st := []) hX C Y E.cs (by omega) (by omega) Z hab dX6_probe_5 (by decide) (fun g Zg _ => ?_)
    have T87 : ∀ (S' : MS), PRo (m + 1 + 1) n S = some S' → ∀ (g : PH) (L : List (Option Value)), ZI c a h9 V α f κ κd ω ωd S' g → X z 0 0 (EQ g) 87 L [] := fun S' eP g L Z => x_vret C E dX6_probe_87 (fun g e => ⟨rfl, _, eP, by rw [show g = _ from e]; exact Z⟩)
    refine o_istoreE (L' := [some _, some _, some _, none, some _, none, none]) C dX6_probe_8 (by rw [hn]; decide) rfl ?_
    refine x_iload C dX6_probe_10 rfl ?_
    refine x_iconst (v := 1) C dX6_probe_12 (by decide) ?_
    refine x_icmp_ne (tgt := 28) C dX6_probe_13 (by decide) (fun q1 => ?_) (fun q1 => ?_)
    · have n7 : ¬ (f_putM S).i 7 = 1 := fun q => q1 (o1.mpr q)
      refine x_iload C dX6_probe_28 rfl ?_
      refine x_bipush (v := (-2)) C dX6_probe_30 (by decide) ?_
      refine x_icmp_ne (tgt := 87) C dX6_probe_32 (by decide) (fun q2 => ?_) (fun q2 => ?_)
      · exact T87 (f_putM S) (by rw [PRo, if_neg (fun q => q2 (o2.mpr q)), if_pos cOK, show f_one (f_putM S) = f_putM S from if_neg n7]) _ _ Zg
      have gt := o2.mp q2
      have eP0 : PRo (m + 1 + 1) n S = PRk (PRo (m + 1) (n + 1)) n (limN n) 0 (f_putM S) := by rw [PRo, if_pos gt, if_pos n12]
      rw [eP0] at T87
      refine x_iload_n C dX6_probe_35 rfl ?_
      refine x_bipush (v := 12) C dX6_probe_36 (by decide) ?_
      refine x_icmp_ge (tgt := 87) C dX6_probe_38 (by decide) (fun q => absurd q (Int32.not_le.mpr (nI_lt (b := 12) n12 (by decide)))) (fun _ => ?_)
      have LP : ∀ (cc v : Nat) (Q : MS) (g : PH) (f1 : Nat), v + cc = limN n → ZI c a h9 V α f κ κd ω ωd Q g → SM S Q → (∀ q, q < 12 → q ≠ n → prt (mby Q) q = prt (mby S) q) → Q.i 20 = nI f1 → f1 + cn (geM S n v) 12 ≤ 12 → (∀ S', PRk (PRo (m + 1) (n + 1)) n cc v Q = some S' → PRk (PRo (m + 1) (n + 1)) n (limN n) 0 (f_putM S) = some S') → X z 0 0 (EQ g) 60 [some (.ref (a 0)), some (.int (nI n)), some (.long mk), none, some (.int (outV (f_putM S))), some (.int (nI (limN n))), some (.int (nI v))] [] := by
        intro cc
        induction cc with
        | zero =>
          intro v Q g f1 hc Zq sm hp q20 qf go
          obtain rfl : v = limN n := by omega
          refine x_iload C dX6_probe_60 rfl ?_
          refine x_iload C dX6_probe_62 rfl ?_
          refine x_icmp_ge (tgt := 87) C dX6_probe_64 (by decide) (fun _ => ?_) (fun q => absurd (Int32.le_refl _) q)
          refine T87 _ (go _ rfl) _ _ (Zq.part n _ _ ?_)
          rw [part_wild]
          exact (Zq.2.2.1.2.sa (fun q => absurd q (by decide))).part _ (wld_lt n)
        | succ cc ih2 =>
          intro v Q g f1 hc Zq sm hp q20 qf go
          have ll := limN_le n
          have hl := limN_wld (n := n) (v := v) (by omega)
          have hb' : WFb (Q.sa 22 n (nI v)) := Zq.2.2.1.2.sa (fun q => absurd q (by decide))
          have hm' : mby (Q.sa 22 n (nI v)) = mby Q := by funext b; unfold mby; rw [sa_ne (by decide)]
          have cb : WFb (f_part (Q.sa 22 n (nI v)) n (nI v)) := hb'.part v hl.2
          have cs : SM S (f_part (Q.sa 22 n (nI v)) n (nI v)) := sm.tr ⟨fun j => (part_ne (by decide)).trans (sa_ne (by decide)), fun j => (part_ne (by decide)).trans (sa_ne (by decide))⟩
          have cp : ∀ q, q < 12 → prt (mby (f_part (Q.sa 22 n (nI v)) n (nI v))) q = if q = n then v else prt (mby S) q := by
            intro q hq
            rw [part_prt hb' n12 v hl.2 q hq, hm']
            by_cases e : q = n
            · rw [if_pos e, if_pos e]
            · rw [if_neg e, if_neg e]; exact hp q hq e
          have c20 : (f_part (Q.sa 22 n (nI v)) n (nI v)).i 20 = nI f1 := by rw [part_i, MS.sa_i]; exact q20
          have Zc := Zq.part n (nI v) (nI v) cb
          have go2 : ∀ S1, PRo (m + 1) (n + 1) (f_part (Q.sa 22 n (nI v)) n (nI v)) = some S1 → ∀ S', PRk (PRo (m + 1) (n + 1)) n cc (v + 1) S1 = some S' → PRk (PRo (m + 1) (n + 1)) n (limN n) 0 (f_putM S) = some S' := fun S1 e1 S' e2 => go S' (by rw [PRk, e1]; exact e2)
          generalize f_part (Q.sa 22 n (nI v)) n (nI v) = D at cb cs cp c20 Zc go2
          have on := onC Z.2.2.1.2 cb cs n12 cp (hw n (Nat.le_refl n) n12) hl.1
          have st := ge_step on
          have hw' : ∀ q, n + 1 ≤ q → q < 12 → prt (mby D) q = wld q := fun q h1 h2 => by rw [cp q h2, if_neg (by omega)]; exact hw q (by omega) h2
          have hv' : ∀ q, q < n + 1 → q < 12 → prt (mby D) q ≠ wld q := fun q h1 h2 => by
            rw [cp q h2]
            by_cases e : q = n
            · rw [if_pos e, e]; exact hl.1
            · rw [if_neg e]; exact hv q (by omega) h2
          obtain ⟨S1, e1, b1, a1, s1, p1, f2, g1, g2, g3⟩ := PR_ok (m + 1) (n + 1) D f1 (by omega) (by omega) cb Zc.2.2.1.1 (ds.sm cs) c20 (by omega) hw' hv'
          refine x_iload C dX6_probe_60 rfl ?_
          refine x_iload C dX6_probe_62 rfl ?_
          refine x_icmp_ge (tgt := 87) C dX6_probe_64 (by decide) (fun q => absurd q (Int32.not_le.mpr (nI_lt (show v < limN n by omega) (by omega)))) (fun _ => ?_)
          refine x_aload_n C dX6_probe_67 rfl ?_
          refine x_iload_n C dX6_probe_68 rfl ?_
          refine x_iconst (v := 1) C dX6_probe_69 (by decide) ?_
          refine x_iadd C dX6_probe_70 ?_
          rw [nI_1]
          refine x_lload_n C dX6_probe_71 rfl ?_
          refine x_iload_n C dX6_probe_72 rfl ?_
          refine x_iload C dX6_probe_73 rfl ?_
          refine k_callS (kc := 0) (ks := 0) (mc' := 0) (ms' := 0) (st := [.int (nI (n + 1)), .ref (a 0)]) C E.cs hW.1 gw_good (zy_withPart hX mk n12) md_X6_withPart wt_X6_withPart wm_X6_228 dX6_probe_75 rfl (by omega) (by omega) rfl (by simp [Value.category]) (fun r => X.opn (fun g2 hg => ?_))
          obtain ⟨rfl, eg⟩ := hg
          rw [eg]
          refine k_callR (kc := 0) (ks := 0) (mc' := 0) (ms' := 0) (st := []) C Y hW E.cs (ih (n + 1) (wpF mk n v) D g f1 (by omega) Zc (ds.sm cs) c20 (by omega) hw' hv' (ABwp Z.2.2.1.2 cb hab n12 hl.2 cp)) rfl md_X6_probe wi_X6_probe ws_X6_probe wm_X6_148 dX6_probe_78 rfl (by omega) (by omega) Zc.x rfl rfl (by decide) (fun r g3 hg => ?_)
          obtain ⟨rfl, S1', e1', Z3⟩ := hg
          obtain rfl : S1 = S1' := Option.some.inj (e1.symm.trans e1')
          refine o_iincE (v := nI (v + 1)) (L' := [some _, some _, some _, none, some _, some _, some _]) C dX6_probe_81 rfl (nI_1 v) (by rw [hn]; decide) rfl ?_
          refine x_goto (tgt := 60) C dX6_probe_84 (by decide) ?_
          exact ih2 (v + 1) S1 _ f2 (by omega) Z3 (cs.tr s1) (fun q h1 h2 => by rw [p1 q h1, cp q h1, if_neg h2]) g1 (by omega) (go2 S1 e1)
      have T55 : X z 0 0 (EQ g) 55 [some (.ref (a 0)), some (.int (nI n)), some (.long mk), none, some (.int (outV (f_putM S))), none, none] [.int (nI (limN n))] := by
        refine o_istoreE (L' := [some _, some _, some _, none, some _, some _, none]) C dX6_probe_55 (by rw [hn]; decide) rfl ?_
        refine x_iconst (v := 0) C dX6_probe_57 (by decide) ?_
        refine o_istoreE (L' := [some _, some _, some _, none, some _, some _, some _]) C dX6_probe_58 (by rw [hn]; decide) rfl ?_
        have hc : cn (geM S n 0) 12 ≤ cntM S 12 := by
          rw [cntM_cn]
          exact cn_mono 12 (fun k _ q => ((geM_iff S n 0 k).mp q).1)
        exact LP (limN n) 0 (f_putM S) g fn (by omega) Zg (putM_sm S) (fun q _ _ => by rw [putM_mby]) p20 (by omega) (fun _ e => e)
      refine x_iload_n C dX6_probe_41 rfl ?_
      refine x_bipush (v := 8) C dX6_probe_42 (by decide) ?_
      refine x_icmp_ge (tgt := 52) C dX6_probe_44 (by decide) (fun q8 => ?_) (fun q8 => ?_)
      · have e8 : limN n = 255 := if_neg (fun q => absurd (nI_lt q (by decide)) (Int32.not_lt.mpr q8))
        rw [e8] at T55
        exact x_sipush (v := nI 255) C dX6_probe_52 (by decide) T55
      · have e8 : limN n = 10 := if_pos ((nI_ltI (by omega) (by decide)).mp (Int32.not_le.mp q8))
        rw [e8] at T55
        refine x_bipush (v := nI 10) C dX6_probe_47 (by decide) ?_
        exact x_goto (tgt := 55) C dX6_probe_49 (by decide) T55
    · have q7 := o1.mp q1
      have e1 : f_one (f_putM S) = f_find (f_putM S) fn := by unfold f_one; rw [if_pos q7, ec]
      have eP : PRo (m + 1 + 1) n S = some (f_find (f_putM S) fn) := by rw [PRo, if_neg (by rw [q7]; decide), if_pos cOK, e1]
      have f12 : fn < 12 := by
        have : cntM S 12 = 1 := (nI_eq (by omega) (by omega)).mp (e7.symm.trans q7)
        omega
      refine x_aload_n C dX6_probe_16 rfl ?_
      refine x_lload_n C dX6_probe_17 rfl ?_
      refine k_callR (kc := 0) (ks := 0) (mc' := 0) (ms' := 0) (st := []) C Y hW E.cs (zy_reset hX Zg (mk := mk) (fun b hb => (hab b hb).trans (putM_bz rfl (by decide)).symm)) rfl md_X6_resetSelected wi_X6_resetSelected ws_X6_resetSelected wm_X6_221 dX6_probe_18 rfl (by omega) (by omega) Zg.x rfl rfl (by decide) (fun r g2 hg => ?_)
      obtain ⟨rfl, Z2⟩ := hg
      refine x_aload_n C dX6_probe_21 rfl ?_
      have p20' : (f_putM (f_putS (f_putM S) 64)).i 20 = nI fn := (f_putM_i _ (by decide) (by decide) (by decide) (by decide) (by decide)).trans ((f_putS_i _ _ (by decide) (by decide) (by decide) (by decide) (by decide)).trans p20)
      refine k_callR (kc := 0) (ks := 0) (mc' := 0) (ms' := 0) (st := []) C Y hW E.cs (zy_addFound hX Z2 p20' f12) rfl md_X6_addFound wi_X6_addFound ws_X6_addFound wm_X6_225 dX6_probe_22 rfl (by omega) (by omega) Z2.x rfl rfl (by decide) (fun r g3 hg => ?_)
      obtain ⟨rfl, Z3⟩ := hg
      exact x_goto (tgt := 87) C dX6_probe_25 (by decide) (T87 _ eP _ _ Z3)
theorem zy_search (hX : Wx w c) (hS : MH S) (Z : ZI c a h9 V α f κ κd ω ωd S h) : T w gw yX6_search cX6_search 1 (some .int) 20 (40 * 20) 0 0 [.ref (a 0)] (EQ h) (fun r g => r = some (.int ((f_search S).i 20)) ∧ ZQ c a h9 V (f_search S) g) := by
  have hW := hX.1
  refine TA.intro hW rfl (by decide +kernel) (Nat.le_of_ble_eq_true rfl) (fun z C Y E hn h1 hA => ?_)
  rw [show h1 = h from hA]
  clear hA
  have Bx := Z.x
  refine x_aload_n C dX6_search_0 rfl ?_
  refine x_iconst (v := 0) C dX6_search_1 (by decide) ?_
  refine e_put C Y kd_X6 5 (by decide) rfl wf_X6_43 dX6_search_2 Bx (Nat.le_of_ble_eq_true rfl) rfl rfl rfl ?_
  have Z1 : ZI c a h9 V α f κ κd ω ωd (f_sr0 S) (hs h (a 0) (.inr (6, [.ref (a 1), .ref (a 3), .ref (a 7), .ref (a 9), .ref (a 10), .int (nI 0)]))) := by
    have nw := fun q hq => Z.nw (q := q) hq
    obtain ⟨z1, z2, z3, z4, z5, z6, z7, z8⟩ := Z
    have d := z1.dif
    obtain ⟨fn, gf, x1, x2, x3, x4, x5⟩ := z7
    have ra : ∀ i, i ≤ 10 → i ≠ 0 → hs h (a 0) (.inr (6, [.ref (a 1), .ref (a 3), .ref (a 7), .ref (a 9), .ref (a 10), .int (nI 0)])) (a i) = h (a i) := fun i hi n0 => hs_ne (d i 0 hi (by omega) n0)
    have sf : ∀ q j, q ≠ 19 → (f_sr0 S).a q j = S.a q j := fun q j hq => by unfold f_sr0; rw [ff_a _ hq]; rfl
    have sfi : ∀ q, q ≠ 20 → q ≠ 0 → (f_sr0 S).i q = S.i q := fun q hq h0 => by unfold f_sr0; rw [ff_i, MS.si_i, if_neg hq, MS.si_i, if_neg h0]
    have sw : ∀ q j n, (f_ff ((S.si 0 0).si 20 0) n).w q j = S.w q j := fun q j n => by
      induction n with
      | zero => rfl
      | succ n ih => rw [f_ff]; exact ih
    refine ⟨z1.putX (by omega), z2.sm (sr0_sm S), ⟨z3.1.sr0, z3.2.sr0⟩, z4.same (fun q hq => hs_ne (nw q (Or.inl hq) 0 (by omega))) (fun q j hq => sf q j (by omega)), ?_, z6.go (ra 1 (by omega) (by omega)) (ra 2 (by omega) (by omega)) (sfi 2 (by decide) (by decide)) (fun j => sf 1 j (by decide)), ⟨0, gf, hs_self .., sr0_20 S, by omega, by rw [ra 10 (by omega) (by omega)]; exact x4, fun k hk => absurd hk (Nat.not_lt_zero k)⟩, z8.go (ra 7 (by omega) (by omega)) (ra 8 (by omega) (by omega)) (fun q hq => hs_ne (nw q (Or.inr hq) 0 (by omega))) ⟨fun q hq => sfi q (by omega) (by omega), fun q j => sw q j 8, fun q j q1 q2 => sf q j (by omega)⟩⟩
    rw [EU, ra 3 (by omega) (by omega), sfi 8 (by decide) (by decide), sfi 9 (by decide) (by decide)]
    exact z5
  have ds : DS (f_sr0 S) := hS.1.ds.sm (sr0_sm S)
  have cl := cntM_le (f_sr0 S) 12
  have hab : AB (-1) (fun b => (f_sr0 S).a 19 b) := by
    refine AB.of (fun b hb => ?_) (fun t ht => ?_)
    · show (f_sr0 S).a 19 b &&& 255 = (f_sr0 S).a 19 b
      unfold f_sr0
      rw [ff_19, if_pos hb]
      decide
    · rw [bl_m1 t ht]
      show true = bt ((f_sr0 S).a 19 (t / 8)) (t % 8)
      unfold f_sr0
      rw [ff_19, if_pos (show t / 8 < 8 by omega), b_255, decide_eq_true (show t % 8 < 8 by omega)]
  refine x_aload_n C dX6_search_5 rfl ?_
  refine x_iconst (v := 0) C dX6_search_6 (by decide) ?_
  refine x_ldc2 C wk_X6_146 dX6_search_7 ?_
  refine k_callR (kc := 0) (ks := 0) (mc' := 0) (ms' := 0) (st := []) C Y hW E.cs (zy_probe hX 12 0 (-1) (f_sr0 S) _ 0 rfl Z1 ds (sr0_20 S) (by omega) (fun q _ hq => sr0_prt S hq) (fun q hq => absurd hq (Nat.not_lt_zero q)) hab) rfl md_X6_probe wi_X6_probe ws_X6_probe wm_X6_148 dX6_search_10 rfl (by decide) (by decide) (hs_self ..) rfl rfl (by decide) (fun r g hg => ?_)
  obtain ⟨rfl, S', eP, Z2⟩ := hg
  have eS : f_search S = S' := search_eq eP
  rw [← eS] at Z2
  refine x_aload_n C dX6_search_13 rfl ?_
  refine e_get C Y kd_X6 5 (by decide) wf_X6_43 dX6_search_14 Z2.x rfl ?_
  exact x_iret C E dX6_search_17 (fun g e => ⟨rfl, hS.search, α, f, κ, κd, ω, ωd, by rw [show g = _ from e]; exact Z2⟩)
end Search
end
section
/-! The decoder against the model: its steps, told whole. -/
section Rd
variable {w : Wd} {c : Nat → ClassId} {h : PH} {p v : Nat} {va sg : Int64} {co fu ta un vn ln : Int32} {lt : Value}
theorem q_addDifeX (hW : Wc w c) (B : h p = some (.inr (3, rdL va co fu sg ta un v vn lt ln))) (i x : Int32) : TC w yX3_addDife cX3_addDife 3 none 0 [.ref p, .int i, .int x] h none (hs h p (.inr (3, rdL va co fu (sg ||| (x &&& 15).toInt64 <<< (((1 : Int32) + 4 * i).toInt64 &&& 63)) (ta ||| ((x >>> ((4 : Int32) &&& 31)) &&& 3) <<< (((2 : Int32) * i) &&& 31)) (un ||| ((x >>> ((6 : Int32) &&& 31)) &&& 1) <<< (i &&& 31)) v vn lt ln))) := by
  refine TC.intro hW rfl (by decide +kernel) (Nat.le_of_ble_eq_true rfl) (fun z C Y E hn => ?_)
  refine x_aload_n C dX3_addDife_0 rfl ?_
  refine x_dup C dX3_addDife_1 rfl ?_
  refine e_get C Y kd_X3 3 (by decide) wf_X3_22 dX3_addDife_2 B rfl ?_
  refine x_iload_n C dX3_addDife_5 rfl ?_
  refine x_bipush (v := 15) C dX3_addDife_6 (by decide) ?_
  refine x_iand C dX3_addDife_8 ?_
  refine x_i2l C dX3_addDife_9 ?_
  refine x_iconst (v := 1) C dX3_addDife_10 (by decide) ?_
  refine x_iconst (v := 4) C dX3_addDife_11 (by decide) ?_
  refine x_iload_n C dX3_addDife_12 rfl ?_
  refine x_imul C dX3_addDife_13 ?_
  refine x_iadd C dX3_addDife_14 ?_
  refine x_lshl C dX3_addDife_15 ?_
  refine x_lor C dX3_addDife_16 ?_
  refine e_put C Y kd_X3 3 (by decide) rfl wf_X3_22 dX3_addDife_17 B (Nat.le_of_ble_eq_true rfl) rfl rfl rfl ?_
  refine x_aload_n C dX3_addDife_20 rfl ?_
  refine x_dup C dX3_addDife_21 rfl ?_
  refine e_get C Y kd_X3 4 (by decide) wf_X3_25 dX3_addDife_22 (hs_self ..) rfl ?_
  refine x_iload_n C dX3_addDife_25 rfl ?_
  refine x_iconst (v := 4) C dX3_addDife_26 (by decide) ?_
  refine x_ishr C dX3_addDife_27 ?_
  refine x_iconst (v := 3) C dX3_addDife_28 (by decide) ?_
  refine x_iand C dX3_addDife_29 ?_
  refine x_iconst (v := 2) C dX3_addDife_30 (by decide) ?_
  refine x_iload_n C dX3_addDife_31 rfl ?_
  refine x_imul C dX3_addDife_32 ?_
  refine x_ishl C dX3_addDife_33 ?_
  refine x_ior C dX3_addDife_34 ?_
  refine e_put C Y kd_X3 4 (by decide) rfl wf_X3_25 dX3_addDife_35 (hs_self ..) (Nat.le_of_ble_eq_true rfl) rfl rfl (hs_hs ..) ?_
  refine x_aload_n C dX3_addDife_38 rfl ?_
  refine x_dup C dX3_addDife_39 rfl ?_
  refine e_get C Y kd_X3 5 (by decide) wf_X3_28 dX3_addDife_40 (hs_self ..) rfl ?_
  refine x_iload_n C dX3_addDife_43 rfl ?_
  refine x_bipush (v := 6) C dX3_addDife_44 (by decide) ?_
  refine x_ishr C dX3_addDife_46 ?_
  refine x_iconst (v := 1) C dX3_addDife_47 (by decide) ?_
  refine x_iand C dX3_addDife_48 ?_
  refine x_iload_n C dX3_addDife_49 rfl ?_
  refine x_ishl C dX3_addDife_50 ?_
  refine x_ior C dX3_addDife_51 ?_
  refine e_put C Y kd_X3 5 (by decide) rfl wf_X3_28 dX3_addDife_52 (hs_self ..) (Nat.le_of_ble_eq_true rfl) rfl rfl (hs_hs ..) ?_
  exact e_vret C E dX3_addDife_55 rfl rfl
theorem q_addVifX (hW : Wc w c) {k : Nat} (k11 : k < 11) (B : h p = some (.inr (3, rdL va co fu sg ta un v (nI k) lt ln))) {f : Nat → Int32} (V : h v = some (.inl (c 0, 11, .inl f))) (n0 : p ≠ v) (x : Int32) : TC w yX3_addVif cX3_addVif 2 none 0 [.ref p, .int x] h none (hs (hs h v (.inl (c 0, 11, .inl (upd f k x)))) p (.inr (3, rdL va co fu sg ta un v (nI (k + 1)) lt ln))) := by
  refine TC.intro hW rfl (by decide +kernel) (Nat.le_of_ble_eq_true rfl) (fun z C Y E hn => ?_)
  obtain ⟨t, ht⟩ := Y.2.1
  refine x_aload_n C dX3_addVif_0 rfl ?_
  refine e_get C Y kd_X3 7 (by decide) wf_X3_35 dX3_addVif_1 B rfl ?_
  refine x_aload_n C dX3_addVif_4 rfl ?_
  refine e_get C Y kd_X3 6 (by decide) wf_X3_31 dX3_addVif_5 B rfl ?_
  refine x_alen C ht dX3_addVif_8 (v := 11) (fun q e => by rw [e]; exact V) rfl ?_
  refine x_icmp_ge (tgt := 32) C dX3_addVif_9 (by decide) (fun c9 => absurd c9 (Int32.not_le.mpr (nI_lt (b := 11) k11 (by decide)))) (fun c9 => ?_)
  have B2 : ∀ e, hs h v e p = some (.inr (3, rdL va co fu sg ta un v (nI k) lt ln)) := fun e => by rw [hs_ne n0]; exact B
  refine x_aload_n C dX3_addVif_12 rfl ?_
  refine e_get C Y kd_X3 6 (by decide) wf_X3_31 dX3_addVif_13 B rfl ?_
  refine x_aload_n C dX3_addVif_16 rfl ?_
  refine e_get C Y kd_X3 7 (by decide) wf_X3_35 dX3_addVif_17 B rfl ?_
  refine x_iload_n C dX3_addVif_20 rfl ?_
  refine e_ist C Y dX3_addVif_21 V (vp_in_nI k11 (by decide)) rfl ?_
  rw [nI_clamp (by omega)]
  refine x_aload_n C dX3_addVif_22 rfl ?_
  refine x_dup C dX3_addVif_23 rfl ?_
  refine e_get C Y kd_X3 7 (by decide) wf_X3_35 dX3_addVif_24 (B2 _) rfl ?_
  refine x_iconst (v := 1) C dX3_addVif_27 (by decide) ?_
  refine x_iadd C dX3_addVif_28 ?_
  rw [nI_1]
  refine e_put C Y kd_X3 7 (by decide) rfl wf_X3_35 dX3_addVif_29 (B2 _) (Nat.le_of_ble_eq_true rfl) rfl rfl rfl ?_
  exact e_vret C E dX3_addVif_32 rfl rfl
end Rd
/-- the places of a record's draft are apart; the frame lies in a row -/
def FX (c : Nat → ClassId) (de p v b ba : Nat) (h0 : PH) (fb : Nat → Int32) (nb : Nat) : Prop := (de ≠ p ∧ de ≠ v ∧ p ≠ v) ∧ (b ≠ de ∧ b ≠ p ∧ b ≠ v) ∧ (ba ≠ de ∧ ba ≠ p ∧ ba ≠ v) ∧ RW c h0 b ba fb nb
/-- the draft, at p (its VIFs at v), is the model's record r, so far -/
def DX (c : Nat → ClassId) (li de p v b : Nat) (h0 : PH) (r : Nat) (lt : Value) (S : MS) (h : PH) : Prop :=
  (∃ fa pl : Int32, h de = some (.inr (1, [.ref li, .ref b, .int (S.i 40), .int (S.i 39), .int fa, .int pl, .int (S.i 37)]))) ∧ h p = some (.inr (3, rdL 0 (S.a 25 r) (S.a 26 r) (S.w 27 r) (S.a 28 r) (S.a 29 r) v (S.a 30 r) lt 0)) ∧
  (∃ fv : Nat → Int32, h v = some (.inl (c 0, 11, .inl fv)) ∧ ∀ j, j < (S.a 30 r).toNatClampNeg → fv j = S.a 31 (11 * r + j)) ∧ ∀ q, q ≠ de → q ≠ p → q ≠ v → h q = h0 q
/-- the draft, somehow -/
def DFx (c : Nat → ClassId) (li de p v b : Nat) (h0 : PH) (lt : Value) (h : PH) : Prop :=
  (∃ at_ en fa pl mo : Int32, h de = some (.inr (1, [.ref li, .ref b, .int at_, .int en, .int fa, .int pl, .int mo])) ∧ (mo = 0 ∨ mo = 1)) ∧ (∃ (va sg : Int64) (co fu ta un ln : Int32) (vn : Nat), vn ≤ 11 ∧ h p = some (.inr (3, rdL va co fu sg ta un v (nI vn) lt ln))) ∧
  (∃ fv : Nat → Int32, h v = some (.inl (c 0, 11, .inl fv))) ∧ ∀ q, q ≠ de → q ≠ p → q ≠ v → h q = h0 q
/-- the frame's bytes are the model's data; where it stands -/
def DA (fb : Nat → Int32) (nb : Nat) (S : MS) (i m r : Nat) : Prop := (∀ j, j < nb → fb j = S.a 38 j) ∧ (∀ j, byt (S.a 38 j)) ∧ S.i 40 = nI i ∧ S.i 39 = nI m ∧ i ≤ m ∧ m ≤ 256 ∧ m ≤ nb ∧ S.i 41 = 0 ∧ (S.i 37 = 0 ∨ S.i 37 = 1) ∧ ∃ k, k ≤ 11 ∧ S.a 30 r = nI k
section Stop
variable {S : MS} {r : Nat}
theorem dl_stop (h : ¬ S.i 41 = 0) (b : Int32) (i : Nat) : ∀ t, f_dl r t S b i = S
  | 0 => rfl
  | t + 1 => by rw [f_dl, if_neg (fun q => h q.2)]
theorem vl_stop (h : ¬ S.i 41 = 0) (b : Int32) (i : Nat) : ∀ t, f_vl r t S b i = S
  | 0 => rfl
  | t + 1 => by rw [f_vl, if_neg (fun q => h q.2)]
theorem dl_end {b : Int32} (h : ¬ 127 < b) (i : Nat) : ∀ t, f_dl r t S b i = S
  | 0 => rfl
  | t + 1 => by rw [f_dl, if_neg (fun q => h q.1)]
theorem vl_end {b : Int32} (h : ¬ 127 < b) (i : Nat) : ∀ t, f_vl r t S b i = S
  | 0 => rfl
  | t + 1 => by rw [f_vl, if_neg (fun q => h q.1)]
theorem bl_no {x y : Int32} (h : S.i 41 = 0) (hx : ¬ x = 0) : ¬ (f_bl S x y).i 41 = 0 := by rw [f_bl_41 h]; exact hx
end Stop
theorem exD_st {f : Nat → Int32} {rem j : Nat} {la : Int32} (q : ¬ la &&& 128 = 0) : exD f (rem + 1) la j = exD f rem (f j) (j + 1) := by rw [exD, if_neg q]
theorem exD_no {f : Nat → Int32} {rem j : Nat} {la : Int32} (q : la &&& 128 = 0) : exD f (rem + 1) la j = j := by rw [exD, if_pos q]
theorem byt_128 {x : Int32} (h : byt x) : x &&& 128 = 0 ↔ ¬ 127 < x := by
  obtain ⟨b, h1, rfl⟩ := h
  have key : ∀ b, b < 256 → (nI b &&& 128 = 0 ↔ ¬ (127 : Int32) < nI b) := by decide +kernel
  exact key b h1
theorem byt_15l {x : Int32} : (x &&& 15).toInt64 = x.toInt64 &&& 15 := bl_ext (fun i hi => by
  rw [bl_i2l _ hi, bl_and, bl_15, bl_i2l _ hi, b_and, b_and, b_15, b_15]
  by_cases q : i < 32
  · rw [if_pos q, if_pos q]
  · rw [if_neg q, if_neg q, decide_eq_false (show ¬ i < 4 by omega), decide_eq_false (show ¬ 31 < 4 by omega)])
section Dec
variable {w : Wd} {c : Nat → ClassId} {h h0 : PH} {li de p v b ba nb r : Nat} {fb : Nat → Int32} {lt : Value} {S : MS}
theorem FX.row (F : FX c de p v b ba h0 fb nb) (e : ∀ q, q ≠ de → q ≠ p → q ≠ v → h q = h0 q) : RW c h b ba fb nb := by
  obtain ⟨-, ⟨b1, b2, b3⟩, ⟨a1, a2, a3⟩, R⟩ := F
  exact ⟨R.1, by rw [e b b1 b2 b3]; exact R.2.1, by rw [e ba a1 a2 a3]; exact R.2.2.1, R.2.2.2⟩
theorem DX.df (D : DX c li de p v b h0 r lt S h) {i m : Nat} (A : DA fb nb S i m r) : DFx c li de p v b h0 lt h := by
  obtain ⟨⟨fa, pl, d1⟩, d2, ⟨fv, d3, -⟩, d4⟩ := D
  obtain ⟨-, -, -, -, -, -, -, -, mo, k, k1, k2⟩ := A
  rw [k2] at d2
  exact ⟨⟨_, _, fa, pl, _, d1, mo⟩, ⟨_, _, _, _, _, _, _, k, k1, d2⟩, ⟨fv, d3⟩, d4⟩
theorem DFx.setD (D : DFx c li de p v b h0 lt h) (F : FX c de p v b ba h0 fb nb) (at_ en fa pl mo : Int32) (hm : mo = 0 ∨ mo = 1) : DFx c li de p v b h0 lt (hs h de (.inr (1, [.ref li, .ref b, .int at_, .int en, .int fa, .int pl, .int mo]))) := by
  obtain ⟨-, ⟨va, sg, co, fu, ta, un, ln, vn, v1, d2⟩, ⟨fv, d3⟩, d4⟩ := D
  obtain ⟨⟨n1, n2, n3⟩, -⟩ := F
  exact ⟨⟨_, _, _, _, _, hs_self .., hm⟩, ⟨va, sg, co, fu, ta, un, ln, vn, v1, by rw [hs_ne (Ne.symm n1)]; exact d2⟩, ⟨fv, by rw [hs_ne (Ne.symm n2)]; exact d3⟩, fun q q1 q2 q3 => by rw [hs_ne q1]; exact d4 q q1 q2 q3⟩
theorem d_difesX (hW : Wc w c) (F : FX c de p v b ba h0 fb nb) (D : DX c li de p v b h0 r lt S h) {i m : Nat} (A : DA fb nb S i m r) {x : Int32} (hx : byt x) : T w gw yX1_readDifes cX1_readDifes 5 (some .boolean) 2 (40 * 2) 0 0 [.ref de, .ref p, .int x] (EQ h)
    (fun q g => (q = some (.int 1) ∧ DA fb nb (f_dl r 12 S x 0) (exD fb 11 x i) m r ∧ (f_dl r 12 S x 0).a 30 r = S.a 30 r ∧ DX c li de p v b h0 r lt (f_dl r 12 S x 0) g) ∨ (q = some (.int 0) ∧ ¬ (f_dl r 12 S x 0).i 41 = 0 ∧ DFx c li de p v b h0 lt g)) := by
  refine TA.intro hW rfl (by decide +kernel) (Nat.le_of_ble_eq_true rfl) (fun z C Y E hn h1 hA => ?_)
  rw [show h1 = h from hA]
  clear hA
  generalize hFD : f_dl r 12 S x 0 = FD at E
  have T65 : ∀ (h : PH) (Q : MS) (j : Nat) (l3 l4 : Option Value), FD = Q → exD fb 11 x i = j → DA fb nb Q j m r → Q.a 30 r = S.a 30 r → DX c li de p v b h0 r lt Q h → X z 0 0 (EQ h) 65 [some (.ref de), some (.ref p), some (.int x), l3, l4] [] := fun h Q j l3 l4 e1 hj A e30 D => by
    refine x_iconst (v := 1) C dX1_readDifes_65 (by decide) ?_
    exact x_zret C E dX1_readDifes_66 (by decide) (fun g e => by rw [show g = _ from e]; exact Or.inl ⟨rfl, by rw [e1, hj]; exact A, by rw [e1]; exact e30, by rw [e1]; exact D⟩)
  have LP : ∀ (rem k j : Nat) (la : Int32) (Q : MS) (h : PH), k + rem = 10 → byt la → FD = f_dl r (rem + 2) Q la k → exD fb 11 x i = exD fb (rem + 1) la j → DA fb nb Q j m r → Q.a 30 r = S.a 30 r → DX c li de p v b h0 r lt Q h → X z 0 0 (EQ h) 5 [some (.ref de), some (.ref p), some (.int x), some (.int la), some (.int (nI k))] [] := by
    intro rem
    induction rem with
    | zero =>
      intro k j la Q h hk bla e0 hj A e30 D
      obtain rfl : k = 10 := by omega
      obtain ⟨⟨fa, pl, B⟩, d2, d3, d4⟩ := id D
      obtain ⟨A1, A2, A3, A4, A5, A6, A7, A8, A9, A10⟩ := id A
      have dw := D.df A
      refine x_iload C dX1_readDifes_5 rfl ?_
      refine x_bipush (v := 10) C dX1_readDifes_7 (by decide) ?_
      refine x_icmp_gt (tgt := 65) C dX1_readDifes_9 (by decide) (fun q => absurd q (by decide)) (fun _ => ?_)
      refine x_iload_n C dX1_readDifes_12 rfl ?_
      refine x_sipush (v := 128) C dX1_readDifes_13 (by decide) ?_
      refine x_iand C dX1_readDifes_16 ?_
      refine x_if_eq (tgt := 65) C dX1_readDifes_17 (by decide) (fun q => T65 h Q j _ _ (by rw [e0]; exact dl_end ((byt_128 bla).mp q) _ _) (hj.trans (exD_no q)) A e30 D) (fun q17 => ?_)
      have g17 : 127 < la := Decidable.byContradiction fun q => q17 ((byt_128 bla).mpr q)
      have fl : ¬ (FD).i 41 = 0 := by
        rw [e0, f_dl, if_pos ⟨g17, A8⟩]
        have n1 : ¬ (f_d2 (f_nx Q).2 10).i 41 = 0 := by
          unfold f_d2
          by_cases q : (f_nx Q).2.i 41 = 0
          · rw [if_pos ⟨rfl, q⟩]; exact bl_no q (by decide)
          · rw [if_neg (fun y => q y.2)]; exact q
        rw [show f_d3 (f_d2 (f_nx Q).2 10) r (f_nx Q).1 10 = f_d2 (f_nx Q).2 10 from if_neg (by decide), dl_stop n1]
        exact n1
      refine x_aload_n C dX1_readDifes_20 rfl ?_
      refine x_iconst (v := 1) C dX1_readDifes_21 (by decide) ?_
      refine u_callV (st := []) C Y hW E.cs (d_areThere hW B (nI 1)) md_X1_areThere wi_X1_areThere ws_X1_areThere wm_X1_117 dX1_readDifes_22 rfl (by decide) (by decide) B rfl rfl (by decide) ?_
      by_cases q22 : Q.i 40 + nI 1 ≤ Q.i 39
      · rw [if_pos q22, bI_t q22]
        refine x_if_ne (tgt := 30) C dX1_readDifes_25 (by decide) (fun _ => ?_) (fun q => absurd q (by decide))
        refine x_iload C dX1_readDifes_30 rfl ?_
        refine x_bipush (v := 10) C dX1_readDifes_32 (by decide) ?_
        refine x_icmp_ne (tgt := 47) C dX1_readDifes_34 (by decide) (fun q => absurd rfl q) (fun _ => ?_)
        refine x_aload_n C dX1_readDifes_37 rfl ?_
        refine x_iconst (v := 5) C dX1_readDifes_38 (by decide) ?_
        refine x_aload_n C dX1_readDifes_39 rfl ?_
        refine e_get C Y kd_X1 2 (by decide) wf_X1_9 dX1_readDifes_40 B rfl ?_
        refine u_callV (st := []) C Y hW E.cs (d_wrong hW B 5 (Q.i 40)) md_X1_wrong wi_X1_wrong ws_X1_wrong wm_X1_67 dX1_readDifes_43 rfl (by decide) (by decide) B rfl rfl (by decide) ?_
        exact x_zret C E dX1_readDifes_46 (by decide) (fun q e => by rw [show q = _ from e]; exact Or.inr ⟨rfl, fl, dw.setD F _ _ _ _ _ A9⟩)
      · rw [if_neg q22, bI_f q22]
        refine x_if_ne (tgt := 30) C dX1_readDifes_25 (by decide) (fun q => absurd rfl q) (fun _ => ?_)
        refine x_iconst (v := 0) C dX1_readDifes_28 (by decide) ?_
        exact x_zret C E dX1_readDifes_29 (by decide) (fun q e => by rw [show q = _ from e]; exact Or.inr ⟨rfl, fl, dw.setD F _ _ _ _ _ A9⟩)
    | succ rem ih =>
      intro k j la Q h hk bla e0 hj A e30 D
      obtain ⟨⟨fa, pl, B⟩, d2, ⟨fv, d3, d3'⟩, d4⟩ := id D
      obtain ⟨A1, A2, A3, A4, A5, A6, A7, A8, A9, A10⟩ := id A
      have dw := D.df A
      refine x_iload C dX1_readDifes_5 rfl ?_
      refine x_bipush (v := 10) C dX1_readDifes_7 (by decide) ?_
      refine x_icmp_gt (tgt := 65) C dX1_readDifes_9 (by decide) (fun q => absurd q (Int32.not_lt.mpr (nI_le (show k ≤ 10 by omega) (by decide)))) (fun _ => ?_)
      refine x_iload_n C dX1_readDifes_12 rfl ?_
      refine x_sipush (v := 128) C dX1_readDifes_13 (by decide) ?_
      refine x_iand C dX1_readDifes_16 ?_
      refine x_if_eq (tgt := 65) C dX1_readDifes_17 (by decide) (fun q => T65 h Q j _ _ (by rw [e0]; exact dl_end ((byt_128 bla).mp q) _ _) (hj.trans (exD_no q)) A e30 D) (fun q17 => ?_)
      have g17 : 127 < la := Decidable.byContradiction fun q => q17 ((byt_128 bla).mpr q)
      rw [f_dl, if_pos ⟨g17, A8⟩] at e0
      obtain ⟨fw, fat, fen⟩ := WFp.of A3 A4 A5 (by omega)
      have e1 : Q.i 40 + nI 1 ≤ Q.i 39 ↔ j + 1 ≤ m := by rw [A3, A4, nI_add]; exact nI_leI (by omega) (by omega)
      refine x_aload_n C dX1_readDifes_20 rfl ?_
      refine x_iconst (v := 1) C dX1_readDifes_21 (by decide) ?_
      refine u_callV (st := []) C Y hW E.cs (d_areThere hW B (nI 1)) md_X1_areThere wi_X1_areThere ws_X1_areThere wm_X1_117 dX1_readDifes_22 rfl (by decide) (by decide) B rfl rfl (by decide) ?_
      by_cases q22 : Q.i 40 + nI 1 ≤ Q.i 39
      · have hj1 := e1.mp q22
        have nx : f_nx Q = (Q.a 38 j, Q.si 40 (nI (j + 1))) := by unfold f_nx; rw [fat, fen, if_pos (by omega)]
        rw [nx] at e0
        have e2 : f_d3 (f_d2 (Q.si 40 (nI (j + 1))) k) r (Q.a 38 j) k = f_df1 (Q.si 40 (nI (j + 1))) r (Q.a 38 j) k := by
          rw [show f_d2 (Q.si 40 (nI (j + 1))) k = Q.si 40 (nI (j + 1)) from if_neg (fun q => by have := q.1; omega)]
          exact if_pos (by omega)
        rw [e2] at e0
        rw [if_pos q22, bI_t q22]
        refine x_if_ne (tgt := 30) C dX1_readDifes_25 (by decide) (fun _ => ?_) (fun q => absurd q (by decide))
        refine x_iload C dX1_readDifes_30 rfl ?_
        refine x_bipush (v := 10) C dX1_readDifes_32 (by decide) ?_
        refine x_icmp_ne (tgt := 47) C dX1_readDifes_34 (by decide) (fun _ => ?_) (fun q => absurd ((nI_eq (b := 10) (by omega) (by decide)).mp q) (by omega))
        have Rh := F.row d4
        have tk := d_take hW B Rh
        rw [A3, rAt_in (show j < nb by omega) Rh.2.2.2, A1 j (by omega), nI_1] at tk
        refine x_aload_n C dX1_readDifes_47 rfl ?_
        refine u_callV (st := []) C Y hW E.cs tk md_X1_take wi_X1_take ws_X1_take wm_X1_85 dX1_readDifes_48 rfl (by decide) (by decide) B rfl rfl (by decide) ?_
        refine o_istore_nE (L' := [some _, some _, some _, some _, some _]) C dX1_readDifes_51 (by rw [hn]; decide) rfl ?_
        refine x_aload_n C dX1_readDifes_52 rfl ?_
        refine x_iload C dX1_readDifes_53 rfl ?_
        refine x_iload_n C dX1_readDifes_55 rfl ?_
        obtain ⟨⟨n1, n2, n3⟩, -⟩ := id F
        have B2 : hs h de (.inr (1, [.ref li, .ref b, .int (nI (j + 1)), .int (Q.i 39), .int fa, .int pl, .int (Q.i 37)])) p = _ := (hs_ne (Ne.symm n1)).trans d2
        refine u_callV (st := []) C Y hW E.cs (q_addDifeX hW B2 (nI k) (Q.a 38 j)) md_X3_addDife wi_X3_addDife ws_X3_addDife wm_X1_120 dX1_readDifes_56 rfl (by decide) (by decide) B2 rfl rfl (by decide) ?_
        refine o_iincE (v := nI (k + 1)) (L' := [some _, some _, some _, some _, some _]) C dX1_readDifes_59 rfl (nI_1 k) (by rw [hn]; decide) rfl ?_
        refine x_goto (tgt := 5) C dX1_readDifes_62 (by decide) ?_
        have qa : ∀ q t, q ≠ 28 → q ≠ 29 → (f_df1 (Q.si 40 (nI (j + 1))) r (Q.a 38 j) k).a q t = Q.a q t := fun q t q1 q2 => by unfold f_df1; rw [sa_ne q2, sa_ne q1]; rfl
        have q28 : (f_df1 (Q.si 40 (nI (j + 1))) r (Q.a 38 j) k).a 28 r = Q.a 28 r ||| ((Q.a 38 j >>> ((4 : Int32) &&& 31)) &&& 3) <<< (((2 : Int32) * nI k) &&& 31) := by
          unfold f_df1
          rw [sa_ne (by decide), MS.sa_a, if_pos ⟨rfl, rfl⟩]
          rfl
        have q29 : (f_df1 (Q.si 40 (nI (j + 1))) r (Q.a 38 j) k).a 29 r = Q.a 29 r ||| ((Q.a 38 j >>> ((6 : Int32) &&& 31)) &&& 1) <<< (nI k &&& 31) := by
          unfold f_df1
          rw [MS.sa_a, if_pos ⟨rfl, rfl⟩]
          rfl
        have q27 : (f_df1 (Q.si 40 (nI (j + 1))) r (Q.a 38 j) k).w 27 r = Q.w 27 r ||| (Q.a 38 j &&& 15).toInt64 <<< (((1 : Int32) + 4 * nI k).toInt64 &&& 63) := by
          unfold f_df1
          rw [MS.sa_w, MS.sa_w, MS.sw_w, if_pos ⟨rfl, rfl⟩, byt_15l]
          rfl
        have qi : ∀ q, (f_df1 (Q.si 40 (nI (j + 1))) r (Q.a 38 j) k).i q = if q = 40 then nI (j + 1) else Q.i q := fun q => by unfold f_df1; rw [MS.sa_i, MS.sa_i, MS.sw_i, MS.si_i]
        refine ih (k + 1) (j + 1) _ (f_df1 (Q.si 40 (nI (j + 1))) r (Q.a 38 j) k) _ (by omega) (A2 j) e0 (by rw [← A1 j (by omega)]; exact hj.trans (exD_st q17)) ⟨fun t ht => by rw [qa 38 t (by decide) (by decide)]; exact A1 t ht, fun t => by rw [qa 38 t (by decide) (by decide)]; exact A2 t, by rw [qi]; rfl, by rw [qi]; exact A4, hj1, A6, A7, by rw [qi]; exact A8, by rw [qi]; exact A9, by rw [qa 30 r (by decide) (by decide)]; exact A10⟩ (by rw [qa 30 r (by decide) (by decide)]; exact e30) ⟨⟨fa, pl, ?_⟩, ?_, ⟨fv, ?_, fun t ht => ?_⟩, fun q q1 q2 q3 => ?_⟩
        · rw [hs_ne n1, hs_self, qi, qi, qi]
          rfl
        · rw [hs_self, qa 25 r (by decide) (by decide), qa 26 r (by decide) (by decide), q27, q28, q29, qa 30 r (by decide) (by decide)]
        · rw [hs_ne (Ne.symm n3), hs_ne (Ne.symm n2)]
          exact d3
        · rw [qa 30 r (by decide) (by decide)] at ht
          rw [qa 31 _ (by decide) (by decide)]
          exact d3' t ht
        · rw [hs_ne q2, hs_ne q1]
          exact d4 q q1 q2 q3
      · have hj1 : ¬ j + 1 ≤ m := fun q => q22 (e1.mpr q)
        have nx : f_nx Q = (0, f_bl Q 4 (nI m)) := by unfold f_nx; rw [fat, fen, if_neg (by omega)]
        rw [nx] at e0
        have fl : ¬ (FD).i 41 = 0 := by
          rw [e0]
          have n0 : ¬ (f_bl Q 4 (nI m)).i 41 = 0 := bl_no A8 (by decide)
          have n1 : f_d2 (f_bl Q 4 (nI m)) k = f_bl Q 4 (nI m) := if_neg (fun y => n0 y.2)
          rw [n1]
          have n2 : ¬ (f_d3 (f_bl Q 4 (nI m)) r 0 k).i 41 = 0 := by
            unfold f_d3
            split
            · exact n0
            · exact n0
          rw [dl_stop n2]
          exact n2
        rw [if_neg q22, bI_f q22]
        refine x_if_ne (tgt := 30) C dX1_readDifes_25 (by decide) (fun q => absurd rfl q) (fun _ => ?_)
        refine x_iconst (v := 0) C dX1_readDifes_28 (by decide) ?_
        exact x_zret C E dX1_readDifes_29 (by decide) (fun q e => by rw [show q = _ from e]; exact Or.inr ⟨rfl, fl, dw.setD F _ _ _ _ _ A9⟩)
  refine x_iload_n C dX1_readDifes_0 rfl ?_
  refine o_istore_nE (L' := [some _, some _, some _, some _, none]) C dX1_readDifes_1 (by rw [hn]; decide) rfl ?_
  refine x_iconst (v := 0) C dX1_readDifes_2 (by decide) ?_
  refine o_istoreE (L' := [some _, some _, some _, some _, some _]) C dX1_readDifes_3 (by rw [hn]; decide) rfl ?_
  exact LP 10 0 i x S h rfl hx hFD.symm rfl A rfl D
end Dec
end
section
/-! The decoder against the model: VIFs, numbers. -/
section Dec
variable {w : Wd} {c : Nat → ClassId} {h h0 : PH} {li de p v b ba nb r : Nat} {fb : Nat → Int32} {lt : Value} {S : MS}
theorem d_vifsX (hW : Wc w c) (F : FX c de p v b ba h0 fb nb) (D : DX c li de p v b h0 r lt S h) {i m : Nat} (A : DA fb nb S i m r) (h30 : S.a 30 r = nI 0) : T w gw yX1_readVifs cX1_readVifs 4 (some .boolean) 2 (40 * 2) 0 0 [.ref de, .ref p] (EQ h)
    (fun q g => (q = some (.int 1) ∧ DA fb nb (f_vl r 13 S 128 0) (exD fb 12 128 i) m r ∧ DX c li de p v b h0 r lt (f_vl r 13 S 128 0) g) ∨ (q = some (.int 0) ∧ ¬ (f_vl r 13 S 128 0).i 41 = 0 ∧ DFx c li de p v b h0 lt g)) := by
  refine TA.intro hW rfl (by decide +kernel) (Nat.le_of_ble_eq_true rfl) (fun z C Y E hn h1 hA => ?_)
  rw [show h1 = h from hA]
  clear hA
  generalize hFD : f_vl r 13 S 128 0 = FD at E
  have T63 : ∀ (h : PH) (Q : MS) (j : Nat) (l2 l3 : Option Value), FD = Q → exD fb 12 128 i = j → DA fb nb Q j m r → DX c li de p v b h0 r lt Q h → X z 0 0 (EQ h) 63 [some (.ref de), some (.ref p), l2, l3] [] := fun h Q j l2 l3 e1 hj A D => by
    refine x_iconst (v := 1) C dX1_readVifs_63 (by decide) ?_
    exact x_zret C E dX1_readVifs_64 (by decide) (fun g e => by rw [show g = _ from e]; exact Or.inl ⟨rfl, by rw [e1, hj]; exact A, by rw [e1]; exact D⟩)
  have LP : ∀ (rem k j : Nat) (la : Int32) (Q : MS) (h : PH), k + rem = 11 → byt la → FD = f_vl r (rem + 2) Q la k → exD fb 12 128 i = exD fb (rem + 1) la j → Q.a 30 r = nI k → DA fb nb Q j m r → DX c li de p v b h0 r lt Q h → X z 0 0 (EQ h) 6 [some (.ref de), some (.ref p), some (.int la), some (.int (nI k))] [] := by
    intro rem
    induction rem with
    | zero =>
      intro k j la Q h hk bla e0 hj q30 A D
      obtain rfl : k = 11 := by omega
      obtain ⟨⟨fa, pl, B⟩, d2, d3, d4⟩ := id D
      obtain ⟨A1, A2, A3, A4, A5, A6, A7, A8, A9, A10⟩ := id A
      have dw := D.df A
      refine x_iload_n C dX1_readVifs_6 rfl ?_
      refine x_bipush (v := 11) C dX1_readVifs_7 (by decide) ?_
      refine x_icmp_gt (tgt := 63) C dX1_readVifs_9 (by decide) (fun q => absurd q (by decide)) (fun _ => ?_)
      refine x_iload_n C dX1_readVifs_12 rfl ?_
      refine x_sipush (v := 128) C dX1_readVifs_13 (by decide) ?_
      refine x_iand C dX1_readVifs_16 ?_
      refine x_if_eq (tgt := 63) C dX1_readVifs_17 (by decide) (fun q => T63 h Q j _ _ (by rw [e0]; exact vl_end ((byt_128 bla).mp q) _ _) (hj.trans (exD_no q)) A D) (fun q17 => ?_)
      have g17 : 127 < la := Decidable.byContradiction fun q => q17 ((byt_128 bla).mpr q)
      have fl : ¬ FD.i 41 = 0 := by
        rw [e0, f_vl, if_pos ⟨g17, A8⟩]
        have n1 : ¬ (f_v2 (f_nx Q).2 11).i 41 = 0 := by
          unfold f_v2
          by_cases q : (f_nx Q).2.i 41 = 0
          · rw [if_pos ⟨rfl, q⟩]; exact bl_no q (by decide)
          · rw [if_neg (fun y => q y.2)]; exact q
        rw [show f_v4 (f_v2 (f_nx Q).2 11) r (f_nx Q).1 11 = f_v2 (f_nx Q).2 11 from if_neg (fun y => n1 y.2), vl_stop n1]
        exact n1
      refine x_aload_n C dX1_readVifs_20 rfl ?_
      refine x_iconst (v := 1) C dX1_readVifs_21 (by decide) ?_
      refine u_callV (st := []) C Y hW E.cs (d_areThere hW B (nI 1)) md_X1_areThere wi_X1_areThere ws_X1_areThere wm_X1_117 dX1_readVifs_22 rfl (by decide) (by decide) B rfl rfl (by decide) ?_
      by_cases q22 : Q.i 40 + nI 1 ≤ Q.i 39
      · rw [if_pos q22, bI_t q22]
        refine x_if_ne (tgt := 30) C dX1_readVifs_25 (by decide) (fun _ => ?_) (fun q => absurd q (by decide))
        refine x_iload_n C dX1_readVifs_30 rfl ?_
        refine x_bipush (v := 10) C dX1_readVifs_31 (by decide) ?_
        refine x_icmp_le (tgt := 47) C dX1_readVifs_33 (by decide) (fun q => absurd q (by decide)) (fun _ => ?_)
        refine x_aload_n C dX1_readVifs_36 rfl ?_
        refine x_bipush (v := 6) C dX1_readVifs_37 (by decide) ?_
        refine x_aload_n C dX1_readVifs_39 rfl ?_
        refine e_get C Y kd_X1 2 (by decide) wf_X1_9 dX1_readVifs_40 B rfl ?_
        refine u_callV (st := []) C Y hW E.cs (d_wrong hW B 6 (Q.i 40)) md_X1_wrong wi_X1_wrong ws_X1_wrong wm_X1_67 dX1_readVifs_43 rfl (by decide) (by decide) B rfl rfl (by decide) ?_
        exact x_zret C E dX1_readVifs_46 (by decide) (fun q e => by rw [show q = _ from e]; exact Or.inr ⟨rfl, fl, dw.setD F _ _ _ _ _ A9⟩)
      · rw [if_neg q22, bI_f q22]
        refine x_if_ne (tgt := 30) C dX1_readVifs_25 (by decide) (fun q => absurd rfl q) (fun _ => ?_)
        refine x_iconst (v := 0) C dX1_readVifs_28 (by decide) ?_
        exact x_zret C E dX1_readVifs_29 (by decide) (fun q e => by rw [show q = _ from e]; exact Or.inr ⟨rfl, fl, dw.setD F _ _ _ _ _ A9⟩)
    | succ rem ih =>
      intro k j la Q h hk bla e0 hj q30 A D
      obtain ⟨⟨fa, pl, B⟩, d2, ⟨fv, d3, d3'⟩, d4⟩ := id D
      obtain ⟨A1, A2, A3, A4, A5, A6, A7, A8, A9, A10⟩ := id A
      have dw := D.df A
      refine x_iload_n C dX1_readVifs_6 rfl ?_
      refine x_bipush (v := 11) C dX1_readVifs_7 (by decide) ?_
      refine x_icmp_gt (tgt := 63) C dX1_readVifs_9 (by decide) (fun q => absurd q (Int32.not_lt.mpr (nI_le (show k ≤ 11 by omega) (by decide)))) (fun _ => ?_)
      refine x_iload_n C dX1_readVifs_12 rfl ?_
      refine x_sipush (v := 128) C dX1_readVifs_13 (by decide) ?_
      refine x_iand C dX1_readVifs_16 ?_
      refine x_if_eq (tgt := 63) C dX1_readVifs_17 (by decide) (fun q => ?_) (fun q17 => ?_)
      · exact T63 h Q j _ _ (by rw [e0]; exact vl_end ((byt_128 bla).mp q) _ _) (hj.trans (exD_no q)) A D
      have g17 : 127 < la := Decidable.byContradiction fun q => q17 ((byt_128 bla).mpr q)
      rw [f_vl, if_pos ⟨g17, A8⟩] at e0
      obtain ⟨fw, fat, fen⟩ := WFp.of A3 A4 A5 (by omega)
      have e1 : Q.i 40 + nI 1 ≤ Q.i 39 ↔ j + 1 ≤ m := by rw [A3, A4, nI_add]; exact nI_leI (by omega) (by omega)
      refine x_aload_n C dX1_readVifs_20 rfl ?_
      refine x_iconst (v := 1) C dX1_readVifs_21 (by decide) ?_
      refine u_callV (st := []) C Y hW E.cs (d_areThere hW B (nI 1)) md_X1_areThere wi_X1_areThere ws_X1_areThere wm_X1_117 dX1_readVifs_22 rfl (by decide) (by decide) B rfl rfl (by decide) ?_
      by_cases q22 : Q.i 40 + nI 1 ≤ Q.i 39
      · have hj1 := e1.mp q22
        have nx : f_nx Q = (Q.a 38 j, Q.si 40 (nI (j + 1))) := by unfold f_nx; rw [fat, fen, if_pos (by omega)]
        rw [nx] at e0
        have e2 : f_v4 (f_v2 (Q.si 40 (nI (j + 1))) k) r (Q.a 38 j) k = ((Q.si 40 (nI (j + 1))).sa 31 (11 * r + k) (Q.a 38 j)).sa 30 r (Q.a 30 r + 1) := by
          rw [show f_v2 (Q.si 40 (nI (j + 1))) k = Q.si 40 (nI (j + 1)) from if_neg (fun q => by have := q.1; omega)]
          exact if_pos ⟨by omega, A8⟩
        rw [e2] at e0
        rw [if_pos q22, bI_t q22]
        refine x_if_ne (tgt := 30) C dX1_readVifs_25 (by decide) (fun _ => ?_) (fun q => absurd q (by decide))
        refine x_iload_n C dX1_readVifs_30 rfl ?_
        refine x_bipush (v := 10) C dX1_readVifs_31 (by decide) ?_
        refine x_icmp_le (tgt := 47) C dX1_readVifs_33 (by decide) (fun _ => ?_) (fun q => absurd (nI_le (b := 10) (show k ≤ 10 by omega) (by decide)) q)
        have Rh := F.row d4
        have tk := d_take hW B Rh
        rw [A3, rAt_in (show j < nb by omega) Rh.2.2.2, A1 j (by omega), nI_1] at tk
        refine x_aload_n C dX1_readVifs_47 rfl ?_
        refine u_callV (st := []) C Y hW E.cs tk md_X1_take wi_X1_take ws_X1_take wm_X1_85 dX1_readVifs_48 rfl (by decide) (by decide) B rfl rfl (by decide) ?_
        refine o_istore_nE (L' := [some _, some _, some _, some _]) C dX1_readVifs_51 (by rw [hn]; decide) rfl ?_
        refine x_aload_n C dX1_readVifs_52 rfl ?_
        refine x_iload_n C dX1_readVifs_53 rfl ?_
        obtain ⟨⟨n1, n2, n3⟩, -⟩ := id F
        rw [q30] at d2
        have B2 : hs h de (.inr (1, [.ref li, .ref b, .int (nI (j + 1)), .int (Q.i 39), .int fa, .int pl, .int (Q.i 37)])) p = _ := (hs_ne (Ne.symm n1)).trans d2
        have V2 : hs h de (.inr (1, [.ref li, .ref b, .int (nI (j + 1)), .int (Q.i 39), .int fa, .int pl, .int (Q.i 37)])) v = _ := (hs_ne (Ne.symm n2)).trans d3
        refine u_callV (st := []) C Y hW E.cs (q_addVifX hW (show k < 11 by omega) B2 V2 n3 (Q.a 38 j)) md_X3_addVif wi_X3_addVif ws_X3_addVif wm_X1_124 dX1_readVifs_54 rfl (by decide) (by decide) B2 rfl rfl (by decide) ?_
        refine o_iincE (v := nI (k + 1)) (L' := [some _, some _, some _, some _]) C dX1_readVifs_57 rfl (nI_1 k) (by rw [hn]; decide) rfl ?_
        refine x_goto (tgt := 6) C dX1_readVifs_60 (by decide) ?_
        have qa : ∀ q t, q ≠ 31 → q ≠ 30 → (((Q.si 40 (nI (j + 1))).sa 31 (11 * r + k) (Q.a 38 j)).sa 30 r (Q.a 30 r + 1)).a q t = Q.a q t := fun q t q1 q2 => by rw [sa_ne q2, sa_ne q1]; rfl
        have q30' : (((Q.si 40 (nI (j + 1))).sa 31 (11 * r + k) (Q.a 38 j)).sa 30 r (Q.a 30 r + 1)).a 30 r = nI (k + 1) := by rw [MS.sa_a, if_pos ⟨rfl, rfl⟩, q30, nI_1]
        have q31 : ∀ t, (((Q.si 40 (nI (j + 1))).sa 31 (11 * r + k) (Q.a 38 j)).sa 30 r (Q.a 30 r + 1)).a 31 (11 * r + t) = if t = k then Q.a 38 j else Q.a 31 (11 * r + t) := fun t => by
          rw [sa_ne (by decide), MS.sa_a]
          by_cases q : t = k
          · rw [if_pos ⟨rfl, by rw [q]⟩, if_pos q]
          · rw [if_neg (fun y => q (by omega)), if_neg q]; rfl
        have qi : ∀ q, (((Q.si 40 (nI (j + 1))).sa 31 (11 * r + k) (Q.a 38 j)).sa 30 r (Q.a 30 r + 1)).i q = if q = 40 then nI (j + 1) else Q.i q := fun q => by rw [MS.sa_i, MS.sa_i, MS.si_i]
        have qw : ∀ t, (((Q.si 40 (nI (j + 1))).sa 31 (11 * r + k) (Q.a 38 j)).sa 30 r (Q.a 30 r + 1)).w 27 t = Q.w 27 t := fun t => rfl
        refine ih (k + 1) (j + 1) _ (((Q.si 40 (nI (j + 1))).sa 31 (11 * r + k) (Q.a 38 j)).sa 30 r (Q.a 30 r + 1)) _ (by omega) (A2 j) e0 (by rw [← A1 j (by omega)]; exact hj.trans (exD_st q17)) q30' ⟨fun t ht => by rw [qa 38 t (by decide) (by decide)]; exact A1 t ht, fun t => by rw [qa 38 t (by decide) (by decide)]; exact A2 t, by rw [qi]; rfl, by rw [qi]; exact A4, hj1, A6, A7, by rw [qi]; exact A8, by rw [qi]; exact A9, ⟨k + 1, by omega, q30'⟩⟩ ⟨⟨fa, pl, ?_⟩, ?_, ⟨upd fv k (Q.a 38 j), ?_, fun t ht => ?_⟩, fun q q1 q2 q3 => ?_⟩
        · rw [hs_ne n1, hs_ne n2, hs_self, qi, qi, qi]
          rfl
        · rw [hs_self, qa 25 r (by decide) (by decide), qa 26 r (by decide) (by decide), qw, qa 28 r (by decide) (by decide), qa 29 r (by decide) (by decide), q30']
        · rw [hs_ne (Ne.symm n3), hs_self]
        · rw [q30', nI_clamp (by omega)] at ht
          rw [q31]
          by_cases q : t = k
          · subst q; rw [if_pos rfl]; simp [upd]
          · rw [if_neg q, ← d3' t (by rw [q30, nI_clamp (by omega)]; omega)]
            simp [upd, q]
        · rw [hs_ne q2, hs_ne q3, hs_ne q1]
          exact d4 q q1 q2 q3
      · have hj1 : ¬ j + 1 ≤ m := fun q => q22 (e1.mpr q)
        have nx : f_nx Q = (0, f_bl Q 4 (nI m)) := by unfold f_nx; rw [fat, fen, if_neg (by omega)]
        rw [nx] at e0
        have fl : ¬ FD.i 41 = 0 := by
          rw [e0]
          have n0 : ¬ (f_bl Q 4 (nI m)).i 41 = 0 := bl_no A8 (by decide)
          have n1 : f_v2 (f_bl Q 4 (nI m)) k = f_bl Q 4 (nI m) := if_neg (fun y => n0 y.2)
          rw [n1, show f_v4 (f_bl Q 4 (nI m)) r 0 k = f_bl Q 4 (nI m) from if_neg (fun y => n0 y.2), vl_stop n0]
          exact n0
        rw [if_neg q22, bI_f q22]
        refine x_if_ne (tgt := 30) C dX1_readVifs_25 (by decide) (fun q => absurd rfl q) (fun _ => ?_)
        refine x_iconst (v := 0) C dX1_readVifs_28 (by decide) ?_
        exact x_zret C E dX1_readVifs_29 (by decide) (fun q e => by rw [show q = _ from e]; exact Or.inr ⟨rfl, fl, dw.setD F _ _ _ _ _ A9⟩)
  refine x_sipush (v := 128) C dX1_readVifs_0 (by decide) ?_
  refine o_istore_nE (L' := [some _, some _, some _, none]) C dX1_readVifs_3 (by rw [hn]; decide) rfl ?_
  refine x_iconst (v := 0) C dX1_readVifs_4 (by decide) ?_
  refine o_istore_nE (L' := [some _, some _, some _, some _]) C dX1_readVifs_5 (by rw [hn]; decide) rfl ?_
  exact LP 11 0 i 128 S h rfl ⟨128, by decide, rfl⟩ hFD.symm rfl h30 A D
end Dec
end
