/-! A MeterBus against the model: the buffer's calls. -/
theorem bl_sshr (x : Int64) (n : Nat) (hn : n < 64) {i : Nat} (hi : i < 64) : bl (x >>> ((nI n).toInt64 &&& 63)) i = if n + i < 64 then bl x (n + i) else bl x 63 := by
  unfold bl
  rw [Int64.toBitVec_shiftRight]
  show (x.toBitVec.sshiftRight (((nI n).toInt64 &&& 63).toBitVec.smod 64).toNat).getLsbD i = _
  rw [sh_l n hn, BitVec.getLsbD_sshiftRight, BitVec.msb_eq_getLsbD_last]
  simp [hi]
theorem f_by_eq (b : Int64) {k : Nat} (hk : k < 8) : by8 b k &&& 255 = f_by b k := b_ext (fun t ht => by
  rw [by8_bit b hk]
  unfold f_by
  rw [bl_l2i, bl_and, bl_255, show (8 : Int32) * nI k = nI (8 * k) from pk_mul 8 k, bl_sshr _ _ (by omega) (show t < 64 by omega), decide_eq_true ht]
  by_cases q : t < 8
  · rw [decide_eq_true q, if_pos (show 8 * k + t < 64 by omega)]; simp
  · rw [decide_eq_false q]; simp)
/-- the object against the model, somehow; the model as it must be -/
def ZQ (c : Nat → ClassId) (a : Nat → Nat) (h9 : PH) (V : Nat → Prop) (S : MS) (g : PH) : Prop := MH S ∧ ∃ α f κ κd ω ωd, ZI c a h9 V α f κ κd ω ωd S g
section Buf
variable {w : Wd} {c : Nat → ClassId} {a : Nat → Nat} {h9 : PH} {V : Nat → Prop} {α : Nat → Int64} {f : Nat → Option Nat} {κ κd ω ωd : Nat → Nat} {S S' S1 S2 : MS} {h g : PH} {r : Option Value}
theorem ZI.nw (Z : ZI c a h9 V α f κ κd ω ωd S h) {q : Nat} (hq : ω q ≠ 0 ∨ ωd q ≠ 0) : ∀ i, i ≤ 10 → q ≠ a i := fun i hi e => by
  have k := Z.1.2.2.2.2.2.2.1 i hi
  rcases hq with hq | hq
  · exact Z.2.2.2.1.1 q hq (by rw [e]; exact k.1)
  · exact Z.2.2.2.2.2.2.2.1 q hq (by rw [e]; exact k.2)
/-- the buffer written anew -/
theorem ZI.putB (Z : ZI c a h9 V α f κ κd ω ωd S h) {gr : Nat → Int32} {n : Nat} (hn : n ≤ 300) (wf : WFa S' ∧ WFb S') (e2 : S'.i 2 = nI n) (e1 : ∀ j, j < n → gr j = S'.a 1 j) (s : ∀ q j, (10 ≤ q ∧ q ≤ 18) ∨ q = 21 → S'.a q j = S.a q j) (si : ∀ q, q = 8 ∨ q = 9 ∨ q = 20 → S'.i q = S.i q) (sl : LSx S S') : ZI c a h9 V α f κ κd ω ωd S' (rowh c h (a 1) (a 2) gr n) := by
  have nw := fun q hq => Z.nw (q := q) hq
  obtain ⟨z1, z2, z3, z4, z5, z6, z7, z8⟩ := Z
  have d := z1.dif
  have hb : HB gr n := fun j hj => by
    obtain ⟨v, v1, v2⟩ := wf.2 1 j rfl
    exact ⟨v, v1, (e1 j hj).trans v2⟩
  have rn : ∀ i, i ≤ 10 → i ≠ 1 → i ≠ 2 → rowh c h (a 1) (a 2) gr n (a i) = h (a i) := fun i hi n1 n2 => rw_ne (d i 1 hi (by omega) n1) (d i 2 hi (by omega) n2)
  refine ⟨z1.putB hn hb, z2.sm ⟨fun j => s 10 j (by omega), fun j => s 12 j (by omega)⟩, wf, z4.same (fun q hq => rw_ne (nw q (Or.inl hq) 1 (by omega)) (nw q (Or.inl hq) 2 (by omega))) (fun q j hq => s q j (by omega)), ?_, ⟨gr, n, RW.of (d 1 2 (by omega) (by omega) (by omega)) hn, e2, e1⟩, z7.go (rn 0 (by omega) (by omega) (by omega)) (rn 10 (by omega) (by omega) (by omega)) (si 20 (by omega)) (fun j => s 21 j (by omega)), z8.go (rn 7 (by omega) (by omega) (by omega)) (rn 8 (by omega) (by omega) (by omega)) (fun q hq => rw_ne (nw q (Or.inr hq) 1 (by omega)) (nw q (Or.inr hq) 2 (by omega))) sl⟩
  rw [EU, rn 3 (by omega) (by omega) (by omega), si 8 (by omega), si 9 (by omega)]
  exact z5
theorem bc_at (f g : Nat → Int32) : ∀ m j, j < m → bcF f g m j = g j &&& 255
  | 0, j, h => absurd h (Nat.not_lt_zero j)
  | m + 1, j, h => by
    show upd (bcF f g m) m (g m &&& 255) j = _
    by_cases e : j = m
    · subst e; simp [upd]
    · rw [show upd (bcF f g m) m (g m &&& 255) j = bcF f g m j from by simp [upd, e]]
      exact bc_at f g m j (by omega)
theorem LSx.si (S : MS) (q : Nat) (v : Int32) (h : q ≠ 23 ∧ q ≠ 34) : LSx S (S.si q v) := ⟨fun x hx => by rw [MS.si_i, if_neg (by omega)], fun _ _ => rfl, fun _ _ _ _ => rfl⟩
theorem cp_w (S : MS) (q r x y : Nat) : ∀ n, (f_cp S q r n).w x y = S.w x y
  | 0 => rfl
  | n + 1 => by rw [f_cp]; exact cp_w S q r x y n
theorem LSx.cp (S : MS) (q r n : Nat) (h : q < 25) : LSx S (f_cp S q r n) := ⟨fun x _ => f_cp_i S n x, fun x y => cp_w S q r x y n, fun x j x1 x2 => f_cp_ne S n (by omega)⟩
theorem LSx.bus (S : MS) (n : Nat) : LSx S (f_bus S n) := ⟨fun x hx => f_bus_i S n (by omega) (by omega) (by omega) (by omega), bus_w n, fun q j q1 q2 => bus_bz (by unfold bz; split <;> first | omega | rfl)⟩
theorem LSx.send (S : MS) (n : Nat) : LSx S (f_send S n) := by
  have h0 : LSx S (f_send0 S n) := (((LSx.si S 0 0 (by decide)).tr (LSx.cp _ 3 1 n (by decide))).tr (LSx.si _ 4 _ (by decide))).tr (LSx.bus _ n)
  unfold f_send
  split
  · exact ((h0.tr (LSx.si _ 2 0 (by decide))).tr (LSx.cp _ 1 5 _ (by decide))).tr (LSx.si _ 2 _ (by decide))
  · exact h0.tr (LSx.si _ 2 0 (by decide))
theorem zy_send (hX : Wx w c) (hS : MH S) (Z : ZI c a h9 V α f κ κd ω ωd S h) : T w gw yX6_send cX6_send 2 (some .int) 8 (40 * 8) 0 0 [.ref (a 0)] (EQ h) (fun r g => ∃ n, S.i 2 = nI n ∧ n ≤ 300 ∧ r = some (.int (f_sendR S n)) ∧ ZQ c a h9 V (f_send S n) g) := by
  have hW := hX.1
  refine TA.intro hW rfl (by decide +kernel) (Nat.le_of_ble_eq_true rfl) (fun z C Y E hn h1 hA => ?_)
  rw [show h1 = h from hA]
  clear hA
  have Bx := Z.x
  obtain ⟨gb, n, R, e2, e1⟩ := Z.2.2.2.2.2.1
  have hn3 := R.2.2.2
  obtain ⟨hwa, hwb⟩ := Z.2.2.1
  -- the model's frame
  have w0 : WFa ((f_cp (S.si 0 0) 3 1 n).si 4 (nI n)) ∧ WFb ((f_cp (S.si 0 0) 3 1 n).si 4 (nI n)) := ⟨(WFa.cp hwa.si (by decide) (by decide) (by decide) n).si, (WFb.cp hwb.si rfl n).si⟩
  have D : BB c (a 3) (a 4) (a 5) (a 6) h (WB a κ h) α f κ ω ((f_cp (S.si 0 0) 3 1 n).si 4 (nI n)) h := Z.bb.mod (fun q j q1 q2 => by rw [MS.si_a, f_cp_ne _ _ (by omega)]; rfl) (by rw [MS.si_i, if_neg (by decide), f_cp_i]; rfl) (by rw [MS.si_i, if_neg (by decide), f_cp_i]; rfl) w0
  have F : FM gb n ((f_cp (S.si 0 0) 3 1 n).si 4 (nI n)) := ⟨rfl, hn3, fun j hj => by rw [MS.si_a, f_cp_eq, if_pos hj]; exact e1 j hj⟩
  have M := u_putX hX D R (Z.1.wb (i := 1) (by omega)) (Z.1.wb (i := 2) (by omega)) F
  rw [show f_bus ((f_cp (S.si 0 0) 3 1 n).si 4 (nI n)) n = f_send0 S n from rfl] at M
  have ls0 : LSx S (f_send0 S n) := (((LSx.si S 0 0 (by decide)).tr (LSx.cp _ 3 1 n (by decide))).tr (LSx.si _ 4 _ (by decide))).tr (LSx.bus _ n)
  have sb : ∀ q j, q ≠ 3 → bz q = false → (f_send0 S n).a q j = S.a q j := fun q j q3 qb => by
    unfold f_send0
    rw [bus_bz qb, MS.si_a, f_cp_ne _ _ q3]
    rfl
  have sbi : ∀ q, q = 2 ∨ q = 20 → (f_send0 S n).i q = S.i q := fun q hq => by
    unfold f_send0
    rw [f_bus_i _ _ (by omega) (by omega) (by omega) (by omega), MS.si_i, if_neg (by omega), f_cp_i, MS.si_i, if_neg (by omega)]
  refine x_aload_n C dX6_send_0 rfl ?_
  refine e_get C Y kd_X6 1 (by decide) wf_X6_19 dX6_send_1 Bx rfl ?_
  refine x_aload_n C dX6_send_4 rfl ?_
  refine e_get C Y kd_X6 0 (by decide) wf_X6_10 dX6_send_5 Bx rfl ?_
  refine k_callR (kc := 0) (ks := 0) (mc' := 0) (ms' := 0) (st := []) C Y hW E.cs M rfl md_X0_put wi_X0_put ws_X0_put wm_X6_134 dX6_send_8 rfl (by decide) (by decide) Z.2.2.2.2.1 rfl rfl (by decide) (fun r g hg => ?_)
  have hr := hg.1
  subst hr
  have Zg : ZI c a h9 V α f κ κd ω ωd (f_send0 S n) g := Z.ofO hg (fun q j hq => sb q j (by omega) (by rcases hq with rfl | rfl <;> rfl)) (sbi 2 (Or.inl rfl)) (sbi 20 (Or.inr rfl)) ls0
  obtain ⟨ga, na, Ra, a1, a2⟩ := hg.2.2
  have Bx := Zg.x
  have B : g (a 3) = _ := Zg.2.2.2.2.1
  obtain ⟨gb2, n2, R2, -, -⟩ := Zg.2.2.2.2.2.1
  have d := Zg.1.dif
  refine o_istore_nE (L' := [some _, some _]) C dX6_send_11 (by rw [hn]; decide) rfl ?_
  refine x_aload_n C dX6_send_12 rfl ?_
  refine e_get C Y kd_X6 0 (by decide) wf_X6_10 dX6_send_13 Bx rfl ?_
  refine x_aload_n C dX6_send_16 rfl ?_
  refine e_get C Y kd_X6 1 (by decide) wf_X6_19 dX6_send_17 Bx rfl ?_
  refine u_callV (st := [.ref (a 1)]) C Y hW E.cs (u_lastAnswer hX B) md_X0_lastAnswer wi_X0_lastAnswer ws_X0_lastAnswer wm_X6_138 dX6_send_20 rfl (by decide) (by decide) B rfl rfl (by simp [Value.category]) ?_
  refine u_callV (st := []) C Y hW E.cs (r_become hW R2 Ra (d 5 1 (by omega) (by omega) (by omega)) (d 5 2 (by omega) (by omega) (by omega)) (d 6 1 (by omega) (by omega) (by omega)) (d 6 2 (by omega) (by omega) (by omega))) md_X5_become wi_X5_become ws_X5_become wm_X6_142 dX6_send_23 rfl (by decide) (by decide) R2.2.1 rfl rfl (by decide) ?_
  refine x_iload_n C dX6_send_26 rfl ?_
  refine x_iret C E dX6_send_27 (fun q e => ?_)
  rw [show q = _ from e]
  have hna := Ra.2.2.2
  have hm := (AO.bus (S := (f_cp (S.si 0 0) 3 1 n).si 4 (nI n)) w0.1 n).m
  rw [show f_bus ((f_cp (S.si 0 0) 3 1 n).si 4 (nI n)) n = f_send0 S n from rfl] at hm
  have wg := Zg.2.2.1
  refine ⟨n, e2, hn3, ?_, hS.send, α, f, κ, κd, ω, ωd, ?_⟩
  · unfold f_sendR outV
    by_cases q7 : (f_send0 S n).i 7 = 1
    · rw [if_pos q7, if_pos q7, hm.2]
    · rw [if_neg q7, if_neg q7]
  · have wf : WFa (f_send S n) ∧ WFb (f_send S n) := ⟨hS.send.1.mi.2.1, hS.send.1.mi.1⟩
    by_cases q7 : (f_send0 S n).i 7 = 1
    · obtain ⟨x1, x2⟩ := a1 q7
      have em : f_m (f_send0 S n) = na := (nI_eq (by omega) (by omega)).mp (hm.2.symm.trans x1)
      have eS : f_send S n = (f_cp ((f_send0 S n).si 2 0) 1 5 na).si 2 (nI na) := by unfold f_send; rw [if_pos q7, em]
      rw [eS] at wf ⊢
      refine Zg.putB hna wf rfl (fun j hj => ?_) (fun q j hq => ?_) (fun q hq => ?_) ?_
      · rw [bc_at _ _ _ _ hj, x2 j hj, MS.si_a, f_cp_eq, if_pos hj]
        exact byt_id (wg.2 5 j rfl)
      · rw [MS.si_a, f_cp_ne _ _ (by omega)]; rfl
      · rw [MS.si_i, if_neg (by omega), f_cp_i, MS.si_i, if_neg (by omega)]
      · exact ((LSx.si _ 2 0 (by decide)).tr (LSx.cp _ 1 5 _ (by decide))).tr (LSx.si _ 2 _ (by decide))
    · have n0 := a2 q7
      subst n0
      have eS : f_send S n = (f_send0 S n).si 2 0 := by unfold f_send; rw [if_neg q7]
      rw [eS] at wf ⊢
      exact Zg.putB hna wf rfl (fun j hj => absurd hj (Nat.not_lt_zero j)) (fun q j hq => rfl) (fun q hq => by rw [MS.si_i, if_neg (by omega)]) (LSx.si _ 2 0 (by decide))
theorem ZI.s0 (Z : ZI c a h9 V α f κ κd ω ωd S h) (v : Int32) : ZI c a h9 V α f κ κd ω ωd (S.si 0 v) h := Z.mod ⟨Z.2.2.1.1.si, Z.2.2.1.2.si⟩ (fun _ _ _ => rfl) (fun q hq => by rw [MS.si_i, if_neg (by omega)]) (LSx.si S 0 v (by decide))
theorem ZI.q0 (Z : ZI c a h9 V α f κ κd ω ωd S h) (hS : MH S) (v : Int32) : ZQ c a h9 V (S.si 0 v) h := ⟨hS.s0 v, α, f, κ, κd, ω, ωd, Z.s0 v⟩
theorem zy_keep (hX : Wx w c) (hS : MH S) (Z : ZI c a h9 V α f κ κd ω ωd S h) (n : Int32) : TCX w yX6_keep cX6_keep 2 none 1 6 [.ref (a 0), .int n] h
    (fun r g => r = none ∧ ∃ S', (∀ M, Wm w M → TF w M yX7_keep cX7_keep 2 none 1 [.int n] S none S') ∧ S'.i 0 = 0 ∧ ZQ c a h9 V S' g) (fun En g => ∃ S', (∀ M, Wm w M → TF w M yX7_keep cX7_keep 2 none 1 [.int n] S none S') ∧ (En = IAE ∧ S'.i 0 = 1) ∧ ZQ c a h9 V S' g) := by
  have hW := hX.1
  have Bx := Z.x
  obtain ⟨gb, nb, R, e2, e1⟩ := Z.2.2.2.2.2.1
  have hn3 := R.2.2.2
  refine TCX.intro hX.1 rfl (by decide +kernel) (Nat.le_of_ble_eq_true rfl) (fun z C Y E hn => ?_)
  have T15 : ¬ q_keep S n → X z 1 6 (EQ h) 15 [some (.ref (a 0)), some (.int n)] [] := fun nk => u_thr (kc := 0) (ks := 0) hX C E exs_IAE at_51 wc_X6_47 wz_IllegalArgumentException (show (67, "the buffer has not so many bytes") ∈ txts by simp [txts]) dX6_keep_15 dX6_keep_18 dX6_keep_19 dX6_keep_21 dX6_keep_24 (by decide) (fun g e => ⟨_, fun M hM => by have := s_keep (S := S) hM n; rw [if_neg nk] at this; exact this, ⟨rfl, rfl⟩, by rw [show g = _ from e]; exact Z.q0 hS 1⟩)
  refine x_iload_n C dX6_keep_0 rfl ?_
  refine x_if_lt (tgt := 15) C dX6_keep_1 (by decide) (fun c1 => T15 (fun q => absurd q.1 (Int32.not_le.mpr c1))) (fun c1 => ?_)
  refine x_iload_n C dX6_keep_4 rfl ?_
  refine x_aload_n C dX6_keep_5 rfl ?_
  refine e_get C Y kd_X6 0 (by decide) wf_X6_10 dX6_keep_6 Bx rfl ?_
  refine u_callV (st := [.int n]) C Y hW E.1 (r_size hW R) md_X5_size wi_X5_size ws_X5_size wm_X6_54 dX6_keep_9 rfl (by decide) (by decide) R.2.1 rfl rfl (by simp [Value.category]) ?_
  rw [← e2]
  refine x_icmp_le (tgt := 25) C dX6_keep_12 (by decide) (fun c2 => ?_) (fun c2 => T15 (fun q => c2 q.2))
  have qk : q_keep S n := ⟨Int32.not_lt.mp c1, c2⟩
  obtain ⟨m, hm, rfl⟩ := nI_of c1
  have hmn : m ≤ nb := by rw [e2] at c2; exact (nI_leI hm (by omega)).mp c2
  have ec : rCut nb (nI m) = m := by
    unfold rCut
    by_cases q : m < nb
    · rw [if_pos ⟨nI_le (a := 0) (Nat.zero_le _) hm, nI_lt q (by omega)⟩, nI_clamp hm]
    · rw [if_neg (fun g => q ((nI_ltI hm (by omega)).mp g.2))]; omega
  have rc := r_cutTo hW R (nI m)
  rw [ec] at rc
  refine x_aload_n C dX6_keep_25 rfl ?_
  refine e_get C Y kd_X6 0 (by decide) wf_X6_10 dX6_keep_26 Bx rfl ?_
  refine x_iload_n C dX6_keep_29 rfl ?_
  refine u_callV (st := []) C Y hW E.1 rc md_X5_cutTo wi_X5_cutTo ws_X5_cutTo wm_X6_69 dX6_keep_30 rfl (by decide) (by decide) R.2.1 rfl rfl (by decide) ?_
  refine E.go C Y (fun z' C Y E hn => x_vret C E dX6_keep_33 (fun g e => ⟨rfl, _, fun M hM => by have := s_keep (S := S) hM (nI m); rw [if_pos qk] at this; exact this, rfl, hS.keep (by omega), α, f, κ, κd, ω, ωd, ?_⟩))
  rw [show g = _ from e]
  exact Z.putB (by omega) ⟨Z.2.2.1.1.si.si, Z.2.2.1.2.si.si⟩ rfl (fun j hj => e1 j (by omega)) (fun _ _ _ => rfl) (fun q hq => by rw [MS.si_i, if_neg (by omega), MS.si_i, if_neg (by omega)]) ((LSx.si S 0 0 (by decide)).tr (LSx.si _ 2 _ (by decide)))
theorem zy_typed (hX : Wx w c) (hS : MH S) (Z : ZI c a h9 V α f κ κd ω ωd S h) (i : Int32) : TCX w yX6_typed cX6_typed 2 (some .int) 1 6 [.ref (a 0), .int i] h
    (fun r g => ∃ v S', r = some (.int v) ∧ (∀ M, Wm w M → TF w M yX7_typed cX7_typed 2 (some .int) 1 [.int i] S (some (.int v)) S') ∧ S'.i 0 = 0 ∧ ZQ c a h9 V S' g) (fun En g => ∃ v S', (∀ M, Wm w M → TF w M yX7_typed cX7_typed 2 (some .int) 1 [.int i] S (some (.int v)) S') ∧ (En = IOE ∧ S'.i 0 = 1) ∧ ZQ c a h9 V S' g) := by
  have hW := hX.1
  have Bx := Z.x
  obtain ⟨gb, nb, R, e2, e1⟩ := Z.2.2.2.2.2.1
  have hn3 := R.2.2.2
  have md := fun M (hM : Wm w M) => s_typed (S := S) hM nb e2 hn3 i
  refine TCX.intro hX.1 rfl (by decide +kernel) (Nat.le_of_ble_eq_true rfl) (fun z C Y E hn => ?_)
  have T15 : ¬ q_typed S i → X z 1 6 (EQ h) 15 [some (.ref (a 0)), some (.int i)] [] := fun nk => u_thr (kc := 0) (ks := 0) hX C E exs_IOE at_76 wc_X6_72 wz_IndexOutOfBoundsException (show (74, "no such place") ∈ txts by simp [txts]) dX6_typed_15 dX6_typed_18 dX6_typed_19 dX6_typed_21 dX6_typed_24 (by decide) (fun g e => ⟨_, _, md, ⟨rfl, by rw [bI_t nk]; rfl⟩, by rw [show g = _ from e]; exact Z.q0 hS _⟩)
  refine x_iload_n C dX6_typed_0 rfl ?_
  refine x_if_lt (tgt := 15) C dX6_typed_1 (by decide) (fun c1 => T15 (fun q => absurd q.1 (Int32.not_le.mpr c1))) (fun c1 => ?_)
  obtain ⟨j, hj, rfl⟩ := nI_of c1
  have qt : q_typed S (nI j) ↔ j < nb := by
    unfold q_typed
    rw [e2]
    constructor
    · intro q
      have h0 : 1 ≤ nb := Nat.le_of_not_lt (fun q2 => by
        obtain rfl : nb = 0 := by omega
        exact absurd (Int32.le_trans q.1 q.2) (by decide))
      have := q.2
      rw [show nI nb - 1 = nI (nb - 1) from nI_sub' (v := nb) (b := 1) h0] at this
      have := (nI_leI hj (by omega)).mp this
      omega
    · intro q
      refine ⟨nI_le (a := 0) (Nat.zero_le _) hj, ?_⟩
      rw [show nI nb - 1 = nI (nb - 1) from nI_sub' (v := nb) (b := 1) (by omega)]
      exact nI_le (by omega) (by omega)
  refine x_iload_n C dX6_typed_4 rfl ?_
  refine x_aload_n C dX6_typed_5 rfl ?_
  refine e_get C Y kd_X6 0 (by decide) wf_X6_10 dX6_typed_6 Bx rfl ?_
  refine u_callV (st := [.int (nI j)]) C Y hW E.1 (r_size hW R) md_X5_size wi_X5_size ws_X5_size wm_X6_54 dX6_typed_9 rfl (by decide) (by decide) R.2.1 rfl rfl (by simp [Value.category]) ?_
  refine x_icmp_lt (tgt := 25) C dX6_typed_12 (by decide) (fun c2 => ?_) (fun c2 => T15 (fun q => c2 (nI_lt (qt.mp q) (by omega))))
  have jn : j < nb := (nI_ltI hj (by omega)).mp c2
  have ra := r_at hW R (nI j)
  rw [rAt_in jn hn3, e1 j jn] at ra
  refine x_aload_n C dX6_typed_25 rfl ?_
  refine e_get C Y kd_X6 0 (by decide) wf_X6_10 dX6_typed_26 Bx rfl ?_
  refine x_iload_n C dX6_typed_29 rfl ?_
  refine u_callV (st := []) C Y hW E.1 ra md_X5_at wi_X5_at ws_X5_at wm_X6_77 dX6_typed_30 rfl (by decide) (by decide) R.2.1 rfl rfl (by decide) ?_
  refine E.go C Y (fun z' C Y E hn => x_iret C E dX6_typed_33 (fun g e => ⟨_, S.si 0 (bI (¬ q_typed S (nI j))), rfl, fun M hM => ?_, ?_, by rw [show g = _ from e]; exact Z.q0 hS (bI (¬ q_typed S (nI j)))⟩))
  · have := md M hM
    rw [if_pos (qt.mpr jn), nI_clamp hj] at this
    exact this
  · rw [MS.si_i, if_pos rfl, bI_f (not_not_intro (qt.mpr jn))]
theorem ty_w (b : Int64) (q j : Nat) : ∀ (k s : Nat) (S : MS), (f_ty b k s S).w q j = S.w q j
  | 0, _, _ => rfl
  | k + 1, s, S => by rw [f_ty]; exact ty_w b q j k (s + 1) _
theorem zy_type (hX : Wx w c) (hS : MH S) (Z : ZI c a h9 V α f κ κd ω ωd S h) (b : Int64) (n : Int32) : TCX w yX6_type cX6_type 5 (some .int) 1 6 [.ref (a 0), .long b, .int n] h
    (fun r g => ∃ v S', r = some (.int v) ∧ (∀ M, Wm w M → TF w M yX7_type cX7_type 5 (some .int) 1 [.long b, .int n] S (some (.int v)) S') ∧ S'.i 0 = 0 ∧ ZQ c a h9 V S' g) (fun En g => ∃ v S', (∀ M, Wm w M → TF w M yX7_type cX7_type 5 (some .int) 1 [.long b, .int n] S (some (.int v)) S') ∧ ((En = IAE ∧ S'.i 0 = 1) ∨ (En = UOE ∧ S'.i 0 = 2)) ∧ ZQ c a h9 V S' g) := by
  have hW := hX.1
  have Bx := Z.x
  obtain ⟨gb, nb, R, e2, e1⟩ := Z.2.2.2.2.2.1
  have hn3 := R.2.2.2
  refine TCX.intro hX.1 rfl (by decide +kernel) (Nat.le_of_ble_eq_true rfl) (fun z C Y E hn => ?_)
  have T11 : ¬ ((1 : Int32) ≤ n ∧ n ≤ 8) → X z 1 6 (EQ h) 11 [some (.ref (a 0)), some (.long b), none, some (.int n), none] [] := fun nk => u_thr (kc := 0) (ks := 0) hX C E exs_IAE at_51 wc_X6_47 wz_IllegalArgumentException (show (49, "n is not 1 .. 8") ∈ txts by simp [txts]) dX6_type_11 dX6_type_14 dX6_type_15 dX6_type_17 dX6_type_20 (by decide) (fun g e => ⟨_, _, fun M hM => s_type_f hM b n nk, Or.inl ⟨rfl, rfl⟩, by rw [show g = _ from e]; exact Z.q0 hS 1⟩)
  refine x_iload_n C dX6_type_0 rfl ?_
  refine x_iconst (v := 1) C dX6_type_1 (by decide) ?_
  refine x_icmp_lt (tgt := 11) C dX6_type_2 (by decide) (fun c2 => T11 (fun q => absurd q.1 (Int32.not_le.mpr c2))) (fun c2 => ?_)
  refine x_iload_n C dX6_type_5 rfl ?_
  refine x_bipush (v := 8) C dX6_type_6 (by decide) ?_
  refine x_icmp_le (tgt := 21) C dX6_type_8 (by decide) (fun c8 => ?_) (fun c8 => T11 (fun q => c8 q.2))
  obtain ⟨m, hm, rfl⟩ := nI_of (x := n) (Int32.not_lt.mpr (Int32.le_trans (by decide) (Int32.not_lt.mp c2)))
  have hm8 : m ≤ 8 := Nat.le_of_not_lt (fun g => absurd (nI_lt g hm) (Int32.not_lt.mpr c8))
  have hm1 : 1 ≤ m := Nat.le_of_not_lt (fun g => c2 (nI_lt g (by decide)))
  refine x_aload_n C dX6_type_21 rfl ?_
  refine e_get C Y kd_X6 0 (by decide) wf_X6_10 dX6_type_22 Bx rfl ?_
  refine u_callV (st := []) C Y hW E.1 (r_size hW R) md_X5_size wi_X5_size ws_X5_size wm_X6_54 dX6_type_25 rfl (by decide) (by decide) R.2.1 rfl rfl (by decide) ?_
  refine x_iload_n C dX6_type_28 rfl ?_
  refine x_iadd C dX6_type_29 ?_
  rw [nI_add]
  refine x_sipush (v := 300) C dX6_type_30 (by decide) ?_
  refine x_icmp_le (tgt := 46) C dX6_type_33 (by decide) (fun c33 => ?_) (fun c33 => u_thr (kc := 0) (ks := 0) hX C E exs_UOE at_62 wc_X6_58 wz_UnsupportedOperationException (show (60, "the buffer would have more than 300 bytes") ∈ txts by simp [txts]) dX6_type_36 dX6_type_39 dX6_type_40 dX6_type_42 dX6_type_45 (by decide) (fun g e => ⟨_, _, fun M hM => s_type_u hM b m nb ⟨hm1, hm8⟩ e2 hn3 (fun q => c33 (nI_le (b := 300) q (by decide))), Or.inr ⟨rfl, rfl⟩, by rw [show g = _ from e]; exact Z.q0 hS 2⟩))
  have h300 : nb + m ≤ 300 := (nI_leI (b := 300) (by omega) (by decide)).mp c33
  refine E.go C Y (fun z' C Y E hn1 => ?_)
  rw [hn] at hn1
  have hn := hn1
  have LP : ∀ (rem s : Nat) (Q : MS) (h : PH), rem ≤ 8 → s + rem = nb + m → Q.i 2 = nI s → f_ty b rem s Q = f_ty b m nb (S.si 0 0) → ZI c a h9 V α f κ κd ω ωd Q h → X z' 1 6 (EQ h) 51 [some (.ref (a 0)), some (.long b), none, some (.int (nI m)), some (.int (nI rem - 1))] [] := by
    intro rem
    induction rem with
    | zero =>
      intro s Q h _ hs q2 qf Z
      have Bx := Z.x
      obtain ⟨gb, n0, R, e2, e1⟩ := Z.2.2.2.2.2.1
      have en : nI n0 = nI (nb + m) := by rw [← e2, q2]; exact congrArg nI (by omega)
      refine x_iload C dX6_type_51 rfl ?_
      refine x_if_lt (tgt := 77) C dX6_type_53 (by decide) (fun c53 => ?_) (fun c53 => absurd c53 (not_not_intro (by decide)))
      refine x_aload_n C dX6_type_77 rfl ?_
      refine e_get C Y kd_X6 0 (by decide) wf_X6_10 dX6_type_78 Bx rfl ?_
      refine u_callV (st := []) C Y hW E.cs (r_size hW R) md_X5_size wi_X5_size ws_X5_size wm_X6_54 dX6_type_81 rfl (by decide) (by decide) R.2.1 rfl rfl (by decide) ?_
      rw [en]
      refine x_iret C E dX6_type_84 (fun g e => ⟨_, _, rfl, fun M hM => s_type_t hM b m nb ⟨hm1, hm8⟩ ‹S.i 2 = nI nb› h300, ?_, hS.type ‹S.i 2 = nI nb› h300, α, f, κ, κd, ω, ωd, by rw [show g = _ from e, ← qf]; exact Z⟩)
      rw [ty_i (by decide)]; rfl
    | succ rem ih =>
      intro s Q h hr hs q2 qf Z
      have Bx := Z.x
      obtain ⟨gb, n0, R, e2, e1⟩ := Z.2.2.2.2.2.1
      have en : n0 = s := (nI_eq (by have := R.2.2.2; omega) (by omega)).mp (e2.symm.trans q2)
      subst en
      have e1' : nI (rem + 1) - 1 = nI rem := by rw [← nI_1]; exact Int32.add_sub_cancel ..
      rw [e1']
      refine x_iload C dX6_type_51 rfl ?_
      refine x_if_lt (tgt := 77) C dX6_type_53 (by decide) (fun c53 => absurd c53 (nI_pos (by omega))) (fun c53 => ?_)
      refine x_aload_n C dX6_type_56 rfl ?_
      refine e_get C Y kd_X6 0 (by decide) wf_X6_10 dX6_type_57 Bx rfl ?_
      refine x_lload_n C dX6_type_60 rfl ?_
      refine x_bipush (v := 8) C dX6_type_61 (by decide) ?_
      refine x_iload C dX6_type_63 rfl ?_
      refine x_imul C dX6_type_65 ?_
      refine x_lushr C dX6_type_66 ?_
      refine x_l2i C dX6_type_67 ?_
      refine u_callV (st := []) C Y hW E.cs (r_add hW R _) md_X5_add wi_X5_add ws_X5_add wm_X6_63 dX6_type_68 rfl (by decide) (by decide) R.2.1 rfl rfl (by decide) ?_
      refine o_iincE (v := nI rem - 1) (L' := [some _, some _, none, some _, some _]) C dX6_type_71 rfl (by rw [Int32.sub_eq_add_neg]; rfl) (by rw [hn]; decide) rfl ?_
      refine x_goto (tgt := 51) C dX6_type_74 (by decide) ?_
      refine ih (n0 + 1) ((Q.sa 1 n0 (f_by b rem)).si 2 (nI (n0 + 1))) _ (by omega) (by omega) rfl qf ?_
      rw [show rNum n0 = n0 + 1 from if_pos (by omega), show ∀ x, rAdd gb n0 x = upd gb n0 (x &&& 255) from fun x => if_pos (by omega)]
      refine Z.putB (by omega) ⟨(Z.2.2.1.1.sa (by decide) (by decide) (by decide)).si, (Z.2.2.1.2.sa (fun _ => by rw [← f_by_eq b (show rem < 8 by omega)]; exact byt_and _)).si⟩ rfl (fun j hj => ?_) (fun q j hq => ?_) (fun q hq => ?_) ⟨fun q hq => by rw [MS.si_i, if_neg (by omega), MS.sa_i], fun _ _ => rfl, fun q j q1 q2 => sa_ne (by omega)⟩
      · rw [MS.si_a, MS.sa_a]
        by_cases ej : j = n0
        · subst ej
          rw [if_pos ⟨rfl, rfl⟩, ← f_by_eq b (show rem < 8 by omega)]
          simp [upd, by8]
        · rw [if_neg (fun q => ej q.2), ← e1 j (by omega)]
          simp [upd, ej]
      · rw [MS.si_a, sa_ne (by omega)]
      · rw [MS.si_i, if_neg (by omega)]; rfl
  refine x_iload_n C dX6_type_46 rfl ?_
  refine x_iconst (v := 1) C dX6_type_47 (by decide) ?_
  refine x_isub C dX6_type_48 ?_
  refine o_istoreE (L' := [some _, some _, none, some _, some _]) C dX6_type_49 (by rw [hn]; decide) rfl ?_
  exact LP m nb (S.si 0 0) h hm8 rfl e2 rfl (Z.s0 0)
end Buf
