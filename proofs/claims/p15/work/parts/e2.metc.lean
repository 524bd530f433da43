/-! A MeterBus against the model: state, page, remove, meter, found. -/
section Calls
variable {w : Wd} {c : Nat → ClassId} {a : Nat → Nat} {h9 : PH} {V : Nat → Prop} {α α' : Nat → Int64} {f f' : Nat → Option Nat} {κ κ' κd ω ω' ωd : Nat → Nat} {S S' : MS} {h g : PH}
theorem ZI.km (Z : ZI c a h9 V α f κ κd ω ωd S h) {k m : Nat} (em : f k = some m) : κ m = 1 := by
  obtain ⟨n, -, D⟩ := Z.1.bus
  exact D.2.2.1 k m em
/-- what is known of meter k -/
theorem ZI.me (Z : ZI c a h9 V α f κ κd ω ωd S h) {k m : Nat} (hk : k < 12) (em : f k = some m) : ∃ pg sz : Nat, h m = some (mF (α m) (S.a 11 k) (S.a 13 k) pg sz (S.a 14 k) (S.a 15 k) (S.a 16 k)) ∧ MQe c h ω k m pg sz (fun i => S.a 17 (3 * k + i)) (fun i b => S.a 18 (60 * (3 * k + i) + b)) ∧ BTv (S.a 14 k) (S.a 15 k) ∧ κ pg = 2 ∧ κ sz = 4 ∧ (S.a 13 k = 0 ∨ S.a 13 k = 1) := by
  have hm := Z.km em
  obtain ⟨n, -, D⟩ := Z.1.bus
  obtain ⟨⟨pg, sz, e, M⟩, b⟩ := Z.2.2.2.1.2 k hk m em
  obtain ⟨-, k1, k2, k3⟩ := D.me2 hm e
  exact ⟨pg, sz, e, M, b, k1, k2, k3⟩
theorem k_rng12 {k : Int32} (g0 : (0 : Int32) ≤ k ∧ k < 12) : ∃ j, j < 12 ∧ k = nI j := by
  obtain ⟨j, hj, rfl⟩ := nI_of (Int32.not_lt.mpr g0.1)
  exact ⟨j, (nI_ltI hj (by decide)).mp g0.2, rfl⟩
theorem le11 {k : Int32} : k < 12 ↔ k ≤ 11 := by
  rw [Int32.le_iff_toInt_le, Int32.lt_iff_toInt_lt, show (12 : Int32).toInt = 12 from by decide, show (11 : Int32).toInt = 11 from by decide]
  omega
theorem zy_state (hX : Wx w c) (hS : MH S) (Z : ZI c a h9 V α f κ κd ω ωd S h) (k x : Int32) : TCX w yX6_state cX6_state 4 (some .int) 1 6 [.ref (a 0), .int k, .int x] h
    (fun r g => ∃ v S', r = some (.int v) ∧ (∀ M, Wm w M → TF w M yX7_state cX7_state 3 (some .int) 1 [.int k, .int x] S (some (.int v)) S') ∧ S'.i 0 = 0 ∧ ZQ c a h9 V S' g) (fun En g => ∃ v S', (∀ M, Wm w M → TF w M yX7_state cX7_state 3 (some .int) 1 [.int k, .int x] S (some (.int v)) S') ∧ (En = IOE ∧ S'.i 0 = 1) ∧ ZQ c a h9 V S' g) := by
  have hW := hX.1
  have Bx := Z.x
  have B : h (a 3) = _ := Z.2.2.2.2.1
  refine TCX.intro hX.1 rfl (by decide +kernel) (Nat.le_of_ble_eq_true rfl) (fun z C Y E hn => ?_)
  have T17 : ¬ (((0 : Int32) ≤ k ∧ k ≤ 11) ∧ ((0 : Int32) ≤ x ∧ x ≤ 6)) → X z 1 6 (EQ h) 17 [some (.ref (a 0)), some (.int k), some (.int x), none] [] := fun nk => u_thr (kc := 0) (ks := 0) hX C E exs_IOE at_76 wc_X6_72 wz_IndexOutOfBoundsException (show (129, "no such meter or what") ∈ txts by simp [txts]) dX6_state_17 dX6_state_20 dX6_state_21 dX6_state_23 dX6_state_26 (by decide) (fun g e => ⟨_, _, fun M hM => s_state_f hM k x nk, ⟨rfl, rfl⟩, by rw [show g = _ from e]; exact Z.q0 hS 1⟩)
  refine x_iload_n C dX6_state_0 rfl ?_
  refine u_callS C hW E.1 (m_isMeterNumber hW k) md_X6_isMeterNumber wt_X6_isMeterNumber wm_X6_81 dX6_state_1 rfl (by decide) (by decide) rfl (by simp [Value.category]) ?_
  refine x_if_eq (tgt := 17) C dX6_state_4 (by decide) (fun c4 => T17 (fun q => absurd (bI_t (p := (0 : Int32) ≤ k ∧ k < 12) ⟨q.1.1, le11.mpr q.1.2⟩) (by rw [c4]; decide))) (fun c4 => ?_)
  have g0 : (0 : Int32) ≤ k ∧ k < 12 := Decidable.of_not_not (fun g => c4 (bI_f g))
  refine x_iload_n C dX6_state_7 rfl ?_
  refine x_if_lt (tgt := 17) C dX6_state_8 (by decide) (fun c8 => T17 (fun q => absurd q.2.1 (Int32.not_le.mpr c8))) (fun c8 => ?_)
  refine x_iload_n C dX6_state_11 rfl ?_
  refine x_bipush (v := 6) C dX6_state_12 (by decide) ?_
  refine x_icmp_le (tgt := 27) C dX6_state_14 (by decide) (fun c14 => ?_) (fun c14 => T17 (fun q => c14 q.2.2))
  obtain ⟨j, hj, rfl⟩ := k_rng12 g0
  obtain ⟨t, ht, rfl⟩ := nI_of c8
  have ht6 : t ≤ 6 := (nI_leI ht (by decide)).mp c14
  refine E.go C Y (fun z' C Y E hn1 => ?_)
  rw [hn] at hn1
  have hn := hn1
  refine x_aload_n C dX6_state_27 rfl ?_
  refine e_get C Y kd_X6 1 (by decide) wf_X6_19 dX6_state_28 Bx rfl ?_
  refine x_iload_n C dX6_state_31 rfl ?_
  refine u_callV (st := []) C Y hW E.cs (u_meterAt hX Z.1.bus (nI j)) md_X0_meterAt wi_X0_meterAt ws_X0_meterAt wm_X6_114 dX6_state_32 rfl (by decide) (by decide) B rfl rfl (by decide) ?_
  rw [fk_nI f hj]
  cases e : f j with
  | none =>
    refine o_astore_nN (L' := [some _, some _, some _, some _]) C dX6_state_35 (by rw [hn]; decide) rfl ?_
    refine x_aload_nN C dX6_state_36 rfl ?_
    refine x_ifnonnullN C dX6_state_37 ?_
    refine x_iconst (v := 0) C dX6_state_40 (by decide) ?_
    refine x_goto (tgt := 49) C dX6_state_41 (by decide) ?_
    exact x_iret C E dX6_state_49 (fun g e2 => ⟨_, _, rfl, fun M hM => s_state_n hM j hj (nI t) ⟨nI_le (a := 0) (Nat.zero_le _) ht, c14⟩ (Z.2.1.no hj e), rfl, by rw [show g = _ from e2]; exact Z.q0 hS 0⟩)
  | some m =>
    obtain ⟨pg, sz, Bm, M, hb, -⟩ := Z.me hj e
    obtain ⟨m1, m2, m3, gp, s0, m4, m5, m6⟩ := M
    have th := (Z.2.1.ab hj e).1
    refine o_astore_nE (L' := [some _, some _, some _, some _]) C dX6_state_35 (by rw [hn]; decide) rfl ?_
    refine x_aload_n C dX6_state_36 rfl ?_
    refine x_ifnonnull (tgt := 44) C dX6_state_37 (by decide) ?_
    refine x_aload_n C dX6_state_44 rfl ?_
    refine x_iload_n C dX6_state_45 rfl ?_
    refine k_callR (kc := 1) (ks := 6) (mc' := 0) (ms' := 0) (st := []) C Y hW E.cs (t_detailX hX Bm m5 (fun i hi => (m6 i hi).1) hb ht6 rfl) rfl md_X2_detail wi_X2_detail ws_X2_detail wm_X6_131 dX6_state_46 rfl (by decide) (by decide) Bm rfl rfl (by decide) (fun r g hg => ?_)
    obtain ⟨eg, rfl⟩ := hg
    rw [eg]
    refine x_iret C E dX6_state_49 (fun g e2 => ⟨_, S.si 0 0, rfl, fun M hM => ?_, rfl, by rw [show g = _ from e2]; exact Z.q0 hS 0⟩)
    rcases (show t = 0 ∨ t = 1 ∨ t = 2 ∨ t = 3 ∨ t = 4 ∨ t = 5 ∨ t = 6 by omega) with rfl | rfl | rfl | rfl | rfl | rfl | rfl
    · exact s_state_0 hM j hj th
    · exact s_state_1 hM j hj th
    · exact s_state_2 hM j hj th
    · exact s_state_3 hM j hj th
    · exact s_state_4 hM j hj th
    · exact s_state_5 hM j hj th
    · exact s_state_6 hM j hj th
/-- the meters changed, nothing else -/
theorem ZI.met (Z : ZI c a h9 V α f κ κd ω ωd S h) (ZZg : ZZ c a h9 V α' f' κ' κd g) (rk : RK f' α' S') (wf : WFa S' ∧ WFb S') (er : ER c α' f' κ' ω' S' g) (st : ∀ q, WB a κ h q → g q = h q) (eu : g (a 3) = h (a 3)) (s1 : ∀ q j, q = 1 ∨ q = 21 → S'.a q j = S.a q j) (si : ∀ q, q = 2 ∨ q = 8 ∨ q = 9 ∨ q = 20 → S'.i q = S.i q) (sl : LSx S S') : ZI c a h9 V α' f' κ' κd ω' ωd S' g := by
  obtain ⟨z1, z2, z3, z4, z5, z6, z7, z8⟩ := Z
  have wd : ∀ q, κd q ≠ 0 → WB a κ h q := fun q hq => by
    have kq : κ q = 0 := Decidable.byContradiction fun n => hq (z1.2.2.2.2.2.1 q n)
    have ne : ∀ i, i ≤ 10 → q ≠ a i := fun i hi e => hq (by rw [e]; exact (z1.2.2.2.2.2.2.1 i hi).2)
    exact ⟨z1.dec.nn.2 q hq, kq, ne 3 (by omega), ne 4 (by omega), ne 5 (by omega), ne 6 (by omega)⟩
  refine ⟨ZZg, rk, wf, er, ?_, z6.go (st _ (z1.wb (i := 1) (by omega))) (st _ (z1.wb (i := 2) (by omega))) (si 2 (by omega)) (fun j => s1 1 j (Or.inl rfl)), z7.go (st _ (z1.wb (i := 0) (by omega))) (st _ (z1.wb (i := 10) (by omega))) (si 20 (by omega)) (fun j => s1 21 j (Or.inr rfl)), z8.go (st _ (z1.wb (i := 7) (by omega))) (st _ (z1.wb (i := 8) (by omega))) (fun q hq => st q (wd q (z8.1 q hq))) sl⟩
  rw [EU, eu, si 8 (by omega), si 9 (by omega)]
  exact z5
theorem zy_remove (hX : Wx w c) (hS : MH S) (Z : ZI c a h9 V α f κ κd ω ωd S h) (k : Int32) : TCX w yX6_remove cX6_remove 3 (some .boolean) 1 6 [.ref (a 0), .int k] h
    (fun r g => ∃ v S', r = some (.int v) ∧ (v = 0 ∨ v = 1) ∧ (∀ M, Wm w M → TF w M yX7_remove cX7_remove 3 (some .boolean) 1 [.int k] S (some (.int v)) S') ∧ S'.i 0 = 0 ∧ ZQ c a h9 V S' g) (fun En g => ∃ v S', (∀ M, Wm w M → TF w M yX7_remove cX7_remove 3 (some .boolean) 1 [.int k] S (some (.int v)) S') ∧ (En = IOE ∧ S'.i 0 = 1) ∧ ZQ c a h9 V S' g) := by
  have hW := hX.1
  have Bx := Z.x
  have B : h (a 3) = _ := Z.2.2.2.2.1
  refine TCX.intro hX.1 rfl (by decide +kernel) (Nat.le_of_ble_eq_true rfl) (fun z C Y E hn => ?_)
  refine x_iload_n C dX6_remove_0 rfl ?_
  refine u_callS C hW E.1 (m_isMeterNumber hW k) md_X6_isMeterNumber wt_X6_isMeterNumber wm_X6_81 dX6_remove_1 rfl (by decide) (by decide) rfl (by simp [Value.category]) ?_
  refine x_if_ne (tgt := 17) C dX6_remove_4 (by decide) (fun c1 => ?_) (fun c1 => ?_)
  · have g0 : (0 : Int32) ≤ k ∧ k < 12 := Decidable.of_not_not (fun g => c1 (bI_f g))
    obtain ⟨j, hj2, rfl⟩ := k_rng12 g0
    refine E.go C Y (fun z' C Y E hn1 => ?_)
    rw [hn] at hn1
    have hn := hn1
    have T33 : ∀ v : Int32, v = S.a 10 j → (v = 0 ∨ v = 1) → narrow .boolean (.int v) = .int v → X z' 1 6 (EQ h) 33 [some (.ref (a 0)), some (.int (nI j)), none] [.int v] := fun v ev v01 nv => by
      refine o_istore_nE (L' := [some _, some _, some _]) C dX6_remove_33 (by rw [hn]; decide) rfl ?_
      refine x_aload_n C dX6_remove_34 rfl ?_
      refine e_get C Y kd_X6 1 (by decide) wf_X6_19 dX6_remove_35 Bx rfl ?_
      refine x_iload_n C dX6_remove_38 rfl ?_
      refine x_null C dX6_remove_39 ?_
      refine u_callV (st := []) C Y hW E.cs (u_plugN hX Z.1.bus hj2) md_X0_plug wi_X0_plug ws_X0_plug wm_X6_110 dX6_remove_40 rfl (by decide) (by decide) B rfl rfl (by decide) ?_
      refine x_iload_n C dX6_remove_43 rfl ?_
      refine x_zret C E dX6_remove_44 nv (fun g e => ⟨v, _, rfl, v01, fun M hM => by rw [ev]; exact g_remove hM hS j hj2, rfl, hS.remove j, α, va_up f j none, κ, κd, ω, ωd, ?_⟩)
      rw [show g = _ from e]
      obtain ⟨n, n90, D⟩ := Z.1.bus
      have d := Z.1.dif
      refine Z.met (Z.1.ofB0 ⟨n, n90, D.plug (fun q m hq => ?_)⟩) (Z.2.1.remove j) ⟨Z.2.2.1.1.si.sa (by decide) (by decide) (by decide), Z.2.2.1.2.si.sa (fun q => nomatch q)⟩ ?_ (fun q hq => hs_ne hq.2.2.2.1) (hs_ne (d 3 4 (by omega) (by omega) (by omega))) (fun q j hq => by rw [sa_ne (by omega)]; rfl) (fun q hq => by rw [MS.sa_i, MS.si_i, if_neg (by omega)]) ⟨fun q hq => by rw [MS.sa_i, MS.si_i, if_neg (by omega)], fun _ _ => rfl, fun q j q1 q2 => by rw [sa_ne (by omega)]; rfl⟩
      · by_cases e1 : q = j
        · subst e1; rw [va_up_self] at hq; exact nomatch hq
        · rw [va_up_ne _ _ e1] at hq; exact D.2.2.1 q m hq
      · refine ER.same (S := S) (h := h) ⟨Z.2.2.2.1.1, fun q hq m em => ?_⟩ (fun q hq => hs_ne (Z.nw (Or.inl hq) 4 (by omega))) (fun q j hq => by rw [sa_ne (by omega)]; rfl)
        by_cases e1 : q = j
        · subst e1; rw [va_up_self] at em; exact nomatch em
        · rw [va_up_ne _ _ e1] at em; exact Z.2.2.2.1.2 q hq m em
    refine x_aload_n C dX6_remove_17 rfl ?_
    refine e_get C Y kd_X6 1 (by decide) wf_X6_19 dX6_remove_18 Bx rfl ?_
    refine x_iload_n C dX6_remove_21 rfl ?_
    refine u_callV (st := []) C Y hW E.cs (u_meterAt hX Z.1.bus (nI j)) md_X0_meterAt wi_X0_meterAt ws_X0_meterAt wm_X6_114 dX6_remove_22 rfl (by decide) (by decide) B rfl rfl (by decide) ?_
    rw [fk_nI f hj2]
    cases e : f j with
    | none =>
      refine x_ifnullN (tgt := 32) C dX6_remove_25 (by decide) ?_
      exact x_iconst (v := 0) C dX6_remove_32 (by decide) (T33 0 (Z.2.1.no hj2 e).symm (Or.inl rfl) (by decide))
    | some m =>
      refine x_ifnull C dX6_remove_25 ?_
      refine x_iconst (v := 1) C dX6_remove_28 (by decide) ?_
      exact x_goto (tgt := 33) C dX6_remove_29 (by decide) (T33 1 ((hS.2.2 j).resolve_left (Z.2.1.ab hj2 e).1).symm (Or.inr rfl) (by decide))
  · exact u_thr (kc := 0) (ks := 0) hX C E exs_IOE at_76 wc_X6_72 wz_IndexOutOfBoundsException (show (85, "no such meter") ∈ txts by simp [txts]) dX6_remove_7 dX6_remove_10 dX6_remove_11 dX6_remove_13 dX6_remove_16 (by decide) (fun g e => ⟨_, _, fun M hM => s_remove_f hM k (fun q => absurd (bI_t (p := (0 : Int32) ≤ k ∧ k < 12) ⟨q.1, le11.mpr q.2⟩) (by rw [c1]; decide)), ⟨rfl, rfl⟩, by rw [show g = _ from e]; exact Z.q0 hS 1⟩)
end Calls
