section
/-! A MeterBus against the model: its meters' calls. -/
section Met
variable {w : Wd} {c : Nat → ClassId} {u ma an aa n m k : Nat} {h0 h g : PH} {W : Nat → Prop} {α : Nat → Int64} {f : Nat → Option Nat} {κ ω : Nat → Nat} {S S' : MS} {pg sz : Nat}
theorem t_detailX (hX : Wx w c) {ad : Int64} (B : h m = some (mF ad (S.a 11 k) (S.a 13 k) pg sz (S.a 14 k) (S.a 15 k) (S.a 16 k))) {s : Nat → Int32} (Bs : h sz = some (.inl (c 0, 3, .inl s))) (hs : ∀ i, i < 3 → s i = S.a 17 (3 * k + i)) (hb : BTv (S.a 14 k) (S.a 15 k)) {x : Int32} {t : Nat} (ht : t ≤ 6) (hx : x = nI t) : T w gw yX2_detail cX2_detail 2 (some .int) 1 (40 * 1) 0 0 [.ref m, .int x] (EQ h) (fun r g => g = h ∧ r = some (.int (f_state S k t))) := by
  have hW := hX.1
  refine TA.intro hW rfl (by decide +kernel) (Nat.le_of_ble_eq_true rfl) (fun z C Y E hn h1 hA => ?_)
  rw [show h1 = h from hA]
  clear hA
  refine x_iload_n C dX2_detail_0 rfl ?_
  rcases (show t = 0 ∨ t = 1 ∨ t = 2 ∨ t = 3 ∨ t = 4 ∨ t = 5 ∨ t = 6 by omega) with rfl | rfl | rfl | rfl | rfl | rfl | rfl
  · subst hx
    refine x_tblOut (tgt := 78) C dX2_detail_1 (by decide) (by decide) ?_
    refine x_iconst (v := 1) C dX2_detail_78 (by decide) ?_
    exact x_iret C E dX2_detail_79 (fun q e => ⟨e, rfl⟩)
  · subst hx
    refine x_tblIn (tgt := 40) (off := 39) C dX2_detail_1 (by decide) (by decide) (by decide) (by decide) ?_
    refine x_aload_n C dX2_detail_40 rfl ?_
    refine e_get C Y kd_X2 1 (by decide) wf_X2_34 dX2_detail_41 B rfl ?_
    exact x_iret C E dX2_detail_44 (fun q e => ⟨e, rfl⟩)
  · subst hx
    refine x_tblIn (tgt := 45) (off := 44) C dX2_detail_1 (by decide) (by decide) (by decide) (by decide) ?_
    refine x_aload_n C dX2_detail_45 rfl ?_
    refine e_get C Y kd_X2 2 (by decide) wf_X2_9 dX2_detail_46 B rfl ?_
    have T57 : ∀ v : Int32, v = bI (¬ S.a 13 k = 0) → X z 0 0 (EQ h) 57 [some (.ref m), some (.int 2)] [.int v] := fun v ev => x_iret C E dX2_detail_57 (fun q e => ⟨e, by rw [ev]; rfl⟩)
    refine x_if_eq (tgt := 56) C dX2_detail_49 (by decide) (fun q0 => ?_) (fun q0 => ?_)
    · exact x_iconst (v := 0) C dX2_detail_56 (by decide) (T57 _ (bI_f (not_not_intro q0)).symm)
    · refine x_iconst (v := 1) C dX2_detail_52 (by decide) ?_
      exact x_goto (tgt := 57) C dX2_detail_53 (by decide) (T57 _ (bI_t q0).symm)
  · subst hx
    refine x_tblIn (tgt := 58) (off := 57) C dX2_detail_1 (by decide) (by decide) (by decide) (by decide) ?_
    refine x_aload_n C dX2_detail_58 rfl ?_
    refine u_callV (st := []) C Y hW E.cs (t_pageNumber hW B Bs) md_X2_pageNumber wi_X2_pageNumber ws_X2_pageNumber wm_X2_57 dX2_detail_59 rfl (by decide) (by decide) B rfl rfl (by decide) ?_
    exact x_iret C E dX2_detail_62 (fun q e => ⟨e, by rw [pages_eq hs]; rfl⟩)
  · subst hx
    refine x_tblIn (tgt := 63) (off := 62) C dX2_detail_1 (by decide) (by decide) (by decide) (by decide) ?_
    refine x_aload_n C dX2_detail_63 rfl ?_
    refine e_get C Y kd_X2 5 (by decide) wf_X2_24 dX2_detail_64 B rfl ?_
    refine x_iret C E dX2_detail_67 (fun q e => ⟨e, ?_⟩)
    show some (Value.int (S.a 14 k)) = some (.int (if S.a 15 k < 0 then -1 else S.a 14 k))
    rcases hb with ⟨b1, b2⟩ | b1 | b1
    · rw [b1, b2]; rfl
    · rw [b1]; rfl
    · rw [b1]; rfl
  · subst hx
    refine x_tblIn (tgt := 68) (off := 67) C dX2_detail_1 (by decide) (by decide) (by decide) (by decide) ?_
    refine x_aload_n C dX2_detail_68 rfl ?_
    refine e_get C Y kd_X2 6 (by decide) wf_X2_28 dX2_detail_69 B rfl ?_
    exact x_iret C E dX2_detail_72 (fun q e => ⟨e, rfl⟩)
  · subst hx
    refine x_tblIn (tgt := 73) (off := 72) C dX2_detail_1 (by decide) (by decide) (by decide) (by decide) ?_
    refine x_aload_n C dX2_detail_73 rfl ?_
    refine e_get C Y kd_X2 7 (by decide) wf_X2_31 dX2_detail_74 B rfl ?_
    exact x_iret C E dX2_detail_77 (fun q e => ⟨e, rfl⟩)
theorem pcp_18 (S : MS) (o : Nat) (q : Nat) : ∀ n, (f_pcp S o n).a 18 q = if o ≤ q ∧ q < o + n then S.a 1 (q - o) else S.a 18 q
  | 0 => by rw [if_neg (by omega)]; rfl
  | n + 1 => by
    rw [f_pcp, MS.sa_a]
    by_cases e : q = o + n
    · rw [if_pos ⟨rfl, e⟩, if_pos (by omega), e, show o + n - o = n by omega]
    · rw [if_neg (fun x => e x.2), pcp_18 S o q n]
      by_cases e2 : o ≤ q ∧ q < o + n
      · rw [if_pos e2, if_pos (by omega)]
      · rw [if_neg e2, if_neg (by omega)]
theorem page_18 (S : MS) (k i n q : Nat) : (f_page S k i n).a 18 q = if 60 * (3 * k + i) ≤ q ∧ q < 60 * (3 * k + i) + n then S.a 1 (q - 60 * (3 * k + i)) else S.a 18 q := by
  unfold f_page
  rw [MS.si_a, sa_ne (by decide), pcp_18]
  rfl
theorem page_17 (S : MS) (k i n q : Nat) : (f_page S k i n).a 17 q = if q = 3 * k + i then nI n else S.a 17 q := by
  unfold f_page
  rw [MS.si_a, MS.sa_a, f_pcp_a _ _ _ (by decide)]
  by_cases e : q = 3 * k + i
  · simp [e]
  · simp [e]
    rfl
/-- a page was written -/
theorem ER.page (R : ER c α f κ ω S h) (hw : WFa S) (hk : k < 12) (em : f k = some m) {ad : Int64} {pr se pt bt ac : Int32} (B : h m = some (mF ad pr se pg sz pt bt ac)) {gp : Nat → Option Nat} {s0 P0 fb : Nat → Int32} {i t N : Nat} (hi : i < 3) (Bp : h pg = some (.inl (c 5, 3, .inr (.inr (.inr (.inr gp)))))) (Bs : h sz = some (.inl (c 0, 3, .inl s0))) (gt : gp i = some t) (hfb : ∀ j, j < N → fb j = S.a 1 j) (N60 : N ≤ 60) : ER c α f κ ω (f_page S k i N) (hs (hs h t (.inl (c 0, 60, .inl (pcF P0 fb N)))) sz (.inl (c 0, 3, .inl (upd s0 i (nI N))))) := by
  obtain ⟨⟨pg0, sz0, d1, M0⟩, b0⟩ := R.2 k hk m em
  obtain ⟨-, -, -, rfl, rfl, -⟩ := mF_inj d1 B
  obtain ⟨m1, m2, m3, gp0, s1, m4, m5, m6⟩ := M0
  have eg : gp0 = gp := by have := m4.symm.trans Bp; simp only [Option.some.injEq, Sum.inl.injEq, Prod.mk.injEq, Sum.inr.injEq, true_and] at this; exact this
  have es : s1 = s0 := by have := m5.symm.trans Bs; simp only [Option.some.injEq, Sum.inl.injEq, Prod.mk.injEq, true_and] at this; exact this
  subst eg es
  have lt : ω t = 8 * k + 4 + i := by
    obtain ⟨-, t', P', a2, a3, -⟩ := m6 i hi
    obtain rfl : t = t' := Option.some.inj (gt.symm.trans a2)
    exact a3
  have st : ∀ q, q ≠ t → q ≠ sz0 → hs (hs h t (.inl (c 0, 60, .inl (pcF P0 fb N)))) sz0 (.inl (c 0, 3, .inl (upd s1 i (nI N)))) q = h q := fun q n1 n2 => by rw [hs_ne n2, hs_ne n1]
  refine ⟨R.1, fun j hj m' em' => ?_⟩
  by_cases e : j = k
  · subst e
    obtain rfl : m = m' := Option.some.inj (em.symm.trans em')
    refine ⟨⟨pg0, sz0, ?_, m1, m2, m3, gp0, upd s1 i (nI N), ?_, hs_self .., fun i' hi' => ?_⟩, by rw [page_a (by decide) (by decide), page_a (by decide) (by decide)]; exact b0⟩
    · rw [st m (fun e => by rw [e, lt] at m1; omega) (fun e => by rw [e, m3] at m1; omega), page_a (by decide) (by decide), page_a (by decide) (by decide), page_a (by decide) (by decide), page_a (by decide) (by decide), page_a (by decide) (by decide)]
      exact d1
    · rw [st pg0 (fun e => by rw [e, lt] at m2; omega) (fun e => by rw [e, m3] at m2; omega)]
      exact m4
    · obtain ⟨a1, t', P', a2, a3, a4, a5⟩ := m6 i' hi'
      by_cases ei : i' = i
      · subst ei
        obtain rfl : t = t' := Option.some.inj (gt.symm.trans a2)
        refine ⟨?_, t, pcF P0 fb N, a2, a3, by rw [hs_ne (fun e => by rw [e, m3] at a3; omega), hs_self], fun b hb => ?_⟩
        · show upd s1 i' (nI N) i' = (f_page S j i' N).a 17 (3 * j + i')
          rw [page_17, if_pos rfl]
          simp [upd]
        · have hb : b < ((f_page S j i' N).a 17 (3 * j + i')).toNatClampNeg := hb
          rw [page_17, if_pos rfl, nI_clamp (by omega)] at hb
          show pcF P0 fb N b = (f_page S j i' N).a 18 (60 * (3 * j + i') + b)
          rw [page_18, if_pos (by omega), show 60 * (3 * j + i') + b - 60 * (3 * j + i') = b by omega]
          unfold pcF
          rw [if_pos hb]
          exact hfb b hb
      · have l' : ω t' ≠ ω t := by rw [a3, lt]; omega
        have e17 : (f_page S j i N).a 17 (3 * j + i') = S.a 17 (3 * j + i') := by rw [page_17, if_neg (by omega)]
        refine ⟨?_, t', P', a2, a3, by rw [st t' (fun e => l' (by rw [e])) (fun e => by rw [e, m3] at a3; omega)]; exact a4, fun b hb => ?_⟩
        · show upd s1 i (nI N) i' = (f_page S j i N).a 17 (3 * j + i')
          rw [e17, show S.a 17 (3 * j + i') = s1 i' from a1.symm]
          simp [upd, ei]
        · have hb : b < ((f_page S j i N).a 17 (3 * j + i')).toNatClampNeg := hb
          rw [e17] at hb
          show P' b = (f_page S j i N).a 18 (60 * (3 * j + i') + b)
          have h60 := a5 b hb
          rw [page_18]
          by_cases q : 60 * (3 * j + i) ≤ 60 * (3 * j + i') + b ∧ 60 * (3 * j + i') + b < 60 * (3 * j + i) + N
          · exfalso
            obtain ⟨N', n60, eN'⟩ := (hw j hj).2 i' hi'
            rw [eN', nI_clamp (by omega)] at hb
            omega
          · rw [if_neg q]; exact h60
  · obtain ⟨⟨pg', sz', e1, M1⟩, b1⟩ := R.2 j hj m' em'
    have l1 := M1.1
    refine ⟨⟨pg', sz', ?_, M1.frame (fun q q1 q2 => st q (fun e2 => by rw [e2, lt] at q1 q2; omega) (fun e2 => by rw [e2, m3] at q1 q2; omega)) (fun i' hi' => ?_) (fun i' b hi' hb => ?_)⟩, by rw [page_a (by decide) (by decide), page_a (by decide) (by decide)]; exact b1⟩
    · rw [st m' (fun e2 => by rw [e2, lt] at l1; omega) (fun e2 => by rw [e2, m3] at l1; omega), page_a (by decide) (by decide), page_a (by decide) (by decide), page_a (by decide) (by decide), page_a (by decide) (by decide), page_a (by decide) (by decide)]
      exact e1
    · show (f_page S k i N).a 17 (3 * j + i') = _
      rw [page_17, if_neg (by omega)]
    · show (f_page S k i N).a 18 (60 * (3 * j + i') + b) = S.a 18 (60 * (3 * j + i') + b)
      obtain ⟨N', n60, eN'⟩ := (hw j hj).2 i' hi'
      have hb : b < (S.a 17 (3 * j + i')).toNatClampNeg := hb
      rw [eN', nI_clamp (by omega)] at hb
      rw [page_18, if_neg (by omega)]
end Met
end
section
/-! A MeterBus against the model: state, page, remove, meter, found. -/
section Calls
variable {w : Wd} {c : Nat → ClassId} {a : Nat → Nat} {h9 : PH} {V : Nat → Prop} {α α' : Nat → Int64} {f f' : Nat → Option Nat} {κ κ' κd ω ω' ωd : Nat → Nat} {S S' : MS} {h g : PH}
theorem ZI.km (Z : ZI c a h9 V α f κ κd ω ωd S h) {k m : Nat} (em : f k = some m) : κ m = 1 := by
  obtain ⟨n, -, D⟩ := Z.1.bus
  exact D.2.2.1 k m em
/-- what is known of meter k -/
theorem ZI.me (Z : ZI c a h9 V α f κ κd ω ωd S h) {k m : Nat} (hk : k < 12) (em : f k = some m) : ∃ pg sz : Nat, h m = some (mF (α m) (S.a 11 k) (S.a 13 k) pg sz (S.a 14 k) (S.a 15 k) (S.a 16 k)) ∧ MQe c h ω k m pg sz (fun i => S.a 17 (3 * k + i)) (fun i b => S.a 18 (60 * (3 * k + i) + b)) ∧ BTv (S.a 14 k) (S.a 15 k) ∧ κ pg = 2 ∧ κ sz = 4 ∧ (S.a 13 k = 0 ∨ S.a 13 k = 1) := by
  have hm := Z.km em
  obtain ⟨n, -, D⟩ := Z.1.bus
  obtain ⟨⟨pg, sz, e, M⟩, b⟩ := Z.2.2.2.1.2 k hk m em
  obtain ⟨-, k1, k2, k3⟩ := D.me2 hm e
  exact ⟨pg, sz, e, M, b, k1, k2, k3⟩
theorem k_rng12 {k : Int32} (g0 : (0 : Int32) ≤ k ∧ k < 12) : ∃ j, j < 12 ∧ k = nI j := by
  obtain ⟨j, hj, rfl⟩ := nI_of (Int32.not_lt.mpr g0.1)
  exact ⟨j, (nI_ltI hj (by decide)).mp g0.2, rfl⟩
theorem le11 {k : Int32} : k < 12 ↔ k ≤ 11 := by
  rw [Int32.le_iff_toInt_le, Int32.lt_iff_toInt_lt, show (12 : Int32).toInt = 12 from by decide, show (11 : Int32).toInt = 11 from by decide]
  omega
theorem zy_state (hX : Wx w c) (hS : MH S) (Z : ZI c a h9 V α f κ κd ω ωd S h) (k x : Int32) : TCX w yX6_state cX6_state 4 (some .int) 1 6 [.ref (a 0), .int k, .int x] h
    (fun r g => ∃ v S', r = some (.int v) ∧ (∀ M, Wm w M → TF w M yX7_state cX7_state 3 (some .int) 1 [.int k, .int x] S (some (.int v)) S') ∧ S'.i 0 = 0 ∧ ZQ c a h9 V S' g) (fun En g => ∃ v S', (∀ M, Wm w M → TF w M yX7_state cX7_state 3 (some .int) 1 [.int k, .int x] S (some (.int v)) S') ∧ (En = IOE ∧ S'.i 0 = 1) ∧ ZQ c a h9 V S' g) := by
  have hW := hX.1
  have Bx := Z.x
  have B : h (a 3) = _ := Z.2.2.2.2.1
  refine TCX.intro hX.1 rfl (by decide +kernel) (Nat.le_of_ble_eq_true rfl) (fun z C Y E hn => ?_)
  have T17 : ¬ (((0 : Int32) ≤ k ∧ k ≤ 11) ∧ ((0 : Int32) ≤ x ∧ x ≤ 6)) → X z 1 6 (EQ h) 17 [some (.ref (a 0)), some (.int k), some (.int x), none] [] := fun nk => u_thr (kc := 0) (ks := 0) hX C E exs_IOE at_76 wc_X6_72 wz_IndexOutOfBoundsException (show (129, "no such meter or what") ∈ txts by simp [txts]) dX6_state_17 dX6_state_20 dX6_state_21 dX6_state_23 dX6_state_26 (by decide) (fun g e => ⟨_, _, fun M hM => s_state_f hM k x nk, ⟨rfl, rfl⟩, by rw [show g = _ from e]; exact Z.q0 hS 1⟩)
  refine x_iload_n C dX6_state_0 rfl ?_
  refine u_callS C hW E.1 (m_isMeterNumber hW k) md_X6_isMeterNumber wt_X6_isMeterNumber wm_X6_81 dX6_state_1 rfl (by decide) (by decide) rfl (by simp [Value.category]) ?_
  refine x_if_eq (tgt := 17) C dX6_state_4 (by decide) (fun c4 => T17 (fun q => absurd (bI_t (p := (0 : Int32) ≤ k ∧ k < 12) ⟨q.1.1, le11.mpr q.1.2⟩) (by rw [c4]; decide))) (fun c4 => ?_)
  have g0 : (0 : Int32) ≤ k ∧ k < 12 := Decidable.of_not_not (fun g => c4 (bI_f g))
  refine x_iload_n C dX6_state_7 rfl ?_
  refine x_if_lt (tgt := 17) C dX6_state_8 (by decide) (fun c8 => T17 (fun q => absurd q.2.1 (Int32.not_le.mpr c8))) (fun c8 => ?_)
  refine x_iload_n C dX6_state_11 rfl ?_
  refine x_bipush (v := 6) C dX6_state_12 (by decide) ?_
  refine x_icmp_le (tgt := 27) C dX6_state_14 (by decide) (fun c14 => ?_) (fun c14 => T17 (fun q => c14 q.2.2))
  obtain ⟨j, hj, rfl⟩ := k_rng12 g0
  obtain ⟨t, ht, rfl⟩ := nI_of c8
  have ht6 : t ≤ 6 := (nI_leI ht (by decide)).mp c14
  refine E.go C Y (fun z' C Y E hn1 => ?_)
  rw [hn] at hn1
  have hn := hn1
  refine x_aload_n C dX6_state_27 rfl ?_
  refine e_get C Y kd_X6 1 (by decide) wf_X6_19 dX6_state_28 Bx rfl ?_
  refine x_iload_n C dX6_state_31 rfl ?_
  refine u_callV (st := []) C Y hW E.cs (u_meterAt hX Z.1.bus (nI j)) md_X0_meterAt wi_X0_meterAt ws_X0_meterAt wm_X6_114 dX6_state_32 rfl (by decide) (by decide) B rfl rfl (by decide) ?_
  rw [fk_nI f hj]
  cases e : f j with
  | none =>
    refine o_astore_nN (L' := [some _, some _, some _, some _]) C dX6_state_35 (by rw [hn]; decide) rfl ?_
    refine x_aload_nN C dX6_state_36 rfl ?_
    refine x_ifnonnullN C dX6_state_37 ?_
    refine x_iconst (v := 0) C dX6_state_40 (by decide) ?_
    refine x_goto (tgt := 49) C dX6_state_41 (by decide) ?_
    exact x_iret C E dX6_state_49 (fun g e2 => ⟨_, _, rfl, fun M hM => s_state_n hM j hj (nI t) ⟨nI_le (a := 0) (Nat.zero_le _) ht, c14⟩ (Z.2.1.no hj e), rfl, by rw [show g = _ from e2]; exact Z.q0 hS 0⟩)
  | some m =>
    obtain ⟨pg, sz, Bm, M, hb, -⟩ := Z.me hj e
    obtain ⟨m1, m2, m3, gp, s0, m4, m5, m6⟩ := M
    have th := (Z.2.1.ab hj e).1
    refine o_astore_nE (L' := [some _, some _, some _, some _]) C dX6_state_35 (by rw [hn]; decide) rfl ?_
    refine x_aload_n C dX6_state_36 rfl ?_
    refine x_ifnonnull (tgt := 44) C dX6_state_37 (by decide) ?_
    refine x_aload_n C dX6_state_44 rfl ?_
    refine x_iload_n C dX6_state_45 rfl ?_
    refine k_callR (kc := 1) (ks := 6) (mc' := 0) (ms' := 0) (st := []) C Y hW E.cs (t_detailX hX Bm m5 (fun i hi => (m6 i hi).1) hb ht6 rfl) rfl md_X2_detail wi_X2_detail ws_X2_detail wm_X6_131 dX6_state_46 rfl (by decide) (by decide) Bm rfl rfl (by decide) (fun r g hg => ?_)
    obtain ⟨eg, rfl⟩ := hg
    rw [eg]
    refine x_iret C E dX6_state_49 (fun g e2 => ⟨_, S.si 0 0, rfl, fun M hM => ?_, rfl, by rw [show g = _ from e2]; exact Z.q0 hS 0⟩)
    rcases (show t = 0 ∨ t = 1 ∨ t = 2 ∨ t = 3 ∨ t = 4 ∨ t = 5 ∨ t = 6 by omega) with rfl | rfl | rfl | rfl | rfl | rfl | rfl
    · exact s_state_0 hM j hj th
    · exact s_state_1 hM j hj th
    · exact s_state_2 hM j hj th
    · exact s_state_3 hM j hj th
    · exact s_state_4 hM j hj th
    · exact s_state_5 hM j hj th
    · exact s_state_6 hM j hj th
/-- the meters changed, nothing else -/
theorem ZI.met (Z : ZI c a h9 V α f κ κd ω ωd S h) (ZZg : ZZ c a h9 V α' f' κ' κd g) (rk : RK f' α' S') (wf : WFa S' ∧ WFb S') (er : ER c α' f' κ' ω' S' g) (st : ∀ q, WB a κ h q → g q = h q) (eu : g (a 3) = h (a 3)) (s1 : ∀ q j, q = 1 ∨ q = 21 → S'.a q j = S.a q j) (si : ∀ q, q = 2 ∨ q = 8 ∨ q = 9 ∨ q = 20 → S'.i q = S.i q) (sl : LSx S S') : ZI c a h9 V α' f' κ' κd ω' ωd S' g := by
  obtain ⟨z1, z2, z3, z4, z5, z6, z7, z8⟩ := Z
  have wd : ∀ q, κd q ≠ 0 → WB a κ h q := fun q hq => by
    have kq : κ q = 0 := Decidable.byContradiction fun n => hq (z1.2.2.2.2.2.1 q n)
    have ne : ∀ i, i ≤ 10 → q ≠ a i := fun i hi e => hq (by rw [e]; exact (z1.2.2.2.2.2.2.1 i hi).2)
    exact ⟨z1.dec.nn.2 q hq, kq, ne 3 (by omega), ne 4 (by omega), ne 5 (by omega), ne 6 (by omega)⟩
  refine ⟨ZZg, rk, wf, er, ?_, z6.go (st _ (z1.wb (i := 1) (by omega))) (st _ (z1.wb (i := 2) (by omega))) (si 2 (by omega)) (fun j => s1 1 j (Or.inl rfl)), z7.go (st _ (z1.wb (i := 0) (by omega))) (st _ (z1.wb (i := 10) (by omega))) (si 20 (by omega)) (fun j => s1 21 j (Or.inr rfl)), z8.go (st _ (z1.wb (i := 7) (by omega))) (st _ (z1.wb (i := 8) (by omega))) (fun q hq => st q (wd q (z8.1 q hq))) sl⟩
  rw [EU, eu, si 8 (by omega), si 9 (by omega)]
  exact z5
theorem zy_remove (hX : Wx w c) (hS : MH S) (Z : ZI c a h9 V α f κ κd ω ωd S h) (k : Int32) : TCX w yX6_remove cX6_remove 3 (some .boolean) 1 6 [.ref (a 0), .int k] h
    (fun r g => ∃ v S', r = some (.int v) ∧ (v = 0 ∨ v = 1) ∧ (∀ M, Wm w M → TF w M yX7_remove cX7_remove 3 (some .boolean) 1 [.int k] S (some (.int v)) S') ∧ S'.i 0 = 0 ∧ ZQ c a h9 V S' g) (fun En g => ∃ v S', (∀ M, Wm w M → TF w M yX7_remove cX7_remove 3 (some .boolean) 1 [.int k] S (some (.int v)) S') ∧ (En = IOE ∧ S'.i 0 = 1) ∧ ZQ c a h9 V S' g) := by
  have hW := hX.1
  have Bx := Z.x
  have B : h (a 3) = _ := Z.2.2.2.2.1
  refine TCX.intro hX.1 rfl (by decide +kernel) (Nat.le_of_ble_eq_true rfl) (fun z C Y E hn => ?_)
  refine x_iload_n C dX6_remove_0 rfl ?_
  refine u_callS C hW E.1 (m_isMeterNumber hW k) md_X6_isMeterNumber wt_X6_isMeterNumber wm_X6_81 dX6_remove_1 rfl (by decide) (by decide) rfl (by simp [Value.category]) ?_
  refine x_if_ne (tgt := 17) C dX6_remove_4 (by decide) (fun c1 => ?_) (fun c1 => ?_)
  · have g0 : (0 : Int32) ≤ k ∧ k < 12 := Decidable.of_not_not (fun g => c1 (bI_f g))
    obtain ⟨j, hj2, rfl⟩ := k_rng12 g0
    refine E.go C Y (fun z' C Y E hn1 => ?_)
    rw [hn] at hn1
    have hn := hn1
    have T33 : ∀ v : Int32, v = S.a 10 j → (v = 0 ∨ v = 1) → narrow .boolean (.int v) = .int v → X z' 1 6 (EQ h) 33 [some (.ref (a 0)), some (.int (nI j)), none] [.int v] := fun v ev v01 nv => by
      refine o_istore_nE (L' := [some _, some _, some _]) C dX6_remove_33 (by rw [hn]; decide) rfl ?_
      refine x_aload_n C dX6_remove_34 rfl ?_
      refine e_get C Y kd_X6 1 (by decide) wf_X6_19 dX6_remove_35 Bx rfl ?_
      refine x_iload_n C dX6_remove_38 rfl ?_
      refine x_null C dX6_remove_39 ?_
      refine u_callV (st := []) C Y hW E.cs (u_plugN hX Z.1.bus hj2) md_X0_plug wi_X0_plug ws_X0_plug wm_X6_110 dX6_remove_40 rfl (by decide) (by decide) B rfl rfl (by decide) ?_
      refine x_iload_n C dX6_remove_43 rfl ?_
      refine x_zret C E dX6_remove_44 nv (fun g e => ⟨v, _, rfl, v01, fun M hM => by rw [ev]; exact g_remove hM hS j hj2, rfl, hS.remove j, α, va_up f j none, κ, κd, ω, ωd, ?_⟩)
      rw [show g = _ from e]
      obtain ⟨n, n90, D⟩ := Z.1.bus
      have d := Z.1.dif
      refine Z.met (Z.1.ofB0 ⟨n, n90, D.plug (fun q m hq => ?_)⟩) (Z.2.1.remove j) ⟨Z.2.2.1.1.si.sa (by decide) (by decide) (by decide), Z.2.2.1.2.si.sa (fun q => nomatch q)⟩ ?_ (fun q hq => hs_ne hq.2.2.2.1) (hs_ne (d 3 4 (by omega) (by omega) (by omega))) (fun q j hq => by rw [sa_ne (by omega)]; rfl) (fun q hq => by rw [MS.sa_i, MS.si_i, if_neg (by omega)]) ⟨fun q hq => by rw [MS.sa_i, MS.si_i, if_neg (by omega)], fun _ _ => rfl, fun q j q1 q2 => by rw [sa_ne (by omega)]; rfl⟩
      · by_cases e1 : q = j
        · subst e1; rw [va_up_self] at hq; exact nomatch hq
        · rw [va_up_ne _ _ e1] at hq; exact D.2.2.1 q m hq
      · refine ER.same (S := S) (h := h) ⟨Z.2.2.2.1.1, fun q hq m em => ?_⟩ (fun q hq => hs_ne (Z.nw (Or.inl hq) 4 (by omega))) (fun q j hq => by rw [sa_ne (by omega)]; rfl)
        by_cases e1 : q = j
        · subst e1; rw [va_up_self] at em; exact nomatch em
        · rw [va_up_ne _ _ e1] at em; exact Z.2.2.2.1.2 q hq m em
    refine x_aload_n C dX6_remove_17 rfl ?_
    refine e_get C Y kd_X6 1 (by decide) wf_X6_19 dX6_remove_18 Bx rfl ?_
    refine x_iload_n C dX6_remove_21 rfl ?_
    refine u_callV (st := []) C Y hW E.cs (u_meterAt hX Z.1.bus (nI j)) md_X0_meterAt wi_X0_meterAt ws_X0_meterAt wm_X6_114 dX6_remove_22 rfl (by decide) (by decide) B rfl rfl (by decide) ?_
    rw [fk_nI f hj2]
    cases e : f j with
    | none =>
      refine x_ifnullN (tgt := 32) C dX6_remove_25 (by decide) ?_
      exact x_iconst (v := 0) C dX6_remove_32 (by decide) (T33 0 (Z.2.1.no hj2 e).symm (Or.inl rfl) (by decide))
    | some m =>
      refine x_ifnull C dX6_remove_25 ?_
      refine x_iconst (v := 1) C dX6_remove_28 (by decide) ?_
      exact x_goto (tgt := 33) C dX6_remove_29 (by decide) (T33 1 ((hS.2.2 j).resolve_left (Z.2.1.ab hj2 e).1).symm (Or.inr rfl) (by decide))
  · exact u_thr (kc := 0) (ks := 0) hX C E exs_IOE at_76 wc_X6_72 wz_IndexOutOfBoundsException (show (85, "no such meter") ∈ txts by simp [txts]) dX6_remove_7 dX6_remove_10 dX6_remove_11 dX6_remove_13 dX6_remove_16 (by decide) (fun g e => ⟨_, _, fun M hM => s_remove_f hM k (fun q => absurd (bI_t (p := (0 : Int32) ≤ k ∧ k < 12) ⟨q.1, le11.mpr q.2⟩) (by rw [c1]; decide)), ⟨rfl, rfl⟩, by rw [show g = _ from e]; exact Z.q0 hS 1⟩)
end Calls
end
section
/-! A MeterBus against the model: page, meter, found. -/
section Calls
variable {w : Wd} {c : Nat → ClassId} {a : Nat → Nat} {h9 : PH} {V : Nat → Prop} {α α' : Nat → Int64} {f f' : Nat → Option Nat} {κ κ' κd ω ω' ωd : Nat → Nat} {S S' : MS} {h g : PH}
theorem page_w (S : MS) (k i n q j : Nat) : (f_page S k i n).w q j = S.w q j := by
  have : ∀ (Q : MS) (o n : Nat), (f_pcp Q o n).w q j = Q.w q j := fun Q o n => by
    induction n with
    | zero => rfl
    | succ n ih => rw [f_pcp]; exact ih
  exact this _ _ n
theorem zy_page (hX : Wx w c) (hS : MH S) (Z : ZI c a h9 V α f κ κd ω ωd S h) (k i : Int32) : TCX w yX6_page cX6_page 4 (some .int) 1 6 [.ref (a 0), .int k, .int i] h
    (fun r g => ∃ v S', r = some (.int v) ∧ (∀ M, Wm w M → TF w M yX7_page cX7_page 4 (some .int) 2 [.int k, .int i] S (some (.int v)) S') ∧ S'.i 0 = 0 ∧ ZQ c a h9 V S' g) (fun En g => ∃ v S', (∀ M, Wm w M → TF w M yX7_page cX7_page 4 (some .int) 2 [.int k, .int i] S (some (.int v)) S') ∧ ((En = IOE ∧ S'.i 0 = 1) ∨ (En = UOE ∧ S'.i 0 = 2)) ∧ ZQ c a h9 V S' g) := by
  have hW := hX.1
  have Bx := Z.x
  have B : h (a 3) = _ := Z.2.2.2.2.1
  obtain ⟨gb, nb, R, e2, e1⟩ := Z.2.2.2.2.2.1
  have hn3 := R.2.2.2
  refine TCX.intro hX.1 rfl (by decide +kernel) (Nat.le_of_ble_eq_true rfl) (fun z C Y E hn => ?_)
  have T22 : ¬ q_page S k i → ∀ l : Option Value, X z 1 6 (EQ h) 22 [some (.ref (a 0)), some (.int k), some (.int i), l] [] := fun nq l => u_thr (kc := 0) (ks := 0) hX C E exs_IOE at_76 wc_X6_72 wz_IndexOutOfBoundsException (show (118, "no such meter or page") ∈ txts by simp [txts]) dX6_page_22 dX6_page_25 dX6_page_26 dX6_page_28 dX6_page_31 (by decide) (fun g e => ⟨_, _, fun M hM => by have := s_page_x (S := S) hM k i nb e2 hn3 (fun q => nq q.1); rw [if_pos nq] at this; exact this, Or.inl ⟨rfl, rfl⟩, by rw [show g = _ from e]; exact Z.q0 hS 1⟩)
  refine x_aload_n C dX6_page_0 rfl ?_
  refine e_get C Y kd_X6 1 (by decide) wf_X6_19 dX6_page_1 Bx rfl ?_
  refine x_iload_n C dX6_page_4 rfl ?_
  refine u_callV (st := []) C Y hW E.1 (u_meterAt hX Z.1.bus k) md_X0_meterAt wi_X0_meterAt ws_X0_meterAt wm_X6_114 dX6_page_5 rfl (by decide) (by decide) B rfl rfl (by decide) ?_
  cases e : fk f k with
  | none =>
    have nq : ¬ q_page S k i := fun q => by
      obtain ⟨j, hj, rfl⟩ := k_rng12 ⟨q.1.1.1, le11.mpr q.1.1.2⟩
      rw [fk_nI f hj] at e
      have := q.1.2
      rw [nI_clamp (by omega)] at this
      exact this (Z.2.1.no hj e)
    refine o_astore_nN (L' := [some _, some _, some _, some _]) C dX6_page_8 (by rw [hn]; decide) rfl ?_
    refine x_aload_nN C dX6_page_9 rfl ?_
    exact x_ifnullN (tgt := 22) C dX6_page_10 (by decide) (T22 nq _)
  | some m =>
    obtain ⟨kk, hk, ek, em⟩ : ∃ kk, kk < 12 ∧ k = nI kk ∧ f kk = some m := by
      unfold fk at e
      split at e
      · exact nomatch e
      · rename_i q
        obtain ⟨j, hj, rfl⟩ := k_rng12 (k := k) ⟨Int32.not_lt.mp (fun x => q (Or.inl x)), Int32.not_le.mp (fun x => q (Or.inr x))⟩
        rw [nI_clamp (by omega)] at e
        exact ⟨j, hj, rfl, e⟩
    subst ek
    have th := (Z.2.1.ab hk em).1
    have hm := Z.km em
    obtain ⟨pg, sz, Bm, MQ0, hb, k1, k2, -⟩ := Z.me hk em
    have MQ1 := MQ0
    obtain ⟨m1, m2, m3, gp, s0, m4, m5, m6⟩ := MQ1
    refine o_astore_nE (L' := [some _, some _, some _, some _]) C dX6_page_8 (by rw [hn]; decide) rfl ?_
    refine x_aload_n C dX6_page_9 rfl ?_
    refine x_ifnull C dX6_page_10 ?_
    refine x_iload_n C dX6_page_13 rfl ?_
    refine x_if_lt (tgt := 22) C dX6_page_14 (by decide) (fun q => T22 (fun x => absurd x.2.1 (Int32.not_le.mpr q)) _) (fun c14 => ?_)
    refine x_iload_n C dX6_page_17 rfl ?_
    refine x_iconst (v := 3) C dX6_page_18 (by decide) ?_
    refine x_icmp_lt (tgt := 32) C dX6_page_19 (by decide) (fun c19 => ?_) (fun q => T22 (fun x => q (by
      have := x.2.2
      rw [Int32.le_iff_toInt_le, show (2 : Int32).toInt = 2 from by decide] at this
      rw [Int32.lt_iff_toInt_lt, show (3 : Int32).toInt = 3 from by decide]
      omega)) _)
    obtain ⟨j, hj, rfl⟩ := nI_of c14
    have hj3 : j < 3 := (nI_ltI hj (by decide)).mp c19
    have qp : q_page S (nI kk) (nI j) := ⟨⟨⟨nI_le (a := 0) (Nat.zero_le _) (by omega), nI_le (b := 11) (by omega) (by decide)⟩, by rw [nI_clamp (by omega)]; exact th⟩, nI_le (a := 0) (Nat.zero_le _) hj, nI_le (b := 2) (by omega) (by decide)⟩
    refine x_aload_n C dX6_page_32 rfl ?_
    refine e_get C Y kd_X6 0 (by decide) wf_X6_10 dX6_page_33 Bx rfl ?_
    refine u_callV (st := []) C Y hW E.1 (r_size hW R) md_X5_size wi_X5_size ws_X5_size wm_X6_54 dX6_page_36 rfl (by decide) (by decide) R.2.1 rfl rfl (by decide) ?_
    refine x_bipush (v := 60) C dX6_page_39 (by decide) ?_
    refine x_icmp_le (tgt := 54) C dX6_page_41 (by decide) (fun c41 => ?_) (fun c41 => u_thr (kc := 0) (ks := 0) hX C E exs_UOE at_62 wc_X6_58 wz_UnsupportedOperationException (show (120, "the buffer has more than 60 bytes") ∈ txts by simp [txts]) dX6_page_44 dX6_page_47 dX6_page_48 dX6_page_50 dX6_page_53 (by decide) (fun g e => ⟨_, _, fun M hM => by have := s_page_x (S := S) hM (nI kk) (nI j) nb e2 hn3 (fun q => c41 (nI_le (b := 60) q.2 (by decide))); rw [if_neg (not_not_intro qp)] at this; exact this, Or.inr ⟨rfl, rfl⟩, by rw [show g = _ from e]; exact Z.q0 hS 2⟩))
    have n60 : nb ≤ 60 := (nI_leI (b := 60) (by omega) (by decide)).mp c41
    refine E.go C Y (fun z' C Y E hn1 => ?_)
    obtain ⟨a1, t, P0, a2, a3, a4, a5⟩ := m6 j hj3
    have nw : ∀ q, ω q ≠ 0 → ∀ i, i ≤ 10 → q ≠ a i := fun q hq => Z.nw (Or.inl hq)
    have sp := t_setPageX hX Bm hj3 m5 m4 a2 a4 R n60 (fun e => by rw [e, a3] at m1; omega) (fun e => by rw [e, a3] at m3; omega) (fun e => by rw [e, a3] at m2; omega) (fun e => nw t (by omega) 1 (by omega) e.symm) (fun e => nw t (by omega) 2 (by omega) e.symm)
    have er := Z.2.2.2.1.page Z.2.2.1.1 hk em Bm hj3 m4 m5 a2 (P0 := P0) e1 n60
    have kt : κ t = 3 := by
      obtain ⟨n, -, D⟩ := Z.1.bus
      obtain ⟨gp', Bp', hp'⟩ := D.pg k1
      have eg : gp' = gp := by have := Bp'.symm.trans m4; simp only [Option.some.injEq, Sum.inl.injEq, Prod.mk.injEq, Sum.inr.injEq, true_and] at this; exact this
      obtain ⟨t', t1, t2⟩ := hp' j hj3
      rw [eg, a2] at t1
      rw [Option.some.inj t1]
      exact t2
    have D2 : BX c (a 3) (a 4) (a 5) (a 6) h (WB a κ h) α f κ (hs (hs h t (.inl (c 0, 60, .inl (pcF P0 gb nb)))) sz (.inl (c 0, 3, .inl (upd s0 j (nI nb))))) := by
      obtain ⟨n, n90, D⟩ := Z.1.bus
      exact ⟨n, n90, (D.put (by omega) (by rw [kt]; exact ⟨_, rfl⟩)).put (by omega) (by rw [k2]; exact ⟨_, rfl⟩)⟩
    have st : ∀ q, WB a κ h q → hs (hs h t (.inl (c 0, 60, .inl (pcF P0 gb nb)))) sz (.inl (c 0, 3, .inl (upd s0 j (nI nb)))) q = h q := fun q hq => by rw [hs_ne (fun e => absurd hq.2.1 (by rw [e, k2]; decide)), hs_ne (fun e => absurd hq.2.1 (by rw [e, kt]; decide))]
    -- the model ahead of the cut: its buffer is still there
    have Z1 : ZI c a h9 V α f κ κd ω ωd ((f_page S kk j nb).si 2 (nI nb)) (hs (hs h t (.inl (c 0, 60, .inl (pcF P0 gb nb)))) sz (.inl (c 0, 3, .inl (upd s0 j (nI nb))))) := by
      have mh := hS.page (k := kk) (i := j) n60
      refine Z.met (Z.1.ofB0 D2) (Z.2.1.sm ⟨fun q => page_a (by decide) (by decide), fun q => page_a (by decide) (by decide)⟩) ⟨mh.1.mi.2.1.si, mh.1.mi.1.si⟩ (er.same (fun _ _ => rfl) (fun _ _ _ => rfl)) st ?_ (fun q j hq => by rw [MS.si_a, page_a (by omega) (by omega)]) (fun q hq => ?_) ⟨?_, fun q j => page_w S kk _ nb q j, fun q j q1 q2 => by rw [MS.si_a, page_a (by omega) (by omega)]⟩
      · rw [hs_ne (fun e => nw sz (by omega) 3 (by omega) e.symm), hs_ne (fun e => nw t (by omega) 3 (by omega) e.symm)]
      · rw [MS.si_i]
        split
        · rename_i q2; rw [q2]; exact e2.symm
        · rename_i q2; exact page_i (by omega) q2
      · intro q hq; rw [MS.si_i, if_neg (by omega)]; exact page_i (by omega) (by omega)
    refine x_aload_n C dX6_page_54 rfl ?_
    refine x_iload_n C dX6_page_55 rfl ?_
    refine x_aload_n C dX6_page_56 rfl ?_
    refine e_get C Y kd_X6 0 (by decide) wf_X6_10 dX6_page_57 Bx rfl ?_
    refine u_callV (st := []) C Y hW E.cs sp md_X2_setPage wi_X2_setPage ws_X2_setPage wm_X6_122 dX6_page_60 rfl (by decide) (by decide) Bm rfl rfl (by decide) ?_
    generalize hs (hs h t (.inl (c 0, 60, .inl (pcF P0 gb nb)))) sz (.inl (c 0, 3, .inl (upd s0 j (nI nb)))) = h2 at Z1
    have Bx2 := Z1.x
    obtain ⟨gb2, nb2, R2, -, -⟩ := Z1.2.2.2.2.2.1
    have rc := r_cutTo hW R2 0
    rw [rCut_0 R2.2.2.2] at rc
    refine x_aload_n C dX6_page_63 rfl ?_
    refine e_get C Y kd_X6 0 (by decide) wf_X6_10 dX6_page_64 Bx2 rfl ?_
    refine x_iconst (v := 0) C dX6_page_67 (by decide) ?_
    refine u_callV (st := []) C Y hW E.cs rc md_X5_cutTo wi_X5_cutTo ws_X5_cutTo wm_X6_69 dX6_page_68 rfl (by decide) (by decide) R2.2.1 rfl rfl (by decide) ?_
    have mh := hS.page (k := kk) (i := j) n60
    have Z2 : ZI c a h9 V α f κ κd ω ωd (f_page S kk j nb) (rowh c h2 (a 1) (a 2) gb2 0) := Z1.putB (by decide) ⟨mh.1.mi.2.1, mh.1.mi.1⟩ rfl (fun j hj => absurd hj (Nat.not_lt_zero j)) (fun _ _ _ => rfl) (fun q hq => by rw [MS.si_i, if_neg (by omega)]) ⟨fun q hq => by rw [MS.si_i, if_neg (by omega)], fun _ _ => rfl, fun _ _ _ _ => rfl⟩
    obtain ⟨pg2, sz2, Bm2, ⟨-, -, -, gp2, s2, -, m52, m62⟩, -⟩ := Z2.me hk em
    have tp := t_pageNumber hW Bm2 m52
    rw [pages_eq (fun i hi => (m62 i hi).1)] at tp
    refine x_aload_n C dX6_page_71 rfl ?_
    refine u_callV (st := []) C Y hW E.cs tp md_X2_pageNumber wi_X2_pageNumber ws_X2_pageNumber wm_X6_126 dX6_page_72 rfl (by decide) (by decide) Bm2 rfl rfl (by decide) ?_
    exact x_iret C E dX6_page_75 (fun g e => ⟨_, _, rfl, fun M hM => s_page_t hM kk j nb hk hj3 th e2 n60, by unfold f_page; rw [MS.si_i, if_neg (by decide), MS.sa_i, f_pcp_i]; rfl, mh, α, f, κ, κd, ω, ωd, by rw [show g = _ from e]; exact Z2⟩)
end Calls
end
section
/-! A MeterBus against the model: meter, found. -/
section Met
variable {w : Wd} {c : Nat → ClassId} {u ma an aa n m k : Nat} {h0 h g : PH} {W : Nat → Prop} {α : Nat → Int64} {f : Nat → Option Nat} {κ κ' ω : Nat → Nat} {S S' : MS}
theorem meter_o (S : MS) (k : Nat) (ad i mk v d : Int32) {q j : Nat} (hq : q = 11 ∨ q = 13 ∨ q = 16) : (f_meter S k ad i mk v d).a q j = if j = k then (if q = 11 then ad else 0) else S.a q j := by
  unfold f_meter
  rw [mp_a _ _ (by omega)]
  rcases hq with rfl | rfl | rfl
  · rw [sa_ne (by decide), sa_ne (by decide), sa_ne (by decide), sa_ne (by decide), mb_a _ _ _ _ _ _ (by decide), MS.sa_a]
    by_cases e : j = k
    · simp [e]
    · simp [e]
      rw [sa_ne (by decide)]
      rfl
  · rw [sa_ne (by decide), sa_ne (by decide), sa_ne (by decide), MS.sa_a]
    by_cases e : j = k
    · simp [e]
    · simp [e]
      rw [mb_a _ _ _ _ _ _ (by decide), sa_ne (by decide), sa_ne (by decide)]
      rfl
  · rw [MS.sa_a]
    by_cases e : j = k
    · simp [e]
    · simp [e]
      rw [sa_ne (by decide), sa_ne (by decide), sa_ne (by decide), mb_a _ _ _ _ _ _ (by decide), sa_ne (by decide), sa_ne (by decide)]
      rfl
theorem meter_st (S : MS) (k : Nat) (ad i mk v d : Int32) {q j : Nat} (h : ¬ (10 ≤ q ∧ q ≤ 17)) : (f_meter S k ad i mk v d).a q j = S.a q j := by
  unfold f_meter
  rw [mp_a _ _ (by omega), sa_ne (by omega), sa_ne (by omega), sa_ne (by omega), sa_ne (by omega), mb_a _ _ _ _ _ _ (by omega), sa_ne (by omega), sa_ne (by omega)]
  rfl
theorem meter_si (S : MS) (k : Nat) (ad i mk v d : Int32) (q : Nat) : (f_meter S k ad i mk v d).i q = if q = 0 then 0 else S.i q := by
  unfold f_meter
  rw [mp_i, MS.sa_i, MS.sa_i, MS.sa_i, MS.sa_i, mb_i, MS.sa_i, MS.sa_i, MS.si_i]
theorem mb_w (S : MS) (k : Nat) (i mk v d : Int32) (q j : Nat) : ∀ n, (f_mb S k i mk v d n).w q j = S.w q j
  | 0 => rfl
  | n + 1 => by rw [f_mb]; exact mb_w S k i mk v d q j n
theorem mp_w (S : MS) (k q j : Nat) : ∀ n, (f_mp S k n).w q j = S.w q j
  | 0 => rfl
  | n + 1 => by rw [f_mp]; exact mp_w S k q j n
theorem meter_w (S : MS) (k : Nat) (ad i mk v d : Int32) (q j : Nat) : (f_meter S k ad i mk v d).w q j = S.w q j := by
  unfold f_meter
  rw [mp_w, MS.sa_w, MS.sa_w, MS.sa_w, MS.sa_w, mb_w, MS.sa_w, MS.sa_w, MS.si_w]
theorem ER.meter (R : ER c α f κ ω S h) {p : Nat} (hp : h p = none) {e0 : va_E} {ad : Int64} {pr i mk v d : Int32} (M : MN c (hs h p e0) p ad pr g) (nn : ∀ q, κ q ≠ 0 → h q ≠ none) (kx : ∀ q, κ q ≠ 0 → κ' q = κ q) (D : BN c u ma an aa h0 W (va_up α p ad) f κ' n g) (kp : κ' p = 1) {j : Nat} (hj : j < 12) (hma : h ma ≠ none) : ∃ ω', ER c (va_up α p ad) (va_up f j (some p)) κ' ω' (f_meter S j pr i mk v d) (hs g ma (zM c (va_up f j (some p)))) := by
  obtain ⟨q, ps, r, m1, m2, m3, m4, ⟨m5, m6, m7, m8⟩, m9, m10⟩ := M
  have qp : q ≠ p := fun e => by rw [e, hs_self] at m6; exact nomatch m6
  have sp : ps ≠ p := fun e => by rw [e, hs_self] at m7; exact nomatch m7
  have rp : ∀ i, i < 3 → r i ≠ p := fun i hi e => by have := m8 i hi; rw [e, hs_self] at this; exact nomatch this
  rw [hs_ne qp] at m6
  rw [hs_ne sp] at m7
  have m8' : ∀ i, i < 3 → h (r i) = none := fun i hi => by have := m8 i hi; rw [hs_ne (rp i hi)] at this; exact this
  have sq : ps ≠ q := fun e => by rw [e, m2] at m3; simp [ouE] at m3
  have rq : ∀ i, i < 3 → r i ≠ q := fun i hi e => by have := m4 i hi; rw [e, m2] at this; simp [ouE, pgE] at this
  have rs : ∀ i, i < 3 → r i ≠ ps := fun i hi e => by have := m4 i hi; rw [e, m3] at this; cases this
  have old : ∀ x, h x ≠ none → g x = h x := fun x n1 => by
    have xp : x ≠ p := fun e => n1 (by rw [e]; exact hp)
    rw [m9 x xp (by rw [hs_ne xp]; exact n1), hs_ne xp]
  let ω' : Nat → Nat := fun x => if x = p then 8 * j + 1 else if x = q then 8 * j + 2 else if x = ps then 8 * j + 3 else if x = r 0 then 8 * j + 4 else if x = r 1 then 8 * j + 5 else if x = r 2 then 8 * j + 6 else ω x
  have w1 : ω' p = 8 * j + 1 := if_pos rfl
  have w2 : ω' q = 8 * j + 2 := by show (if q = p then _ else _) = _; rw [if_neg qp, if_pos rfl]
  have w3 : ω' ps = 8 * j + 3 := by show (if ps = p then _ else _) = _; rw [if_neg sp, if_neg sq, if_pos rfl]
  have w4 : ∀ i, i < 3 → ω' (r i) = 8 * j + 4 + i := fun i hi => by
    show (if r i = p then _ else _) = _
    rw [if_neg (rp i hi), if_neg (rq i hi), if_neg (rs i hi)]
    rcases (show i = 0 ∨ i = 1 ∨ i = 2 by omega) with rfl | rfl | rfl
    · rw [if_pos rfl]
    · rw [if_neg (fun e => absurd (m10 1 0 (by omega) (by omega) e) (by decide)), if_pos rfl]
    · rw [if_neg (fun e => absurd (m10 2 0 (by omega) (by omega) e) (by decide)), if_neg (fun e => absurd (m10 2 1 (by omega) (by omega) e) (by decide)), if_pos rfl]
  have w5 : ∀ x, h x ≠ none → ω' x = ω x := fun x nx => by
    show (if x = p then _ else _) = ω x
    rw [if_neg (fun e => nx (by rw [e]; exact hp)), if_neg (fun e => nx (by rw [e]; exact m6)), if_neg (fun e => nx (by rw [e]; exact m7)), if_neg (fun e => nx (by rw [e]; exact m8' 0 (by omega))), if_neg (fun e => nx (by rw [e]; exact m8' 1 (by omega))), if_neg (fun e => nx (by rw [e]; exact m8' 2 (by omega)))]
  obtain ⟨-, kq, ks, -⟩ := D.me2 kp m1
  have kr : ∀ i, i < 3 → κ' (r i) ≠ 0 := fun i hi => by
    obtain ⟨gp, Bp, hgp⟩ := D.pg kq
    obtain ⟨t, t1, t2⟩ := hgp i hi
    have eg : gp = fun i => if i < 3 then some (r i) else none := by have := Bp.symm.trans m2; simp only [ouE, Option.some.injEq, Sum.inl.injEq, Prod.mk.injEq, Sum.inr.injEq, true_and] at this; exact this
    rw [eg] at t1
    simp only [hi, if_true] at t1
    rw [Option.some.inj t1, t2]
    decide
  have nma : ∀ x, h x = none → x ≠ ma := fun x hx e => hma (by rw [← e]; exact hx)
  refine ⟨ω', fun x hx => ?_, fun k hk m em => ?_⟩
  · by_cases e1 : x = p
    · rw [e1, kp]; decide
    by_cases e2 : x = q
    · rw [e2, kq]; decide
    by_cases e3 : x = ps
    · rw [e3, ks]; decide
    by_cases e4 : x = r 0
    · rw [e4]; exact kr 0 (by omega)
    by_cases e5 : x = r 1
    · rw [e5]; exact kr 1 (by omega)
    by_cases e6 : x = r 2
    · rw [e6]; exact kr 2 (by omega)
    have : ω' x = ω x := by show (if x = p then _ else _) = ω x; rw [if_neg e1, if_neg e2, if_neg e3, if_neg e4, if_neg e5, if_neg e6]
    rw [this] at hx
    have := R.1 x hx
    rw [kx x this]
    exact this
  · by_cases ek : k = j
    · subst ek
      rw [va_up_self] at em
      obtain rfl : p = m := Option.some.inj em
      refine ⟨⟨q, ps, ?_, w1, w2, w3, _, _, by rw [hs_ne (nma q m6)]; exact m2, by rw [hs_ne (nma ps m7)]; exact m3, fun i hi => ⟨?_, r i, _, if_pos hi, w4 i hi, by rw [hs_ne (nma _ (m8' i hi))]; exact m4 i hi, fun b hb => ?_⟩⟩, ?_⟩
      · rw [hs_ne (nma p hp), m1, va_up_self, meter_o _ _ _ _ _ _ _ (Or.inl rfl), meter_o _ _ _ _ _ _ _ (Or.inr (Or.inl rfl)), meter_o _ _ _ _ _ _ _ (Or.inr (Or.inr rfl)), meter_14, meter_15]
        simp
      · show (0 : Int32) = (f_meter S k pr _ mk v d).a 17 (3 * k + i)
        rw [meter_17, if_pos (by omega)]
      · have hb : b < ((f_meter S k pr _ mk v d).a 17 (3 * k + i)).toNatClampNeg := hb
        rw [meter_17, if_pos (by omega)] at hb
        exact absurd hb (Nat.not_lt_zero b)
      · rw [meter_14, meter_15]
        simp
        exact Or.inl ⟨rfl, rfl⟩
    · rw [va_up_ne _ _ ek] at em
      obtain ⟨⟨pg', sz', e1, M1⟩, b1⟩ := R.2 k hk m em
      have lm := M1.1
      have hm : h m ≠ none := by rw [e1]; exact fun q => nomatch q
      have mp : m ≠ p := fun e => hm (by rw [e]; exact hp)
      have ko : ∀ x, ω x ≠ 0 → h x ≠ none ∧ x ≠ ma := fun x hx => ⟨nn x (R.1 x hx), fun e => by
        have := R.1 x hx
        have k2 := kx x this
        rw [e, D.2.2.2.2.2.1.2.1] at k2
        rw [e] at this
        exact this k2.symm⟩
      obtain ⟨y1, y2, y3, gp, s0, y4, y5, y6⟩ := M1
      have cell : ∀ x, ω x ≠ 0 → hs g ma (zM c (va_up f j (some p))) x = h x ∧ ω' x = ω x := fun x hx => by
        obtain ⟨o1, o2⟩ := ko x hx
        exact ⟨by rw [hs_ne o2]; exact old x o1, w5 x o1⟩
      refine ⟨⟨pg', sz', ?_, by rw [(cell m (by omega)).2]; exact y1, by rw [(cell pg' (by omega)).2]; exact y2, by rw [(cell sz' (by omega)).2]; exact y3, gp, s0, by rw [(cell pg' (by omega)).1]; exact y4, by rw [(cell sz' (by omega)).1]; exact y5, fun i' hi' => ?_⟩, ?_⟩
      · rw [(cell m (by omega)).1, va_up_ne _ _ mp, meter_o _ _ _ _ _ _ _ (Or.inl rfl), meter_o _ _ _ _ _ _ _ (Or.inr (Or.inl rfl)), meter_o _ _ _ _ _ _ _ (Or.inr (Or.inr rfl)), meter_14, meter_15, if_neg ek, if_neg ek, if_neg ek, if_neg ek, if_neg ek]
        exact e1
      · obtain ⟨z1, t, P0, z2, z3, z4, z5⟩ := y6 i' hi'
        have e17 : (f_meter S j pr i mk v d).a 17 (3 * k + i') = S.a 17 (3 * k + i') := by rw [meter_17, if_neg (by omega)]
        refine ⟨z1.trans e17.symm, t, P0, z2, by rw [(cell t (by omega)).2]; exact z3, by rw [(cell t (by omega)).1]; exact z4, fun b hb => ?_⟩
        have hb : b < ((f_meter S j pr i mk v d).a 17 (3 * k + i')).toNatClampNeg := hb
        rw [e17] at hb
        show P0 b = (f_meter S j pr i mk v d).a 18 (60 * (3 * k + i') + b)
        rw [meter_st _ _ _ _ _ _ _ (by omega)]
        exact z5 b hb
      · rw [meter_14, meter_15, if_neg ek, if_neg ek]
        exact b1
end Met
section Calls
variable {w : Wd} {c : Nat → ClassId} {a : Nat → Nat} {h9 : PH} {V : Nat → Prop} {α : Nat → Int64} {f : Nat → Option Nat} {κ κd ω ωd : Nat → Nat} {S : MS} {h : PH}
theorem zy_meter (hX : Wx w c) (hS : MH S) (Z : ZI c a h9 V α f κ κd ω ωd S h) (k ad i mk v d : Int32) : TCX w yX6_meter cX6_meter 9 none 6 194 [.ref (a 0), .int k, .int ad, .int i, .int mk, .int v, .int d] h
    (fun r g => r = none ∧ ∃ S', (∀ M, Wm w M → TF w M yX7_meter cX7_meter 11 none 1 [.int k, .int ad, .int i, .int mk, .int v, .int d] S none S') ∧ S'.i 0 = 0 ∧ ZQ c a h9 V S' g)
    (fun En g => ∃ S', (∀ M, Wm w M → TF w M yX7_meter cX7_meter 11 none 1 [.int k, .int ad, .int i, .int mk, .int v, .int d] S none S') ∧ ((En = IOE ∧ S'.i 0 = 1) ∨ (En = IAE ∧ S'.i 0 = 2)) ∧ ZQ c a h9 V S' g) := by

  have hW := hX.1
  have Bx := Z.x
  have B : h (a 3) = _ := Z.2.2.2.2.1
  have bad : ∀ g : PH, g = h → ((0 : Int32) ≤ k ∧ k < 12) → (¬ k_good ad i mk v d ∨ oth f α k (adr i mk v d)) → ∃ S', (∀ M, Wm w M → TF w M yX7_meter cX7_meter 11 none 1 [.int k, .int ad, .int i, .int mk, .int v, .int d] S none S') ∧ ((IAE = IOE ∧ S'.i 0 = 1) ∨ (IAE = IAE ∧ S'.i 0 = 2)) ∧ ZQ c a h9 V S' g := fun g e g0 no => by
    have gk2 : (0 : Int32) ≤ k ∧ k ≤ 11 := ⟨g0.1, le11.mp g0.2⟩
    refine ⟨_, fun M hM => ?_, Or.inr ⟨rfl, rfl⟩, by rw [e]; exact Z.q0 hS 2⟩
    have t := s_meter_x hM k ad i mk v d (S := S) (fun q => by
      have := Z.2.1.good.mp q.2
      exact no.elim (fun n => n this.1) (fun n => this.2 n))
    rw [if_neg (not_not_intro gk2)] at t
    exact t
  refine TCX.intro hX.1 rfl (by decide +kernel) (Nat.le_of_ble_eq_true rfl) (fun z C Y E hn => ?_)
  refine x_iload_n C dX6_meter_0 rfl ?_
  refine u_callS C hW E.1 (m_isMeterNumber hW k) md_X6_isMeterNumber wt_X6_isMeterNumber wm_X6_81 dX6_meter_1 rfl (by decide) (by decide) rfl (by simp [Value.category]) ?_
  refine x_if_ne (tgt := 17) C dX6_meter_4 (by decide) (fun c4 => ?_) (fun c4 => ?_)
  rotate_left
  · exact u_thr (kc := 5) (ks := 188) hX C E exs_IOE at_76 wc_X6_72 wz_IndexOutOfBoundsException (show (85, "no such meter") ∈ txts by simp [txts]) dX6_meter_7 dX6_meter_10 dX6_meter_11 dX6_meter_13 dX6_meter_16 (by decide) (fun g e => ⟨_, fun M hM => by
      have nk2 : ¬ ((0 : Int32) ≤ k ∧ k ≤ 11) := fun q => absurd (bI_t (p := (0 : Int32) ≤ k ∧ k < 12) ⟨q.1, le11.mpr q.2⟩) (by rw [c4]; decide)
      have t := s_meter_x hM k ad i mk v d (S := S) (fun q => nk2 q.1)
      rw [if_pos nk2] at t
      exact t, Or.inl ⟨rfl, rfl⟩, by rw [show g = _ from e]; exact Z.q0 hS 1⟩)
  have g0 : (0 : Int32) ≤ k ∧ k < 12 := Decidable.of_not_not (fun g => c4 (bI_f g))
  have T35 : ¬ k_good ad i mk v d → X z 6 194 (EQ h) 35 [some (.ref (a 0)), some (.int k), some (.int ad), some (.int i), some (.int mk), some (.int v), some (.int d), none, none] [] := fun g1 => u_thr (kc := 5) (ks := 188) hX C E exs_IAE at_51 wc_X6_47 wz_IllegalArgumentException (show (90, "the primary address or the ident is not as said") ∈ txts by simp [txts]) dX6_meter_35 dX6_meter_38 dX6_meter_39 dX6_meter_41 dX6_meter_44 (by decide) (fun g e => bad g e g0 (Or.inl g1))
  have T84 : ¬ k_good ad i mk v d → X z 6 194 (EQ h) 84 [some (.ref (a 0)), some (.int k), some (.int ad), some (.int i), some (.int mk), some (.int v), some (.int d), none, none] [] := fun g1 => u_thr (kc := 5) (ks := 188) hX C E exs_IAE at_51 wc_X6_47 wz_IllegalArgumentException (show (95, "maker, version or medium is not as said") ∈ txts by simp [txts]) dX6_meter_84 dX6_meter_87 dX6_meter_88 dX6_meter_90 dX6_meter_93 (by decide) (fun g e => bad g e g0 (Or.inl g1))
  refine x_iload_n C dX6_meter_17 rfl ?_
  refine x_if_lt (tgt := 35) C dX6_meter_18 (by decide) (fun c1 => T35 (fun g => absurd g.1.1.1 (Int32.not_le.mpr c1))) (fun c18 => ?_)
  refine x_iload_n C dX6_meter_21 rfl ?_
  refine x_sipush (v := 250) C dX6_meter_22 (by decide) ?_
  refine x_icmp_gt (tgt := 35) C dX6_meter_25 (by decide) (fun c1 => T35 (fun g => absurd g.1.1.2 (Int32.not_le.mpr c1))) (fun c25 => ?_)
  refine x_iload_n C dX6_meter_28 rfl ?_
  refine u_callS C hW E.1 (m_areDigits hW i) md_X6_areDigits wt_X6_areDigits wm_X6_87 dX6_meter_29 rfl (by decide) (by decide) rfl (by simp [Value.category]) ?_
  refine x_if_ne (tgt := 45) C dX6_meter_32 (by decide) (fun c32 => ?_) (fun c1 => T35 (fun g => absurd (bI_t g.1.2) (by rw [c1]; decide)))
  have g32 : g_dig i 8 = true := Decidable.of_not_not (fun g => c32 (bI_f g))
  refine x_iload C dX6_meter_45 rfl ?_
  refine x_sipush (v := 255) C dX6_meter_47 (by decide) ?_
  refine x_iand C dX6_meter_50 ?_
  refine u_callS C hW E.1 (m_isAddressByte hW (mk &&& 255)) md_X6_isAddressByte wt_X6_isAddressByte wm_X6_92 dX6_meter_51 rfl (by decide) (by decide) rfl (by simp [Value.category]) ?_
  refine x_if_eq (tgt := 84) C dX6_meter_54 (by decide) (fun c1 => T84 (fun g => absurd (bI_t g.2.1) (by rw [c1]; decide))) (fun c54 => ?_)
  have g54 := Decidable.of_not_not (fun g => c54 (bI_f g))
  refine x_iload C dX6_meter_57 rfl ?_
  refine x_bipush (v := 8) C dX6_meter_59 (by decide) ?_
  refine x_ishr C dX6_meter_61 ?_
  refine u_callS C hW E.1 (m_isAddressByte hW (mk >>> ((8 : Int32) &&& 31))) md_X6_isAddressByte wt_X6_isAddressByte wm_X6_92 dX6_meter_62 rfl (by decide) (by decide) rfl (by simp [Value.category]) ?_
  refine x_if_eq (tgt := 84) C dX6_meter_65 (by decide) (fun c1 => T84 (fun g => absurd (bI_t g.2.2.1) (by rw [c1]; decide))) (fun c65 => ?_)
  have g65 := Decidable.of_not_not (fun g => c65 (bI_f g))
  refine x_iload C dX6_meter_68 rfl ?_
  refine u_callS C hW E.1 (m_isAddressByte hW v) md_X6_isAddressByte wt_X6_isAddressByte wm_X6_92 dX6_meter_70 rfl (by decide) (by decide) rfl (by simp [Value.category]) ?_
  refine x_if_eq (tgt := 84) C dX6_meter_73 (by decide) (fun c1 => T84 (fun g => absurd (bI_t g.2.2.2.1) (by rw [c1]; decide))) (fun c73 => ?_)
  have g73 := Decidable.of_not_not (fun g => c73 (bI_f g))
  refine x_iload C dX6_meter_76 rfl ?_
  refine u_callS C hW E.1 (m_isAddressByte hW d) md_X6_isAddressByte wt_X6_isAddressByte wm_X6_92 dX6_meter_78 rfl (by decide) (by decide) rfl (by simp [Value.category]) ?_
  refine x_if_ne (tgt := 94) C dX6_meter_81 (by decide) (fun c81 => ?_) (fun c1 => T84 (fun g => absurd (bI_t g.2.2.2.2) (by rw [c1]; decide)))
  have g81 := Decidable.of_not_not (fun g => c81 (bI_f g))
  have gg : k_good ad i mk v d := ⟨⟨⟨Int32.not_lt.mp c18, Int32.not_lt.mp c25⟩, g32⟩, g54, g65, g73, g81⟩
  refine x_iload_n C dX6_meter_94 rfl ?_
  refine x_i2l C dX6_meter_95 ?_
  refine x_ldc2 C wk_X6_97 dX6_meter_96 ?_
  refine x_land C dX6_meter_99 ?_
  refine x_iload C dX6_meter_100 rfl ?_
  refine x_i2l C dX6_meter_102 ?_
  refine x_bipush (v := 32) C dX6_meter_103 (by decide) ?_
  refine x_lshl C dX6_meter_105 ?_
  refine x_lor C dX6_meter_106 ?_
  refine x_iload C dX6_meter_107 rfl ?_
  refine x_i2l C dX6_meter_109 ?_
  refine x_bipush (v := 48) C dX6_meter_110 (by decide) ?_
  refine x_lshl C dX6_meter_112 ?_
  refine x_lor C dX6_meter_113 ?_
  refine x_iload C dX6_meter_114 rfl ?_
  refine x_i2l C dX6_meter_116 ?_
  refine x_bipush (v := 56) C dX6_meter_117 (by decide) ?_
  refine x_lshl C dX6_meter_119 ?_
  refine x_lor C dX6_meter_120 ?_
  refine o_lstoreE (L' := [some _, some _, some _, some _, some _, some _, some _, some (.long (adr i mk v d)), none]) C dX6_meter_121 (by rw [hn]; decide) rfl ?_
  refine x_aload_n C dX6_meter_123 rfl ?_
  refine e_get C Y kd_X6 1 (by decide) wf_X6_19 dX6_meter_124 Bx rfl ?_
  refine x_iload_n C dX6_meter_127 rfl ?_
  refine x_lload C dX6_meter_128 rfl ?_
  refine k_callR (kc := 6) (ks := 194) (mc' := 0) (ms' := 0) (st := []) C Y hW E.1 (u_hasAnother hX Z.1.bus k (adr i mk v d)) rfl md_X0_hasAnother wi_X0_hasAnother ws_X0_hasAnother wm_X6_99 dX6_meter_130 rfl (by decide) (by decide) B rfl rfl (by decide) (fun r g hg => ?_)
  obtain ⟨eg, hg⟩ := hg
  rw [eg]
  rcases hg with ⟨rfl, ho⟩ | ⟨rfl, ho⟩
  · refine x_if_eq (tgt := 146) C dX6_meter_133 (by decide) (fun q => absurd q (by decide)) (fun _ => ?_)
    exact u_thr (kc := 5) (ks := 188) hX C E exs_IAE at_51 wc_X6_47 wz_IllegalArgumentException (show (103, "another meter has that secondary address") ∈ txts by simp [txts]) dX6_meter_136 dX6_meter_139 dX6_meter_140 dX6_meter_142 dX6_meter_145 (by decide) (fun g e => bad g e g0 (Or.inr ho))
  refine x_if_eq (tgt := 146) C dX6_meter_133 (by decide) (fun _ => ?_) (fun q => absurd rfl q)
  refine E.go C Y (fun z' C Y E hn1 => ?_)
  rw [hn] at hn1
  have hn := hn1
  obtain ⟨j, hj, rfl⟩ := nI_of (Int32.not_lt.mpr g0.1)
  have hj2 : j < 12 := (nI_ltI hj (by decide)).mp g0.2
  refine x_aload_n C dX6_meter_146 rfl ?_
  refine e_get C Y kd_X6 1 (by decide) wf_X6_19 dX6_meter_147 Bx rfl ?_
  refine x_iload_n C dX6_meter_150 rfl ?_
  refine e_new (kc := 5) (ks := 186) (N := 8) C Y kd_X2 wc_X6_105 wn_X2 wz_X2 dX6_meter_151 (fs := [.long 0, .int 0, .int 0, .null, .null, .int 0, .int 0, .int 0]) (fun j hj => by rcases (show j = 0 ∨ j = 1 ∨ j = 2 ∨ j = 3 ∨ j = 4 ∨ j = 5 ∨ j = 6 ∨ j = 7 by omega) with rfl | rfl | rfl | rfl | rfl | rfl | rfl | rfl <;> rfl) (fun p hp => ?_)
  refine x_dup C dX6_meter_154 rfl ?_
  refine x_iload_n C dX6_meter_155 rfl ?_
  refine x_lload C dX6_meter_156 rfl ?_
  refine k_callI (kc := 0) (ks := 0) (st := [.ref p, .int (nI j), .ref (a 3)]) C E.cs hX.1.1 gw_good (n_meter hX (hs_self ..) ad (adr i mk v d)) md_X2_init rfl wi_X2_init wm_X6_107 dX6_meter_158 rfl (by decide) (by decide) rfl (by simp [Value.category]) (fun r => X.opn (fun g hB => ?_))
  obtain ⟨rfl, M⟩ := hB
  have Zb := Z.1.bus
  have nnb := Zb.nn
  obtain ⟨n, n90, D⟩ := Zb
  obtain ⟨κ', Dg, kp, kx, ky⟩ := D.meter hp M
  obtain ⟨fr2, co2, B2⟩ := Dg.1
  have M2 := M
  obtain ⟨q1, ps1, r1, Bp, -, -, -, ⟨-, f6, f7, f8⟩, old, -⟩ := M2
  have oldh : ∀ x, h x ≠ none → g x = h x := fun x n1 => by
    have xp : x ≠ p := fun e => n1 (by rw [e]; exact hp)
    rw [old x xp (by rw [hs_ne xp]; exact n1), hs_ne xp]
  refine u_callV (st := []) C Y hW E.cs (u_plug hX ⟨n, n90, Dg⟩ hj2 Bp) md_X0_plug wi_X0_plug ws_X0_plug wm_X6_110 dX6_meter_161 rfl (by decide) (by decide) B2 rfl rfl (by decide) ?_
  have G : g_good S (nI j) ad i mk v d := Z.2.1.good.mpr ⟨gg, ho⟩
  have oldp : ∀ q m, f q = some m → m ≠ p := fun q m e1 e2 => nnb.2 m (by rw [D.2.2.1 q m e1]; decide) (by rw [e2]; exact hp)
  obtain ⟨ω', er⟩ := Z.2.2.2.1.meter (i := i) (mk := mk) (v := v) (d := d) hp M nnb.2 kx Dg kp hj2 nnb.1.2.1
  have mh := hS.meter hj2 G
  refine x_vret C E dX6_meter_164 (fun g2 e => ⟨rfl, _, fun M hM => s_meter_t hM j hj2 ad i mk v d G, by rw [meter_si]; rfl, mh, va_up α p (adr i mk v d), va_up f j (some p), κ', κd, ω', ωd, ?_⟩)
  rw [show g2 = _ from e]
  have dd := Z.1.dif
  refine Z.met (Z.1.ofB ⟨n, n90, Dg.plug (fun q m hq => ?_)⟩ ky) (Z.2.1.meter gg oldp) ⟨mh.1.mi.2.1, mh.1.mi.1⟩ er (fun q hq => by rw [hs_ne hq.2.2.2.1]; exact oldh q hq.1) (by rw [hs_ne (dd 3 4 (by omega) (by omega) (by omega))]; exact oldh _ nnb.1.1) (fun q j hq => meter_st _ _ _ _ _ _ _ (by omega)) (fun q hq => by rw [meter_si, if_neg (by omega)]) ⟨fun q hq => by rw [meter_si, if_neg (by omega)], meter_w S j ad i mk v d, fun q j q1 q2 => meter_st _ _ _ _ _ _ _ (by omega)⟩
  by_cases e1 : q = j
  · subst e1; rw [va_up_self] at hq; cases hq; exact kp
  · rw [va_up_ne _ _ e1] at hq; exact Dg.2.2.1 q m hq
end Calls
end
