/-! A MeterBus against the model: page, meter, found. -/
section Calls
variable {w : Wd} {c : Nat → ClassId} {a : Nat → Nat} {h9 : PH} {V : Nat → Prop} {α α' : Nat → Int64} {f f' : Nat → Option Nat} {κ κ' κd ω ω' ωd : Nat → Nat} {S S' : MS} {h g : PH}
theorem page_w (S : MS) (k i n q j : Nat) : (f_page S k i n).w q j = S.w q j := by
  have : ∀ (Q : MS) (o n : Nat), (f_pcp Q o n).w q j = Q.w q j := fun Q o n => by
    induction n with
    | zero => rfl
    | succ n ih => rw [f_pcp]; exact ih
  exact this _ _ n
theorem zy_page (hX : Wx w c) (hS : MH S) (Z : ZI c a h9 V α f κ κd ω ωd S h) (k i : Int32) : TCX w yX6_page cX6_page 4 (some .int) 1 6 [.ref (a 0), .int k, .int i] h
    (fun r g => ∃ v S', r = some (.int v) ∧ (∀ M, Wm w M → TF w M yX7_page cX7_page 4 (some .int) 2 [.int k, .int i] S (some (.int v)) S') ∧ S'.i 0 = 0 ∧ ZQ c a h9 V S' g) (fun En g => ∃ v S', (∀ M, Wm w M → TF w M yX7_page cX7_page 4 (some .int) 2 [.int k, .int i] S (some (.int v)) S') ∧ ((En = IOE ∧ S'.i 0 = 1) ∨ (En = UOE ∧ S'.i 0 = 2)) ∧ ZQ c a h9 V S' g) := by
  have hW := hX.1
  have Bx := Z.x
  have B : h (a 3) = _ := Z.2.2.2.2.1
  obtain ⟨gb, nb, R, e2, e1⟩ := Z.2.2.2.2.2.1
  have hn3 := R.2.2.2
  refine TCX.intro hX.1 rfl (by decide +kernel) (Nat.le_of_ble_eq_true rfl) (fun z C Y E hn => ?_)
  have T22 : ¬ q_page S k i → ∀ l : Option Value, X z 1 6 (EQ h) 22 [some (.ref (a 0)), some (.int k), some (.int i), l] [] := fun nq l => u_thr (kc := 0) (ks := 0) hX C E exs_IOE at_76 wc_X6_72 wz_IndexOutOfBoundsException (show (118, "no such meter or page") ∈ txts by simp [txts]) dX6_page_22 dX6_page_25 dX6_page_26 dX6_page_28 dX6_page_31 (by decide) (fun g e => ⟨_, _, fun M hM => by have := s_page_x (S := S) hM k i nb e2 hn3 (fun q => nq q.1); rw [if_pos nq] at this; exact this, Or.inl ⟨rfl, rfl⟩, by rw [show g = _ from e]; exact Z.q0 hS 1⟩)
  refine x_aload_n C dX6_page_0 rfl ?_
  refine e_get C Y kd_X6 1 (by decide) wf_X6_19 dX6_page_1 Bx rfl ?_
  refine x_iload_n C dX6_page_4 rfl ?_
  refine u_callV (st := []) C Y hW E.1 (u_meterAt hX Z.1.bus k) md_X0_meterAt wi_X0_meterAt ws_X0_meterAt wm_X6_114 dX6_page_5 rfl (by decide) (by decide) B rfl rfl (by decide) ?_
  cases e : fk f k with
  | none =>
    have nq : ¬ q_page S k i := fun q => by
      obtain ⟨j, hj, rfl⟩ := k_rng12 ⟨q.1.1.1, le11.mpr q.1.1.2⟩
      rw [fk_nI f hj] at e
      have := q.1.2
      rw [nI_clamp (by omega)] at this
      exact this (Z.2.1.no hj e)
    refine o_astore_nN (L' := [some _, some _, some _, some _]) C dX6_page_8 (by rw [hn]; decide) rfl ?_
    refine x_aload_nN C dX6_page_9 rfl ?_
    exact x_ifnullN (tgt := 22) C dX6_page_10 (by decide) (T22 nq _)
  | some m =>
    obtain ⟨kk, hk, ek, em⟩ : ∃ kk, kk < 12 ∧ k = nI kk ∧ f kk = some m := by
      unfold fk at e
      split at e
      · exact nomatch e
      · rename_i q
        obtain ⟨j, hj, rfl⟩ := k_rng12 (k := k) ⟨Int32.not_lt.mp (fun x => q (Or.inl x)), Int32.not_le.mp (fun x => q (Or.inr x))⟩
        rw [nI_clamp (by omega)] at e
        exact ⟨j, hj, rfl, e⟩
    subst ek
    have th := (Z.2.1.ab hk em).1
    have hm := Z.km em
    obtain ⟨pg, sz, Bm, MQ0, hb, k1, k2, -⟩ := Z.me hk em
    have MQ1 := MQ0
    obtain ⟨m1, m2, m3, gp, s0, m4, m5, m6⟩ := MQ1
    refine o_astore_nE (L' := [some _, some _, some _, some _]) C dX6_page_8 (by rw [hn]; decide) rfl ?_
    refine x_aload_n C dX6_page_9 rfl ?_
    refine x_ifnull C dX6_page_10 ?_
    refine x_iload_n C dX6_page_13 rfl ?_
    refine x_if_lt (tgt := 22) C dX6_page_14 (by decide) (fun q => T22 (fun x => absurd x.2.1 (Int32.not_le.mpr q)) _) (fun c14 => ?_)
    refine x_iload_n C dX6_page_17 rfl ?_
    refine x_iconst (v := 3) C dX6_page_18 (by decide) ?_
    refine x_icmp_lt (tgt := 32) C dX6_page_19 (by decide) (fun c19 => ?_) (fun q => T22 (fun x => q (by
      have := x.2.2
      rw [Int32.le_iff_toInt_le, show (2 : Int32).toInt = 2 from by decide] at this
      rw [Int32.lt_iff_toInt_lt, show (3 : Int32).toInt = 3 from by decide]
      omega)) _)
    obtain ⟨j, hj, rfl⟩ := nI_of c14
    have hj3 : j < 3 := (nI_ltI hj (by decide)).mp c19
    have qp : q_page S (nI kk) (nI j) := ⟨⟨⟨nI_le (a := 0) (Nat.zero_le _) (by omega), nI_le (b := 11) (by omega) (by decide)⟩, by rw [nI_clamp (by omega)]; exact th⟩, nI_le (a := 0) (Nat.zero_le _) hj, nI_le (b := 2) (by omega) (by decide)⟩
    refine x_aload_n C dX6_page_32 rfl ?_
    refine e_get C Y kd_X6 0 (by decide) wf_X6_10 dX6_page_33 Bx rfl ?_
    refine u_callV (st := []) C Y hW E.1 (r_size hW R) md_X5_size wi_X5_size ws_X5_size wm_X6_54 dX6_page_36 rfl (by decide) (by decide) R.2.1 rfl rfl (by decide) ?_
    refine x_bipush (v := 60) C dX6_page_39 (by decide) ?_
    refine x_icmp_le (tgt := 54) C dX6_page_41 (by decide) (fun c41 => ?_) (fun c41 => u_thr (kc := 0) (ks := 0) hX C E exs_UOE at_62 wc_X6_58 wz_UnsupportedOperationException (show (120, "the buffer has more than 60 bytes") ∈ txts by simp [txts]) dX6_page_44 dX6_page_47 dX6_page_48 dX6_page_50 dX6_page_53 (by decide) (fun g e => ⟨_, _, fun M hM => by have := s_page_x (S := S) hM (nI kk) (nI j) nb e2 hn3 (fun q => c41 (nI_le (b := 60) q.2 (by decide))); rw [if_neg (not_not_intro qp)] at this; exact this, Or.inr ⟨rfl, rfl⟩, by rw [show g = _ from e]; exact Z.q0 hS 2⟩))
    have n60 : nb ≤ 60 := (nI_leI (b := 60) (by omega) (by decide)).mp c41
    refine E.go C Y (fun z' C Y E hn1 => ?_)
    obtain ⟨a1, t, P0, a2, a3, a4, a5⟩ := m6 j hj3
    have nw : ∀ q, ω q ≠ 0 → ∀ i, i ≤ 10 → q ≠ a i := fun q hq => Z.nw (Or.inl hq)
    have sp := t_setPageX hX Bm hj3 m5 m4 a2 a4 R n60 (fun e => by rw [e, a3] at m1; omega) (fun e => by rw [e, a3] at m3; omega) (fun e => by rw [e, a3] at m2; omega) (fun e => nw t (by omega) 1 (by omega) e.symm) (fun e => nw t (by omega) 2 (by omega) e.symm)
    have er := Z.2.2.2.1.page Z.2.2.1.1 hk em Bm hj3 m4 m5 a2 (P0 := P0) e1 n60
    have kt : κ t = 3 := by
      obtain ⟨n, -, D⟩ := Z.1.bus
      obtain ⟨gp', Bp', hp'⟩ := D.pg k1
      have eg : gp' = gp := by have := Bp'.symm.trans m4; simp only [Option.some.injEq, Sum.inl.injEq, Prod.mk.injEq, Sum.inr.injEq, true_and] at this; exact this
      obtain ⟨t', t1, t2⟩ := hp' j hj3
      rw [eg, a2] at t1
      rw [Option.some.inj t1]
      exact t2
    have D2 : BX c (a 3) (a 4) (a 5) (a 6) h (WB a κ h) α f κ (hs (hs h t (.inl (c 0, 60, .inl (pcF P0 gb nb)))) sz (.inl (c 0, 3, .inl (upd s0 j (nI nb))))) := by
      obtain ⟨n, n90, D⟩ := Z.1.bus
      exact ⟨n, n90, (D.put (by omega) (by rw [kt]; exact ⟨_, rfl⟩)).put (by omega) (by rw [k2]; exact ⟨_, rfl⟩)⟩
    have st : ∀ q, WB a κ h q → hs (hs h t (.inl (c 0, 60, .inl (pcF P0 gb nb)))) sz (.inl (c 0, 3, .inl (upd s0 j (nI nb)))) q = h q := fun q hq => by rw [hs_ne (fun e => absurd hq.2.1 (by rw [e, k2]; decide)), hs_ne (fun e => absurd hq.2.1 (by rw [e, kt]; decide))]
    -- the model ahead of the cut: its buffer is still there
    have Z1 : ZI c a h9 V α f κ κd ω ωd ((f_page S kk j nb).si 2 (nI nb)) (hs (hs h t (.inl (c 0, 60, .inl (pcF P0 gb nb)))) sz (.inl (c 0, 3, .inl (upd s0 j (nI nb))))) := by
      have mh := hS.page (k := kk) (i := j) n60
      refine Z.met (Z.1.ofB0 D2) (Z.2.1.sm ⟨fun q => page_a (by decide) (by decide), fun q => page_a (by decide) (by decide)⟩) ⟨mh.1.mi.2.1.si, mh.1.mi.1.si⟩ (er.same (fun _ _ => rfl) (fun _ _ _ => rfl)) st ?_ (fun q j hq => by rw [MS.si_a, page_a (by omega) (by omega)]) (fun q hq => ?_) ⟨?_, fun q j => page_w S kk _ nb q j, fun q j q1 q2 => by rw [MS.si_a, page_a (by omega) (by omega)]⟩
      · rw [hs_ne (fun e => nw sz (by omega) 3 (by omega) e.symm), hs_ne (fun e => nw t (by omega) 3 (by omega) e.symm)]
      · rw [MS.si_i]
        split
        · rename_i q2; rw [q2]; exact e2.symm
        · rename_i q2; exact page_i (by omega) q2
      · intro q hq; rw [MS.si_i, if_neg (by omega)]; exact page_i (by omega) (by omega)
    refine x_aload_n C dX6_page_54 rfl ?_
    refine x_iload_n C dX6_page_55 rfl ?_
    refine x_aload_n C dX6_page_56 rfl ?_
    refine e_get C Y kd_X6 0 (by decide) wf_X6_10 dX6_page_57 Bx rfl ?_
    refine u_callV (st := []) C Y hW E.cs sp md_X2_setPage wi_X2_setPage ws_X2_setPage wm_X6_122 dX6_page_60 rfl (by decide) (by decide) Bm rfl rfl (by decide) ?_
    generalize hs (hs h t (.inl (c 0, 60, .inl (pcF P0 gb nb)))) sz (.inl (c 0, 3, .inl (upd s0 j (nI nb)))) = h2 at Z1
    have Bx2 := Z1.x
    obtain ⟨gb2, nb2, R2, -, -⟩ := Z1.2.2.2.2.2.1
    have rc := r_cutTo hW R2 0
    rw [rCut_0 R2.2.2.2] at rc
    refine x_aload_n C dX6_page_63 rfl ?_
    refine e_get C Y kd_X6 0 (by decide) wf_X6_10 dX6_page_64 Bx2 rfl ?_
    refine x_iconst (v := 0) C dX6_page_67 (by decide) ?_
    refine u_callV (st := []) C Y hW E.cs rc md_X5_cutTo wi_X5_cutTo ws_X5_cutTo wm_X6_69 dX6_page_68 rfl (by decide) (by decide) R2.2.1 rfl rfl (by decide) ?_
    have mh := hS.page (k := kk) (i := j) n60
    have Z2 : ZI c a h9 V α f κ κd ω ωd (f_page S kk j nb) (rowh c h2 (a 1) (a 2) gb2 0) := Z1.putB (by decide) ⟨mh.1.mi.2.1, mh.1.mi.1⟩ rfl (fun j hj => absurd hj (Nat.not_lt_zero j)) (fun _ _ _ => rfl) (fun q hq => by rw [MS.si_i, if_neg (by omega)]) ⟨fun q hq => by rw [MS.si_i, if_neg (by omega)], fun _ _ => rfl, fun _ _ _ _ => rfl⟩
    obtain ⟨pg2, sz2, Bm2, ⟨-, -, -, gp2, s2, -, m52, m62⟩, -⟩ := Z2.me hk em
    have tp := t_pageNumber hW Bm2 m52
    rw [pages_eq (fun i hi => (m62 i hi).1)] at tp
    refine x_aload_n C dX6_page_71 rfl ?_
    refine u_callV (st := []) C Y hW E.cs tp md_X2_pageNumber wi_X2_pageNumber ws_X2_pageNumber wm_X6_126 dX6_page_72 rfl (by decide) (by decide) Bm2 rfl rfl (by decide) ?_
    exact x_iret C E dX6_page_75 (fun g e => ⟨_, _, rfl, fun M hM => s_page_t hM kk j nb hk hj3 th e2 n60, by unfold f_page; rw [MS.si_i, if_neg (by decide), MS.sa_i, f_pcp_i]; rfl, mh, α, f, κ, κd, ω, ωd, by rw [show g = _ from e]; exact Z2⟩)
end Calls
