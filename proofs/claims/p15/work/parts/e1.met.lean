/-! A MeterBus against the model: its meters' calls. -/
section Met
variable {w : Wd} {c : Nat → ClassId} {u ma an aa n m k : Nat} {h0 h g : PH} {W : Nat → Prop} {α : Nat → Int64} {f : Nat → Option Nat} {κ ω : Nat → Nat} {S S' : MS} {pg sz : Nat}
theorem t_detailX (hX : Wx w c) {ad : Int64} (B : h m = some (mF ad (S.a 11 k) (S.a 13 k) pg sz (S.a 14 k) (S.a 15 k) (S.a 16 k))) {s : Nat → Int32} (Bs : h sz = some (.inl (c 0, 3, .inl s))) (hs : ∀ i, i < 3 → s i = S.a 17 (3 * k + i)) (hb : BTv (S.a 14 k) (S.a 15 k)) {x : Int32} {t : Nat} (ht : t ≤ 6) (hx : x = nI t) : T w gw yX2_detail cX2_detail 2 (some .int) 1 (40 * 1) 0 0 [.ref m, .int x] (EQ h) (fun r g => g = h ∧ r = some (.int (f_state S k t))) := by
  have hW := hX.1
  refine TA.intro hW rfl (by decide +kernel) (Nat.le_of_ble_eq_true rfl) (fun z C Y E hn h1 hA => ?_)
  rw [show h1 = h from hA]
  clear hA
  refine x_iload_n C dX2_detail_0 rfl ?_
  rcases (show t = 0 ∨ t = 1 ∨ t = 2 ∨ t = 3 ∨ t = 4 ∨ t = 5 ∨ t = 6 by omega) with rfl | rfl | rfl | rfl | rfl | rfl | rfl
  · subst hx
    refine x_tblOut (tgt := 78) C dX2_detail_1 (by decide) (by decide) ?_
    refine x_iconst (v := 1) C dX2_detail_78 (by decide) ?_
    exact x_iret C E dX2_detail_79 (fun q e => ⟨e, rfl⟩)
  · subst hx
    refine x_tblIn (tgt := 40) (off := 39) C dX2_detail_1 (by decide) (by decide) (by decide) (by decide) ?_
    refine x_aload_n C dX2_detail_40 rfl ?_
    refine e_get C Y kd_X2 1 (by decide) wf_X2_34 dX2_detail_41 B rfl ?_
    exact x_iret C E dX2_detail_44 (fun q e => ⟨e, rfl⟩)
  · subst hx
    refine x_tblIn (tgt := 45) (off := 44) C dX2_detail_1 (by decide) (by decide) (by decide) (by decide) ?_
    refine x_aload_n C dX2_detail_45 rfl ?_
    refine e_get C Y kd_X2 2 (by decide) wf_X2_9 dX2_detail_46 B rfl ?_
    have T57 : ∀ v : Int32, v = bI (¬ S.a 13 k = 0) → X z 0 0 (EQ h) 57 [some (.ref m), some (.int 2)] [.int v] := fun v ev => x_iret C E dX2_detail_57 (fun q e => ⟨e, by rw [ev]; rfl⟩)
    refine x_if_eq (tgt := 56) C dX2_detail_49 (by decide) (fun q0 => ?_) (fun q0 => ?_)
    · exact x_iconst (v := 0) C dX2_detail_56 (by decide) (T57 _ (bI_f (not_not_intro q0)).symm)
    · refine x_iconst (v := 1) C dX2_detail_52 (by decide) ?_
      exact x_goto (tgt := 57) C dX2_detail_53 (by decide) (T57 _ (bI_t q0).symm)
  · subst hx
    refine x_tblIn (tgt := 58) (off := 57) C dX2_detail_1 (by decide) (by decide) (by decide) (by decide) ?_
    refine x_aload_n C dX2_detail_58 rfl ?_
    refine u_callV (st := []) C Y hW E.cs (t_pageNumber hW B Bs) md_X2_pageNumber wi_X2_pageNumber ws_X2_pageNumber wm_X2_57 dX2_detail_59 rfl (by decide) (by decide) B rfl rfl (by decide) ?_
    exact x_iret C E dX2_detail_62 (fun q e => ⟨e, by rw [pages_eq hs]; rfl⟩)
  · subst hx
    refine x_tblIn (tgt := 63) (off := 62) C dX2_detail_1 (by decide) (by decide) (by decide) (by decide) ?_
    refine x_aload_n C dX2_detail_63 rfl ?_
    refine e_get C Y kd_X2 5 (by decide) wf_X2_24 dX2_detail_64 B rfl ?_
    refine x_iret C E dX2_detail_67 (fun q e => ⟨e, ?_⟩)
    show some (Value.int (S.a 14 k)) = some (.int (if S.a 15 k < 0 then -1 else S.a 14 k))
    rcases hb with ⟨b1, b2⟩ | b1 | b1
    · rw [b1, b2]; rfl
    · rw [b1]; rfl
    · rw [b1]; rfl
  · subst hx
    refine x_tblIn (tgt := 68) (off := 67) C dX2_detail_1 (by decide) (by decide) (by decide) (by decide) ?_
    refine x_aload_n C dX2_detail_68 rfl ?_
    refine e_get C Y kd_X2 6 (by decide) wf_X2_28 dX2_detail_69 B rfl ?_
    exact x_iret C E dX2_detail_72 (fun q e => ⟨e, rfl⟩)
  · subst hx
    refine x_tblIn (tgt := 73) (off := 72) C dX2_detail_1 (by decide) (by decide) (by decide) (by decide) ?_
    refine x_aload_n C dX2_detail_73 rfl ?_
    refine e_get C Y kd_X2 7 (by decide) wf_X2_31 dX2_detail_74 B rfl ?_
    exact x_iret C E dX2_detail_77 (fun q e => ⟨e, rfl⟩)
theorem pcp_18 (S : MS) (o : Nat) (q : Nat) : ∀ n, (f_pcp S o n).a 18 q = if o ≤ q ∧ q < o + n then S.a 1 (q - o) else S.a 18 q
  | 0 => by rw [if_neg (by omega)]; rfl
  | n + 1 => by
    rw [f_pcp, MS.sa_a]
    by_cases e : q = o + n
    · rw [if_pos ⟨rfl, e⟩, if_pos (by omega), e, show o + n - o = n by omega]
    · rw [if_neg (fun x => e x.2), pcp_18 S o q n]
      by_cases e2 : o ≤ q ∧ q < o + n
      · rw [if_pos e2, if_pos (by omega)]
      · rw [if_neg e2, if_neg (by omega)]
theorem page_18 (S : MS) (k i n q : Nat) : (f_page S k i n).a 18 q = if 60 * (3 * k + i) ≤ q ∧ q < 60 * (3 * k + i) + n then S.a 1 (q - 60 * (3 * k + i)) else S.a 18 q := by
  unfold f_page
  rw [MS.si_a, sa_ne (by decide), pcp_18]
  rfl
theorem page_17 (S : MS) (k i n q : Nat) : (f_page S k i n).a 17 q = if q = 3 * k + i then nI n else S.a 17 q := by
  unfold f_page
  rw [MS.si_a, MS.sa_a, f_pcp_a _ _ _ (by decide)]
  by_cases e : q = 3 * k + i
  · simp [e]
  · simp [e]
    rfl
/-- a page was written -/
theorem ER.page (R : ER c α f κ ω S h) (hw : WFa S) (hk : k < 12) (em : f k = some m) {ad : Int64} {pr se pt bt ac : Int32} (B : h m = some (mF ad pr se pg sz pt bt ac)) {gp : Nat → Option Nat} {s0 P0 fb : Nat → Int32} {i t N : Nat} (hi : i < 3) (Bp : h pg = some (.inl (c 5, 3, .inr (.inr (.inr (.inr gp)))))) (Bs : h sz = some (.inl (c 0, 3, .inl s0))) (gt : gp i = some t) (hfb : ∀ j, j < N → fb j = S.a 1 j) (N60 : N ≤ 60) : ER c α f κ ω (f_page S k i N) (hs (hs h t (.inl (c 0, 60, .inl (pcF P0 fb N)))) sz (.inl (c 0, 3, .inl (upd s0 i (nI N))))) := by
  obtain ⟨⟨pg0, sz0, d1, M0⟩, b0⟩ := R.2 k hk m em
  obtain ⟨-, -, -, rfl, rfl, -⟩ := mF_inj d1 B
  obtain ⟨m1, m2, m3, gp0, s1, m4, m5, m6⟩ := M0
  have eg : gp0 = gp := by have := m4.symm.trans Bp; simp only [Option.some.injEq, Sum.inl.injEq, Prod.mk.injEq, Sum.inr.injEq, true_and] at this; exact this
  have es : s1 = s0 := by have := m5.symm.trans Bs; simp only [Option.some.injEq, Sum.inl.injEq, Prod.mk.injEq, true_and] at this; exact this
  subst eg es
  have lt : ω t = 8 * k + 4 + i := by
    obtain ⟨-, t', P', a2, a3, -⟩ := m6 i hi
    obtain rfl : t = t' := Option.some.inj (gt.symm.trans a2)
    exact a3
  have st : ∀ q, q ≠ t → q ≠ sz0 → hs (hs h t (.inl (c 0, 60, .inl (pcF P0 fb N)))) sz0 (.inl (c 0, 3, .inl (upd s1 i (nI N)))) q = h q := fun q n1 n2 => by rw [hs_ne n2, hs_ne n1]
  refine ⟨R.1, fun j hj m' em' => ?_⟩
  by_cases e : j = k
  · subst e
    obtain rfl : m = m' := Option.some.inj (em.symm.trans em')
    refine ⟨⟨pg0, sz0, ?_, m1, m2, m3, gp0, upd s1 i (nI N), ?_, hs_self .., fun i' hi' => ?_⟩, by rw [page_a (by decide) (by decide), page_a (by decide) (by decide)]; exact b0⟩
    · rw [st m (fun e => by rw [e, lt] at m1; omega) (fun e => by rw [e, m3] at m1; omega), page_a (by decide) (by decide), page_a (by decide) (by decide), page_a (by decide) (by decide), page_a (by decide) (by decide), page_a (by decide) (by decide)]
      exact d1
    · rw [st pg0 (fun e => by rw [e, lt] at m2; omega) (fun e => by rw [e, m3] at m2; omega)]
      exact m4
    · obtain ⟨a1, t', P', a2, a3, a4, a5⟩ := m6 i' hi'
      by_cases ei : i' = i
      · subst ei
        obtain rfl : t = t' := Option.some.inj (gt.symm.trans a2)
        refine ⟨?_, t, pcF P0 fb N, a2, a3, by rw [hs_ne (fun e => by rw [e, m3] at a3; omega), hs_self], fun b hb => ?_⟩
        · show upd s1 i' (nI N) i' = (f_page S j i' N).a 17 (3 * j + i')
          rw [page_17, if_pos rfl]
          simp [upd]
        · have hb : b < ((f_page S j i' N).a 17 (3 * j + i')).toNatClampNeg := hb
          rw [page_17, if_pos rfl, nI_clamp (by omega)] at hb
          show pcF P0 fb N b = (f_page S j i' N).a 18 (60 * (3 * j + i') + b)
          rw [page_18, if_pos (by omega), show 60 * (3 * j + i') + b - 60 * (3 * j + i') = b by omega]
          unfold pcF
          rw [if_pos hb]
          exact hfb b hb
      · have l' : ω t' ≠ ω t := by rw [a3, lt]; omega
        have e17 : (f_page S j i N).a 17 (3 * j + i') = S.a 17 (3 * j + i') := by rw [page_17, if_neg (by omega)]
        refine ⟨?_, t', P', a2, a3, by rw [st t' (fun e => l' (by rw [e])) (fun e => by rw [e, m3] at a3; omega)]; exact a4, fun b hb => ?_⟩
        · show upd s1 i (nI N) i' = (f_page S j i N).a 17 (3 * j + i')
          rw [e17, show S.a 17 (3 * j + i') = s1 i' from a1.symm]
          simp [upd, ei]
        · have hb : b < ((f_page S j i N).a 17 (3 * j + i')).toNatClampNeg := hb
          rw [e17] at hb
          show P' b = (f_page S j i N).a 18 (60 * (3 * j + i') + b)
          have h60 := a5 b hb
          rw [page_18]
          by_cases q : 60 * (3 * j + i) ≤ 60 * (3 * j + i') + b ∧ 60 * (3 * j + i') + b < 60 * (3 * j + i) + N
          · exfalso
            obtain ⟨N', n60, eN'⟩ := (hw j hj).2 i' hi'
            rw [eN', nI_clamp (by omega)] at hb
            omega
          · rw [if_neg q]; exact h60
  · obtain ⟨⟨pg', sz', e1, M1⟩, b1⟩ := R.2 j hj m' em'
    have l1 := M1.1
    refine ⟨⟨pg', sz', ?_, M1.frame (fun q q1 q2 => st q (fun e2 => by rw [e2, lt] at q1 q2; omega) (fun e2 => by rw [e2, m3] at q1 q2; omega)) (fun i' hi' => ?_) (fun i' b hi' hb => ?_)⟩, by rw [page_a (by decide) (by decide), page_a (by decide) (by decide)]; exact b1⟩
    · rw [st m' (fun e2 => by rw [e2, lt] at l1; omega) (fun e2 => by rw [e2, m3] at l1; omega), page_a (by decide) (by decide), page_a (by decide) (by decide), page_a (by decide) (by decide), page_a (by decide) (by decide), page_a (by decide) (by decide)]
      exact e1
    · show (f_page S k i N).a 17 (3 * j + i') = _
      rw [page_17, if_neg (by omega)]
    · show (f_page S k i N).a 18 (60 * (3 * j + i') + b) = S.a 18 (60 * (3 * j + i') + b)
      obtain ⟨N', n60, eN'⟩ := (hw j hj).2 i' hi'
      have hb : b < (S.a 17 (3 * j + i')).toNatClampNeg := hb
      rw [eN', nI_clamp (by omega)] at hb
      rw [page_18, if_neg (by omega)]
end Met
