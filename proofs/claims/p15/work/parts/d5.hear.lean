/-! The bus: what a meter does, against the model's. -/
section IB
variable {w : Wd} {c : Nat → ClassId} {u ma an aa n k m N : Nat} {h0 h g : PH} {W : Nat → Prop} {α : Nat → Int64} {f : Nat → Option Nat} {κ ω : Nat → Nat} {S S' : MS} {pg sz : Nat}
theorem IB.more (I : IB c u ma an aa h0 W α f κ ω N S h) : IB c u ma an aa h0 W α f κ ω (N + 1) S h := by
  obtain ⟨i1, i2, i3, i4, i5, i6, t, t1, t2⟩ := I
  exact ⟨i1, i2, i3, i4, i5, i6, t, by omega, t2⟩
theorem IB.km (I : IB c u ma an aa h0 W α f κ ω N S h) (em : f k = some m) : κ m = 1 := by
  obtain ⟨⟨n, -, D⟩, -⟩ := I
  exact D.2.2.1 k m em
/-- what is known of meter k -/
theorem IB.me (I : IB c u ma an aa h0 W α f κ ω N S h) (hk : k < 12) (em : f k = some m) : ∃ pg sz : Nat, h m = some (mF (α m) (S.a 11 k) (S.a 13 k) pg sz (S.a 14 k) (S.a 15 k) (S.a 16 k)) ∧ MQe c h ω k m pg sz (fun i => S.a 17 (3 * k + i)) (fun i b => S.a 18 (60 * (3 * k + i) + b)) ∧ BTv (S.a 14 k) (S.a 15 k) ∧ κ pg = 2 ∧ κ sz = 4 ∧ (S.a 13 k = 0 ∨ S.a 13 k = 1) := by
  have hm := I.km em
  obtain ⟨⟨n, -, D⟩, -, R, -⟩ := I
  obtain ⟨⟨pg, sz, e, M⟩, b⟩ := R.2 k hk m em
  obtain ⟨-, k1, k2, k3⟩ := D.me2 hm e
  exact ⟨pg, sz, e, M, b, k1, k2, k3⟩
theorem IB.ap (I : IB c u ma an aa h0 W α f κ ω N S h) {q : Nat} (hq : ω q ≠ 0) : q ≠ an ∧ q ≠ aa ∧ q ≠ u ∧ q ≠ ma := by
  obtain ⟨⟨n, -, D⟩, -, R, -⟩ := I
  obtain ⟨a1, a2, a3, a4⟩ := D.apart (R.1 q hq)
  exact ⟨Ne.symm a1, Ne.symm a2, Ne.symm a3, Ne.symm a4⟩
theorem IB.step (I : IB c u ma an aa h0 W α f κ ω N S h) (hk : k < 12) (em : f k = some m) (D : BX c u ma an aa h0 W α f κ g) (tch : ∀ q, ω q ≠ 0 → q ≠ m → g q = h q) (gu : g u = h u) {pr se pt bt ac : Int32} (old : h m = some (mF (α m) pr se pg sz pt bt ac)) (gm : g m = some (mF (α m) (S'.a 11 k) (S'.a 13 k) pg sz (S'.a 14 k) (S'.a 15 k) (S'.a 16 k)))
    (oth : ∀ q j, (q = 11 ∨ q = 13 ∨ q = 14 ∨ q = 15 ∨ q = 16) → j ≠ k → S'.a q j = S.a q j) (st : ∀ q j, (q = 10 ∨ q = 12 ∨ q = 17 ∨ q = 18) → S'.a q j = S.a q j) (e8 : S'.i 8 = S.i 8) (e9 : S'.i 9 = S.i 9) (hb : BTv (S'.a 14 k) (S'.a 15 k)) (wf : WFa S' ∧ WFb S') (han : ¬ S'.i 7 = 0 → AN c g an aa S') (cnt : S'.i 7 = S.i 7 ∨ S'.i 7 = S.i 7 + 1) : IB c u ma an aa h0 W α f κ ω (N + 1) S' g := by
  obtain ⟨-, i2, i3, -, i5, -, t, t1, t2⟩ := I
  refine ⟨D, i2.sm ⟨fun j => st 10 j (by omega), fun j => st 12 j (by omega)⟩, i3.step hk em tch old gm oth (fun j => st 17 j (by omega)) (fun j => st 18 j (by omega)) hb, wf, by rw [gu, e8, e9]; exact i5, han, ?_⟩
  rcases cnt with e | e
  · exact ⟨t, by omega, e.trans t2⟩
  · exact ⟨t + 1, by omega, by rw [e, t2]; exact nI_1 t⟩
theorem WFb.shrt {c a : Int32} (h : WFb S) (hm : WFm S k) : WFb (f_short S k c a) := by
  unfold f_short
  split
  · exact (h.forget.sa (fun q => absurd q (by decide))).ack
  · split
    · exact h.asked hm
    · exact h
theorem f_short_i {c a : Int32} {q : Nat} (h6 : q ≠ 6) (h7 : q ≠ 7) : (f_short S k c a).i q = S.i q := by
  unfold f_short
  split
  · rw [f_ack_i _ h6 h7]; rfl
  · split
    · exact f_asked_i S k _ h6 h7
    · rfl
theorem HB.tel {l : List Int32} {g : Nat → Int32} (h : ∀ x ∈ l, byt x) : HB (lstF g l) l.length := fun j hj => by
  rw [lstF_at hj]
  have : l.getD j 0 ∈ l := by
    rw [List.getD_eq_getElem?_getD, List.getElem?_eq_getElem hj]
    exact List.getElem_mem hj
  exact h _ this
theorem pages_eq {s : Nat → Int32} (h : ∀ i, i < 3 → s i = S.a 17 (3 * k + i)) : mPages s = nI (f_pages S k) := by
  unfold mPages f_pages
  rw [h 2 (by decide), h 1 (by decide)]
  split
  · rfl
  · split <;> rfl
theorem pg_eq {s : Nat → Int32} {nb : Int32} (hw : WFm S k) (hb : BTv (S.a 14 k) (S.a 15 k)) (h : ∀ i, i < 3 → s i = S.a 17 (3 * k + i)) (hn : nb = 0 ∨ nb = 1) : (if mPg0 (S.a 14 k) (S.a 15 k) nb < mPages s then mPg0 (S.a 14 k) (S.a 15 k) nb else 0) = nI (f_p S k nb) := by
  have e0 : mPg0 (S.a 14 k) (S.a 15 k) nb = nI (f_p0 S k nb) ∧ f_p0 S k nb ≤ 3 := by
    rcases hb with ⟨b1, b2⟩ | b1
    · have : ¬ (0 : Int32) ≤ S.a 15 k := by rw [b1]; decide
      unfold mPg0 f_p0
      rw [if_pos b1, if_neg this]
      exact ⟨rfl, by omega⟩
    · have h0 : (0 : Int32) ≤ S.a 15 k := by rcases b1 with e | e <;> (rw [e]; decide)
      have h1 : ¬ S.a 15 k = -1 := by rcases b1 with e | e <;> (rw [e]; decide)
      obtain ⟨t, t3, te⟩ := hw.1 h0
      have ft : f_t S k = t := by unfold f_t; rw [te]; exact nI_clamp (by omega)
      unfold mPg0 f_p0
      rw [if_neg h1, if_pos h0]
      by_cases q : S.a 15 k = nb
      · rw [if_pos q, if_pos q, ft]; exact ⟨te, by omega⟩
      · rw [if_neg q, if_neg q, ft, te]; exact ⟨nI_1 t, by omega⟩
  rw [e0.1, pages_eq h]
  unfold f_p
  by_cases q : f_p0 S k nb < f_pages S k
  · rw [if_pos q, if_pos (nI_lt q (by have := f_pages_le S k; omega))]
  · rw [if_neg q, if_neg (fun g => q ((nI_ltI (by omega) (by have := f_pages_le S k; omega)).mp g))]
    rfl
theorem rl_ne {l : List Int32} {g0 : Nat → Int32} {x : Nat} (n1 : x ≠ an) (n2 : x ≠ aa) : rl c h an aa g0 l x = h x := rw_ne n1 n2
section Rows
variable {z : Fx} {cc : ByteArray} {kc ks pc : Nat} {L : List (Option Value)} {st : List Value} {lvl : Nat}
theorem AN.ack {g0 : Nat → Int32} (n0 : an ≠ aa) (h1 : PH) : AN c (rowh c h1 an aa (upd g0 0 229) 1) an aa (f_ack S) := ⟨_, 1, RW.of n0 (by decide), rfl, fun j hj => by
  obtain rfl : j = 0 := by omega
  show _ = (((S.si 7 (S.i 7 + 1)).sa 5 0 229).si 6 1).a 5 0
  rw [MS.si_a, MS.sa_a, if_pos ⟨rfl, rfl⟩]
  simp [upd]⟩
/-- meter.hearsShort -/
theorem k_shortX (hX : Wx w c) (C : Cx z RX0 cc gw) (Y : Cty z c) (E : Cs z w lvl (40 * lvl)) (hl : 4 < lvl) (hk : k < 12) (em : f k = some m) (I : IB c u ma an aa h0 W α f κ ω N S h) (cm a : Int32) (d : decode cc pc = .ok (.invokevirtual 61, 3)) (hcat : (st.map fun v => v.category).sum ≤ 8)
    (kk : ∀ (g : PH) (x : Int32), (x = 0 ∨ x = 1) → S.i 7 + x = (f_short S k cm a).i 7 → IB c u ma an aa h0 W α f κ ω (N + 1) (f_short S k cm a) g → X z kc ks (EQ g) (pc + 3) L (.int x :: st)) : X z kc ks (EQ h) pc L (.ref an :: .int a :: .int cm :: .ref m :: st) := by
  have hW := hX.1
  have hm := I.km em
  obtain ⟨pg, sz, B, M, hb, k1, k2, k3⟩ := I.me hk em
  obtain ⟨n, g0, n90, Dn, R, hbt⟩ := I.1.row
  have am := I.ap (q := m) (by rw [M.1]; omega)
  have hwa := I.2.2.2.1.1
  have hwb := I.2.2.2.1.2
  by_cases e1 : cm = 64
  · subst e1
    refine u_callV (st := st) C Y hW E (t_short_r hW B k3 R (Ne.symm am.1) (Ne.symm am.2.1) a) md_X2_hearsShort wi_X2_hearsShort ws_X2_hearsShort wm_X0_61 d rfl (by omega) (by decide) B rfl rfl hcat ?_
    have eS : f_short S k 64 a = f_ack ((f_forget S k).sa 13 k (bI (¬ S.a 13 k = 0 ∧ ¬ a = 253))) := if_pos rfl
    have se : (if a = 253 then (0 : Int32) else S.a 13 k) = bI (¬ S.a 13 k = 0 ∧ ¬ a = 253) := by
      by_cases q : a = 253
      · rw [if_pos q, bI_f (fun x => x.2 q)]
      · rw [if_neg q]
        rcases k3 with e | e
        · rw [e, bI_f (fun x => x.1 rfl)]
        · rw [e, bI_t ⟨by decide, q⟩]
    have D2 := (Dn.putM hm (S.a 11 k) (if a = 253 then (0 : Int32) else S.a 13 k) (-1) (-1) (S.a 16 k) k1 k2 (by split; exact Or.inl rfl; exact k3)).single g0
    have af : ∀ q j, q ≠ 5 → (f_short S k 64 a).a q j = if q = 13 ∧ j = k then bI (¬ S.a 13 k = 0 ∧ ¬ a = 253) else if q = 14 ∧ j = k then -1 else if q = 15 ∧ j = k then -1 else S.a q j := fun q j hq => by rw [eS, f_ack_a _ hq, MS.sa_a, f_forget, MS.sa_a, MS.sa_a]
    refine kk _ 1 (Or.inr rfl) (by rw [eS]; rfl) (I.step hk em D2 (fun q hq nq => ?_) ?_ B ?_ (fun q j hq nj => ?_) (fun q j hq => ?_) (f_short_i (by decide) (by decide)) (f_short_i (by decide) (by decide)) ?_ ⟨fun j hj => (hwa j hj).shrt, hwb.shrt (hwa k hk)⟩ (fun _ => ?_) (Or.inr (by rw [eS]; rfl)))
    · have aq := I.ap hq
      rw [rw_ne aq.1 aq.2.1, hs_ne nq]
    · obtain ⟨l1, l2, l3⟩ := (show u ≠ an ∧ u ≠ aa ∧ u ≠ m from ⟨Dn.2.2.2.2.2.1.2.2.2.2.2.1, Dn.2.2.2.2.2.1.2.2.2.2.2.2.1, Ne.symm am.2.2.1⟩)
      rw [rw_ne l1 l2, hs_ne l3]
    · rw [rw_ne am.1 am.2.1, hs_self, af 11 k (by decide), af 13 k (by decide), af 14 k (by decide), af 15 k (by decide), af 16 k (by decide), se]
      simp
    · rw [af q j (by omega)]
      simp [nj]
    · rw [af q j (by omega)]
      simp [show q ≠ 13 by omega, show q ≠ 14 by omega, show q ≠ 15 by omega]
    · rw [af 14 k (by decide), af 15 k (by decide)]
      simp
      exact Or.inl ⟨rfl, rfl⟩
    · rw [eS]; exact AN.ack R.1 _
  · by_cases e2 : cm = 91 ∨ cm = 123
    · have hn : (if cm = 123 then (1 : Int32) else 0) = 0 ∨ (if cm = 123 then (1 : Int32) else 0) = 1 := by split; exact Or.inr rfl; exact Or.inl rfl
      have eS : f_short S k cm a = f_asked S k (if cm = 123 then 1 else 0) := by unfold f_short; rw [if_neg e1, if_pos e2]
      have hkn : (cm = 91 ∧ (if cm = 123 then (1 : Int32) else 0) = 0) ∨ (cm = 123 ∧ (if cm = 123 then (1 : Int32) else 0) = 1) := by
        rcases e2 with e | e
        · exact Or.inl ⟨e, by rw [e]; rfl⟩
        · exact Or.inr ⟨e, by rw [e]; rfl⟩
      generalize (if cm = 123 then (1 : Int32) else 0) = nb at hn eS hkn
      obtain ⟨m1, m2, m3, gp, s0, m4, m5, m6⟩ := M
      have p3 : f_p S k nb < 3 := f_p_lt S k nb
      obtain ⟨s1, t, P0, a2, a3, a4, a5⟩ := m6 _ p3
      have hes : ∀ i, i < 3 → s0 i = S.a 17 (3 * k + i) := fun i hi => (m6 i hi).1
      obtain ⟨N60, eN⟩ := (hwa k hk).N p3
      have apg := I.ap (q := pg) (by omega)
      have asz := I.ap (q := sz) (by omega)
      have att := I.ap (q := t) (by omega)
      have hpg := pg_eq (hwa k hk) hb hes hn
      have ta := t_askX hX B p3 m5 hpg (s1.trans eN) N60 m4 a2 a4 R ⟨am.1, am.2.1⟩ ⟨asz.1, asz.2.1⟩ ⟨apg.1, apg.2.1⟩ ⟨att.1, att.2.1⟩ (fun e => by rw [e] at m3; omega) (fun e => by rw [e] at m2; omega) (fun e => by rw [e] at a3; omega) cm a hkn
      have hmo : decide (nI (f_p S k nb) + 1 < mPages s0) = f_more S k (f_p S k nb) := by
        rw [pages_eq hes, show nI (f_p S k nb) + 1 = nI (f_p S k nb + 1) from nI_1 _]
        unfold f_more
        exact decide_eq_decide.mpr (nI_ltI (by omega) (by have := f_pages_le S k; omega))
      have eNc : (S.a 17 (3 * k + f_p S k nb)).toNatClampNeg = f_N S k (f_p S k nb) := rfl
      rw [tel_eq hwb N60 hmo (I.2.1.ab hk em).2 (fun b hb => a5 b (by rw [eNc]; exact hb))] at ta
      have lt : (f_tel S k (f_p S k nb) (f_N S k (f_p S k nb))).length ≤ 90 := by rw [f_tel_len]; split <;> omega
      have hbt2 := f_tel_byt hwb (k := k) (p := f_p S k nb) N60
      have eA : f_asked S k nb = ((((S.ans (f_tel S k (f_p S k nb) (f_N S k (f_p S k nb)))).sa 14 k (nI (f_p S k nb))).sa 15 k nb).sa 16 k ((S.a 16 k + 1) &&& 255)).si 7 (S.i 7 + 1) := rfl
      generalize f_tel S k (f_p S k nb) (f_N S k (f_p S k nb)) = FT at ta lt hbt2 eA
      refine u_callV (st := st) C Y hW E ta md_X2_hearsShort wi_X2_hearsShort ws_X2_hearsShort wm_X0_61 d rfl (by omega) (by decide) B rfl rfl hcat ?_
      have D2 : BX c u ma an aa h0 W α f κ (hs (rl c (hs h m (mF (α m) (S.a 11 k) (S.a 13 k) pg sz (nI (f_p S k nb)) nb (S.a 16 k))) an aa g0 FT) m (mF (α m) (S.a 11 k) (S.a 13 k) pg sz (nI (f_p S k nb)) nb ((S.a 16 k + 1) &&& 255))) := ⟨FT.length, lt, ((Dn.putM hm _ _ _ _ _ k1 k2 k3).putA (by omega) (HB.tel hbt2)).putM hm _ _ _ _ _ k1 k2 k3⟩
      have af : ∀ q j, q ≠ 5 → (f_short S k cm a).a q j = if q = 16 ∧ j = k then (S.a 16 k + 1) &&& 255 else if q = 15 ∧ j = k then nb else if q = 14 ∧ j = k then nI (f_p S k nb) else S.a q j := fun q j hq => by rw [eS, eA, MS.si_a, MS.sa_a, MS.sa_a, MS.sa_a, MS.ans_ne hq]
      refine kk _ 1 (Or.inr rfl) (by rw [eS, eA]; rfl) (I.step hk em D2 (fun q hq nq => ?_) ?_ B ?_ (fun q j hq nj => ?_) (fun q j hq => ?_) (f_short_i (by decide) (by decide)) (f_short_i (by decide) (by decide)) ?_ ⟨fun j hj => (hwa j hj).shrt, hwb.shrt (hwa k hk)⟩ (fun _ => ?_) (Or.inr (by rw [eS, eA]; rfl)))
      · have aq := I.ap hq
        rw [hs_ne nq, rl_ne aq.1 aq.2.1, hs_ne nq]
      · have l3 : u ≠ m := Ne.symm am.2.2.1
        rw [hs_ne l3, rl_ne Dn.2.2.2.2.2.1.2.2.2.2.2.1 Dn.2.2.2.2.2.1.2.2.2.2.2.2.1, hs_ne l3]
      · rw [hs_self, af 11 k (by decide), af 13 k (by decide), af 14 k (by decide), af 15 k (by decide), af 16 k (by decide)]
        simp
      · rw [af q j (by omega)]
        simp [nj]
      · rw [af q j (by omega)]
        simp [show q ≠ 16 by omega, show q ≠ 14 by omega, show q ≠ 15 by omega]
      · rw [af 14 k (by decide), af 15 k (by decide)]
        simp
        exact Or.inr hn
      · have na : an ≠ m := Ne.symm am.1
        have nb2 : aa ≠ m := Ne.symm am.2.1
        have Rr : RW c (rl c (hs h m (mF (α m) (S.a 11 k) (S.a 13 k) pg sz (nI (f_p S k nb)) nb (S.a 16 k))) an aa g0 FT) an aa (lstF g0 FT) FT.length := rl_RW R.1 (by omega)
        refine ⟨lstF g0 FT, FT.length, ⟨Rr.1, by rw [hs_ne na]; exact Rr.2.1, by rw [hs_ne nb2]; exact Rr.2.2.1, Rr.2.2.2⟩, by rw [eS, eA]; rfl, fun j hj => ?_⟩
        rw [eS, eA, MS.si_a, sa_ne (by decide), sa_ne (by decide), sa_ne (by decide), MS.ans_5 hj, lstF_at hj]
    · have eS : f_short S k cm a = S := by unfold f_short; rw [if_neg e1, if_neg e2]
      refine u_callV (st := st) C Y hW E (t_short_n hW cm a e1 (fun q => e2 (Or.inl q)) (fun q => e2 (Or.inr q)) m an) md_X2_hearsShort wi_X2_hearsShort ws_X2_hearsShort wm_X0_61 d rfl (by omega) (by decide) B rfl rfl hcat ?_
      exact kk _ 0 (Or.inl rfl) (by rw [eS]; exact Int32.add_zero _) (by rw [eS]; exact I.more)
end Rows
end IB
