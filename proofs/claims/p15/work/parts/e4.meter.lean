/-! A MeterBus against the model: meter, found. -/
section Met
variable {w : Wd} {c : Nat → ClassId} {u ma an aa n m k : Nat} {h0 h g : PH} {W : Nat → Prop} {α : Nat → Int64} {f : Nat → Option Nat} {κ κ' ω : Nat → Nat} {S S' : MS}
theorem meter_o (S : MS) (k : Nat) (ad i mk v d : Int32) {q j : Nat} (hq : q = 11 ∨ q = 13 ∨ q = 16) : (f_meter S k ad i mk v d).a q j = if j = k then (if q = 11 then ad else 0) else S.a q j := by
  unfold f_meter
  rw [mp_a _ _ (by omega)]
  rcases hq with rfl | rfl | rfl
  · rw [sa_ne (by decide), sa_ne (by decide), sa_ne (by decide), sa_ne (by decide), mb_a _ _ _ _ _ _ (by decide), MS.sa_a]
    by_cases e : j = k
    · simp [e]
    · simp [e]
      rw [sa_ne (by decide)]
      rfl
  · rw [sa_ne (by decide), sa_ne (by decide), sa_ne (by decide), MS.sa_a]
    by_cases e : j = k
    · simp [e]
    · simp [e]
      rw [mb_a _ _ _ _ _ _ (by decide), sa_ne (by decide), sa_ne (by decide)]
      rfl
  · rw [MS.sa_a]
    by_cases e : j = k
    · simp [e]
    · simp [e]
      rw [sa_ne (by decide), sa_ne (by decide), sa_ne (by decide), mb_a _ _ _ _ _ _ (by decide), sa_ne (by decide), sa_ne (by decide)]
      rfl
theorem meter_st (S : MS) (k : Nat) (ad i mk v d : Int32) {q j : Nat} (h : ¬ (10 ≤ q ∧ q ≤ 17)) : (f_meter S k ad i mk v d).a q j = S.a q j := by
  unfold f_meter
  rw [mp_a _ _ (by omega), sa_ne (by omega), sa_ne (by omega), sa_ne (by omega), sa_ne (by omega), mb_a _ _ _ _ _ _ (by omega), sa_ne (by omega), sa_ne (by omega)]
  rfl
theorem meter_si (S : MS) (k : Nat) (ad i mk v d : Int32) (q : Nat) : (f_meter S k ad i mk v d).i q = if q = 0 then 0 else S.i q := by
  unfold f_meter
  rw [mp_i, MS.sa_i, MS.sa_i, MS.sa_i, MS.sa_i, mb_i, MS.sa_i, MS.sa_i, MS.si_i]
theorem mb_w (S : MS) (k : Nat) (i mk v d : Int32) (q j : Nat) : ∀ n, (f_mb S k i mk v d n).w q j = S.w q j
  | 0 => rfl
  | n + 1 => by rw [f_mb]; exact mb_w S k i mk v d q j n
theorem mp_w (S : MS) (k q j : Nat) : ∀ n, (f_mp S k n).w q j = S.w q j
  | 0 => rfl
  | n + 1 => by rw [f_mp]; exact mp_w S k q j n
theorem meter_w (S : MS) (k : Nat) (ad i mk v d : Int32) (q j : Nat) : (f_meter S k ad i mk v d).w q j = S.w q j := by
  unfold f_meter
  rw [mp_w, MS.sa_w, MS.sa_w, MS.sa_w, MS.sa_w, mb_w, MS.sa_w, MS.sa_w, MS.si_w]
theorem ER.meter (R : ER c α f κ ω S h) {p : Nat} (hp : h p = none) {e0 : va_E} {ad : Int64} {pr i mk v d : Int32} (M : MN c (hs h p e0) p ad pr g) (nn : ∀ q, κ q ≠ 0 → h q ≠ none) (kx : ∀ q, κ q ≠ 0 → κ' q = κ q) (D : BN c u ma an aa h0 W (va_up α p ad) f κ' n g) (kp : κ' p = 1) {j : Nat} (hj : j < 12) (hma : h ma ≠ none) : ∃ ω', ER c (va_up α p ad) (va_up f j (some p)) κ' ω' (f_meter S j pr i mk v d) (hs g ma (zM c (va_up f j (some p)))) := by
  obtain ⟨q, ps, r, m1, m2, m3, m4, ⟨m5, m6, m7, m8⟩, m9, m10⟩ := M
  have qp : q ≠ p := fun e => by rw [e, hs_self] at m6; exact nomatch m6
  have sp : ps ≠ p := fun e => by rw [e, hs_self] at m7; exact nomatch m7
  have rp : ∀ i, i < 3 → r i ≠ p := fun i hi e => by have := m8 i hi; rw [e, hs_self] at this; exact nomatch this
  rw [hs_ne qp] at m6
  rw [hs_ne sp] at m7
  have m8' : ∀ i, i < 3 → h (r i) = none := fun i hi => by have := m8 i hi; rw [hs_ne (rp i hi)] at this; exact this
  have sq : ps ≠ q := fun e => by rw [e, m2] at m3; simp [ouE] at m3
  have rq : ∀ i, i < 3 → r i ≠ q := fun i hi e => by have := m4 i hi; rw [e, m2] at this; simp [ouE, pgE] at this
  have rs : ∀ i, i < 3 → r i ≠ ps := fun i hi e => by have := m4 i hi; rw [e, m3] at this; cases this
  have old : ∀ x, h x ≠ none → g x = h x := fun x n1 => by
    have xp : x ≠ p := fun e => n1 (by rw [e]; exact hp)
    rw [m9 x xp (by rw [hs_ne xp]; exact n1), hs_ne xp]
  let ω' : Nat → Nat := fun x => if x = p then 8 * j + 1 else if x = q then 8 * j + 2 else if x = ps then 8 * j + 3 else if x = r 0 then 8 * j + 4 else if x = r 1 then 8 * j + 5 else if x = r 2 then 8 * j + 6 else ω x
  have w1 : ω' p = 8 * j + 1 := if_pos rfl
  have w2 : ω' q = 8 * j + 2 := by show (if q = p then _ else _) = _; rw [if_neg qp, if_pos rfl]
  have w3 : ω' ps = 8 * j + 3 := by show (if ps = p then _ else _) = _; rw [if_neg sp, if_neg sq, if_pos rfl]
  have w4 : ∀ i, i < 3 → ω' (r i) = 8 * j + 4 + i := fun i hi => by
    show (if r i = p then _ else _) = _
    rw [if_neg (rp i hi), if_neg (rq i hi), if_neg (rs i hi)]
    rcases (show i = 0 ∨ i = 1 ∨ i = 2 by omega) with rfl | rfl | rfl
    · rw [if_pos rfl]
    · rw [if_neg (fun e => absurd (m10 1 0 (by omega) (by omega) e) (by decide)), if_pos rfl]
    · rw [if_neg (fun e => absurd (m10 2 0 (by omega) (by omega) e) (by decide)), if_neg (fun e => absurd (m10 2 1 (by omega) (by omega) e) (by decide)), if_pos rfl]
  have w5 : ∀ x, h x ≠ none → ω' x = ω x := fun x nx => by
    show (if x = p then _ else _) = ω x
    rw [if_neg (fun e => nx (by rw [e]; exact hp)), if_neg (fun e => nx (by rw [e]; exact m6)), if_neg (fun e => nx (by rw [e]; exact m7)), if_neg (fun e => nx (by rw [e]; exact m8' 0 (by omega))), if_neg (fun e => nx (by rw [e]; exact m8' 1 (by omega))), if_neg (fun e => nx (by rw [e]; exact m8' 2 (by omega)))]
  obtain ⟨-, kq, ks, -⟩ := D.me2 kp m1
  have kr : ∀ i, i < 3 → κ' (r i) ≠ 0 := fun i hi => by
    obtain ⟨gp, Bp, hgp⟩ := D.pg kq
    obtain ⟨t, t1, t2⟩ := hgp i hi
    have eg : gp = fun i => if i < 3 then some (r i) else none := by have := Bp.symm.trans m2; simp only [ouE, Option.some.injEq, Sum.inl.injEq, Prod.mk.injEq, Sum.inr.injEq, true_and] at this; exact this
    rw [eg] at t1
    simp only [hi, if_true] at t1
    rw [Option.some.inj t1, t2]
    decide
  have nma : ∀ x, h x = none → x ≠ ma := fun x hx e => hma (by rw [← e]; exact hx)
  refine ⟨ω', fun x hx => ?_, fun k hk m em => ?_⟩
  · by_cases e1 : x = p
    · rw [e1, kp]; decide
    by_cases e2 : x = q
    · rw [e2, kq]; decide
    by_cases e3 : x = ps
    · rw [e3, ks]; decide
    by_cases e4 : x = r 0
    · rw [e4]; exact kr 0 (by omega)
    by_cases e5 : x = r 1
    · rw [e5]; exact kr 1 (by omega)
    by_cases e6 : x = r 2
    · rw [e6]; exact kr 2 (by omega)
    have : ω' x = ω x := by show (if x = p then _ else _) = ω x; rw [if_neg e1, if_neg e2, if_neg e3, if_neg e4, if_neg e5, if_neg e6]
    rw [this] at hx
    have := R.1 x hx
    rw [kx x this]
    exact this
  · by_cases ek : k = j
    · subst ek
      rw [va_up_self] at em
      obtain rfl : p = m := Option.some.inj em
      refine ⟨⟨q, ps, ?_, w1, w2, w3, _, _, by rw [hs_ne (nma q m6)]; exact m2, by rw [hs_ne (nma ps m7)]; exact m3, fun i hi => ⟨?_, r i, _, if_pos hi, w4 i hi, by rw [hs_ne (nma _ (m8' i hi))]; exact m4 i hi, fun b hb => ?_⟩⟩, ?_⟩
      · rw [hs_ne (nma p hp), m1, va_up_self, meter_o _ _ _ _ _ _ _ (Or.inl rfl), meter_o _ _ _ _ _ _ _ (Or.inr (Or.inl rfl)), meter_o _ _ _ _ _ _ _ (Or.inr (Or.inr rfl)), meter_14, meter_15]
        simp
      · show (0 : Int32) = (f_meter S k pr _ mk v d).a 17 (3 * k + i)
        rw [meter_17, if_pos (by omega)]
      · have hb : b < ((f_meter S k pr _ mk v d).a 17 (3 * k + i)).toNatClampNeg := hb
        rw [meter_17, if_pos (by omega)] at hb
        exact absurd hb (Nat.not_lt_zero b)
      · rw [meter_14, meter_15]
        simp
        exact Or.inl ⟨rfl, rfl⟩
    · rw [va_up_ne _ _ ek] at em
      obtain ⟨⟨pg', sz', e1, M1⟩, b1⟩ := R.2 k hk m em
      have lm := M1.1
      have hm : h m ≠ none := by rw [e1]; exact fun q => nomatch q
      have mp : m ≠ p := fun e => hm (by rw [e]; exact hp)
      have ko : ∀ x, ω x ≠ 0 → h x ≠ none ∧ x ≠ ma := fun x hx => ⟨nn x (R.1 x hx), fun e => by
        have := R.1 x hx
        have k2 := kx x this
        rw [e, D.2.2.2.2.2.1.2.1] at k2
        rw [e] at this
        exact this k2.symm⟩
      obtain ⟨y1, y2, y3, gp, s0, y4, y5, y6⟩ := M1
      have cell : ∀ x, ω x ≠ 0 → hs g ma (zM c (va_up f j (some p))) x = h x ∧ ω' x = ω x := fun x hx => by
        obtain ⟨o1, o2⟩ := ko x hx
        exact ⟨by rw [hs_ne o2]; exact old x o1, w5 x o1⟩
      refine ⟨⟨pg', sz', ?_, by rw [(cell m (by omega)).2]; exact y1, by rw [(cell pg' (by omega)).2]; exact y2, by rw [(cell sz' (by omega)).2]; exact y3, gp, s0, by rw [(cell pg' (by omega)).1]; exact y4, by rw [(cell sz' (by omega)).1]; exact y5, fun i' hi' => ?_⟩, ?_⟩
      · rw [(cell m (by omega)).1, va_up_ne _ _ mp, meter_o _ _ _ _ _ _ _ (Or.inl rfl), meter_o _ _ _ _ _ _ _ (Or.inr (Or.inl rfl)), meter_o _ _ _ _ _ _ _ (Or.inr (Or.inr rfl)), meter_14, meter_15, if_neg ek, if_neg ek, if_neg ek, if_neg ek, if_neg ek]
        exact e1
      · obtain ⟨z1, t, P0, z2, z3, z4, z5⟩ := y6 i' hi'
        have e17 : (f_meter S j pr i mk v d).a 17 (3 * k + i') = S.a 17 (3 * k + i') := by rw [meter_17, if_neg (by omega)]
        refine ⟨z1.trans e17.symm, t, P0, z2, by rw [(cell t (by omega)).2]; exact z3, by rw [(cell t (by omega)).1]; exact z4, fun b hb => ?_⟩
        have hb : b < ((f_meter S j pr i mk v d).a 17 (3 * k + i')).toNatClampNeg := hb
        rw [e17] at hb
        show P0 b = (f_meter S j pr i mk v d).a 18 (60 * (3 * k + i') + b)
        rw [meter_st _ _ _ _ _ _ _ (by omega)]
        exact z5 b hb
      · rw [meter_14, meter_15, if_neg ek, if_neg ek]
        exact b1
end Met
section Calls
variable {w : Wd} {c : Nat → ClassId} {a : Nat → Nat} {h9 : PH} {V : Nat → Prop} {α : Nat → Int64} {f : Nat → Option Nat} {κ κd ω ωd : Nat → Nat} {S : MS} {h : PH}
theorem zy_meter (hX : Wx w c) (hS : MH S) (Z : ZI c a h9 V α f κ κd ω ωd S h) (k ad i mk v d : Int32) : TCX w yX6_meter cX6_meter 9 none 6 194 [.ref (a 0), .int k, .int ad, .int i, .int mk, .int v, .int d] h
    (fun r g => r = none ∧ ∃ S', (∀ M, Wm w M → TF w M yX7_meter cX7_meter 11 none 1 [.int k, .int ad, .int i, .int mk, .int v, .int d] S none S') ∧ S'.i 0 = 0 ∧ ZQ c a h9 V S' g)
    (fun En g => ∃ S', (∀ M, Wm w M → TF w M yX7_meter cX7_meter 11 none 1 [.int k, .int ad, .int i, .int mk, .int v, .int d] S none S') ∧ ((En = IOE ∧ S'.i 0 = 1) ∨ (En = IAE ∧ S'.i 0 = 2)) ∧ ZQ c a h9 V S' g) := by

  have hW := hX.1
  have Bx := Z.x
  have B : h (a 3) = _ := Z.2.2.2.2.1
  have bad : ∀ g : PH, g = h → ((0 : Int32) ≤ k ∧ k < 12) → (¬ k_good ad i mk v d ∨ oth f α k (adr i mk v d)) → ∃ S', (∀ M, Wm w M → TF w M yX7_meter cX7_meter 11 none 1 [.int k, .int ad, .int i, .int mk, .int v, .int d] S none S') ∧ ((IAE = IOE ∧ S'.i 0 = 1) ∨ (IAE = IAE ∧ S'.i 0 = 2)) ∧ ZQ c a h9 V S' g := fun g e g0 no => by
    have gk2 : (0 : Int32) ≤ k ∧ k ≤ 11 := ⟨g0.1, le11.mp g0.2⟩
    refine ⟨_, fun M hM => ?_, Or.inr ⟨rfl, rfl⟩, by rw [e]; exact Z.q0 hS 2⟩
    have t := s_meter_x hM k ad i mk v d (S := S) (fun q => by
      have := Z.2.1.good.mp q.2
      exact no.elim (fun n => n this.1) (fun n => this.2 n))
    rw [if_neg (not_not_intro gk2)] at t
    exact t
  refine TCX.intro hX.1 rfl (by decide +kernel) (Nat.le_of_ble_eq_true rfl) (fun z C Y E hn => ?_)
  refine x_iload_n C dX6_meter_0 rfl ?_
  refine u_callS C hW E.1 (m_isMeterNumber hW k) md_X6_isMeterNumber wt_X6_isMeterNumber wm_X6_81 dX6_meter_1 rfl (by decide) (by decide) rfl (by simp [Value.category]) ?_
  refine x_if_ne (tgt := 17) C dX6_meter_4 (by decide) (fun c4 => ?_) (fun c4 => ?_)
  rotate_left
  · exact u_thr (kc := 5) (ks := 188) hX C E exs_IOE at_76 wc_X6_72 wz_IndexOutOfBoundsException (show (85, "no such meter") ∈ txts by simp [txts]) dX6_meter_7 dX6_meter_10 dX6_meter_11 dX6_meter_13 dX6_meter_16 (by decide) (fun g e => ⟨_, fun M hM => by
      have nk2 : ¬ ((0 : Int32) ≤ k ∧ k ≤ 11) := fun q => absurd (bI_t (p := (0 : Int32) ≤ k ∧ k < 12) ⟨q.1, le11.mpr q.2⟩) (by rw [c4]; decide)
      have t := s_meter_x hM k ad i mk v d (S := S) (fun q => nk2 q.1)
      rw [if_pos nk2] at t
      exact t, Or.inl ⟨rfl, rfl⟩, by rw [show g = _ from e]; exact Z.q0 hS 1⟩)
  have g0 : (0 : Int32) ≤ k ∧ k < 12 := Decidable.of_not_not (fun g => c4 (bI_f g))
  have T35 : ¬ k_good ad i mk v d → X z 6 194 (EQ h) 35 [some (.ref (a 0)), some (.int k), some (.int ad), some (.int i), some (.int mk), some (.int v), some (.int d), none, none] [] := fun g1 => u_thr (kc := 5) (ks := 188) hX C E exs_IAE at_51 wc_X6_47 wz_IllegalArgumentException (show (90, "the primary address or the ident is not as said") ∈ txts by simp [txts]) dX6_meter_35 dX6_meter_38 dX6_meter_39 dX6_meter_41 dX6_meter_44 (by decide) (fun g e => bad g e g0 (Or.inl g1))
  have T84 : ¬ k_good ad i mk v d → X z 6 194 (EQ h) 84 [some (.ref (a 0)), some (.int k), some (.int ad), some (.int i), some (.int mk), some (.int v), some (.int d), none, none] [] := fun g1 => u_thr (kc := 5) (ks := 188) hX C E exs_IAE at_51 wc_X6_47 wz_IllegalArgumentException (show (95, "maker, version or medium is not as said") ∈ txts by simp [txts]) dX6_meter_84 dX6_meter_87 dX6_meter_88 dX6_meter_90 dX6_meter_93 (by decide) (fun g e => bad g e g0 (Or.inl g1))
  refine x_iload_n C dX6_meter_17 rfl ?_
  refine x_if_lt (tgt := 35) C dX6_meter_18 (by decide) (fun c1 => T35 (fun g => absurd g.1.1.1 (Int32.not_le.mpr c1))) (fun c18 => ?_)
  refine x_iload_n C dX6_meter_21 rfl ?_
  refine x_sipush (v := 250) C dX6_meter_22 (by decide) ?_
  refine x_icmp_gt (tgt := 35) C dX6_meter_25 (by decide) (fun c1 => T35 (fun g => absurd g.1.1.2 (Int32.not_le.mpr c1))) (fun c25 => ?_)
  refine x_iload_n C dX6_meter_28 rfl ?_
  refine u_callS C hW E.1 (m_areDigits hW i) md_X6_areDigits wt_X6_areDigits wm_X6_87 dX6_meter_29 rfl (by decide) (by decide) rfl (by simp [Value.category]) ?_
  refine x_if_ne (tgt := 45) C dX6_meter_32 (by decide) (fun c32 => ?_) (fun c1 => T35 (fun g => absurd (bI_t g.1.2) (by rw [c1]; decide)))
  have g32 : g_dig i 8 = true := Decidable.of_not_not (fun g => c32 (bI_f g))
  refine x_iload C dX6_meter_45 rfl ?_
  refine x_sipush (v := 255) C dX6_meter_47 (by decide) ?_
  refine x_iand C dX6_meter_50 ?_
  refine u_callS C hW E.1 (m_isAddressByte hW (mk &&& 255)) md_X6_isAddressByte wt_X6_isAddressByte wm_X6_92 dX6_meter_51 rfl (by decide) (by decide) rfl (by simp [Value.category]) ?_
  refine x_if_eq (tgt := 84) C dX6_meter_54 (by decide) (fun c1 => T84 (fun g => absurd (bI_t g.2.1) (by rw [c1]; decide))) (fun c54 => ?_)
  have g54 := Decidable.of_not_not (fun g => c54 (bI_f g))
  refine x_iload C dX6_meter_57 rfl ?_
  refine x_bipush (v := 8) C dX6_meter_59 (by decide) ?_
  refine x_ishr C dX6_meter_61 ?_
  refine u_callS C hW E.1 (m_isAddressByte hW (mk >>> ((8 : Int32) &&& 31))) md_X6_isAddressByte wt_X6_isAddressByte wm_X6_92 dX6_meter_62 rfl (by decide) (by decide) rfl (by simp [Value.category]) ?_
  refine x_if_eq (tgt := 84) C dX6_meter_65 (by decide) (fun c1 => T84 (fun g => absurd (bI_t g.2.2.1) (by rw [c1]; decide))) (fun c65 => ?_)
  have g65 := Decidable.of_not_not (fun g => c65 (bI_f g))
  refine x_iload C dX6_meter_68 rfl ?_
  refine u_callS C hW E.1 (m_isAddressByte hW v) md_X6_isAddressByte wt_X6_isAddressByte wm_X6_92 dX6_meter_70 rfl (by decide) (by decide) rfl (by simp [Value.category]) ?_
  refine x_if_eq (tgt := 84) C dX6_meter_73 (by decide) (fun c1 => T84 (fun g => absurd (bI_t g.2.2.2.1) (by rw [c1]; decide))) (fun c73 => ?_)
  have g73 := Decidable.of_not_not (fun g => c73 (bI_f g))
  refine x_iload C dX6_meter_76 rfl ?_
  refine u_callS C hW E.1 (m_isAddressByte hW d) md_X6_isAddressByte wt_X6_isAddressByte wm_X6_92 dX6_meter_78 rfl (by decide) (by decide) rfl (by simp [Value.category]) ?_
  refine x_if_ne (tgt := 94) C dX6_meter_81 (by decide) (fun c81 => ?_) (fun c1 => T84 (fun g => absurd (bI_t g.2.2.2.2) (by rw [c1]; decide)))
  have g81 := Decidable.of_not_not (fun g => c81 (bI_f g))
  have gg : k_good ad i mk v d := ⟨⟨⟨Int32.not_lt.mp c18, Int32.not_lt.mp c25⟩, g32⟩, g54, g65, g73, g81⟩
  refine x_iload_n C dX6_meter_94 rfl ?_
  refine x_i2l C dX6_meter_95 ?_
  refine x_ldc2 C wk_X6_97 dX6_meter_96 ?_
  refine x_land C dX6_meter_99 ?_
  refine x_iload C dX6_meter_100 rfl ?_
  refine x_i2l C dX6_meter_102 ?_
  refine x_bipush (v := 32) C dX6_meter_103 (by decide) ?_
  refine x_lshl C dX6_meter_105 ?_
  refine x_lor C dX6_meter_106 ?_
  refine x_iload C dX6_meter_107 rfl ?_
  refine x_i2l C dX6_meter_109 ?_
  refine x_bipush (v := 48) C dX6_meter_110 (by decide) ?_
  refine x_lshl C dX6_meter_112 ?_
  refine x_lor C dX6_meter_113 ?_
  refine x_iload C dX6_meter_114 rfl ?_
  refine x_i2l C dX6_meter_116 ?_
  refine x_bipush (v := 56) C dX6_meter_117 (by decide) ?_
  refine x_lshl C dX6_meter_119 ?_
  refine x_lor C dX6_meter_120 ?_
  refine o_lstoreE (L' := [some _, some _, some _, some _, some _, some _, some _, some (.long (adr i mk v d)), none]) C dX6_meter_121 (by rw [hn]; decide) rfl ?_
  refine x_aload_n C dX6_meter_123 rfl ?_
  refine e_get C Y kd_X6 1 (by decide) wf_X6_19 dX6_meter_124 Bx rfl ?_
  refine x_iload_n C dX6_meter_127 rfl ?_
  refine x_lload C dX6_meter_128 rfl ?_
  refine k_callR (kc := 6) (ks := 194) (mc' := 0) (ms' := 0) (st := []) C Y hW E.1 (u_hasAnother hX Z.1.bus k (adr i mk v d)) rfl md_X0_hasAnother wi_X0_hasAnother ws_X0_hasAnother wm_X6_99 dX6_meter_130 rfl (by decide) (by decide) B rfl rfl (by decide) (fun r g hg => ?_)
  obtain ⟨eg, hg⟩ := hg
  rw [eg]
  rcases hg with ⟨rfl, ho⟩ | ⟨rfl, ho⟩
  · refine x_if_eq (tgt := 146) C dX6_meter_133 (by decide) (fun q => absurd q (by decide)) (fun _ => ?_)
    exact u_thr (kc := 5) (ks := 188) hX C E exs_IAE at_51 wc_X6_47 wz_IllegalArgumentException (show (103, "another meter has that secondary address") ∈ txts by simp [txts]) dX6_meter_136 dX6_meter_139 dX6_meter_140 dX6_meter_142 dX6_meter_145 (by decide) (fun g e => bad g e g0 (Or.inr ho))
  refine x_if_eq (tgt := 146) C dX6_meter_133 (by decide) (fun _ => ?_) (fun q => absurd rfl q)
  refine E.go C Y (fun z' C Y E hn1 => ?_)
  rw [hn] at hn1
  have hn := hn1
  obtain ⟨j, hj, rfl⟩ := nI_of (Int32.not_lt.mpr g0.1)
  have hj2 : j < 12 := (nI_ltI hj (by decide)).mp g0.2
  refine x_aload_n C dX6_meter_146 rfl ?_
  refine e_get C Y kd_X6 1 (by decide) wf_X6_19 dX6_meter_147 Bx rfl ?_
  refine x_iload_n C dX6_meter_150 rfl ?_
  refine e_new (kc := 5) (ks := 186) (N := 8) C Y kd_X2 wc_X6_105 wn_X2 wz_X2 dX6_meter_151 (fs := [.long 0, .int 0, .int 0, .null, .null, .int 0, .int 0, .int 0]) (fun j hj => by rcases (show j = 0 ∨ j = 1 ∨ j = 2 ∨ j = 3 ∨ j = 4 ∨ j = 5 ∨ j = 6 ∨ j = 7 by omega) with rfl | rfl | rfl | rfl | rfl | rfl | rfl | rfl <;> rfl) (fun p hp => ?_)
  refine x_dup C dX6_meter_154 rfl ?_
  refine x_iload_n C dX6_meter_155 rfl ?_
  refine x_lload C dX6_meter_156 rfl ?_
  refine k_callI (kc := 0) (ks := 0) (st := [.ref p, .int (nI j), .ref (a 3)]) C E.cs hX.1.1 gw_good (n_meter hX (hs_self ..) ad (adr i mk v d)) md_X2_init rfl wi_X2_init wm_X6_107 dX6_meter_158 rfl (by decide) (by decide) rfl (by simp [Value.category]) (fun r => X.opn (fun g hB => ?_))
  obtain ⟨rfl, M⟩ := hB
  have Zb := Z.1.bus
  have nnb := Zb.nn
  obtain ⟨n, n90, D⟩ := Zb
  obtain ⟨κ', Dg, kp, kx, ky⟩ := D.meter hp M
  obtain ⟨fr2, co2, B2⟩ := Dg.1
  have M2 := M
  obtain ⟨q1, ps1, r1, Bp, -, -, -, ⟨-, f6, f7, f8⟩, old, -⟩ := M2
  have oldh : ∀ x, h x ≠ none → g x = h x := fun x n1 => by
    have xp : x ≠ p := fun e => n1 (by rw [e]; exact hp)
    rw [old x xp (by rw [hs_ne xp]; exact n1), hs_ne xp]
  refine u_callV (st := []) C Y hW E.cs (u_plug hX ⟨n, n90, Dg⟩ hj2 Bp) md_X0_plug wi_X0_plug ws_X0_plug wm_X6_110 dX6_meter_161 rfl (by decide) (by decide) B2 rfl rfl (by decide) ?_
  have G : g_good S (nI j) ad i mk v d := Z.2.1.good.mpr ⟨gg, ho⟩
  have oldp : ∀ q m, f q = some m → m ≠ p := fun q m e1 e2 => nnb.2 m (by rw [D.2.2.1 q m e1]; decide) (by rw [e2]; exact hp)
  obtain ⟨ω', er⟩ := Z.2.2.2.1.meter (i := i) (mk := mk) (v := v) (d := d) hp M nnb.2 kx Dg kp hj2 nnb.1.2.1
  have mh := hS.meter hj2 G
  refine x_vret C E dX6_meter_164 (fun g2 e => ⟨rfl, _, fun M hM => s_meter_t hM j hj2 ad i mk v d G, by rw [meter_si]; rfl, mh, va_up α p (adr i mk v d), va_up f j (some p), κ', κd, ω', ωd, ?_⟩)
  rw [show g2 = _ from e]
  have dd := Z.1.dif
  refine Z.met (Z.1.ofB ⟨n, n90, Dg.plug (fun q m hq => ?_)⟩ ky) (Z.2.1.meter gg oldp) ⟨mh.1.mi.2.1, mh.1.mi.1⟩ er (fun q hq => by rw [hs_ne hq.2.2.2.1]; exact oldh q hq.1) (by rw [hs_ne (dd 3 4 (by omega) (by omega) (by omega))]; exact oldh _ nnb.1.1) (fun q j hq => meter_st _ _ _ _ _ _ _ (by omega)) (fun q hq => by rw [meter_si, if_neg (by omega)]) ⟨fun q hq => by rw [meter_si, if_neg (by omega)], meter_w S j ad i mk v d, fun q j q1 q2 => meter_st _ _ _ _ _ _ _ (by omega)⟩
  by_cases e1 : q = j
  · subst e1; rw [va_up_self] at hq; cases hq; exact kp
  · rw [va_up_ne _ _ e1] at hq; exact Dg.2.2.1 q m hq
end Calls
