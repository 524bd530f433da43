/-! The class's meters against the model's, told whole. -/
theorem byt_id {x : Int32} (h : byt x) : x &&& 255 = x := by
  obtain ⟨b, h1, rfl⟩ := h
  exact (pk_andN (by omega) 8 rfl).trans (congrArg nI (Nat.mod_eq_of_lt h1))
def MQe (c : Nat → ClassId) (h : PH) (ω : Nat → Nat) (k m pg sz : Nat) (s : Nat → Int32) (P : Nat → Nat → Int32) : Prop :=
  ω m = 8 * k + 1 ∧ ω pg = 8 * k + 2 ∧ ω sz = 8 * k + 3 ∧ ∃ (gp : Nat → Option Nat) (s0 : Nat → Int32), h pg = some (.inl (c 5, 3, .inr (.inr (.inr (.inr gp))))) ∧ h sz = some (.inl (c 0, 3, .inl s0)) ∧ ∀ i, i < 3 → s0 i = s i ∧ ∃ (t : Nat) (P0 : Nat → Int32), gp i = some t ∧ ω t = 8 * k + 4 + i ∧ h t = some (.inl (c 0, 60, .inl P0)) ∧ ∀ b, b < (s i).toNatClampNeg → P0 b = P i b
/-- meter k of the model is the one at m -/
def ME (c : Nat → ClassId) (h : PH) (ω : Nat → Nat) (S : MS) (k m : Nat) (ad : Int64) : Prop := ∃ pg sz : Nat, h m = some (mF ad (S.a 11 k) (S.a 13 k) pg sz (S.a 14 k) (S.a 15 k) (S.a 16 k)) ∧ MQe c h ω k m pg sz (fun i => S.a 17 (3 * k + i)) (fun i b => S.a 18 (60 * (3 * k + i) + b))
def BTv (pt bt : Int32) : Prop := (bt = -1 ∧ pt = -1) ∨ bt = 0 ∨ bt = 1
def ER (c : Nat → ClassId) (α : Nat → Int64) (f : Nat → Option Nat) (κ ω : Nat → Nat) (S : MS) (h : PH) : Prop := (∀ q, ω q ≠ 0 → κ q ≠ 0) ∧ ∀ k, k < 12 → ∀ m, f k = some m → ME c h ω S k m (α m) ∧ BTv (S.a 14 k) (S.a 15 k)
theorem mF_inj {ad ad' : Int64} {pr se pt bt ac pr' se' pt' bt' ac' : Int32} {pg sz pg' sz' : Nat} {o : Option va_E} (h1 : o = some (mF ad pr se pg sz pt bt ac)) (h2 : o = some (mF ad' pr' se' pg' sz' pt' bt' ac')) : ad = ad' ∧ pr = pr' ∧ se = se' ∧ pg = pg' ∧ sz = sz' ∧ pt = pt' ∧ bt = bt' ∧ ac = ac' := by
  have := h1.symm.trans h2
  simp only [Option.some.injEq, Sum.inr.injEq, Prod.mk.injEq, List.cons.injEq, Value.long.injEq, Value.int.injEq, Value.ref.injEq, true_and, and_true] at this
  exact this
section ER
variable {c : Nat → ClassId} {u ma an aa n k m : Nat} {h0 h g : PH} {W : Nat → Prop} {α : Nat → Int64} {f : Nat → Option Nat} {κ ω : Nat → Nat} {S S' : MS} {pg sz : Nat} {s s' : Nat → Int32} {P P' : Nat → Nat → Int32}
theorem MQe.frame (M : MQe c h ω k m pg sz s P) (e : ∀ q, 8 * k + 2 ≤ ω q → ω q ≤ 8 * k + 6 → g q = h q) (es : ∀ i, i < 3 → s' i = s i) (eP : ∀ i b, i < 3 → b < (s i).toNatClampNeg → P' i b = P i b) : MQe c g ω k m pg sz s' P' := by
  obtain ⟨m1, m2, m3, gp, s0, m4, m5, m6⟩ := M
  refine ⟨m1, m2, m3, gp, s0, by rw [e pg (by omega) (by omega)]; exact m4, by rw [e sz (by omega) (by omega)]; exact m5, fun i hi => ?_⟩
  obtain ⟨a1, t, P0, a2, a3, a4, a5⟩ := m6 i hi
  exact ⟨a1.trans (es i hi).symm, t, P0, a2, a3, by rw [e t (by omega) (by omega)]; exact a4, fun b hb => by
    have hb' : b < (s i).toNatClampNeg := by rw [← es i hi]; exact hb
    rw [eP i b hi hb']
    exact a5 b hb'⟩
theorem ER.step (R : ER c α f κ ω S h) (hk : k < 12) (em : f k = some m) (tch : ∀ q, ω q ≠ 0 → q ≠ m → g q = h q) {pr se pt bt ac : Int32} (old : h m = some (mF (α m) pr se pg sz pt bt ac)) (gm : g m = some (mF (α m) (S'.a 11 k) (S'.a 13 k) pg sz (S'.a 14 k) (S'.a 15 k) (S'.a 16 k)))
    (oth : ∀ q j, (q = 11 ∨ q = 13 ∨ q = 14 ∨ q = 15 ∨ q = 16) → j ≠ k → S'.a q j = S.a q j) (e17 : ∀ j, S'.a 17 j = S.a 17 j) (e18 : ∀ j, S'.a 18 j = S.a 18 j) (hb : BTv (S'.a 14 k) (S'.a 15 k)) : ER c α f κ ω S' g := by
  obtain ⟨⟨pg0, sz0, d1, M0⟩, -⟩ := R.2 k hk m em
  obtain ⟨-, -, -, rfl, rfl, -⟩ := mF_inj d1 old
  refine ⟨R.1, fun j hj m' em' => ?_⟩
  by_cases e : j = k
  · subst e
    obtain rfl : m = m' := Option.some.inj (em.symm.trans em')
    exact ⟨⟨pg0, sz0, gm, M0.frame (fun q q1 q2 => tch q (by omega) (fun e => by rw [e, M0.1] at q1; omega)) (fun i _ => e17 _) (fun i b _ _ => e18 _)⟩, hb⟩
  · obtain ⟨⟨pg', sz', e1, M1⟩, b1⟩ := R.2 j hj m' em'
    have l0 := M0.1
    have l1 := M1.1
    have nm : m' ≠ m := fun q => by rw [q, l0] at l1; omega
    refine ⟨⟨pg', sz', ?_, M1.frame (fun q q1 q2 => tch q (by omega) (fun e2 => by rw [e2, l0] at q1 q2; omega)) (fun i _ => e17 _) (fun i b _ _ => e18 _)⟩, ?_⟩
    · rw [tch m' (by omega) nm, oth 11 j (by omega) e, oth 13 j (by omega) e, oth 14 j (by omega) e, oth 15 j (by omega) e, oth 16 j (by omega) e]
      exact e1
    · rw [oth 14 j (by omega) e, oth 15 j (by omega) e]
      exact b1
/-- nothing of the meters was written, nor of the model's -/
theorem ER.same (R : ER c α f κ ω S h) (tch : ∀ q, ω q ≠ 0 → g q = h q) (es : ∀ q j, (q = 11 ∨ q = 13 ∨ q = 14 ∨ q = 15 ∨ q = 16 ∨ q = 17 ∨ q = 18) → S'.a q j = S.a q j) : ER c α f κ ω S' g := by
  refine ⟨R.1, fun j hj m' em' => ?_⟩
  obtain ⟨⟨pg', sz', e1, M1⟩, b1⟩ := R.2 j hj m' em'
  have l1 := M1.1
  refine ⟨⟨pg', sz', ?_, M1.frame (fun q q1 q2 => tch q (by omega)) (fun i _ => es 17 _ (by omega)) (fun i b _ _ => es 18 _ (by omega))⟩, ?_⟩
  · rw [tch m' (by omega), es 11 j (by omega), es 13 j (by omega), es 14 j (by omega), es 15 j (by omega), es 16 j (by omega)]
    exact e1
  · rw [es 14 j (by omega), es 15 j (by omega)]
    exact b1
theorem BN.me2 (D : BN c u ma an aa h0 W α f κ n h) (hm : κ m = 1) {ad : Int64} {pr se pt bt ac : Int32} (e : h m = some (mF ad pr se pg sz pt bt ac)) : ad = α m ∧ κ pg = 2 ∧ κ sz = 4 ∧ (se = 0 ∨ se = 1) := by
  obtain ⟨pr', se', pt', bt', ac', pg', sz', B, k1, k2, k3⟩ := D.me hm
  obtain ⟨q1, -, q2, q3, q4, -⟩ := mF_inj e B
  rw [q1, q2, q3, q4]
  exact ⟨rfl, k1, k2, k3⟩
end ER
/-- the answer's row is the model's answer -/
def AN (c : Nat → ClassId) (h : PH) (an aa : Nat) (S : MS) : Prop := ∃ (g : Nat → Int32) (n : Nat), RW c h an aa g n ∧ S.i 6 = nI n ∧ ∀ j, j < n → g j = S.a 5 j
/-- the bus while its meters hear, N of them at most have answered -/
def IB (c : Nat → ClassId) (u ma an aa : Nat) (h0 : PH) (W : Nat → Prop) (α : Nat → Int64) (f : Nat → Option Nat) (κ ω : Nat → Nat) (N : Nat) (S : MS) (h : PH) : Prop :=
  BX c u ma an aa h0 W α f κ h ∧ RK f α S ∧ ER c α f κ ω S h ∧ (WFa S ∧ WFb S) ∧ h u = some (.inr (0, [.ref ma, .ref an, .int (S.i 8), .int (S.i 9)])) ∧ (¬ S.i 7 = 0 → AN c h an aa S) ∧ ∃ t, t ≤ N ∧ S.i 7 = nI t
/-! An address and its bytes. -/
section Adr
variable {i mk v d : Int32}
theorem f_byte_bit (h : rng mk v d) {b t : Nat} (hb : b < 8) (ht : t < 32) : bt (f_byte b i mk v d) t = (decide (t < 8) && bl (adr i mk v d) (8 * b + t)) := by
  unfold f_byte
  by_cases h4 : b < 4
  · rw [if_pos h4, show (8 : Int32) * nI b = nI (8 * b) from pk_mul 8 b, b_and, b_255, b_sshr _ (by omega) _ ht]
    by_cases q : t < 8
    · rw [if_pos (show 8 * b + t < 32 by omega), adr_bit h (by omega), if_pos (show 8 * b + t < 32 by omega)]
      simp [q]
    · simp [q]
  rw [if_neg h4]
  by_cases e4 : b = 4
  · subst e4
    rw [if_pos rfl, b_and, b_255]
    by_cases q : t < 8
    · rw [adr_bit h (by omega), if_neg (show ¬ 8 * 4 + t < 32 by omega), if_pos (show 8 * 4 + t < 48 by omega), show 8 * 4 + t - 32 = t by omega]
      simp [q]
    · simp [q]
  rw [if_neg e4]
  by_cases e5 : b = 5
  · subst e5
    rw [if_pos rfl, show ((8 : Int32) &&& 31) = nI 8 &&& 31 from rfl, b_sshr 8 (by omega) _ ht]
    by_cases q : t < 8
    · rw [if_pos (show 8 + t < 32 by omega), adr_bit h (by omega), if_neg (show ¬ 8 * 5 + t < 32 by omega), if_pos (show 8 * 5 + t < 48 by omega), show 8 * 5 + t - 32 = 8 + t by omega]
      simp [q]
    · by_cases q2 : 8 + t < 32
      · rw [if_pos q2, h.mm (8 + t) (by omega)]
        simp [q]
      · rw [if_neg q2, h.mm 31 (by omega)]
        simp [q]
  rw [if_neg e5]
  by_cases e6 : b = 6
  · subst e6
    rw [if_pos rfl]
    by_cases q : t < 8
    · rw [adr_bit h (by omega), if_neg (show ¬ 8 * 6 + t < 32 by omega), if_neg (show ¬ 8 * 6 + t < 48 by omega), if_pos (show 8 * 6 + t < 56 by omega), show 8 * 6 + t - 48 = t by omega]
      simp [q]
    · rw [h.vv t (by omega)]
      simp [q]
  rw [if_neg e6]
  obtain rfl : b = 7 := by omega
  by_cases q : t < 8
  · rw [adr_bit h (by omega), if_neg (show ¬ 8 * 7 + t < 32 by omega), if_neg (show ¬ 8 * 7 + t < 48 by omega), if_neg (show ¬ 8 * 7 + t < 56 by omega), show 8 * 7 + t - 56 = t by omega]
    simp [q]
  · rw [h.dd t (by omega)]
    simp [q]
theorem AB.adr (h : rng mk v d) : AB (adr i mk v d) (fun b => f_byte b i mk v d) := fun b hb => b_ext (fun t ht => by rw [by8_bit _ hb, f_byte_bit h hb ht])
end Adr
theorem RK.ab {f : Nat → Option Nat} {α : Nat → Int64} {S : MS} (h : RK f α S) {k m : Nat} (hk : k < 12) (em : f k = some m) : ¬ S.a 10 k = 0 ∧ AB (α m) (fun b => S.a 12 (8 * k + b)) := by
  rcases h k hk with ⟨h1, -⟩ | ⟨p, i, mk, v, d, h1, h2, h3, h4, h5⟩
  · rw [em] at h1; exact nomatch h1
  · obtain rfl : m = p := Option.some.inj (em.symm.trans h1)
    exact ⟨h2, fun b hb => by rw [h3, (AB.adr h4) b hb]; exact (h5 b hb).symm⟩
theorem RK.no {f : Nat → Option Nat} {α : Nat → Int64} {S : MS} (h : RK f α S) {k : Nat} (hk : k < 12) (em : f k = none) : S.a 10 k = 0 := by
  rcases h k hk with ⟨-, h1⟩ | ⟨p, i, mk, v, d, h1, -⟩
  · exact h1
  · rw [em] at h1; exact nomatch h1
theorem fits_S {S : MS} {k : Nat} {mk ad : Int64} (h1 : AB mk (fun b => S.a 3 (7 + b))) (h2 : AB ad (fun b => S.a 12 (8 * k + b))) {cd : Int64} (hc : CB mk 4 cd) : f_all S k 8 = true ↔ (mk ^^^ ad) &&& cd = 0 := by
  rw [cared_iff hc, ← fits_iff h1 h2]
  unfold f_all
  rw [List.all_eq_true]
  constructor
  · intro h b hb
    have := h b (List.mem_range.mpr hb)
    unfold fitB
    by_cases q : b < 4
    · rw [if_pos q]; exact (f_fit_lo q).mp this
    · rw [if_neg q]; exact (f_fit_hi q).mp this
  · intro h b hb
    have := h b (List.mem_range.mp hb)
    unfold fitB at this
    by_cases q : b < 4
    · rw [if_pos q] at this; exact (f_fit_lo q).mpr this
    · rw [if_neg q] at this; exact (f_fit_hi q).mpr this
/-! What is told. -/
theorem sumR_L (g : Nat → Int32) (l : List Int32) (a : Nat) : ∀ t, a + t ≤ l.length → sumR (lstF g l) a t = sumL l a (a + t)
  | 0, _ => by rw [Nat.add_zero, sumL_0]; rfl
  | t + 1, h => by
    rw [show a + (t + 1) = (a + t) + 1 by omega, sumL_s l (by omega), sumR, sumR_L g l a t (by omega), lstF_at (by omega)]
theorem seg_map (S : MS) (q o n : Nat) : S.seg q o n = (List.range n).map (fun j => S.a q (o + j)) := rfl
theorem tel_eq {S : MS} {k p N : Nat} {ad : Int64} {P0 g : Nat → Int32} {mo : Bool} (hb : WFb S) (hN : N ≤ 60) (hmo : mo = f_more S k p) (ha : AB ad (fun b => S.a 12 (8 * k + b))) (hP : ∀ b, b < N → P0 b = S.a 18 (60 * (3 * k + p) + b)) : finC g (bodyC ad (S.a 11 k) (S.a 16 k) P0 N mo) = f_tel S k p N := by
  have e1 : lenC N mo &&& 255 = nI (15 + N + if f_more S k p then 1 else 0) := by
    have : lenC N mo = nI (15 + N + if f_more S k p then 1 else 0) := by
      unfold lenC
      rw [hmo, show (15 : Int32) + nI N = nI (15 + N) from nI_add 15 N]
      split
      · exact nI_add (15 + N) 1
      · exact nI_add (15 + N) 0
    rw [this]
    exact byt_id (byt_n (by split <;> omega))
  have e2 : addrL ad 8 = S.seg 12 (8 * k) 8 := by
    unfold addrL
    rw [seg_map]
    exact List.map_congr_left (fun b hb => ha b (List.mem_range.mp hb))
  have e3 : pgL P0 N = S.seg 18 (60 * (3 * k + p)) N := by
    unfold pgL
    rw [seg_map]
    exact List.map_congr_left (fun b hb' => by rw [hP b (List.mem_range.mp hb')]; exact byt_id (hb 18 _ rfl))
  have eb : bodyC ad (S.a 11 k) (S.a 16 k) P0 N mo = f_body S k p N := by
    unfold bodyC hdC f_body
    rw [e1, e2, e3, byt_id (hb 11 k rfl), byt_id (hb 16 k rfl), hmo]
    simp only [List.nil_append, List.append_assoc, List.cons_append]
    rfl
  have el : 4 ≤ (f_body S k p N).length := by
    unfold f_body
    simp only [List.length_append, List.length_cons]
    omega
  unfold finC f_tel
  rw [eb, sumR_L g _ 4 _ (by omega), show 4 + ((f_body S k p N).length - 4) = (f_body S k p N).length by omega, and_255_255]
  rfl
