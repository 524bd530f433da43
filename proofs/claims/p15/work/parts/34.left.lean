/-! MeterBusModel: what a record leaves of the numbers. -/
def GR (S : MS) (e r tx a : Nat) : Prop := S.i 40 = nI a ∧ S.i 39 = nI e ∧ a ≤ e ∧ S.i 23 = nI r ∧ S.i 34 = nI tx
theorem GR.same {S S' : MS} {e r tx a : Nat} (h : GR S e r tx a) (h40 : S'.i 40 = S.i 40) (h39 : S'.i 39 = S.i 39) (h23 : S'.i 23 = S.i 23) (h34 : S'.i 34 = S.i 34) : GR S' e r tx a := ⟨h40.trans h.1, h39.trans h.2.1, h.2.2.1, h23.trans h.2.2.2.1, h34.trans h.2.2.2.2⟩
theorem GR.bl {S : MS} {e r tx a : Nat} {x y : Int32} (h : GR S e r tx a) : GR (f_bl S x y) e r tx a := h.same (f_bl_i _ _ _ (by decide) (by decide)) (f_bl_i _ _ _ (by decide) (by decide)) (f_bl_i _ _ _ (by decide) (by decide)) (f_bl_i _ _ _ (by decide) (by decide))
theorem GR.at {S : MS} {e r tx a : Nat} (h : GR S e r tx a) (he : e ≤ 300) : f_at S = a ∧ f_e S = e ∧ WFp S := by
  have := WFp.of h.1 h.2.1 h.2.2.1 he
  exact ⟨this.2.1, this.2.2, this.1⟩
theorem GR.r {S : MS} {e r tx a : Nat} (h : GR S e r tx a) (hr : r ≤ 100) : f_r S = r := by unfold f_r; rw [h.2.2.2.1, nI_clamp (by omega)]
theorem GR.tx {S : MS} {e r tx a : Nat} (h : GR S e r tx a) (ht : tx ≤ 26000) : f_tx S = tx := by unfold f_tx; rw [h.2.2.2.2, nI_clamp (by omega)]
theorem GR.mv {S S' : MS} {e r tx a a' : Nat} (h : GR S e r tx a) (h40 : S'.i 40 = nI a') (ha : a' ≤ e) (h39 : S'.i 39 = S.i 39) (h23 : S'.i 23 = S.i 23) (h34 : S'.i 34 = S.i 34) : GR S' e r tx a' := ⟨h40, h39.trans h.2.1, ha, h23.trans h.2.2.2.1, h34.trans h.2.2.2.2⟩
theorem f_txl_i (S : MS) (tx a : Nat) {q : Nat} (h34 : q ≠ 34) (h40 : q ≠ 40) : ∀ k, (f_txl S tx a k).i q = S.i q
  | 0 => rfl
  | k + 1 => by rw [f_txl, MS.si_i, if_neg h40, MS.si_i, if_neg h34, MS.sa_i, f_txl_i S tx a h34 h40 k]
theorem GR.text {S : MS} {e r tx a n r0 : Nat} (h : GR S e r tx a) (hn : a + n ≤ e) : GR (f_text S r0 tx a n) e r (tx + n) (a + n) ∧ (f_text S r0 tx a n).i 41 = S.i 41 ∧ ∀ j, (f_text S r0 tx a n).a 38 j = S.a 38 j := by
  unfold f_text
  refine ⟨⟨f_txl_40 _ _ _ _ h.1, (f_txl_i _ _ _ (by decide) (by decide) _).trans h.2.1, hn, (f_txl_i _ _ _ (by decide) (by decide) _).trans h.2.2.2.1, f_txl_34 _ _ _ _ h.2.2.2.2⟩, f_txl_i _ _ _ (by decide) (by decide) _, fun j => ?_⟩
  rw [f_txl_38, sa_ne (by decide), sa_ne (by decide)]
theorem GR.dig {S : MS} {e r tx a n : Nat} {sg : Bool} (h : GR S e r tx a) (hn : a + n ≤ e) : GR (f_digS S a n sg) e r tx (a + n) := by
  unfold f_digS
  exact h.mv rfl hn (by rw [MS.si_i, if_neg (by decide), f_dg_i _ _ _ _ _ (by decide) (by decide)]) (by rw [MS.si_i, if_neg (by decide), f_dg_i _ _ _ _ _ (by decide) (by decide)]) (by rw [MS.si_i, if_neg (by decide), f_dg_i _ _ _ _ _ (by decide) (by decide)])
theorem f_digS_a (S : MS) (a n : Nat) (sg : Bool) (q j : Nat) : (f_digS S a n sg).a q j = S.a q j := f_dg_a S a n _ n q j
/-- what is left behind a value -/
def VR (S S' : MS) (e r tx a : Nat) : Prop := (∃ a' tx', GR S' e r tx' a' ∧ a ≤ a' ∧ tx' ≤ tx + 240 ∧ (S'.i 41 = 0 ∨ tx' = tx)) ∧ ∀ j, S'.a 38 j = S.a 38 j
theorem VR.bl {S : MS} {e r tx a : Nat} {x y : Int32} (h : GR S e r tx a) : VR S (f_bl S x y) e r tx a := ⟨⟨a, tx, h.bl, Nat.le_refl _, by omega, Or.inr rfl⟩, fun j => f_bl_a _ _ _ _ _⟩
theorem VR.valN {S : MS} {e r tx a r0 cc n : Nat} (h : GR S e r tx a) : VR S (f_valN S a e r0 cc n) e r tx a := by
  unfold f_valN
  split
  · rename_i hn
    split
    · exact ⟨⟨a + n, tx, h.mv rfl hn rfl rfl rfl, by omega, by omega, Or.inr rfl⟩, fun j => rfl⟩
    · exact ⟨⟨a + n, tx, (h.dig hn).same rfl rfl rfl rfl, by omega, by omega, Or.inr rfl⟩, fun j => by rw [MS.sw_a, f_digS_a]⟩
  · exact VR.bl h
theorem VR.valD {S : MS} {e r tx a V r0 : Nat} (h : GR S e r tx a) (h41 : S.i 41 = 0) (he : e ≤ 256) : VR S (f_valD S a e r0 tx V) e r tx a := by
  unfold f_valD
  split
  · rename_i h1
    have h2 : GR (S.si 40 (nI (a + 1))) e r tx (a + 1) := h.mv rfl (by omega) rfl rfl rfl
    have hb : ∀ x y, VR S (f_bl (S.si 40 (nI (a + 1))) x y) e r tx a := fun x y => ⟨⟨a + 1, tx, h2.bl, by omega, by omega, Or.inr rfl⟩, fun j => (f_bl_a _ _ _ _ _).trans rfl⟩
    split
    · split
      · rename_i h3 h4
        unfold f_v3
        split
        · rename_i h5
          have ev : f_vn V = V := if_pos h5
          rw [ev] at h4
          have h6 : GR ((S.si 40 (nI (a + 1))).sw 24 r0 (nI V).toInt64) e r tx (a + 1) := h2
          obtain ⟨g1, g2, g3⟩ := h6.text (r0 := r0) h4
          exact ⟨⟨a + 1 + V, tx + V, g1, by omega, by omega, Or.inl (g2.trans h41)⟩, fun j => (g3 j).trans rfl⟩
        · split
          · exact ⟨⟨a + 1 + f_vn V, tx, (h2.dig h4).same rfl rfl rfl rfl, by omega, by omega, Or.inr rfl⟩, fun j => by rw [MS.sw_a, f_digS_a]; rfl⟩
          · exact ⟨⟨a + 1 + f_vn V, tx, h2.mv rfl h4 rfl rfl rfl, by omega, by omega, Or.inr rfl⟩, fun j => rfl⟩
      · exact hb _ _
    · exact hb _ _
  · exact VR.bl h
theorem VR.value {S : MS} {e r tx a cc : Nat} (h : GR S e r tx a) (h41 : S.i 41 = 0) (he : e ≤ 256) (hr : r ≤ 100) (ht : tx ≤ 26000) : VR S (f_value S cc) e r tx a := by
  obtain ⟨e1, e2, -⟩ := h.at (by omega)
  unfold f_value
  rw [e1, e2, h.r hr, h.tx ht]
  split
  · exact VR.valD h h41 he
  · exact VR.valN h
/-- what is left behind a record -/
def RR (S S' : MS) (e r tx a : Nat) : Prop := (∃ a' r' tx', GR S' e r' tx' a' ∧ a < a' ∧ r' ≤ 100 ∧ tx' ≤ 240 * r') ∧ ∀ j, S'.a 38 j = S.a 38 j
theorem GR.dl {S : MS} {e r tx a r0 : Nat} (t : Nat) (b : Int32) (i : Nat) (h : GR S e r tx a) (he : e ≤ 300) : ∃ a', a ≤ a' ∧ GR (f_dl r0 t S b i) e r tx a' := by
  induction t generalizing S b i a with
  | zero => exact ⟨a, Nat.le_refl _, h⟩
  | succ t ih =>
    rw [f_dl]
    split
    · obtain ⟨e1, e2, -⟩ := h.at he
      have hx : ∃ a', a ≤ a' ∧ GR (f_nx S).2 e r tx a' := by
        unfold f_nx
        rw [e1, e2]
        split
        · exact ⟨a + 1, by omega, h.mv rfl (by omega) rfl rfl rfl⟩
        · exact ⟨a, Nat.le_refl _, h.bl⟩
      obtain ⟨a1, h1, h2⟩ := hx
      have h3 : GR (f_d2 (f_nx S).2 i) e r tx a1 := h2.same (f_d2_i _ _ (by decide) (by decide)) (f_d2_i _ _ (by decide) (by decide)) (f_d2_i _ _ (by decide) (by decide)) (f_d2_i _ _ (by decide) (by decide))
      obtain ⟨a2, h4, h5⟩ := ih (f_nx S).1 (i + 1) (h3.same (f_d3_i _ r0 (f_nx S).1 i 40) (f_d3_i _ _ _ _ _) (f_d3_i _ _ _ _ _) (f_d3_i _ _ _ _ _))
      exact ⟨a2, by omega, h5⟩
    · exact ⟨a, Nat.le_refl _, h⟩
theorem GR.vl {S : MS} {e r tx a r0 : Nat} (t : Nat) (b : Int32) (i : Nat) (h : GR S e r tx a) (he : e ≤ 300) : ∃ a', a ≤ a' ∧ GR (f_vl r0 t S b i) e r tx a' := by
  induction t generalizing S b i a with
  | zero => exact ⟨a, Nat.le_refl _, h⟩
  | succ t ih =>
    rw [f_vl]
    split
    · obtain ⟨e1, e2, -⟩ := h.at he
      have hx : ∃ a', a ≤ a' ∧ GR (f_nx S).2 e r tx a' := by
        unfold f_nx
        rw [e1, e2]
        split
        · exact ⟨a + 1, by omega, h.mv rfl (by omega) rfl rfl rfl⟩
        · exact ⟨a, Nat.le_refl _, h.bl⟩
      obtain ⟨a1, h1, h2⟩ := hx
      have h3 : GR (f_v2 (f_nx S).2 i) e r tx a1 := h2.same (f_v2_i _ _ (by decide) (by decide)) (f_v2_i _ _ (by decide) (by decide)) (f_v2_i _ _ (by decide) (by decide)) (f_v2_i _ _ (by decide) (by decide))
      obtain ⟨a2, h4, h5⟩ := ih (f_nx S).1 (i + 1) (h3.same (f_v4_i _ r0 (f_nx S).1 i 40) (f_v4_i _ _ _ _ _) (f_v4_i _ _ _ _ _) (f_v4_i _ _ _ _ _))
      exact ⟨a2, by omega, h5⟩
    · exact ⟨a, Nat.le_refl _, h⟩
theorem RR.own {S S2 : MS} {e r tx a : Nat} (g : GR S2 e r tx (a + 1)) (g38 : ∀ j, S2.a 38 j = S.a 38 j) (he : e ≤ 256) (ha : 19 ≤ a) (hlt : a < e) (hr : r < 100) (ht : tx ≤ 240 * r) : RR S (f_own S2 r tx (a + 1) e) e r tx a := by
  unfold f_own
  obtain ⟨g1, g2, g3⟩ := GR.text (r0 := r) (n := e - (a + 1)) (show GR (S2.sw 24 r (nI (e - (a + 1))).toInt64) e r tx (a + 1) from g.same rfl rfl rfl rfl) (by omega)
  refine ⟨⟨a + 1 + (e - (a + 1)), r + 1, tx + (e - (a + 1)), ⟨g1.1, g1.2.1, g1.2.2.1, rfl, g1.2.2.2.2⟩, by omega, by omega, by omega⟩, fun j => ?_⟩
  rw [MS.si_a, g3, MS.sw_a]
  exact g38 j
theorem RR.ends {S S3 : MS} {e r tx a a2 cc : Nat} (k4 : GR S3 e r tx a2) (k5 : ∀ j, S3.a 38 j = S.a 38 j) (ha2 : a < a2) (he : e ≤ 256) (hr : r < 100) (ht : tx ≤ 240 * r) : RR S (f_ends S3 cc r) e r tx a := by
  unfold f_ends
  split
  · rename_i g41
    obtain ⟨⟨a3, tx3, m1, m2, m3, m4⟩, m5⟩ := VR.value (cc := cc) k4 g41 he (by omega) (by omega)
    generalize f_value S3 cc = S4 at m1 m4 m5 ⊢
    by_cases g5 : S4.i 41 = 0
    · rw [if_pos g5]
      exact ⟨⟨a3, r + 1, tx3, ⟨m1.1, m1.2.1, m1.2.2.1, by rw [MS.si_i, if_pos rfl, m1.2.2.2.1]; exact nI_1 r, m1.2.2.2.2⟩, by omega, by omega, by omega⟩, fun j => (m5 j).trans (k5 j)⟩
    · rw [if_neg g5]
      have : tx3 = tx := m4.elim (fun q => absurd q g5) id
      subst this
      exact ⟨⟨a3, r, tx3, ⟨m1.1, m1.2.1, m1.2.2.1, by rw [MS.si_i, if_pos rfl, m1.2.2.2.1, Int32.add_zero], m1.2.2.2.2⟩, by omega, by omega, ht⟩, fun j => (m5 j).trans (k5 j)⟩
  · exact ⟨⟨a2, r, tx, k4, ha2, by omega, ht⟩, k5⟩
theorem RR.ext {S S2 : MS} {e r tx a cc : Nat} {D : Int32} (g : GR S2 e r tx (a + 1)) (g38 : ∀ j, S2.a 38 j = S.a 38 j) (he : e ≤ 256) (hr : r < 100) (ht : tx ≤ 240 * r) : RR S (f_ends (f_vl r 13 (f_dl r 12 S2 D 0) 128 0) cc r) e r tx a := by
  obtain ⟨a1, k1, k2⟩ := GR.dl (r0 := r) 12 D 0 g (by omega)
  have k3 : ∀ j, (f_dl r 12 S2 D 0).a 38 j = S.a 38 j := fun j => (f_dl_38 _ _ _ _ _ _).trans (g38 j)
  generalize f_dl r 12 S2 D 0 = S3 at k2 k3 ⊢
  obtain ⟨a2, k4, k5⟩ := GR.vl (r0 := r) 13 128 0 k2 (by omega)
  exact RR.ends k5 (fun j => (f_vl_38 _ _ _ _ _ _).trans (k3 j)) (by omega) he hr ht
theorem RR.rcd {S : MS} {e r tx a : Nat} (h : GR S e r tx a) (h41 : S.i 41 = 0) (he : e ≤ 256) (ha : 19 ≤ a) (hlt : a < e) (hr : r ≤ 100) (ht : tx ≤ 240 * r) : RR S (f_rcd S) e r tx a := by
  obtain ⟨e1, e2, -⟩ := h.at (by omega)
  have h2 : GR (S.si 40 (nI (a + 1))) e r tx (a + 1) := h.mv rfl (by omega) rfl rfl rfl
  have hk : ∀ S' : MS, GR S' e r tx (a + 1) → (∀ j, S'.a 38 j = S.a 38 j) → RR S S' e r tx a := fun S' g1 g2 => ⟨⟨a + 1, r, tx, g1, by omega, hr, ht⟩, g2⟩
  unfold f_rcd
  dsimp only
  rw [e1, e2, h.r hr, h.tx (by omega)]
  split
  · exact hk _ h2 (fun _ => rfl)
  · split
    · have h3 : GR ((S.si 40 (nI (a + 1))).si 37 1) e r tx (a + 1) := h2.same rfl rfl rfl rfl
      split
      · exact hk _ h3.bl (fun j => (f_bl_a _ _ _ _ _).trans rfl)
      · exact hk _ h3 (fun _ => rfl)
    · split
      · exact hk _ h2.bl (fun j => (f_bl_a _ _ _ _ _).trans rfl)
      · split
        · exact hk _ h2.bl (fun j => (f_bl_a _ _ _ _ _).trans rfl)
        · rename_i h100
          have h4 : ∀ D, GR (f_rec0 (S.si 40 (nI (a + 1))) r D) e r tx (a + 1) := fun D => h2.same rfl rfl rfl rfl
          have h5 : ∀ D j, (f_rec0 (S.si 40 (nI (a + 1))) r D).a 38 j = S.a 38 j := fun D j => by
            unfold f_rec0
            rw [sa_ne (by decide), sa_ne (by decide), sa_ne (by decide), sa_ne (by decide), MS.sw_a, sa_ne (by decide), sa_ne (by decide)]
            rfl
          split
          · exact RR.own (h4 (S.a 38 a)) (h5 (S.a 38 a)) he ha hlt (by omega) ht
          · exact RR.ext (h4 (S.a 38 a)) (h5 (S.a 38 a)) he (by omega) ht
