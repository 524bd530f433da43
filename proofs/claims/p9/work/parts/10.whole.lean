section
/-! The invariant is kept: the calls that do not decode. -/
theorem MG.of {S S' : MS} (h : MG S) (b : WFb S') (a : WFa S') (h23 : S'.i 23 = S.i 23) (h34 : S'.i 34 = S.i 34) (s : SM S S') (h2 : ∃ n, S'.i 2 = nI n ∧ n ≤ 300) (h20 : S'.i 20 = S.i 20) : MG S' := by
  obtain ⟨f, f1, f2⟩ := h.fnd
  exact ⟨⟨b, a, h.mi.2.2.same h23 h34⟩, h.ds.sm s, h2, f, h20.trans f1, f2⟩
theorem MG.s0 {S : MS} (h : MG S) (v : Int32) : MG (S.si 0 v) := h.of h.mi.1 h.mi.2.1.si rfl rfl ⟨fun _ => rfl, fun _ => rfl⟩ h.buf rfl
theorem MG.clear {S : MS} (h : MG S) : MG (((S.si 0 0).si 23 0).si 34 0) := ⟨⟨h.mi.1, h.mi.2.1.si.si.si, 0, 0, rfl, by decide, rfl, by decide⟩, h.ds, h.buf, h.fnd⟩
theorem MG.keep {S : MS} (h : MG S) {n : Nat} (hn : n ≤ 300) : MG ((S.si 0 0).si 2 (nI n)) := h.of h.mi.1 h.mi.2.1.si.si rfl rfl ⟨fun _ => rfl, fun _ => rfl⟩ ⟨n, rfl, hn⟩ rfl
theorem MG.remove {S : MS} (h : MG S) (k : Nat) : MG ((S.si 0 0).sa 10 k 0) := by
  refine ⟨⟨WFb.sa (S := S.si 0 0) h.mi.1 (fun q => absurd q (by decide)), h.mi.2.1.si.sa (by decide) (by decide) (by decide), h.mi.2.2⟩, ?_, h.buf, h.fnd⟩
  intro i j hi hj ai aj e
  rw [MS.sa_a] at ai aj
  have e' : ∀ m, sby ((S.si 0 0).sa 10 k 0) m = sby S m := fun m => by funext b; unfold sby; rw [sa_ne (by decide)]; rfl
  rw [e', e'] at e
  by_cases g : i = k
  · exact absurd (if_pos ⟨rfl, g⟩) ai
  · by_cases g2 : j = k
    · exact absurd (if_pos ⟨rfl, g2⟩) aj
    · rw [if_neg (fun q => g q.2)] at ai
      rw [if_neg (fun q => g2 q.2)] at aj
      exact h.ds i j hi hj ai aj e
theorem byt_by (b : Int64) (k : Nat) : byt (f_by b k) := by
  unfold f_by
  generalize b >>> (((8 : Int32) * nI k).toInt64 &&& 63) = x
  have hx : (x &&& 255).toInt32 = x.toInt32 &&& 255 := Int64.toInt32_and x 255
  rw [hx]
  exact byt_and _
theorem WFb.ty {b : Int64} : ∀ (m s : Nat) {S : MS}, WFb S → WFb (f_ty b m s S)
  | 0, _, _, h => h
  | m + 1, s, _, h => WFb.ty m (s + 1) ((h.sa (fun _ => byt_by b m)).si)
theorem WFa.ty {b : Int64} : ∀ (m s : Nat) {S : MS}, WFa S → WFa (f_ty b m s S)
  | 0, _, _, h => h
  | m + 1, s, _, h => WFa.ty m (s + 1) ((h.sa (by decide) (by decide) (by decide)).si)
theorem ty_i {b : Int64} {q : Nat} (hq : q ≠ 2) : ∀ (m s : Nat) (S : MS), (f_ty b m s S).i q = S.i q
  | 0, _, _ => rfl
  | m + 1, s, S => by rw [f_ty, ty_i hq m, MS.si_i, if_neg hq, MS.sa_i]
theorem ty_2 {b : Int64} : ∀ (m s : Nat) (S : MS), S.i 2 = nI s → (f_ty b m s S).i 2 = nI (s + m)
  | 0, _, _, h => h
  | m + 1, s, S, h => by rw [f_ty, ty_2 m (s + 1) _ rfl, show s + 1 + m = s + (m + 1) by omega]
theorem ty_a {b : Int64} {q j : Nat} (hq : q ≠ 1) : ∀ (m s : Nat) (S : MS), (f_ty b m s S).a q j = S.a q j
  | 0, _, _ => rfl
  | m + 1, s, S => by rw [f_ty, ty_a hq m, MS.si_a, sa_ne hq]
theorem MG.type {S : MS} {b : Int64} {m s : Nat} (h : MG S) (hs : S.i 2 = nI s) (hq : s + m ≤ 300) : MG (f_ty b m s (S.si 0 0)) :=
  h.of (WFb.ty m s (S := S.si 0 0) h.mi.1) (WFa.ty m s h.mi.2.1.si) (ty_i (by decide) m s _) (ty_i (by decide) m s _) ⟨fun _ => ty_a (by decide) m s _, fun _ => ty_a (by decide) m s _⟩ ⟨s + m, ty_2 m s _ hs, hq⟩ (ty_i (by decide) m s _)
theorem WFb.pcp {S : MS} {o : Nat} (h : WFb S) : ∀ n, WFb (f_pcp S o n)
  | 0 => h
  | n + 1 => (h.pcp n).sa (fun _ => h 1 n rfl)
theorem WFa.s17 {S : MS} {p n : Nat} (h : WFa S) (hn : n ≤ 60) : WFa (S.sa 17 p (nI n)) := by
  intro j hj
  obtain ⟨h1, h2⟩ := h j hj
  refine ⟨fun g => ?_, fun t ht => ?_⟩
  · rw [sa_ne (by decide)] at g ⊢; exact h1 g
  · rw [MS.sa_a]
    split
    · exact ⟨n, hn, rfl⟩
    · exact h2 t ht
theorem MG.page {S : MS} {k i n : Nat} (h : MG S) (hn : n ≤ 60) : MG (f_page S k i n) := by
  have ha : WFa (f_pcp (S.si 0 0) (60 * (3 * k + i)) n) := fun j hj => (h.mi.2.1.si j hj).of (f_pcp_a _ _ _ (by decide)) (f_pcp_a _ _ _ (by decide)) (fun _ => f_pcp_a _ _ _ (by decide))
  have hb : WFb (f_pcp (S.si 0 0) (60 * (3 * k + i)) n) := WFb.pcp (S := S.si 0 0) h.mi.1 n
  have hi : ∀ q, q ≠ 0 → q ≠ 2 → (f_page S k i n).i q = S.i q := fun q h0 h2 => by
    unfold f_page
    rw [MS.si_i, if_neg h2, MS.sa_i, f_pcp_i, MS.si_i, if_neg h0]
  have hz : ∀ q j, q ≠ 17 → q ≠ 18 → (f_page S k i n).a q j = S.a q j := fun q j h0 h2 => by
    unfold f_page
    rw [MS.si_a, sa_ne h0, f_pcp_a _ _ _ h2, MS.si_a]
  exact h.of ((hb.sa (fun q => absurd q (by decide))).si) ((ha.s17 hn).si) (hi 23 (by decide) (by decide)) (hi 34 (by decide) (by decide)) ⟨fun j => hz 10 j (by decide) (by decide), fun j => hz 12 j (by decide) (by decide)⟩ ⟨0, rfl, by decide⟩ (hi 20 (by decide) (by decide))
theorem MG.send {S : MS} {n : Nat} (h : MG S) : MG (f_send S n) := by
  have hw1 : WFa ((f_cp (S.si 0 0) 3 1 n).si 4 (nI n)) := (h.mi.2.1.si.cp (by decide) (by decide) (by decide) n).si
  have hb1 : WFb ((f_cp (S.si 0 0) 3 1 n).si 4 (nI n)) := WFb.cp (S := S.si 0 0) h.mi.1 rfl n
  have am := (AO.bus hw1 n).m.1
  have wa : WFa (f_send0 S n) := hw1.bus n
  have wb : WFb (f_send0 S n) := hb1.bus hw1 n
  have hi : ∀ q, q ≠ 0 → q ≠ 4 → q ≠ 6 → q ≠ 7 → q ≠ 8 → q ≠ 9 → (f_send0 S n).i q = S.i q := fun q h0 h4 h6 h7 h8 h9 => by
    unfold f_send0
    rw [f_bus_i _ _ h6 h7 h8 h9, MS.si_i, if_neg h4, f_cp_i, MS.si_i, if_neg h0]
  have hz : ∀ q j, bz q = false → q ≠ 3 → (f_send0 S n).a q j = S.a q j := fun q j h0 h3 => by
    unfold f_send0
    rw [bus_bz h0, MS.si_a, f_cp_ne _ _ h3, MS.si_a]
  have am : f_m (f_send0 S n) ≤ 300 := am
  have i23 := hi 23 (by decide) (by decide) (by decide) (by decide) (by decide) (by decide)
  have i34 := hi 34 (by decide) (by decide) (by decide) (by decide) (by decide) (by decide)
  have i20 := hi 20 (by decide) (by decide) (by decide) (by decide) (by decide) (by decide)
  have z10 := fun j => hz 10 j rfl (by decide)
  have z12 := fun j => hz 12 j rfl (by decide)
  unfold f_send
  generalize f_send0 S n = S1 at *
  split
  · refine h.of (WFb.cp (S := S1.si 2 0) wb rfl _) ((wa.si.cp (by decide) (by decide) (by decide) _).si) ?_ ?_ ⟨fun j => ?_, fun j => ?_⟩ ⟨f_m S1, rfl, am⟩ ?_
    · rw [MS.si_i, if_neg (by decide), f_cp_i]; exact i23
    · rw [MS.si_i, if_neg (by decide), f_cp_i]; exact i34
    · rw [MS.si_a, f_cp_ne _ _ (by decide)]; exact z10 j
    · rw [MS.si_a, f_cp_ne _ _ (by decide)]; exact z12 j
    · rw [MS.si_i, if_neg (by decide), f_cp_i]; exact i20
  · exact h.of wb wa.si i23 i34 ⟨z10, z12⟩ ⟨0, rfl, by decide⟩ i20
section GS
variable {w : Wd} {M : MW} {S : MS}
theorem g_send (hW : Wm w M) (h : MG S) (n : Nat) (hs : S.i 2 = nI n) (hn : n ≤ 300) : TF w M yX7_send cX7_send 2 (some .int) 4 [] S (some (.int (f_sendR S n))) (f_send S n) := s_send hW h.mi.2.1 n hs hn
end GS
end
section
/-! The invariant is kept: meter. -/
theorem byt_in {x : Int32} {c : Nat} (hc : c < 256) (h : (0 : Int32) ≤ x ∧ x ≤ nI c) : byt x := by
  obtain ⟨j, -, h2, h3⟩ := in_nI (lo := 0) (hi := c) (by omega) h (by omega)
  exact ⟨j, by omega, h3⟩
theorem byte_byt {i mk v d ad : Int32} (h : g_num ad mk v d) (b : Nat) : byt (f_byte b i mk v d) := by
  obtain ⟨h1, h2, h3, h4, h5, h6⟩ := h
  unfold f_byte
  split
  · exact byt_and _
  · split
    · exact byt_and _
    · split
      · exact byt_in (c := 254) (by decide) h4
      · split
        · exact byt_in (c := 254) (by decide) h5
        · exact byt_in (c := 254) (by decide) h6
theorem mb_12 (S : MS) (k : Nat) (i mk v d : Int32) (p : Nat) : ∀ n, (f_mb S k i mk v d n).a 12 p = if 8 * k ≤ p ∧ p < 8 * k + n then f_byte (p - 8 * k) i mk v d else S.a 12 p
  | 0 => by rw [if_neg (by omega)]; rfl
  | n + 1 => by
    rw [f_mb, MS.sa_a, mb_12 S k i mk v d p n]
    by_cases e : p = 8 * k + n
    · rw [if_pos ⟨rfl, e⟩, if_pos (by omega), show p - 8 * k = n by omega]
    · rw [if_neg (fun q => e q.2)]
      by_cases g : 8 * k ≤ p ∧ p < 8 * k + n
      · rw [if_pos g, if_pos (by omega)]
      · rw [if_neg g, if_neg (by omega)]
theorem mb_a (S : MS) (k : Nat) (i mk v d : Int32) {q p : Nat} (h : q ≠ 12) : ∀ n, (f_mb S k i mk v d n).a q p = S.a q p
  | 0 => rfl
  | n + 1 => by rw [f_mb, sa_ne h, mb_a S k i mk v d h n]
theorem mb_i (S : MS) (k : Nat) (i mk v d : Int32) (q : Nat) : ∀ n, (f_mb S k i mk v d n).i q = S.i q
  | 0 => rfl
  | n + 1 => by rw [f_mb, MS.sa_i, mb_i S k i mk v d q n]
theorem mp_a (S : MS) (k : Nat) {q p : Nat} (h : q ≠ 17) : ∀ n, (f_mp S k n).a q p = S.a q p
  | 0 => rfl
  | n + 1 => by rw [f_mp, sa_ne h, mp_a S k h n]
theorem mp_17 (S : MS) (k p : Nat) : ∀ n, (f_mp S k n).a 17 p = if 3 * k ≤ p ∧ p < 3 * k + n then 0 else S.a 17 p
  | 0 => by rw [if_neg (by omega)]; rfl
  | n + 1 => by
    rw [f_mp, MS.sa_a, mp_17 S k p n]
    by_cases e : p = 3 * k + n
    · rw [if_pos ⟨rfl, e⟩, if_pos (by omega)]
    · rw [if_neg (fun q => e q.2)]
      by_cases g : 3 * k ≤ p ∧ p < 3 * k + n
      · rw [if_pos g, if_pos (by omega)]
      · rw [if_neg g, if_neg (by omega)]
theorem mp_i (S : MS) (k q : Nat) : ∀ n, (f_mp S k n).i q = S.i q
  | 0 => rfl
  | n + 1 => by rw [f_mp, MS.sa_i, mp_i S k q n]
theorem WFb.mb {S : MS} {k : Nat} {i mk v d : Int32} (h : WFb S) (hb : ∀ b, byt (f_byte b i mk v d)) : ∀ n, WFb (f_mb S k i mk v d n)
  | 0 => h
  | n + 1 => (h.mb hb n).sa (fun _ => hb n)
theorem WFb.mp {S : MS} {k : Nat} (h : WFb S) : ∀ n, WFb (f_mp S k n)
  | 0 => h
  | n + 1 => (h.mp n).sa (fun q => absurd q (by decide))
theorem meter_i {S : MS} {k : Nat} {ad i mk v d : Int32} {q : Nat} (h : q ≠ 0) : (f_meter S k ad i mk v d).i q = S.i q := by
  unfold f_meter
  rw [mp_i, MS.sa_i, MS.sa_i, MS.sa_i, MS.sa_i, mb_i, MS.sa_i, MS.sa_i, MS.si_i, if_neg h]
theorem meter_10 (S : MS) (k : Nat) (ad i mk v d : Int32) (j : Nat) : (f_meter S k ad i mk v d).a 10 j = if j = k then 1 else S.a 10 j := by
  unfold f_meter
  rw [mp_a _ _ (by decide), sa_ne (by decide), sa_ne (by decide), sa_ne (by decide), sa_ne (by decide), mb_a _ _ _ _ _ _ (by decide), sa_ne (by decide), MS.sa_a]
  by_cases e : j = k
  · rw [if_pos ⟨rfl, e⟩, if_pos e]
  · rw [if_neg (fun q => e q.2), if_neg e]; rfl
theorem meter_12 (S : MS) (k : Nat) (ad i mk v d : Int32) (p : Nat) : (f_meter S k ad i mk v d).a 12 p = if 8 * k ≤ p ∧ p < 8 * k + 8 then f_byte (p - 8 * k) i mk v d else S.a 12 p := by
  unfold f_meter
  rw [mp_a _ _ (by decide), sa_ne (by decide), sa_ne (by decide), sa_ne (by decide), sa_ne (by decide), mb_12, sa_ne (by decide), sa_ne (by decide)]
  rfl
theorem meter_14 (S : MS) (k : Nat) (ad i mk v d : Int32) (j : Nat) : (f_meter S k ad i mk v d).a 14 j = if j = k then -1 else S.a 14 j := by
  unfold f_meter
  rw [mp_a _ _ (by decide), sa_ne (by decide), MS.sa_a]
  by_cases e : j = k
  · rw [if_pos ⟨rfl, e⟩, if_pos e]
  · rw [if_neg (fun q => e q.2), if_neg e, sa_ne (by decide), sa_ne (by decide), mb_a _ _ _ _ _ _ (by decide), sa_ne (by decide), sa_ne (by decide)]; rfl
theorem meter_15 (S : MS) (k : Nat) (ad i mk v d : Int32) (j : Nat) : (f_meter S k ad i mk v d).a 15 j = if j = k then -1 else S.a 15 j := by
  unfold f_meter
  rw [mp_a _ _ (by decide), sa_ne (by decide), sa_ne (by decide), MS.sa_a]
  by_cases e : j = k
  · rw [if_pos ⟨rfl, e⟩, if_pos e]
  · rw [if_neg (fun q => e q.2), if_neg e, sa_ne (by decide), mb_a _ _ _ _ _ _ (by decide), sa_ne (by decide), sa_ne (by decide)]; rfl
theorem meter_17 (S : MS) (k : Nat) (ad i mk v d : Int32) (p : Nat) : (f_meter S k ad i mk v d).a 17 p = if 3 * k ≤ p ∧ p < 3 * k + 3 then 0 else S.a 17 p := by
  unfold f_meter
  rw [mp_17, sa_ne (by decide), sa_ne (by decide), sa_ne (by decide), sa_ne (by decide), mb_a _ _ _ _ _ _ (by decide), sa_ne (by decide), sa_ne (by decide)]
  rfl
/-- parts tell the bytes -/
theorem prt_inj {f g : Nat → Nat} (h : ∀ n, n < 12 → prt f n = prt g n) : ∀ b, b < 8 → f b = g b := by
  intro b hb
  by_cases h4 : b < 4
  · have h1 := h (2 * (3 - b)) (by omega)
    have h2 := h (2 * (3 - b) + 1) (by omega)
    rw [prt_hi _ h4, prt_hi _ h4] at h1
    rw [prt_lo _ h4, prt_lo _ h4] at h2
    omega
  · have h1 := h (b + 4) (by omega)
    rw [prt_by _ (by omega), prt_by _ (by omega)] at h1
    exact h1
theorem MG.meter {S : MS} {k : Nat} {ad i mk v d : Int32} (h : MG S) (hk : k < 12) (hg : g_good S (nI k) ad i mk v d) : MG (f_meter S k ad i mk v d) := by
  have hB := byte_byt (i := i) hg.1.1
  have wb : WFb (f_meter S k ad i mk v d) := by
    unfold f_meter
    refine WFb.mp ?_ 3
    refine ((((WFb.mb ?_ hB 8).sa (fun q => absurd q (by decide))).sa (fun q => absurd q (by decide))).sa (fun q => absurd q (by decide))).sa (fun _ => ⟨0, by decide, rfl⟩)
    exact (WFb.sa (S := S.si 0 0) h.mi.1 (fun q => absurd q (by decide))).sa (fun _ => byt_in (c := 250) (by decide) hg.1.1.1)
  have wa : WFa (f_meter S k ad i mk v d) := by
    intro j hj
    obtain ⟨h1, h2⟩ := h.mi.2.1 j hj
    by_cases e : j = k
    · refine ⟨fun g => ?_, fun p hp => ?_⟩
      · rw [meter_15, if_pos e] at g
        exact absurd g (by decide)
      · rw [meter_17, if_pos (by omega)]
        exact ⟨0, by decide, rfl⟩
    · refine ⟨fun g => ?_, fun p hp => ?_⟩
      · rw [meter_15, if_neg e] at g
        rw [meter_14, if_neg e]
        exact h1 g
      · rw [meter_17, if_neg (by omega)]
        exact h2 p hp
  obtain ⟨n, n1, n2⟩ := h.buf
  obtain ⟨f, f1, f2⟩ := h.fnd
  refine ⟨⟨wb, wa, h.mi.2.2.same (meter_i (by decide)) (meter_i (by decide))⟩, ?_, ⟨n, (meter_i (by decide)).trans n1, n2⟩, ⟨f, (meter_i (by decide)).trans f1, f2⟩⟩
  have old : ∀ j, j ≠ k → ∀ b, b < 8 → (f_meter S k ad i mk v d).a 12 (8 * j + b) = S.a 12 (8 * j + b) := fun j hj b hb => by rw [meter_12, if_neg (by omega)]
  have key : ∀ j, j < 12 → j ≠ k → ¬ S.a 10 j = 0 → ¬ (∀ b, b < 8 → S.a 12 (8 * j + b) = f_byte b i mk v d) := by
    intro j hj e aj g
    have fr := hg.2
    unfold g_free at fr
    rw [List.all_eq_true] at fr
    have := fr j (List.mem_range.mpr hj)
    rw [decide_eq_true_eq] at this
    refine this ⟨⟨aj, fun q => e ((nI_eq (by omega) (by omega)).mp q)⟩, ?_⟩
    unfold g_sb
    rw [List.all_eq_true]
    intro b hb
    rw [decide_eq_true_eq]
    exact g b (List.mem_range.mp hb)
  have same : ∀ x y, (∀ n, n < 12 → prt (sby (f_meter S k ad i mk v d) x) n = prt (sby (f_meter S k ad i mk v d) y) n) → ∀ b, b < 8 → (f_meter S k ad i mk v d).a 12 (8 * x + b) = (f_meter S k ad i mk v d).a 12 (8 * y + b) := by
    intro x y e b hb
    rw [(wb.s x b).2, (wb.s y b).2, prt_inj e b hb]
  have new : ∀ b, b < 8 → (f_meter S k ad i mk v d).a 12 (8 * k + b) = f_byte b i mk v d := fun b hb => by rw [meter_12, if_pos (by omega), show 8 * k + b - 8 * k = b by omega]
  intro x y hx hy ax ay e
  rw [meter_10] at ax ay
  by_cases ex : x = k
  · by_cases ey : y = k
    · rw [ex, ey]
    · rw [if_neg ey] at ay
      refine absurd (fun b hb => ?_) (key y hy ey ay)
      rw [← old y ey b hb, ← same x y e b hb, ex]
      exact new b hb
  · rw [if_neg ex] at ax
    by_cases ey : y = k
    · refine absurd (fun b hb => ?_) (key x hx ex ax)
      rw [← old x ex b hb, same x y e b hb, ey]
      exact new b hb
    · rw [if_neg ey] at ay
      refine h.ds x y hx hy ax ay (fun n hn => ?_)
      have s1 : ∀ b, b < 8 → sby S x b = sby S y b := fun b hb => by
        unfold sby
        rw [← old x ex b hb, ← old y ey b hb, same x y e b hb]
      unfold prt
      split
      · rw [s1 _ (by omega)]
      · rw [s1 _ (by omega)]
end
section
/-! Decoding leaves the other numbers alone; what a list of records keeps. -/
def di (q : Nat) : Bool := match q with
  | 23 => true | 34 => true | 36 => true | 37 => true | 39 => true | 40 => true | 41 => true | _ => false
theorem di_ne {q k : Nat} (h : di q = false) (hk : di k = true) : q ≠ k := fun e => by rw [e, hk] at h; exact nomatch h
def KI (S S' : MS) : Prop := ∀ q, di q = false → S'.i q = S.i q
theorem KI.rf (S : MS) : KI S S := fun _ _ => rfl
theorem KI.tr {S S1 S2 : MS} (h : KI S S1) (g : KI S1 S2) : KI S S2 := fun q hq => (g q hq).trans (h q hq)
theorem KI.si (S : MS) (k : Nat) (v : Int32) (hk : di k = true := by rfl) : KI S (S.si k v) := fun q hq => by rw [MS.si_i, if_neg (di_ne hq hk)]
theorem KI.sw (S : MS) (k j : Nat) (v : Int64) : KI S (S.sw k j v) := fun _ _ => rfl
theorem KI.sa (S : MS) {k : Nat} (j : Nat) (v : Int32) (_ : lk k = true) (_ : k ≠ 35) : KI S (S.sa k j v) := fun _ _ => rfl
theorem KI.bl (S : MS) (x y : Int32) : KI S (f_bl S x y) := fun _ hq => f_bl_i _ _ _ (di_ne hq rfl) (di_ne hq rfl)
theorem KI.txl (S : MS) (tx a : Nat) (k : Nat) : KI S (f_txl S tx a k) := fun _ hq => f_txl_i _ _ _ (di_ne hq rfl) (di_ne hq rfl) k
theorem KI.text (S : MS) (r tx a n : Nat) : KI S (f_text S r tx a n) := ((KI.sa S r _ rfl (by decide)).tr (KI.sa _ r _ rfl (by decide))).tr (KI.txl _ _ _ _)
theorem KI.dg (S : MS) (a m : Nat) (mi : Bool) (k : Nat) : KI S (f_dg S a m mi k) := fun _ hq => f_dg_i _ _ _ _ _ (di_ne hq rfl) (di_ne hq rfl)
theorem KI.digS (S : MS) (a m : Nat) (sg : Bool) : KI S (f_digS S a m sg) := (KI.dg S a m _ m).tr (KI.si _ _ _)
theorem KI.nx (S : MS) : KI S (f_nx S).2 := fun _ hq => f_nx_i _ (di_ne hq rfl) (di_ne hq rfl) (di_ne hq rfl)
theorem KI.d2 (S : MS) (i : Nat) : KI S (f_d2 S i) := fun _ hq => f_d2_i _ _ (di_ne hq rfl) (di_ne hq rfl)
theorem KI.v2 (S : MS) (i : Nat) : KI S (f_v2 S i) := fun _ hq => f_v2_i _ _ (di_ne hq rfl) (di_ne hq rfl)
theorem KI.d3 (S : MS) (r : Nat) (b : Int32) (i : Nat) : KI S (f_d3 S r b i) := by
  unfold f_d3
  split
  · unfold f_df1
    exact ((KI.sw S _ _ _).tr (KI.sa _ r _ rfl (by decide))).tr (KI.sa _ r _ rfl (by decide))
  · exact KI.rf S
theorem KI.v4 (S : MS) (r : Nat) (b : Int32) (i : Nat) : KI S (f_v4 S r b i) := by
  unfold f_v4
  split
  · exact (KI.sa S _ _ rfl (by decide)).tr (KI.sa _ r _ rfl (by decide))
  · exact KI.rf S
theorem KI.dl (r : Nat) : ∀ (t : Nat) (S : MS) (b : Int32) (i : Nat), KI S (f_dl r t S b i)
  | 0, S, _, _ => KI.rf S
  | t + 1, S, b, i => by
    rw [f_dl]
    split
    · exact (((KI.nx S).tr (KI.d2 _ i)).tr (KI.d3 _ r _ i)).tr (KI.dl r t _ _ _)
    · exact KI.rf S
theorem KI.vl (r : Nat) : ∀ (t : Nat) (S : MS) (b : Int32) (i : Nat), KI S (f_vl r t S b i)
  | 0, S, _, _ => KI.rf S
  | t + 1, S, b, i => by
    rw [f_vl]
    split
    · exact (((KI.nx S).tr (KI.v2 _ i)).tr (KI.v4 _ r _ i)).tr (KI.vl r t _ _ _)
    · exact KI.rf S
theorem KI.rec0 (S : MS) (r : Nat) (D : Int32) : KI S (f_rec0 S r D) := by
  unfold f_rec0
  exact ((((((KI.sa S r _ rfl (by decide)).tr (KI.sa _ r _ rfl (by decide))).tr (KI.sw _ _ _ _)).tr (KI.sa _ r _ rfl (by decide))).tr (KI.sa _ r _ rfl (by decide))).tr (KI.sa _ r _ rfl (by decide))).tr (KI.sa _ r _ rfl (by decide))
theorem KI.valN (S : MS) (a e r cc n : Nat) : KI S (f_valN S a e r cc n) := by
  unfold f_valN
  split
  · split
    · exact (KI.si S _ _).tr (KI.sw _ _ _ _)
    · exact (KI.digS S _ _ _).tr (KI.sw _ _ _ _)
  · exact KI.bl S _ _
theorem KI.valD (S : MS) (a e r tx V : Nat) : KI S (f_valD S a e r tx V) := by
  unfold f_valD
  split
  · refine (KI.si S 40 (nI (a + 1))).tr ?_
    split
    · split
      · unfold f_v3
        split
        · exact (KI.sw _ _ _ _).tr (KI.text _ _ _ _ _)
        · split
          · exact (KI.digS _ _ _ _).tr (KI.sw _ _ _ _)
          · exact (KI.si _ _ _).tr (KI.sw _ _ _ _)
      · exact KI.bl _ _ _
    · exact KI.bl _ _ _
  · exact KI.bl S _ _
theorem KI.value (S : MS) (cc : Nat) : KI S (f_value S cc) := by
  unfold f_value
  split
  · exact KI.valD S _ _ _ _ _
  · exact KI.valN S _ _ _ _ _
theorem KI.ends (S : MS) (cc r : Nat) : KI S (f_ends S cc r) := by
  unfold f_ends
  split
  · exact (KI.value S cc).tr (KI.si _ _ _)
  · exact KI.rf S
theorem KI.own (S : MS) (r tx a e : Nat) : KI S (f_own S r tx a e) := by
  unfold f_own
  exact ((KI.sw S _ _ _).tr (KI.text _ _ _ _ _)).tr (KI.si _ _ _)
theorem KI.ext (S : MS) (r cc : Nat) (D : Int32) : KI S (f_ends (f_vl r 13 (f_dl r 12 S D 0) 128 0) cc r) := ((KI.dl r 12 S D 0).tr (KI.vl r 13 _ 128 0)).tr (KI.ends _ cc r)
theorem KI.rcd (S : MS) : KI S (f_rcd S) := by
  unfold f_rcd
  dsimp only
  split
  · exact KI.si S _ _
  · split
    · split
      · exact ((KI.si S _ _).tr (KI.si _ _ _)).tr (KI.bl _ _ _)
      · exact (KI.si S _ _).tr (KI.si _ _ _)
    · split
      · exact (KI.si S _ _).tr (KI.bl _ _ _)
      · split
        · exact (KI.si S _ _).tr (KI.bl _ _ _)
        · split
          · exact ((KI.si S _ _).tr (KI.rec0 _ _ _)).tr (KI.own _ _ _ _ _)
          · exact ((KI.si S _ _).tr (KI.rec0 _ _ _)).tr (KI.ext _ _ _ _)
theorem KI.rl : ∀ (t : Nat) (S : MS), KI S (f_rl t S)
  | 0, S => KI.rf S
  | t + 1, S => by
    rw [f_rl]
    split
    · exact (KI.rcd S).tr (KI.rl t _)
    · exact KI.rf S
theorem f_bS_KI (S : MS) (n i : Nat) (lo hi : Int32) : KI S (f_bS S n i lo hi) := by
  unfold f_bS
  split
  · exact KI.rf S
  · exact KI.bl S _ _
theorem KI.ids (S : MS) (L : Nat) : ∀ (t k : Nat), KI S (f_ids S L t k).2
  | 0, _ => KI.si S _ _
  | t + 1, k => by
    unfold f_ids
    split
    · exact KI.bl S _ _
    · exact KI.ids S L t (k + 1)
theorem KI.fr3 (S : MS) : KI S (f_fr3 S).2 := by
  unfold f_fr3
  split
  · exact KI.ids S _ _ _
  · exact KI.bl S _ _
theorem KI.fr2 (S : MS) (n : Nat) : KI S (f_fr2 S n).2 := by
  unfold f_fr2
  split
  · split
    · split
      · split
        · exact KI.fr3 S
        · exact f_bS_KI S _ _ _ _
      · exact f_bS_KI S _ _ _ _
    · exact f_bS_KI S _ _ _ _
  · exact KI.bl S _ _
theorem KI.fr (S : MS) (n : Nat) : KI S (f_fr S n).2 := by
  unfold f_fr
  split
  · split
    · split
      · split
        · exact KI.fr2 S n
        · exact f_bS_KI S _ _ _ _
      · exact f_bS_KI S _ _ _ _
    · exact f_bS_KI S _ _ _ _
  · exact f_bS_KI S _ _ _ _
theorem KI.da1 (S : MS) (q n : Nat) : KI (f_da0 S q n) (f_da1 S q n) := by
  unfold f_da1
  generalize f_da0 S q n = S1
  split
  · exact ((KI.fr S1 n).tr (KI.si _ _ _)).tr (KI.rl 300 _)
  · exact KI.fr S1 n
theorem KI.da (S : MS) (q n : Nat) : KI (f_da0 S q n) (f_da S q n) := by
  have h := KI.da1 S q n
  unfold f_da
  generalize f_da1 S q n = S1 at h ⊢
  split
  · exact (h.tr (KI.si _ _ _)).tr (KI.si _ _ _)
  · exact h
theorem KI.da0 (S : MS) (q n : Nat) : KI S (f_da0 S q n) := fun k hk => by
  unfold f_da0
  rw [f_cp_i, MS.si_i, if_neg (di_ne hk rfl), MS.si_i, if_neg (di_ne hk rfl), MS.si_i, if_neg (di_ne hk rfl)]
theorem da_i (S : MS) (q n : Nat) {k : Nat} (hk : di k = false) : (f_da S q n).i k = S.i k := ((KI.da0 S q n).tr (KI.da S q n)) k hk
theorem da_a (S : MS) (q n : Nat) {k j : Nat} (hk : lk k = false) (h38 : k ≠ 38) : (f_da S q n).a k j = S.a k j := by
  rw [(KK.da S q n).1 k j hk]
  unfold f_da0
  rw [f_cp_ne _ _ h38]
  rfl
theorem MG.da {S : MS} {q : Nat} (h : MG S) (hq : bk q = true) (n : Nat) : MG (f_da S q n) := by
  obtain ⟨m, m1, m2⟩ := h.buf
  obtain ⟨f, f1, f2⟩ := h.fnd
  exact ⟨⟨h.mi.1.da hq n, h.mi.2.1.da n, h.mi.2.2.da q n⟩, h.ds.sm ⟨fun _ => da_a S q n rfl (by decide), fun _ => da_a S q n rfl (by decide)⟩, ⟨m, (da_i S q n rfl).trans m1, m2⟩, ⟨f, (da_i S q n rfl).trans f1, f2⟩⟩
theorem MG.decode {S : MS} (h : MG S) (n : Nat) : MG (f_decode S n) := (h.s0 0).da rfl n
theorem MG.putS {S : MS} {c : Int32} (h : MG S) (hc : byt c) : MG (f_putS S c) := by
  have e : ∀ q, q ≠ 4 → q ≠ 6 → q ≠ 7 → q ≠ 8 → q ≠ 9 → (f_putS S c).i q = S.i q := fun q h4 h6 h7 h8 h9 => f_putS_i _ _ h4 h6 h7 h8 h9
  obtain ⟨m, m1, m2⟩ := h.buf
  obtain ⟨f, f1, f2⟩ := h.fnd
  exact ⟨h.mi.putS hc, h.ds.sm ⟨fun _ => putS_bz rfl (by decide), fun _ => putS_bz rfl (by decide)⟩, ⟨m, (e 2 (by decide) (by decide) (by decide) (by decide) (by decide)).trans m1, m2⟩, ⟨f, (e 20 (by decide) (by decide) (by decide) (by decide) (by decide)).trans f1, f2⟩⟩
theorem MG.putM {S : MS} (h : MG S) : MG (f_putM S) := by
  have e : ∀ q, q ≠ 4 → q ≠ 6 → q ≠ 7 → q ≠ 8 → q ≠ 9 → (f_putM S).i q = S.i q := fun q h4 h6 h7 h8 h9 => f_putM_i _ h4 h6 h7 h8 h9
  obtain ⟨m, m1, m2⟩ := h.buf
  obtain ⟨f, f1, f2⟩ := h.fnd
  exact ⟨h.mi.putM, h.ds.sm (putM_sm S), ⟨m, (e 2 (by decide) (by decide) (by decide) (by decide) (by decide)).trans m1, m2⟩, ⟨f, (e 20 (by decide) (by decide) (by decide) (by decide) (by decide)).trans f1, f2⟩⟩
theorem MG.ls {S : MS} (h : MG S) : MG ((S.si 23 0).si 34 0) := ⟨⟨h.mi.1, h.mi.2.1.si.si, 0, 0, rfl, by decide, rfl, by decide⟩, h.ds, h.buf, h.fnd⟩
theorem MG.ro {t q : Nat} : ∀ {S : MS}, MG S → MG (f_ro t q S).2 := by
  induction t generalizing q with
  | zero => intro S h; exact h
  | succ t ih =>
    intro S h
    have h1 : MG (f_putS S (f_roC q)) := h.putS (by unfold f_roC; split; exact ⟨123, by decide, rfl⟩; exact ⟨91, by decide, rfl⟩)
    rw [f_ro]
    generalize f_putS S (f_roC q) = S1 at h1 ⊢
    have h2 : MG (f_da S1 5 (f_m S1)) := h1.da rfl _
    generalize f_da S1 5 (f_m S1) = S2 at h2 ⊢
    split
    · split
      · exact h2.ls
      · split
        · exact h2
        · exact ih h2
    · exact h1.ls
theorem rm_a (S : MS) (k : Nat) {q j : Nat} (h : q ≠ 19) : ∀ n, (f_rm S k n).a q j = S.a q j
  | 0 => rfl
  | n + 1 => by rw [f_rm, sa_ne h, rm_a S k h n]
theorem MG.readOut {S : MS} {k : Nat} (h : MG S) : MG (f_readOut S k).2 := by
  have h00 : MG (f_rm ((((S.si 0 0).si 23 0).si 34 0).si 36 (-1)) k 8) := by
    obtain ⟨m, m1, m2⟩ := h.buf
    obtain ⟨f, f1, f2⟩ := h.fnd
    exact ⟨h.mi.ro0, h.ds.sm ⟨fun _ => (rm_a _ k (by decide) 8).trans rfl, fun _ => (rm_a _ k (by decide) 8).trans rfl⟩, ⟨m, ((f_rm_i _ k 2 8).trans rfl).trans m1, m2⟩, ⟨f, ((f_rm_i _ k 20 8).trans rfl).trans f1, f2⟩⟩
  have h0 : MG (f_ro0 S k) := h00.putM
  unfold f_readOut
  generalize f_ro0 S k = S1 at h0 ⊢
  split
  · exact MG.ro (h0.putS ⟨64, by decide, rfl⟩).putM
  · exact h0
end
section
/-! What each record of the list keeps to: its parts and its text. -/
def tq (q : Nat) : Bool := match q with
  | 30 => true | 32 => true | 33 => true | _ => false
theorem tq_ne {q k : Nat} (h : tq q = true) (hk : tq k = false) : q ≠ k := fun e => by rw [e, hk] at h; exact nomatch h
def RO (S : MS) (j : Nat) : Prop := (∃ nv, S.a 30 j = nI nv ∧ nv ≤ 11) ∧ ∃ n, S.a 33 j = nI n ∧ n ≤ 300 ∧ (0 < n → ∃ o, S.a 32 j = nI o ∧ o + n ≤ 26000)
theorem RO.same {S S' : MS} {j : Nat} (h : RO S j) (e : ∀ q, tq q = true → S'.a q j = S.a q j) : RO S' j := by
  unfold RO
  rw [e 30 rfl, e 32 rfl, e 33 rfl]
  exact h
/-- all three as they were -/
def ZS (S S' : MS) : Prop := ∀ q j, tq q = true → S'.a q j = S.a q j
/-- all but row r as they were -/
def ZR (r : Nat) (S S' : MS) : Prop := ∀ q j, tq q = true → j ≠ r → S'.a q j = S.a q j
theorem ZS.rf (S : MS) : ZS S S := fun _ _ _ => rfl
theorem ZS.tr {S S1 S2 : MS} (h : ZS S S1) (g : ZS S1 S2) : ZS S S2 := fun q j hq => (g q j hq).trans (h q j hq)
theorem ZR.tr {r : Nat} {S S1 S2 : MS} (h : ZR r S S1) (g : ZR r S1 S2) : ZR r S S2 := fun q j hq hj => (g q j hq hj).trans (h q j hq hj)
theorem ZS.r {S S' : MS} (h : ZS S S') (r : Nat) : ZR r S S' := fun q j hq _ => h q j hq
theorem ZS.ro {S S' : MS} {j : Nat} (h : ZS S S') (g : RO S j) : RO S' j := g.same (fun q hq => h q j hq)
theorem ZS.si (S : MS) (k : Nat) (v : Int32) : ZS S (S.si k v) := fun _ _ _ => rfl
theorem ZS.sw (S : MS) (k j : Nat) (v : Int64) : ZS S (S.sw k j v) := fun _ _ _ => rfl
theorem ZS.sa (S : MS) (k j : Nat) (v : Int32) (hk : tq k = false := by rfl) : ZS S (S.sa k j v) := fun _ _ hq => sa_ne (tq_ne hq hk)
theorem ZR.sa (S : MS) (k r : Nat) (v : Int32) : ZR r S (S.sa k r v) := fun q j _ hj => by rw [MS.sa_a, if_neg (fun e => hj e.2)]
theorem ZS.bl (S : MS) (x y : Int32) : ZS S (f_bl S x y) := fun _ _ _ => f_bl_a _ _ _ _ _
theorem ZS.txl (S : MS) (tx a : Nat) : ∀ k, ZS S (f_txl S tx a k)
  | 0 => ZS.rf S
  | k + 1 => by
    rw [f_txl]
    exact (((ZS.txl S tx a k).tr (ZS.sa _ 35 _ _)).tr (ZS.si _ _ _)).tr (ZS.si _ _ _)
theorem ZR.text (S : MS) (r tx a n : Nat) : ZR r S (f_text S r tx a n) := ((ZR.sa S 32 r _).tr (ZR.sa _ 33 r _)).tr ((ZS.txl _ _ _ _).r r)
theorem RO.text {S : MS} {r tx a n : Nat} (h : RO S r) (hn : n ≤ 300) (ht : tx + n ≤ 26000) : RO (f_text S r tx a n) r := by
  unfold f_text
  refine ZS.ro (ZS.txl _ tx a n) ⟨?_, n, ?_, hn, fun _ => ⟨tx, ?_, ht⟩⟩
  · rw [sa_ne (by decide), sa_ne (by decide)]; exact h.1
  · rw [MS.sa_a, if_pos ⟨rfl, rfl⟩]
  · rw [sa_ne (by decide), MS.sa_a, if_pos ⟨rfl, rfl⟩]
theorem ZS.dg (S : MS) (a m : Nat) (mi : Bool) (k : Nat) : ZS S (f_dg S a m mi k) := fun _ _ _ => f_dg_a _ _ _ _ _ _ _
theorem ZS.digS (S : MS) (a m : Nat) (sg : Bool) : ZS S (f_digS S a m sg) := fun _ _ _ => f_digS_a _ _ _ _ _ _
theorem ZS.nx (S : MS) : ZS S (f_nx S).2 := fun _ _ _ => f_nx_a _ _ _
theorem ZS.d2 (S : MS) (i : Nat) : ZS S (f_d2 S i) := fun _ _ _ => f_d2_a _ _ _ _
theorem ZS.v2 (S : MS) (i : Nat) : ZS S (f_v2 S i) := fun _ _ _ => f_v2_a _ _ _ _
theorem ZS.d3 (S : MS) (r : Nat) (b : Int32) (i : Nat) : ZS S (f_d3 S r b i) := by
  unfold f_d3
  split
  · unfold f_df1
    exact ((ZS.sw S _ _ _).tr (ZS.sa _ 28 r _)).tr (ZS.sa _ 29 r _)
  · exact ZS.rf S
theorem ZS.dl (r : Nat) : ∀ (t : Nat) (S : MS) (b : Int32) (i : Nat), ZS S (f_dl r t S b i)
  | 0, S, _, _ => ZS.rf S
  | t + 1, S, b, i => by
    rw [f_dl]
    split
    · exact (((ZS.nx S).tr (ZS.d2 _ i)).tr (ZS.d3 _ r _ i)).tr (ZS.dl r t _ _ _)
    · exact ZS.rf S
theorem ZR.vl (r : Nat) : ∀ (t : Nat) (S : MS) (b : Int32) (i : Nat), ZR r S (f_vl r t S b i)
  | 0, S, _, _ => (ZS.rf S).r r
  | t + 1, S, b, i => by
    rw [f_vl]
    split
    · refine ((((ZS.nx S).tr (ZS.v2 _ i)).r r).tr ?_).tr (ZR.vl r t _ _ _)
      generalize f_v2 (f_nx S).2 i = S1
      unfold f_v4
      split
      · exact ((ZS.sa S1 31 _ _).r r).tr (ZR.sa _ 30 r _)
      · exact (ZS.rf S1).r r
    · exact (ZS.rf S).r r
theorem RO.vl (r : Nat) : ∀ (t : Nat) (S : MS) (b : Int32) (i m : Nat), S.a 30 r = nI m → m ≤ i → RO S r → RO (f_vl r t S b i) r
  | 0, S, _, _, _, _, _, h => h
  | t + 1, S, b, i, m, hm, hi, h => by
    rw [f_vl]
    split
    · have z := (ZS.nx S).tr (ZS.v2 (f_nx S).2 i)
      have h1 : RO (f_v2 (f_nx S).2 i) r := z.ro h
      have m1 : (f_v2 (f_nx S).2 i).a 30 r = nI m := (z 30 r rfl).trans hm
      generalize f_v2 (f_nx S).2 i = S1 at h1 m1 ⊢
      generalize (f_nx S).1 = c
      unfold f_v4
      split
      · rename_i g
        have e : ((S1.sa 31 (11 * r + i) c).sa 30 r (S1.a 30 r + 1)).a 30 r = nI (m + 1) := by
          rw [MS.sa_a, if_pos ⟨rfl, rfl⟩, m1]; exact nI_1 m
        refine RO.vl r t _ _ (i + 1) (m + 1) e (by omega) ⟨⟨m + 1, e, by omega⟩, ?_⟩
        rw [sa_ne (by decide), sa_ne (by decide), sa_ne (by decide), sa_ne (by decide)]
        exact h1.2
      · exact RO.vl r t _ _ (i + 1) m m1 (by omega) h1
    · exact h
theorem ZS.valN (S : MS) (a e r cc n : Nat) : ZS S (f_valN S a e r cc n) := by
  unfold f_valN
  split
  · split
    · exact (ZS.si S _ _).tr (ZS.sw _ _ _ _)
    · exact (ZS.digS S _ _ _).tr (ZS.sw _ _ _ _)
  · exact ZS.bl S _ _
theorem ZR.valD (S : MS) (a e r tx V : Nat) : ZR r S (f_valD S a e r tx V) := by
  unfold f_valD
  split
  · refine ((ZS.si S 40 (nI (a + 1))).r r).tr ?_
    split
    · split
      · unfold f_v3
        split
        · exact ((ZS.sw _ _ _ _).r r).tr (ZR.text _ _ _ _ _)
        · split
          · exact ((ZS.digS _ _ _ _).tr (ZS.sw _ _ _ _)).r r
          · exact ((ZS.si _ _ _).tr (ZS.sw _ _ _ _)).r r
      · exact (ZS.bl _ _ _).r r
    · exact (ZS.bl _ _ _).r r
  · exact (ZS.bl S _ _).r r
theorem RO.valD {S : MS} {a e r tx V : Nat} (h : RO S r) (ht : tx ≤ 25000) : RO (f_valD S a e r tx V) r := by
  have h1 : RO (S.si 40 (nI (a + 1))) r := (ZS.si S 40 (nI (a + 1))).ro h
  unfold f_valD
  split
  · split
    · split
      · unfold f_v3
        split
        · rename_i g
          exact RO.text ((ZS.sw _ _ _ _).ro h1) (by omega) (by omega)
        · split
          · exact ((ZS.digS _ _ _ _).tr (ZS.sw _ _ _ _)).ro h1
          · exact ((ZS.si _ _ _).tr (ZS.sw _ _ _ _)).ro h1
      · exact (ZS.bl _ _ _).ro h1
    · exact (ZS.bl _ _ _).ro h1
  · exact (ZS.bl S _ _).ro h
theorem value_ok {S : MS} {cc r tx : Nat} (hr : f_r S = r) (ht : f_tx S = tx) (ht1 : tx ≤ 25000) : ZR r S (f_value S cc) ∧ (RO S r → RO (f_value S cc) r) := by
  unfold f_value
  rw [hr, ht]
  split
  · exact ⟨ZR.valD S _ _ _ _ _, fun h => h.valD ht1⟩
  · exact ⟨(ZS.valN S _ _ _ _ _).r r, fun h => (ZS.valN S _ _ _ _ _).ro h⟩
theorem ZR.rec0 (S : MS) (r : Nat) (D : Int32) : ZR r S (f_rec0 S r D) := by
  unfold f_rec0
  exact ((((((ZR.sa S _ r _).tr (ZR.sa _ _ r _)).tr ((ZS.sw _ _ _ _).r r)).tr (ZR.sa _ _ r _)).tr (ZR.sa _ _ r _)).tr (ZR.sa _ _ r _)).tr (ZR.sa _ _ r _)
theorem rec0_30 (S : MS) (r : Nat) (D : Int32) : (f_rec0 S r D).a 30 r = nI 0 := by
  unfold f_rec0
  rw [sa_ne (by decide), MS.sa_a, if_pos ⟨rfl, rfl⟩]
  rfl
theorem RO.rec0 (S : MS) (r : Nat) (D : Int32) : RO (f_rec0 S r D) r := by
  refine ⟨⟨0, rec0_30 S r D, by decide⟩, 0, ?_, by decide, fun h => absurd h (by decide)⟩
  unfold f_rec0
  rw [MS.sa_a, if_pos ⟨rfl, rfl⟩]
  rfl
/-- the list's rows, n of them -/
def QR (S : MS) (n : Nat) : Prop := ∀ j, j < n → RO S j
theorem QR.s {S S' : MS} {n : Nat} (h : QR S n) (z : ZS S S') : QR S' n := fun j hj => z.ro (h j hj)
theorem QR.up {S S' : MS} {r : Nat} (h : QR S r) (z : ZR r S S') (g : RO S' r) : QR S' (r + 1) := fun j hj => by
  by_cases e : j = r
  · rw [e]; exact g
  · exact (h j (by omega)).same (fun q hq => z q j hq e)
theorem QR.le {S : MS} {n m : Nat} (h : QR S n) (hm : m ≤ n) : QR S m := fun j hj => h j (by omega)
theorem QR.rcd {S : MS} {e r tx a : Nat} (h : GR S e r tx a) (he : e ≤ 256) (hlt : a < e) (hr : r ≤ 100) (ht : tx ≤ 240 * r) (hq : QR S r) : (QR (f_rcd S) r ∧ (f_rcd S).i 23 = nI r) ∨ (QR (f_rcd S) (r + 1) ∧ r < 100 ∧ ((f_rcd S).i 23 = nI r ∨ (f_rcd S).i 23 = nI (r + 1))) := by
  obtain ⟨e1, e2, -⟩ := h.at (by omega)
  have h2 : GR (S.si 40 (nI (a + 1))) e r tx (a + 1) := h.mv rfl (by omega) rfl rfl rfl
  have z2 : ZS S (S.si 40 (nI (a + 1))) := ZS.si S _ _
  unfold f_rcd
  dsimp only
  rw [e1, e2, h.r hr, h.tx (by omega)]
  split
  · exact .inl ⟨hq.s z2, h2.2.2.2.1⟩
  · split
    · have h3 : GR ((S.si 40 (nI (a + 1))).si 37 1) e r tx (a + 1) := h2.same rfl rfl rfl rfl
      split
      · exact .inl ⟨hq.s ((z2.tr (ZS.si _ _ _)).tr (ZS.bl _ _ _)), h3.bl.2.2.2.1⟩
      · exact .inl ⟨hq.s (z2.tr (ZS.si _ _ _)), h3.2.2.2.1⟩
    · split
      · exact .inl ⟨hq.s (z2.tr (ZS.bl _ _ _)), h2.bl.2.2.2.1⟩
      · split
        · exact .inl ⟨hq.s (z2.tr (ZS.bl _ _ _)), h2.bl.2.2.2.1⟩
        · rename_i h100
          have h4 : GR (f_rec0 (S.si 40 (nI (a + 1))) r (S.a 38 a)) e r tx (a + 1) := h2.same rfl rfl rfl rfl
          have z4 : ZR r S (f_rec0 (S.si 40 (nI (a + 1))) r (S.a 38 a)) := (z2.r r).tr (ZR.rec0 _ r _)
          have o4 := RO.rec0 (S.si 40 (nI (a + 1))) r (S.a 38 a)
          have m4 := rec0_30 (S.si 40 (nI (a + 1))) r (S.a 38 a)
          generalize f_rec0 (S.si 40 (nI (a + 1))) r (S.a 38 a) = S4 at h4 z4 o4 m4 ⊢
          refine .inr ?_
          split
          · refine ⟨hq.up (z4.tr ?_) ?_, by omega, .inr rfl⟩
            · unfold f_own
              exact (((ZS.sw _ _ _ _).r r).tr (ZR.text _ _ _ _ _)).tr ((ZS.si _ _ _).r r)
            · unfold f_own
              exact (ZS.si _ _ _).ro (RO.text ((ZS.sw _ _ _ _).ro o4) (by omega) (by omega))
          · generalize (S.a 38 a &&& 15).toNatClampNeg = cc
            obtain ⟨a5, -, h5⟩ := GR.dl (r0 := r) 12 (S.a 38 a) 0 h4 (by omega)
            have z5 := ZS.dl r 12 S4 (S.a 38 a) 0
            generalize f_dl r 12 S4 (S.a 38 a) 0 = S5 at h5 z5 ⊢
            obtain ⟨a6, -, h6⟩ := GR.vl (r0 := r) 13 128 0 h5 (by omega)
            have z6 := ZR.vl r 13 S5 128 0
            have o6 := RO.vl r 13 S5 128 0 0 ((z5 30 r rfl).trans m4) (by decide) (z5.ro o4)
            generalize f_vl r 13 S5 128 0 = S6 at h6 z6 o6 ⊢
            have z6' : ZR r S S6 := (z4.tr (z5.r r)).tr z6
            unfold f_ends
            split
            · rename_i g41
              obtain ⟨⟨a7, tx7, m1, -⟩, -⟩ := VR.value (cc := cc) h6 g41 he (by omega) (by omega)
              obtain ⟨z7, o7⟩ := value_ok (cc := cc) (h6.r hr) (h6.tx (by omega)) (by omega)
              generalize f_value S6 cc = S7 at m1 z7 o7 ⊢
              refine ⟨hq.up ((z6'.tr z7).tr ((ZS.si _ _ _).r r)) ((ZS.si _ _ _).ro (o7 o6)), by omega, ?_⟩
              rw [MS.si_i, if_pos rfl, m1.2.2.2.1]
              split
              · exact .inr (nI_1 r)
              · exact .inl (Int32.add_zero _)
            · exact ⟨hq.up z6' o6, by omega, .inl h6.2.2.2.1⟩
theorem QR.rl {e : Nat} (he : e ≤ 256) : ∀ (t : Nat) (S : MS) (r tx a : Nat), GR S e r tx a → 19 ≤ a → r ≤ 100 → tx ≤ 240 * r → QR S r → ∃ r', r ≤ r' ∧ r' ≤ 100 ∧ (f_rl t S).i 23 = nI r' ∧ QR (f_rl t S) r'
  | 0, S, r, tx, a, g, _, hr, ht, hq => ⟨r, Nat.le_refl r, hr, g.2.2.2.1, hq⟩
  | t + 1, S, r, tx, a, g, ha, hr, ht, hq => by
    rw [f_rl]
    split
    · rename_i h
      obtain ⟨e1, e2, -⟩ := g.at (by omega)
      rw [e1, e2] at h
      obtain ⟨⟨a1, r1, tx1, g1, g2, g3, g4⟩, -⟩ := RR.rcd g h.1 he ha h.2 hr ht
      have key : r ≤ r1 ∧ QR (f_rcd S) r1 := by
        rcases QR.rcd g he h.2 hr ht hq with ⟨q1, q2⟩ | ⟨q1, q2, q3⟩
        · have : r1 = r := (nI_eq (by omega) (by omega)).mp (g1.2.2.2.1.symm.trans q2)
          subst this
          exact ⟨Nat.le_refl _, q1⟩
        · rcases q3 with q3 | q3
          · have : r1 = r := (nI_eq (by omega) (by omega)).mp (g1.2.2.2.1.symm.trans q3)
            subst this
            exact ⟨Nat.le_refl _, q1.le (by omega)⟩
          · have : r1 = r + 1 := (nI_eq (by omega) (by omega)).mp (g1.2.2.2.1.symm.trans q3)
            subst this
            exact ⟨by omega, q1⟩
      obtain ⟨r2, k1, k2, k3, k4⟩ := QR.rl he t _ r1 tx1 a1 g1 (by omega) g3 g4 key.2
      exact ⟨r2, by omega, k2, k3, k4⟩
    · exact ⟨r, Nat.le_refl r, hr, g.2.2.2.1, hq⟩
end
section
/-! The model's whole invariant, and each call over it. -/
theorem f_bS_ZS (S : MS) (n i : Nat) (lo hi : Int32) : ZS S (f_bS S n i lo hi) := by
  unfold f_bS
  split
  · exact ZS.rf S
  · exact ZS.bl S _ _
theorem ZS.ids (S : MS) (L : Nat) : ∀ (t k : Nat), ZS S (f_ids S L t k).2
  | 0, _ => ZS.si S _ _
  | t + 1, k => by
    unfold f_ids
    split
    · exact ZS.bl S _ _
    · exact ZS.ids S L t (k + 1)
theorem ZS.fr3 (S : MS) : ZS S (f_fr3 S).2 := by
  unfold f_fr3
  split
  · exact ZS.ids S _ _ _
  · exact ZS.bl S _ _
theorem ZS.fr2 (S : MS) (n : Nat) : ZS S (f_fr2 S n).2 := by
  unfold f_fr2
  split
  · split
    · split
      · split
        · exact ZS.fr3 S
        · exact f_bS_ZS S _ _ _ _
      · exact f_bS_ZS S _ _ _ _
    · exact f_bS_ZS S _ _ _ _
  · exact ZS.bl S _ _
theorem ZS.fr (S : MS) (n : Nat) : ZS S (f_fr S n).2 := by
  unfold f_fr
  split
  · split
    · split
      · split
        · exact ZS.fr2 S n
        · exact f_bS_ZS S _ _ _ _
      · exact f_bS_ZS S _ _ _ _
    · exact f_bS_ZS S _ _ _ _
  · exact f_bS_ZS S _ _ _ _
def QL (S : MS) : Prop := ∃ r, S.i 23 = nI r ∧ r ≤ 100 ∧ QR S r
theorem QL.s {S S' : MS} (h : QL S) (z : ZS S S') (e : S'.i 23 = S.i 23) : QL S' := by
  obtain ⟨r, h1, h2, h3⟩ := h
  exact ⟨r, e.trans h1, h2, h3.s z⟩
theorem ZS.da0 (S : MS) (q n : Nat) : ZS S (f_da0 S q n) := fun k j hk => by
  unfold f_da0
  rw [f_cp_ne _ _ (tq_ne hk rfl)]
  rfl
theorem da1_ok {S : MS} {r : Nat} (q n : Nat) (h : LR S) (h23 : S.i 23 = nI r) (hr : r ≤ 100) (hq : QR S r) : ∃ r', r ≤ r' ∧ r' ≤ 100 ∧ (f_da1 S q n).i 23 = nI r' ∧ QR (f_da1 S q n) r' := by
  have z0 := ZS.da0 S q n
  have i0 : (f_da0 S q n).i 23 = S.i 23 := by unfold f_da0; rw [f_cp_i]; rfl
  have h0 : LR (f_da0 S q n) := h.same i0 (by unfold f_da0; rw [f_cp_i]; rfl)
  unfold f_da1
  generalize f_da0 S q n = S1 at z0 i0 h0 ⊢
  split
  · rename_i g
    have zf := ZS.fr S1 n
    obtain ⟨L, l1, l2, l3, l4⟩ := f_fr_t g
    rw [l4] at zf ⊢
    obtain ⟨r1, tx, a1, a2, a3, a4⟩ := h0
    obtain rfl : r1 = r := (nI_eq (by omega) (by omega)).mp (a1.symm.trans (i0.trans h23))
    exact QR.rl (e := L + 4) (by omega) 300 _ r1 tx 19 ⟨rfl, rfl, by omega, a1, a3⟩ (by decide) a2 a4 (hq.s ((z0.tr zf).tr (ZS.si _ _ _)))
  · exact ⟨r, Nat.le_refl r, hr, (f_fr_i _ _ (by decide) (by decide) (by decide)).trans (i0.trans h23), hq.s (z0.tr (ZS.fr S1 n))⟩
theorem QL.da {S : MS} (h : QL S) (hl : LR S) (q n : Nat) : QL (f_da S q n) := by
  obtain ⟨r, h1, h2, h3⟩ := h
  obtain ⟨r', k1, k2, k3, k4⟩ := da1_ok q n hl h1 h2 h3
  unfold f_da
  generalize f_da1 S q n = S1 at k3 k4 ⊢
  split
  · exact ⟨r, h1, h2, (k4.le k1).s ((ZS.si _ _ _).tr (ZS.si _ _ _))⟩
  · exact ⟨r', k3, k2, k4⟩
/-- all that holds of the model between two calls, whole -/
def MH (S : MS) : Prop := MG S ∧ QL S ∧ ∀ k, S.a 10 k = 0 ∨ S.a 10 k = 1
theorem MH.of {S S' : MS} (h : MH S) (g : MG S') (z : ZS S S') (e : S'.i 23 = S.i 23) (b : ∀ k, S'.a 10 k = S.a 10 k) : MH S' := ⟨g, h.2.1.s z e, fun k => by rw [b]; exact h.2.2 k⟩
theorem MH.s0 {S : MS} (h : MH S) (v : Int32) : MH (S.si 0 v) := h.of (h.1.s0 v) (ZS.si _ _ _) rfl (fun _ => rfl)
theorem MH.clear {S : MS} (h : MH S) : MH (((S.si 0 0).si 23 0).si 34 0) := ⟨h.1.clear, ⟨0, rfl, by decide, fun j hj => absurd hj (Nat.not_lt_zero j)⟩, h.2.2⟩
theorem MH.keep {S : MS} (h : MH S) {n : Nat} (hn : n ≤ 300) : MH ((S.si 0 0).si 2 (nI n)) := h.of (h.1.keep hn) ((ZS.si _ _ _).tr (ZS.si _ _ _)) rfl (fun _ => rfl)
theorem MH.remove {S : MS} (h : MH S) (k : Nat) : MH ((S.si 0 0).sa 10 k 0) := ⟨h.1.remove k, h.2.1.s ((ZS.si _ _ _).tr (ZS.sa _ 10 k 0)) rfl, fun j => by
  rw [MS.sa_a]
  split
  · exact .inl rfl
  · exact h.2.2 j⟩
theorem MH.type {S : MS} {b : Int64} {m s : Nat} (h : MH S) (hs : S.i 2 = nI s) (hq : s + m ≤ 300) : MH (f_ty b m s (S.si 0 0)) := h.of (h.1.type hs hq) (fun _ _ hq => ty_a (tq_ne hq rfl) m s _) (ty_i (by decide) m s _) (fun _ => ty_a (by decide) m s _)
theorem page_a {S : MS} {k i n q j : Nat} (h17 : q ≠ 17) (h18 : q ≠ 18) : (f_page S k i n).a q j = S.a q j := by
  unfold f_page
  rw [MS.si_a, sa_ne h17, f_pcp_a _ _ _ h18, MS.si_a]
theorem page_i {S : MS} {k i n q : Nat} (h0 : q ≠ 0) (h2 : q ≠ 2) : (f_page S k i n).i q = S.i q := by
  unfold f_page
  rw [MS.si_i, if_neg h2, MS.sa_i, f_pcp_i, MS.si_i, if_neg h0]
theorem MH.page {S : MS} {k i n : Nat} (h : MH S) (hn : n ≤ 60) : MH (f_page S k i n) := h.of (h.1.page hn) (fun _ _ hq => page_a (tq_ne hq rfl) (tq_ne hq rfl)) (page_i (by decide) (by decide)) (fun _ => page_a (by decide) (by decide))
theorem tq_bz {q : Nat} (h : tq q = true) : bz q = false := by
  unfold tq at h
  split at h <;> first | rfl | exact nomatch h
theorem tq_pz {q : Nat} (h : tq q = true) : pz q = false := by
  unfold tq at h
  split at h <;> first | rfl | exact nomatch h
theorem send0_a {S : MS} {n q j : Nat} (h0 : bz q = false) (h3 : q ≠ 3) : (f_send0 S n).a q j = S.a q j := by
  unfold f_send0
  rw [bus_bz h0, MS.si_a, f_cp_ne _ _ h3, MS.si_a]
theorem send_a {S : MS} {n q j : Nat} (h0 : bz q = false) (h3 : q ≠ 3) (h1 : q ≠ 1) : (f_send S n).a q j = S.a q j := by
  unfold f_send
  split
  · rw [MS.si_a, f_cp_ne _ _ h1, MS.si_a, send0_a h0 h3]
  · rw [MS.si_a, send0_a h0 h3]
theorem send_i {S : MS} {n q : Nat} (h0 : q ≠ 0) (h2 : q ≠ 2) (h4 : q ≠ 4) (h6 : q ≠ 6) (h7 : q ≠ 7) (h8 : q ≠ 8) (h9 : q ≠ 9) : (f_send S n).i q = S.i q := by
  have e : (f_send0 S n).i q = S.i q := by
    unfold f_send0
    rw [f_bus_i _ _ h6 h7 h8 h9, MS.si_i, if_neg h4, f_cp_i, MS.si_i, if_neg h0]
  unfold f_send
  split
  · rw [MS.si_i, if_neg h2, f_cp_i, MS.si_i, if_neg h2, e]
  · rw [MS.si_i, if_neg h2, e]
theorem MH.send {S : MS} {n : Nat} (h : MH S) : MH (f_send S n) := h.of h.1.send (fun _ _ hq => send_a (tq_bz hq) (tq_ne hq rfl) (tq_ne hq rfl)) (send_i (by decide) (by decide) (by decide) (by decide) (by decide) (by decide) (by decide)) (fun _ => send_a rfl (by decide) (by decide))
theorem MH.search {S : MS} (h : MH S) : MH (f_search S) := by
  obtain ⟨S', e, -⟩ := search_ok h.1.mi.1 h.1.mi.2.1 h.1.ds
  have g := h.1.search
  rw [search_eq e] at g ⊢
  have hz : ∀ q j, pz q = false → S'.a q j = S.a q j := fun q j hq => by
    rw [PRo_pz hq _ _ _ _ e]
    unfold f_sr0
    rw [ff_a _ (pz_ne hq rfl)]
    rfl
  refine h.of g (fun q j hq => hz q j (tq_pz hq)) ?_ (fun j => hz 10 j rfl)
  rw [PRo_pi rfl _ _ _ _ e]
  unfold f_sr0
  rw [ff_i]
  rfl
theorem MH.meter {S : MS} {k : Nat} {ad i mk v d : Int32} (h : MH S) (hk : k < 12) (hg : g_good S (nI k) ad i mk v d) : MH (f_meter S k ad i mk v d) := by
  refine ⟨h.1.meter hk hg, h.2.1.s (fun q j hq => ?_) (meter_i (by decide)), fun j => ?_⟩
  · unfold f_meter
    rw [mp_a _ _ (tq_ne hq rfl), sa_ne (tq_ne hq rfl), sa_ne (tq_ne hq rfl), sa_ne (tq_ne hq rfl), sa_ne (tq_ne hq rfl), mb_a _ _ _ _ _ _ (tq_ne hq rfl), sa_ne (tq_ne hq rfl), sa_ne (tq_ne hq rfl)]
    rfl
  · rw [meter_10]
    split
    · exact .inr rfl
    · exact h.2.2 j
theorem MH.da {S : MS} {q : Nat} (h : MH S) (hq : bk q = true) (n : Nat) : MH (f_da S q n) := ⟨h.1.da hq n, h.2.1.da h.1.mi.2.2 q n, fun k => by rw [da_a S q n rfl (by decide)]; exact h.2.2 k⟩
theorem MH.decode {S : MS} (h : MH S) (n : Nat) : MH (f_decode S n) := (h.s0 0).da rfl n
theorem MH.putS {S : MS} {c : Int32} (h : MH S) (hc : byt c) : MH (f_putS S c) := h.of (h.1.putS hc) (fun _ _ hq => putS_bz (tq_bz hq) (tq_ne hq rfl)) (f_putS_i _ _ (by decide) (by decide) (by decide) (by decide) (by decide)) (fun _ => putS_bz rfl (by decide))
theorem MH.putM {S : MS} (h : MH S) : MH (f_putM S) := h.of h.1.putM (fun _ _ hq => putM_bz (tq_bz hq) (tq_ne hq rfl)) (f_putM_i _ (by decide) (by decide) (by decide) (by decide) (by decide)) (fun _ => putM_bz rfl (by decide))
theorem MH.ls {S : MS} (h : MH S) : MH ((S.si 23 0).si 34 0) := ⟨h.1.ls, ⟨0, rfl, by decide, fun j hj => absurd hj (Nat.not_lt_zero j)⟩, h.2.2⟩
theorem MH.ro {t q : Nat} : ∀ {S : MS}, MH S → MH (f_ro t q S).2 := by
  induction t generalizing q with
  | zero => intro S h; exact h
  | succ t ih =>
    intro S h
    have h1 : MH (f_putS S (f_roC q)) := h.putS (by unfold f_roC; split; exact ⟨123, by decide, rfl⟩; exact ⟨91, by decide, rfl⟩)
    rw [f_ro]
    generalize f_putS S (f_roC q) = S1 at h1 ⊢
    have h2 : MH (f_da S1 5 (f_m S1)) := h1.da rfl _
    generalize f_da S1 5 (f_m S1) = S2 at h2 ⊢
    split
    · split
      · exact h2.ls
      · split
        · exact h2
        · exact ih h2
    · exact h1.ls
theorem MH.readOut {S : MS} {k : Nat} (h : MH S) : MH (f_readOut S k).2 := by
  have g0 : MG (f_rm ((((S.si 0 0).si 23 0).si 34 0).si 36 (-1)) k 8) := by
    obtain ⟨m, m1, m2⟩ := h.1.buf
    obtain ⟨f, f1, f2⟩ := h.1.fnd
    exact ⟨h.1.mi.ro0, h.1.ds.sm ⟨fun _ => (rm_a _ k (by decide) 8).trans rfl, fun _ => (rm_a _ k (by decide) 8).trans rfl⟩, ⟨m, ((f_rm_i _ k 2 8).trans rfl).trans m1, m2⟩, ⟨f, ((f_rm_i _ k 20 8).trans rfl).trans f1, f2⟩⟩
  have h00 : MH (f_rm ((((S.si 0 0).si 23 0).si 34 0).si 36 (-1)) k 8) := ⟨g0, ⟨0, (f_rm_i _ k 23 8).trans rfl, by decide, fun j hj => absurd hj (Nat.not_lt_zero j)⟩, fun j => by rw [rm_a _ k (by decide) 8]; exact h.2.2 j⟩
  have h0 : MH (f_ro0 S k) := h00.putM
  unfold f_readOut
  generalize f_ro0 S k = S1 at h0 ⊢
  split
  · exact MH.ro (h0.putS ⟨64, by decide, rfl⟩).putM
  · exact h0
end
section
/-! The new model keeps the invariant; record and text over it. -/
theorem MH.init : MH Z0 := by
  have a0 : ∀ q j, Z0.a q j = 0 := fun _ _ => rfl
  refine ⟨⟨⟨fun k j _ => ⟨0, by decide, rfl⟩, fun j _ => ⟨fun _ => ⟨0, by decide, rfl⟩, fun p _ => ⟨0, by decide, rfl⟩⟩, 0, 0, rfl, by decide, rfl, by decide⟩, fun j k _ _ h => absurd (a0 10 j) h, ⟨0, rfl, by decide⟩, ⟨0, rfl, by decide⟩⟩, ⟨0, rfl, by decide, fun j hj => absurd hj (Nat.not_lt_zero j)⟩, fun k => .inl rfl⟩
section GR
variable {w : Wd} {M : MW} {S : MS}
theorem MH.list (h : MH S) : ∃ r, S.i 23 = nI r ∧ r ≤ 100 ∧ QR S r := h.2.1
theorem g_record (hW : Wm w M) (h : MH S) (r j x nv : Nat) (hr : S.i 23 = nI r) (hr1 : r ≤ 100) (hj : j < r) (hv : S.a 30 j = nI nv) (hv1 : nv ≤ 11) (hx : x < 7 + nv) : TF w M yX7_record cX7_record 4 (some .long) 1 [.int (nI j), .int (nI x)] S (some (.long (f_record S j x))) (S.si 0 0) := s_record_t hW r j x nv hr hr1 hj hv hv1 hx
theorem g_remove (hW : Wm w M) (h : MH S) (k : Nat) (hk : k < 12) : TF w M yX7_remove cX7_remove 3 (some .boolean) 1 [.int (nI k)] S (some (.int (S.a 10 k))) ((S.si 0 0).sa 10 k 0) := by
  refine s_remove_t hW k hk ?_
  rcases h.2.2 k with e | e
  · rw [e]; rfl
  · rw [e]; rfl
theorem g_text (hW : Wm w M) (h : MH S) (r j t n : Nat) (hr : S.i 23 = nI r) (hr1 : r ≤ 100) (hj : j < r) (hv : S.a 33 j = nI n) (hn : n ≤ 300) (ht : t < n) : TF w M yX7_text cX7_text 4 (some .int) 1 [.int (nI j), .int (nI t)] S (some (.int (S.a 35 ((S.a 32 j).toNatClampNeg + t)))) (S.si 0 0) := by
  obtain ⟨r1, l1, l2, l3⟩ := h.list
  obtain rfl : r1 = r := (nI_eq (by omega) (by omega)).mp (l1.symm.trans hr)
  obtain ⟨-, n1, e1, e2, e3⟩ := l3 j hj
  obtain rfl : n1 = n := (nI_eq (by omega) (by omega)).mp (e1.symm.trans hv)
  obtain ⟨o, o1, o2⟩ := e3 (by omega)
  rw [o1, nI_clamp (by omega)]
  exact s_text_t hW r1 j t n1 o hr hr1 hj hv hn ht o1 o2
theorem g_decode (hW : Wm w M) (h : MH S) (n : Nat) (h2 : S.i 2 = nI n) (hn3 : n ≤ 300) : TF w M yX7_decode cX7_decode 2 (some .int) 5 [] S (some (.int (if 0 < (f_da1 (S.si 0 0) 1 n).i 41 then -(f_da1 (S.si 0 0) 1 n).i 41 else (f_decode S n).i 23))) (f_decode S n) := by
  obtain ⟨r, tx, a1, a2, a3, a4⟩ := h.1.mi.2.2
  exact s_decode hW n r tx h2 hn3 h.1.mi.1.d (fun j _ => h.1.mi.1 1 j rfl) a1 a2 a3 a4
theorem g_readOut (hW : Wm w M) (h : MH S) (k f : Nat) (hf0 : S.i 20 = nI f) (hk : k < f) (hf : f ≤ 12) : TF w M yX7_readOut cX7_readOut 4 (some .int) 5 [.int (nI k)] S (some (.int (f_readOut S k).1)) (f_readOut S k).2 := s_readOut hW h.1.mi k f hf0 hk (by omega)
end GR
end
