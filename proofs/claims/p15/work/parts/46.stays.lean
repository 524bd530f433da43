/-! The invariant is kept: the calls that do not decode. -/
theorem MG.of {S S' : MS} (h : MG S) (b : WFb S') (a : WFa S') (h23 : S'.i 23 = S.i 23) (h34 : S'.i 34 = S.i 34) (s : SM S S') (h2 : ∃ n, S'.i 2 = nI n ∧ n ≤ 300) (h20 : S'.i 20 = S.i 20) : MG S' := by
  obtain ⟨f, f1, f2⟩ := h.fnd
  exact ⟨⟨b, a, h.mi.2.2.same h23 h34⟩, h.ds.sm s, h2, f, h20.trans f1, f2⟩
theorem MG.s0 {S : MS} (h : MG S) (v : Int32) : MG (S.si 0 v) := h.of h.mi.1 h.mi.2.1.si rfl rfl ⟨fun _ => rfl, fun _ => rfl⟩ h.buf rfl
theorem MG.clear {S : MS} (h : MG S) : MG (((S.si 0 0).si 23 0).si 34 0) := ⟨⟨h.mi.1, h.mi.2.1.si.si.si, 0, 0, rfl, by decide, rfl, by decide⟩, h.ds, h.buf, h.fnd⟩
theorem MG.keep {S : MS} (h : MG S) {n : Nat} (hn : n ≤ 300) : MG ((S.si 0 0).si 2 (nI n)) := h.of h.mi.1 h.mi.2.1.si.si rfl rfl ⟨fun _ => rfl, fun _ => rfl⟩ ⟨n, rfl, hn⟩ rfl
theorem MG.remove {S : MS} (h : MG S) (k : Nat) : MG ((S.si 0 0).sa 10 k 0) := by
  refine ⟨⟨WFb.sa (S := S.si 0 0) h.mi.1 (fun q => absurd q (by decide)), h.mi.2.1.si.sa (by decide) (by decide) (by decide), h.mi.2.2⟩, ?_, h.buf, h.fnd⟩
  intro i j hi hj ai aj e
  rw [MS.sa_a] at ai aj
  have e' : ∀ m, sby ((S.si 0 0).sa 10 k 0) m = sby S m := fun m => by funext b; unfold sby; rw [sa_ne (by decide)]; rfl
  rw [e', e'] at e
  by_cases g : i = k
  · exact absurd (if_pos ⟨rfl, g⟩) ai
  · by_cases g2 : j = k
    · exact absurd (if_pos ⟨rfl, g2⟩) aj
    · rw [if_neg (fun q => g q.2)] at ai
      rw [if_neg (fun q => g2 q.2)] at aj
      exact h.ds i j hi hj ai aj e
theorem byt_by (b : Int64) (k : Nat) : byt (f_by b k) := by
  unfold f_by
  generalize b >>> (((8 : Int32) * nI k).toInt64 &&& 63) = x
  have hx : (x &&& 255).toInt32 = x.toInt32 &&& 255 := Int64.toInt32_and x 255
  rw [hx]
  exact byt_and _
theorem WFb.ty {b : Int64} : ∀ (m s : Nat) {S : MS}, WFb S → WFb (f_ty b m s S)
  | 0, _, _, h => h
  | m + 1, s, _, h => WFb.ty m (s + 1) ((h.sa (fun _ => byt_by b m)).si)
theorem WFa.ty {b : Int64} : ∀ (m s : Nat) {S : MS}, WFa S → WFa (f_ty b m s S)
  | 0, _, _, h => h
  | m + 1, s, _, h => WFa.ty m (s + 1) ((h.sa (by decide) (by decide) (by decide)).si)
theorem ty_i {b : Int64} {q : Nat} (hq : q ≠ 2) : ∀ (m s : Nat) (S : MS), (f_ty b m s S).i q = S.i q
  | 0, _, _ => rfl
  | m + 1, s, S => by rw [f_ty, ty_i hq m, MS.si_i, if_neg hq, MS.sa_i]
theorem ty_2 {b : Int64} : ∀ (m s : Nat) (S : MS), S.i 2 = nI s → (f_ty b m s S).i 2 = nI (s + m)
  | 0, _, _, h => h
  | m + 1, s, S, h => by rw [f_ty, ty_2 m (s + 1) _ rfl, show s + 1 + m = s + (m + 1) by omega]
theorem ty_a {b : Int64} {q j : Nat} (hq : q ≠ 1) : ∀ (m s : Nat) (S : MS), (f_ty b m s S).a q j = S.a q j
  | 0, _, _ => rfl
  | m + 1, s, S => by rw [f_ty, ty_a hq m, MS.si_a, sa_ne hq]
theorem MG.type {S : MS} {b : Int64} {m s : Nat} (h : MG S) (hs : S.i 2 = nI s) (hq : s + m ≤ 300) : MG (f_ty b m s (S.si 0 0)) :=
  h.of (WFb.ty m s (S := S.si 0 0) h.mi.1) (WFa.ty m s h.mi.2.1.si) (ty_i (by decide) m s _) (ty_i (by decide) m s _) ⟨fun _ => ty_a (by decide) m s _, fun _ => ty_a (by decide) m s _⟩ ⟨s + m, ty_2 m s _ hs, hq⟩ (ty_i (by decide) m s _)
theorem WFb.pcp {S : MS} {o : Nat} (h : WFb S) : ∀ n, WFb (f_pcp S o n)
  | 0 => h
  | n + 1 => (h.pcp n).sa (fun _ => h 1 n rfl)
theorem WFa.s17 {S : MS} {p n : Nat} (h : WFa S) (hn : n ≤ 60) : WFa (S.sa 17 p (nI n)) := by
  intro j hj
  obtain ⟨h1, h2⟩ := h j hj
  refine ⟨fun g => ?_, fun t ht => ?_⟩
  · rw [sa_ne (by decide)] at g ⊢; exact h1 g
  · rw [MS.sa_a]
    split
    · exact ⟨n, hn, rfl⟩
    · exact h2 t ht
theorem MG.page {S : MS} {k i n : Nat} (h : MG S) (hn : n ≤ 60) : MG (f_page S k i n) := by
  have ha : WFa (f_pcp (S.si 0 0) (60 * (3 * k + i)) n) := fun j hj => (h.mi.2.1.si j hj).of (f_pcp_a _ _ _ (by decide)) (f_pcp_a _ _ _ (by decide)) (fun _ => f_pcp_a _ _ _ (by decide))
  have hb : WFb (f_pcp (S.si 0 0) (60 * (3 * k + i)) n) := WFb.pcp (S := S.si 0 0) h.mi.1 n
  have hi : ∀ q, q ≠ 0 → q ≠ 2 → (f_page S k i n).i q = S.i q := fun q h0 h2 => by
    unfold f_page
    rw [MS.si_i, if_neg h2, MS.sa_i, f_pcp_i, MS.si_i, if_neg h0]
  have hz : ∀ q j, q ≠ 17 → q ≠ 18 → (f_page S k i n).a q j = S.a q j := fun q j h0 h2 => by
    unfold f_page
    rw [MS.si_a, sa_ne h0, f_pcp_a _ _ _ h2, MS.si_a]
  exact h.of ((hb.sa (fun q => absurd q (by decide))).si) ((ha.s17 hn).si) (hi 23 (by decide) (by decide)) (hi 34 (by decide) (by decide)) ⟨fun j => hz 10 j (by decide) (by decide), fun j => hz 12 j (by decide) (by decide)⟩ ⟨0, rfl, by decide⟩ (hi 20 (by decide) (by decide))
theorem MG.send {S : MS} {n : Nat} (h : MG S) : MG (f_send S n) := by
  have hw1 : WFa ((f_cp (S.si 0 0) 3 1 n).si 4 (nI n)) := (h.mi.2.1.si.cp (by decide) (by decide) (by decide) n).si
  have hb1 : WFb ((f_cp (S.si 0 0) 3 1 n).si 4 (nI n)) := WFb.cp (S := S.si 0 0) h.mi.1 rfl n
  have am := (AO.bus hw1 n).m.1
  have wa : WFa (f_send0 S n) := hw1.bus n
  have wb : WFb (f_send0 S n) := hb1.bus hw1 n
  have hi : ∀ q, q ≠ 0 → q ≠ 4 → q ≠ 6 → q ≠ 7 → q ≠ 8 → q ≠ 9 → (f_send0 S n).i q = S.i q := fun q h0 h4 h6 h7 h8 h9 => by
    unfold f_send0
    rw [f_bus_i _ _ h6 h7 h8 h9, MS.si_i, if_neg h4, f_cp_i, MS.si_i, if_neg h0]
  have hz : ∀ q j, bz q = false → q ≠ 3 → (f_send0 S n).a q j = S.a q j := fun q j h0 h3 => by
    unfold f_send0
    rw [bus_bz h0, MS.si_a, f_cp_ne _ _ h3, MS.si_a]
  have am : f_m (f_send0 S n) ≤ 300 := am
  have i23 := hi 23 (by decide) (by decide) (by decide) (by decide) (by decide) (by decide)
  have i34 := hi 34 (by decide) (by decide) (by decide) (by decide) (by decide) (by decide)
  have i20 := hi 20 (by decide) (by decide) (by decide) (by decide) (by decide) (by decide)
  have z10 := fun j => hz 10 j rfl (by decide)
  have z12 := fun j => hz 12 j rfl (by decide)
  unfold f_send
  generalize f_send0 S n = S1 at *
  split
  · refine h.of (WFb.cp (S := S1.si 2 0) wb rfl _) ((wa.si.cp (by decide) (by decide) (by decide) _).si) ?_ ?_ ⟨fun j => ?_, fun j => ?_⟩ ⟨f_m S1, rfl, am⟩ ?_
    · rw [MS.si_i, if_neg (by decide), f_cp_i]; exact i23
    · rw [MS.si_i, if_neg (by decide), f_cp_i]; exact i34
    · rw [MS.si_a, f_cp_ne _ _ (by decide)]; exact z10 j
    · rw [MS.si_a, f_cp_ne _ _ (by decide)]; exact z12 j
    · rw [MS.si_i, if_neg (by decide), f_cp_i]; exact i20
  · exact h.of wb wa.si i23 i34 ⟨z10, z12⟩ ⟨0, rfl, by decide⟩ i20
section GS
variable {w : Wd} {M : MW} {S : MS}
theorem g_send (hW : Wm w M) (h : MG S) (n : Nat) (hs : S.i 2 = nI n) (hn : n ≤ 300) : TF w M yX7_send cX7_send 2 (some .int) 4 [] S (some (.int (f_sendR S n))) (f_send S n) := s_send hW h.mi.2.1 n hs hn
end GS
