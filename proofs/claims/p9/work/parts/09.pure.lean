section
/-! MeterBusModel: what its arrays hold are bytes. -/
def byt (x : Int32) : Prop := ∃ b : Nat, b < 256 ∧ x = nI b
def bk (k : Nat) : Bool := match k with
  | 1 => true | 3 => true | 5 => true | 11 => true | 12 => true | 16 => true | 18 => true | 19 => true | 21 => true | 35 => true | 38 => true | _ => false
def WFb (S : MS) : Prop := ∀ k j, bk k = true → byt (S.a k j)
theorem byt_n {b : Nat} (h : b < 256) : byt (nI b) := ⟨b, h, rfl⟩
theorem byt_and (x : Int32) : byt (x &&& 255) := by
  obtain ⟨j, h1, h2⟩ := pk_andE x (m := 255) 8 rfl
  exact ⟨j, h1, h2⟩
theorem WFb.si {S : MS} {k : Nat} {v : Int32} (h : WFb S) : WFb (S.si k v) := h
theorem WFb.sw {S : MS} {k j : Nat} {v : Int64} (h : WFb S) : WFb (S.sw k j v) := h
theorem WFb.sa {S : MS} {k j : Nat} {v : Int32} (h : WFb S) (hv : bk k = true → byt v) : WFb (S.sa k j v) := by
  intro q t hq
  rw [MS.sa_a]
  split
  · rename_i e; exact hv (e.1 ▸ hq)
  · exact h q t hq
theorem WFb.same {S S' : MS} (h : WFb S) (e : ∀ k j, bk k = true → S'.a k j = S.a k j) : WFb S' := fun k j hk => by rw [e k j hk]; exact h k j hk
theorem WFb.ack {S : MS} (h : WFb S) : WFb (f_ack S) := by
  unfold f_ack
  exact ((h.si).sa (fun _ => ⟨229, by decide, rfl⟩)).si
theorem WFb.forget {S : MS} {k : Nat} (h : WFb S) : WFb (f_forget S k) := by
  unfold f_forget
  exact (h.sa (fun q => absurd q (by decide))).sa (fun q => absurd q (by decide))
theorem WFb.sel {S : MS} {k : Nat} (h : WFb S) : WFb (f_sel S k) := by
  unfold f_sel
  split
  · exact (h.sa (fun q => absurd q (by decide))).ack
  · exact h.sa (fun q => absurd q (by decide))
theorem WFb.lng {S : MS} {k : Nat} (h : WFb S) : WFb (f_long S k) := by
  unfold f_long
  split
  · exact h.forget.ack
  · split
    · exact (h.sa (fun _ => h 3 9 rfl)).ack
    · exact h
theorem WFb.ans {S : MS} {l : List Int32} (h : WFb S) (hl : ∀ x ∈ l, byt x) : WFb (S.ans l) := by
  intro k j hk
  rw [MS.ans_a]
  split
  · rename_i e
    rw [List.getD_eq_getElem?_getD, List.getElem?_eq_getElem e.2]
    exact hl _ (List.getElem_mem e.2)
  · exact h k j hk
theorem seg_byt {S : MS} (h : WFb S) {q o n : Nat} (hq : bk q = true) : ∀ x ∈ S.seg q o n, byt x := by
  intro x hx
  unfold MS.seg at hx
  obtain ⟨j, -, rfl⟩ := List.mem_map.mp hx
  exact h q (o + j) hq
theorem f_tel_byt {S : MS} (h : WFb S) {k p N : Nat} (hN : N ≤ 60) : ∀ x ∈ f_tel S k p N, byt x := by
  have hl : byt (nI (15 + N + if f_more S k p then 1 else 0)) := byt_n (by split <;> omega)
  have hb : ∀ x ∈ f_body S k p N, byt x := by
    intro x hx
    unfold f_body at hx
    simp only [List.mem_append] at hx
    rcases hx with (((hx | hx) | hx) | hx) | hx
    · simp only [List.mem_cons, List.not_mem_nil, or_false] at hx
      rcases hx with rfl | rfl | rfl | rfl | rfl | rfl | rfl
      · exact ⟨104, by decide, rfl⟩
      · exact hl
      · exact hl
      · exact ⟨104, by decide, rfl⟩
      · exact ⟨8, by decide, rfl⟩
      · exact h 11 k rfl
      · exact ⟨114, by decide, rfl⟩
    · exact seg_byt h rfl x hx
    · simp only [List.mem_cons, List.not_mem_nil, or_false] at hx
      rcases hx with rfl | rfl | rfl | rfl
      · exact h 16 k rfl
      · exact ⟨0, by decide, rfl⟩
      · exact ⟨0, by decide, rfl⟩
      · exact ⟨0, by decide, rfl⟩
    · exact seg_byt h rfl x hx
    · split at hx
      · simp only [List.mem_cons, List.not_mem_nil, or_false] at hx
        subst hx
        exact ⟨31, by decide, rfl⟩
      · exact absurd hx List.not_mem_nil
  intro x hx
  unfold f_tel at hx
  simp only [List.mem_append, List.mem_cons, List.not_mem_nil, or_false] at hx
  rcases hx with (hx | hx) | hx
  · exact hb x hx
  · subst hx; exact byt_and _
  · subst hx; exact ⟨22, by decide, rfl⟩
theorem WFb.asked {S : MS} {k : Nat} {bit : Int32} (h : WFb S) (hm : WFm S k) : WFb (f_asked S k bit) := by
  unfold f_asked
  exact ((((h.ans (f_tel_byt h (hm.N (f_p_lt S k bit)).1)).sa (fun q => absurd q (by decide))).sa (fun q => absurd q (by decide))).sa (fun _ => byt_and _)).si
theorem WFb.step {S : MS} {isS sel : Bool} {c a : Int32} {k : Nat} (h : WFb S) (hm : WFm S k) : WFb (f_step S isS sel c a k) := by
  unfold f_step f_does
  split
  · split
    · exact h.sel
    · split
      · unfold f_short
        split
        · exact (h.forget.sa (fun q => absurd q (by decide))).ack
        · split
          · exact h.asked hm
          · exact h
      · split
        · exact h.lng
        · exact h
  · exact h
theorem WFb.run {S : MS} {isS sel : Bool} {c a : Int32} (h : WFb S) (hm : WFa S) : ∀ n, n ≤ 12 → WFb (f_run S isS sel c a n)
  | 0, _ => h
  | n + 1, hn => (WFb.run h hm n (by omega)).step (hm.run n n (by omega))
theorem WFb.fin {S : MS} {a : Int32} (h : WFb S) : WFb (f_end S a) := h
theorem WFb.bg {S : MS} (h : WFb S) : WFb (f_begin S) := h
theorem WFb.bus {S : MS} (h : WFb S) (hm : WFa S) (n : Nat) : WFb (f_bus S n) := by
  unfold f_bus
  split
  · exact (h.bg.run hm.bg 12 (Nat.le_refl _)).fin
  · split
    · exact (h.bg.run hm.bg 12 (Nat.le_refl _)).fin
    · exact h.bg
theorem WFb.putS {S : MS} {c : Int32} (h : WFb S) (hm : WFa S) (hc : byt c) : WFb (f_putS S c) := by
  unfold f_putS
  refine WFb.bus ?_ hm.putS0 5
  unfold f_putS0
  exact (((((h.sa (fun _ => ⟨16, by decide, rfl⟩)).sa (fun _ => hc)).sa (fun _ => ⟨253, by decide, rfl⟩)).sa (fun _ => byt_and _)).sa (fun _ => ⟨22, by decide, rfl⟩)).si
theorem WFb.mcp {S : MS} (h : WFb S) : ∀ n, WFb (f_mcp S n)
  | 0 => h
  | n + 1 => (h.mcp n).sa (fun _ => h 19 n rfl)
theorem WFb.putM {S : MS} (h : WFb S) (hm : WFa S) : WFb (f_putM S) := by
  unfold f_putM
  refine WFb.bus ?_ hm.putM0 17
  unfold f_putM0
  have h0 : WFb (f_mhd S) := by
    unfold f_mhd
    exact ((((((h.sa (fun _ => ⟨104, by decide, rfl⟩)).sa (fun _ => ⟨11, by decide, rfl⟩)).sa (fun _ => ⟨11, by decide, rfl⟩)).sa (fun _ => ⟨104, by decide, rfl⟩)).sa (fun _ => ⟨83, by decide, rfl⟩)).sa (fun _ => ⟨253, by decide, rfl⟩)).sa (fun _ => ⟨82, by decide, rfl⟩)
  exact (((h0.mcp 8).sa (fun _ => byt_and _)).sa (fun _ => ⟨22, by decide, rfl⟩)).si
theorem WFb.cp {S : MS} {q r : Nat} (h : WFb S) (hr : bk r = true) : ∀ n, WFb (f_cp S q r n)
  | 0 => h
  | n + 1 => (h.cp hr n).sa (fun _ => h r n hr)
theorem WFb.d {S : MS} (h : WFb S) : WFd S := fun j _ => h 38 j rfl
end
section
/-! MeterBusModel: what decoding leaves alone. -/
def lk (q : Nat) : Bool := match q with
  | 25 => true | 26 => true | 28 => true | 29 => true | 30 => true | 31 => true | 32 => true | 33 => true | 35 => true | _ => false
/-- only the list's arrays change; a text's bytes come from the data -/
def KK (S S' : MS) : Prop := (∀ q j, lk q = false → S'.a q j = S.a q j) ∧ ∀ j, S'.a 35 j = S.a 35 j ∨ ∃ i, S'.a 35 j = S.a 38 i
theorem KK.rf (S : MS) : KK S S := ⟨fun _ _ _ => rfl, fun _ => Or.inl rfl⟩
theorem KK.tr {S S1 S2 : MS} (h : KK S S1) (g : KK S1 S2) : KK S S2 := by
  refine ⟨fun q j hq => (g.1 q j hq).trans (h.1 q j hq), fun j => ?_⟩
  rcases g.2 j with e | ⟨i, e⟩
  · rw [e]; exact h.2 j
  · right; exact ⟨i, by rw [e, h.1 38 i rfl]⟩
theorem KK.si (S : MS) (k : Nat) (v : Int32) : KK S (S.si k v) := ⟨fun _ _ _ => rfl, fun _ => Or.inl rfl⟩
theorem KK.sw (S : MS) (k j : Nat) (v : Int64) : KK S (S.sw k j v) := ⟨fun _ _ _ => rfl, fun _ => Or.inl rfl⟩
theorem KK.sa (S : MS) {k : Nat} (j : Nat) (v : Int32) (hk : lk k = true) (h35 : k ≠ 35) : KK S (S.sa k j v) :=
  ⟨fun q t hq => sa_ne (fun e => by rw [e, hk] at hq; exact nomatch hq), fun t => Or.inl (sa_ne (Ne.symm h35))⟩
theorem KK.bl (S : MS) (x y : Int32) : KK S (f_bl S x y) := ⟨fun q j _ => f_bl_a _ _ _ _ _, fun j => Or.inl (f_bl_a _ _ _ _ _)⟩
theorem KK.txl (S : MS) (tx a : Nat) : ∀ k, KK S (f_txl S tx a k)
  | 0 => KK.rf S
  | k + 1 => by
    refine (KK.txl S tx a k).tr ?_
    rw [f_txl]
    refine KK.tr ?_ ((KK.si _ _ _).tr (KK.si _ _ _))
    refine ⟨fun q t hq => sa_ne (fun e => by rw [e] at hq; exact nomatch hq), fun t => ?_⟩
    rw [MS.sa_a]
    split
    · right; exact ⟨a + k, (f_txl_38 S tx a k (a + k)).symm⟩
    · exact Or.inl rfl
theorem KK.text (S : MS) (r tx a n : Nat) : KK S (f_text S r tx a n) := ((KK.sa S r _ rfl (by decide)).tr (KK.sa _ r _ rfl (by decide))).tr (KK.txl _ _ _ _)
theorem KK.dg (S : MS) (a m : Nat) (mi : Bool) (k : Nat) : KK S (f_dg S a m mi k) := ⟨fun q j _ => f_dg_a _ _ _ _ _ _ _, fun j => Or.inl (f_dg_a _ _ _ _ _ _ _)⟩
theorem KK.digS (S : MS) (a m : Nat) (sg : Bool) : KK S (f_digS S a m sg) := (KK.dg S a m _ m).tr (KK.si _ _ _)
theorem KK.nx (S : MS) : KK S (f_nx S).2 := ⟨fun q j _ => f_nx_a _ _ _, fun j => Or.inl (f_nx_a _ _ _)⟩
theorem KK.d2 (S : MS) (i : Nat) : KK S (f_d2 S i) := ⟨fun q j _ => f_d2_a _ _ _ _, fun j => Or.inl (f_d2_a _ _ _ _)⟩
theorem KK.v2 (S : MS) (i : Nat) : KK S (f_v2 S i) := ⟨fun q j _ => f_v2_a _ _ _ _, fun j => Or.inl (f_v2_a _ _ _ _)⟩
theorem KK.d3 (S : MS) (r : Nat) (b : Int32) (i : Nat) : KK S (f_d3 S r b i) := by
  unfold f_d3
  split
  · unfold f_df1
    exact ((KK.sw S _ _ _).tr (KK.sa _ r _ rfl (by decide))).tr (KK.sa _ r _ rfl (by decide))
  · exact KK.rf S
theorem KK.v4 (S : MS) (r : Nat) (b : Int32) (i : Nat) : KK S (f_v4 S r b i) := by
  unfold f_v4
  split
  · exact (KK.sa S _ _ rfl (by decide)).tr (KK.sa _ r _ rfl (by decide))
  · exact KK.rf S
theorem KK.dl (r : Nat) : ∀ (t : Nat) (S : MS) (b : Int32) (i : Nat), KK S (f_dl r t S b i)
  | 0, S, _, _ => KK.rf S
  | t + 1, S, b, i => by
    rw [f_dl]
    split
    · exact (((KK.nx S).tr (KK.d2 _ i)).tr (KK.d3 _ r _ i)).tr (KK.dl r t _ _ _)
    · exact KK.rf S
theorem KK.vl (r : Nat) : ∀ (t : Nat) (S : MS) (b : Int32) (i : Nat), KK S (f_vl r t S b i)
  | 0, S, _, _ => KK.rf S
  | t + 1, S, b, i => by
    rw [f_vl]
    split
    · exact (((KK.nx S).tr (KK.v2 _ i)).tr (KK.v4 _ r _ i)).tr (KK.vl r t _ _ _)
    · exact KK.rf S
theorem KK.rec0 (S : MS) (r : Nat) (D : Int32) : KK S (f_rec0 S r D) := by
  unfold f_rec0
  exact ((((((KK.sa S r _ rfl (by decide)).tr (KK.sa _ r _ rfl (by decide))).tr (KK.sw _ _ _ _)).tr (KK.sa _ r _ rfl (by decide))).tr (KK.sa _ r _ rfl (by decide))).tr (KK.sa _ r _ rfl (by decide))).tr (KK.sa _ r _ rfl (by decide))
theorem KK.valN (S : MS) (a e r cc n : Nat) : KK S (f_valN S a e r cc n) := by
  unfold f_valN
  split
  · split
    · exact (KK.si S _ _).tr (KK.sw _ _ _ _)
    · exact (KK.digS S _ _ _).tr (KK.sw _ _ _ _)
  · exact KK.bl S _ _
theorem KK.valD (S : MS) (a e r tx V : Nat) : KK S (f_valD S a e r tx V) := by
  unfold f_valD
  split
  · refine (KK.si S 40 (nI (a + 1))).tr ?_
    split
    · split
      · unfold f_v3
        split
        · exact (KK.sw _ _ _ _).tr (KK.text _ _ _ _ _)
        · split
          · exact (KK.digS _ _ _ _).tr (KK.sw _ _ _ _)
          · exact (KK.si _ _ _).tr (KK.sw _ _ _ _)
      · exact KK.bl _ _ _
    · exact KK.bl _ _ _
  · exact KK.bl S _ _
theorem KK.value (S : MS) (cc : Nat) : KK S (f_value S cc) := by
  unfold f_value
  split
  · exact KK.valD S _ _ _ _ _
  · exact KK.valN S _ _ _ _ _
theorem KK.ends (S : MS) (cc r : Nat) : KK S (f_ends S cc r) := by
  unfold f_ends
  split
  · exact (KK.value S cc).tr (KK.si _ _ _)
  · exact KK.rf S
theorem KK.own (S : MS) (r tx a e : Nat) : KK S (f_own S r tx a e) := by
  unfold f_own
  exact ((KK.sw S _ _ _).tr (KK.text _ _ _ _ _)).tr (KK.si _ _ _)
theorem KK.ext (S : MS) (r cc : Nat) (D : Int32) : KK S (f_ends (f_vl r 13 (f_dl r 12 S D 0) 128 0) cc r) := ((KK.dl r 12 S D 0).tr (KK.vl r 13 _ 128 0)).tr (KK.ends _ cc r)
theorem KK.rcd (S : MS) : KK S (f_rcd S) := by
  unfold f_rcd
  dsimp only
  split
  · exact KK.si S _ _
  · split
    · split
      · exact ((KK.si S _ _).tr (KK.si _ _ _)).tr (KK.bl _ _ _)
      · exact (KK.si S _ _).tr (KK.si _ _ _)
    · split
      · exact (KK.si S _ _).tr (KK.bl _ _ _)
      · split
        · exact (KK.si S _ _).tr (KK.bl _ _ _)
        · split
          · exact ((KK.si S _ _).tr (KK.rec0 _ _ _)).tr (KK.own _ _ _ _ _)
          · exact ((KK.si S _ _).tr (KK.rec0 _ _ _)).tr (KK.ext _ _ _ _)
theorem KK.rl : ∀ (t : Nat) (S : MS), KK S (f_rl t S)
  | 0, S => KK.rf S
  | t + 1, S => by
    rw [f_rl]
    split
    · exact (KK.rcd S).tr (KK.rl t _)
    · exact KK.rf S
theorem f_bS_KK (S : MS) (n i : Nat) (lo hi : Int32) : KK S (f_bS S n i lo hi) := by
  unfold f_bS
  split
  · exact KK.rf S
  · exact KK.bl S _ _
theorem KK.ids (S : MS) (L : Nat) : ∀ (t k : Nat), KK S (f_ids S L t k).2
  | 0, _ => KK.si S _ _
  | t + 1, k => by
    unfold f_ids
    split
    · exact KK.bl S _ _
    · exact KK.ids S L t (k + 1)
theorem KK.fr3 (S : MS) : KK S (f_fr3 S).2 := by
  unfold f_fr3
  split
  · exact KK.ids S _ _ _
  · exact KK.bl S _ _
theorem KK.fr2 (S : MS) (n : Nat) : KK S (f_fr2 S n).2 := by
  unfold f_fr2
  split
  · split
    · split
      · split
        · exact KK.fr3 S
        · exact f_bS_KK S _ _ _ _
      · exact f_bS_KK S _ _ _ _
    · exact f_bS_KK S _ _ _ _
  · exact KK.bl S _ _
theorem KK.fr (S : MS) (n : Nat) : KK S (f_fr S n).2 := by
  unfold f_fr
  split
  · split
    · split
      · split
        · exact KK.fr2 S n
        · exact f_bS_KK S _ _ _ _
      · exact f_bS_KK S _ _ _ _
    · exact f_bS_KK S _ _ _ _
  · exact f_bS_KK S _ _ _ _
theorem KK.da1 (S : MS) (q n : Nat) : KK (f_da0 S q n) (f_da1 S q n) := by
  unfold f_da1
  generalize f_da0 S q n = S1
  split
  · exact ((KK.fr S1 n).tr (KK.si _ _ _)).tr (KK.rl 300 _)
  · exact KK.fr S1 n
theorem KK.da (S : MS) (q n : Nat) : KK (f_da0 S q n) (f_da S q n) := by
  have h := KK.da1 S q n
  unfold f_da
  generalize f_da1 S q n = S1 at h ⊢
  split
  · exact (h.tr (KK.si _ _ _)).tr (KK.si _ _ _)
  · exact h
theorem WFb.kk {S S' : MS} (h : WFb S) (g : KK S S') : WFb S' := by
  intro k j hk
  by_cases e : lk k = false
  · rw [g.1 k j e]; exact h k j hk
  · have : k = 35 := by
      unfold bk at hk
      split at hk <;> first | exact absurd rfl e | rfl | exact nomatch hk
    subst this
    rcases g.2 j with e1 | ⟨i, e1⟩
    · rw [e1]; exact h 35 j rfl
    · rw [e1]; exact h 38 i rfl
theorem WFa.kk {S S' : MS} (h : WFa S) (g : KK S S') : WFa S' := fun j hj => (h j hj).of (g.1 15 j rfl) (g.1 14 j rfl) (fun q => g.1 17 q rfl)
theorem WFb.da {S : MS} {q : Nat} (h : WFb S) (hq : bk q = true) (n : Nat) : WFb (f_da S q n) := (WFb.cp (S := ((S.si 41 0).si 36 (-1)).si 37 0) h hq n).kk (KK.da S q n)
theorem WFa.da {S : MS} {q : Nat} (h : WFa S) (n : Nat) : WFa (f_da S q n) := (WFa.cp (S := ((S.si 41 0).si 36 (-1)).si 37 0) h.si.si.si (by decide) (by decide) (by decide) n).kk (KK.da S q n)
end
section
/-! MeterBusModel: the invariant of its list, and reading out over it. -/
def LR (S : MS) : Prop := ∃ r tx, S.i 23 = nI r ∧ r ≤ 100 ∧ S.i 34 = nI tx ∧ tx ≤ 240 * r
theorem LR.same {S S' : MS} (h : LR S) (h23 : S'.i 23 = S.i 23) (h34 : S'.i 34 = S.i 34) : LR S' := by
  obtain ⟨r, tx, a, b, c, d⟩ := h
  exact ⟨r, tx, h23.trans a, b, h34.trans c, d⟩
theorem f_bS_i (S : MS) (n i : Nat) (lo hi : Int32) {q : Nat} (h41 : q ≠ 41) (h36 : q ≠ 36) : (f_bS S n i lo hi).i q = S.i q := by
  unfold f_bS
  split
  · rfl
  · exact f_bl_i _ _ _ h41 h36
theorem f_ids_i (S : MS) (L : Nat) {q : Nat} (h41 : q ≠ 41) (h36 : q ≠ 36) (h39 : q ≠ 39) : ∀ (t k : Nat), (f_ids S L t k).2.i q = S.i q
  | 0, _ => by show (S.si 39 _).i q = S.i q; rw [MS.si_i, if_neg h39]
  | t + 1, k => by
    unfold f_ids
    split
    · exact f_bl_i _ _ _ h41 h36
    · exact f_ids_i S L h41 h36 h39 t (k + 1)
theorem f_fr_i (S : MS) (n : Nat) {q : Nat} (h41 : q ≠ 41) (h36 : q ≠ 36) (h39 : q ≠ 39) : (f_fr S n).2.i q = S.i q := by
  unfold f_fr f_fr2 f_fr3
  split
  · split
    · split
      · split
        · split
          · split
            · split
              · split
                · split
                  · exact f_ids_i S _ h41 h36 h39 _ _
                  · exact f_bl_i _ _ _ h41 h36
                · exact f_bS_i _ _ _ _ _ h41 h36
              · exact f_bS_i _ _ _ _ _ h41 h36
            · exact f_bS_i _ _ _ _ _ h41 h36
          · exact f_bl_i _ _ _ h41 h36
        · exact f_bS_i _ _ _ _ _ h41 h36
      · exact f_bS_i _ _ _ _ _ h41 h36
    · exact f_bS_i _ _ _ _ _ h41 h36
  · exact f_bS_i _ _ _ _ _ h41 h36
theorem GR.rl {e : Nat} (he : e ≤ 256) : ∀ (t : Nat) (S : MS) (r tx a : Nat), GR S e r tx a → 19 ≤ a → r ≤ 100 → tx ≤ 240 * r → LR (f_rl t S)
  | 0, S, r, tx, a, g, _, hr, ht => ⟨r, tx, g.2.2.2.1, hr, g.2.2.2.2, ht⟩
  | t + 1, S, r, tx, a, g, ha, hr, ht => by
    rw [f_rl]
    split
    · rename_i h
      obtain ⟨e1, e2, -⟩ := g.at (by omega)
      rw [e1, e2] at h
      obtain ⟨⟨a1, r1, tx1, g1, g2, g3, g4⟩, -⟩ := RR.rcd g h.1 he ha h.2 hr ht
      exact GR.rl he t _ r1 tx1 a1 g1 (by omega) g3 g4
    · exact ⟨r, tx, g.2.2.2.1, hr, g.2.2.2.2, ht⟩
theorem LR.da {S : MS} (h : LR S) (q n : Nat) : LR (f_da S q n) := by
  have h0 : LR (f_da0 S q n) := h.same (by unfold f_da0; rw [f_cp_i]; rfl) (by unfold f_da0; rw [f_cp_i]; rfl)
  have h1 : LR (f_da1 S q n) := by
    unfold f_da1
    generalize f_da0 S q n = S1 at h0 ⊢
    split
    · rename_i g
      obtain ⟨L, l1, l2, l3, l4⟩ := f_fr_t g
      rw [l4]
      obtain ⟨r, tx, a1, a2, a3, a4⟩ := h0
      exact GR.rl (e := L + 4) (by omega) 300 _ r tx 19 ⟨rfl, rfl, by omega, a1, a3⟩ (by decide) a2 a4
    · exact h0.same (f_fr_i _ _ (by decide) (by decide) (by decide)) (f_fr_i _ _ (by decide) (by decide) (by decide))
  unfold f_da
  generalize f_da1 S q n = S1 at h1 ⊢
  split
  · exact h.same rfl rfl
  · exact h1
/-- what holds of the model at all times, for the bus and the list -/
def MI (S : MS) : Prop := WFb S ∧ WFa S ∧ LR S
theorem MI.bus {S : MS} (h : MI S) (n : Nat) : MI (f_bus S n) := ⟨h.1.bus h.2.1 n, h.2.1.bus n, h.2.2.same (f_bus_i _ _ (by decide) (by decide) (by decide) (by decide)) (f_bus_i _ _ (by decide) (by decide) (by decide) (by decide))⟩
theorem MI.putS {S : MS} {c : Int32} (h : MI S) (hc : byt c) : MI (f_putS S c) := ⟨h.1.putS h.2.1 hc, h.2.1.putS, h.2.2.same (f_putS_i _ _ (by decide) (by decide) (by decide) (by decide) (by decide)) (f_putS_i _ _ (by decide) (by decide) (by decide) (by decide) (by decide))⟩
theorem MI.putM {S : MS} (h : MI S) : MI (f_putM S) := ⟨h.1.putM h.2.1, h.2.1.putM, h.2.2.same (f_putM_i _ (by decide) (by decide) (by decide) (by decide) (by decide)) (f_putM_i _ (by decide) (by decide) (by decide) (by decide) (by decide))⟩
theorem MI.ir : IR MI := ⟨fun S h => ⟨h.2.1, h.1.d, h.2.2⟩, fun S c h hc => h.putS hc, fun S h => h.putM, fun S n h _ => ⟨h.1.da rfl n, h.2.1.da n, h.2.2.da 5 n⟩, fun S j h => h.1 5 j rfl⟩
theorem WFb.rm {S : MS} {k : Nat} (h : WFb S) : ∀ n, WFb (f_rm S k n)
  | 0 => h
  | n + 1 => (h.rm n).sa (fun _ => h 21 (8 * k + n) rfl)
theorem WFa.rm {S : MS} {k : Nat} (h : WFa S) : ∀ n, WFa (f_rm S k n)
  | 0 => h
  | n + 1 => (h.rm n).sa (by decide) (by decide) (by decide)
theorem f_rm_i (S : MS) (k q : Nat) : ∀ n, (f_rm S k n).i q = S.i q
  | 0 => rfl
  | n + 1 => by rw [f_rm, MS.sa_i, f_rm_i S k q n]
theorem MI.ro {t q : Nat} : ∀ {S : MS}, MI S → MI (f_ro t q S).2 := by
  induction t generalizing q with
  | zero => intro S h; exact h
  | succ t ih =>
    intro S h
    have h1 : MI (f_putS S (f_roC q)) := h.putS (by unfold f_roC; split; exact ⟨123, by decide, rfl⟩; exact ⟨91, by decide, rfl⟩)
    have hz : ∀ Q : MS, MI Q → MI ((Q.si 23 0).si 34 0) := fun Q g => ⟨g.1, g.2.1.si.si, ⟨0, 0, rfl, by decide, rfl, by decide⟩⟩
    rw [f_ro]
    generalize f_putS S (f_roC q) = S1 at h1 ⊢
    have h2 : MI (f_da S1 5 (f_m S1)) := ⟨h1.1.da rfl _, h1.2.1.da _, h1.2.2.da 5 _⟩
    generalize f_da S1 5 (f_m S1) = S2 at h2 ⊢
    split
    · split
      · exact hz _ h2
      · split
        · exact h2
        · exact ih h2
    · exact hz _ h1
section RO
variable {w : Wd} {M : MW} {S : MS}
theorem MI.ro0 {k : Nat} (h : MI S) : MI (f_rm ((((S.si 0 0).si 23 0).si 34 0).si 36 (-1)) k 8) := ⟨WFb.rm (S := (((S.si 0 0).si 23 0).si 34 0).si 36 (-1)) h.1 8, WFa.rm h.2.1.si.si.si.si 8, ⟨0, 0, (f_rm_i _ _ _ _).trans rfl, by decide, (f_rm_i _ _ _ _).trans rfl, by decide⟩⟩
theorem MI.readOut {k : Nat} (h : MI S) : MI (f_readOut S k).2 := by
  have h0 : MI (f_ro0 S k) := h.ro0.putM
  unfold f_readOut
  generalize f_ro0 S k = S1 at h0 ⊢
  split
  · exact MI.ro (h0.putS ⟨64, by decide, rfl⟩).putM
  · exact h0
theorem s_readOut (hW : Wm w M) (h : MI S) (k f : Nat) (hf0 : S.i 20 = nI f) (hk : k < f) (hf1 : f ≤ 100) : TF w M yX7_readOut cX7_readOut 4 (some .int) 5 [.int (nI k)] S (some (.int (f_readOut S k).1)) (f_readOut S k).2 := s_readOut_t hW MI.ir k f hf0 hk hf1 h.ro0
end RO
end
section
/-! The search as a recursion: PRo; the model's loop f_sr goes through it. -/
def bz (q : Nat) : Bool := match q with
  | 5 => true | 11 => true | 13 => true | 14 => true | 15 => true | 16 => true | _ => false
theorem sa_bz {S : MS} {k i q j : Nat} {v : Int32} (hk : bz k = true) (hq : bz q = false) : (S.sa k i v).a q j = S.a q j := sa_ne (fun e => by rw [e, hk] at hq; exact nomatch hq)
theorem ack_bz {S : MS} {q j : Nat} (hq : bz q = false) : (f_ack S).a q j = S.a q j := f_ack_a S (fun e => by rw [e] at hq; exact nomatch hq)
theorem step_bz {S : MS} {isS sel : Bool} {c a : Int32} {k q j : Nat} (hq : bz q = false) : (f_step S isS sel c a k).a q j = S.a q j := by
  have hf : ∀ Q : MS, (f_forget Q k).a q j = Q.a q j := fun Q => by unfold f_forget; rw [sa_bz rfl hq, sa_bz rfl hq]
  unfold f_step f_does
  split
  · split
    · unfold f_sel
      split
      · rw [ack_bz hq, sa_bz rfl hq]
      · rw [sa_bz rfl hq]
    · split
      · unfold f_short
        split
        · rw [ack_bz hq, sa_bz rfl hq, hf]
        · split
          · unfold f_asked
            rw [MS.si_a, sa_bz rfl hq, sa_bz rfl hq, sa_bz rfl hq, MS.ans_ne (fun e => by rw [e] at hq; exact nomatch hq)]
          · rfl
      · split
        · unfold f_long
          split
          · rw [ack_bz hq, hf]
          · split
            · rw [ack_bz hq, sa_bz rfl hq]
            · rfl
        · rfl
  · rfl
theorem run_bz {S : MS} {isS sel : Bool} {c a : Int32} {q j : Nat} (hq : bz q = false) : ∀ n, (f_run S isS sel c a n).a q j = S.a q j
  | 0 => rfl
  | n + 1 => by rw [f_run, step_bz hq, run_bz hq n]
theorem end_a (S : MS) (a : Int32) (q j : Nat) : (f_end S a).a q j = S.a q j := rfl
theorem bus_bz {S : MS} {n q j : Nat} (hq : bz q = false) : (f_bus S n).a q j = S.a q j := by
  unfold f_bus
  split
  · rw [end_a, run_bz hq]; rfl
  · split
    · rw [end_a, run_bz hq]; rfl
    · rfl
theorem mcp_a3 {S : MS} {n q j : Nat} (h : q ≠ 3) : (f_mcp S n).a q j = S.a q j := f_mcp_a S n h
theorem putM_bz {S : MS} {q j : Nat} (hq : bz q = false) (h3 : q ≠ 3) : (f_putM S).a q j = S.a q j := by
  unfold f_putM
  rw [bus_bz hq]
  unfold f_putM0
  rw [MS.si_a, sa_ne h3, sa_ne h3, f_mcp_a _ _ h3]
  unfold f_mhd
  rw [sa_ne h3, sa_ne h3, sa_ne h3, sa_ne h3, sa_ne h3, sa_ne h3, sa_ne h3]
theorem putS_bz {S : MS} {c : Int32} {q j : Nat} (hq : bz q = false) (h3 : q ≠ 3) : (f_putS S c).a q j = S.a q j := by
  unfold f_putS
  rw [bus_bz hq]
  unfold f_putS0
  rw [MS.si_a, sa_ne h3, sa_ne h3, sa_ne h3, sa_ne h3, sa_ne h3]
theorem find_bz {S : MS} {f q j : Nat} (hq : bz q = false) (h3 : q ≠ 3) (h21 : q ≠ 21) : (f_find S f).a q j = S.a q j := by
  have h0 : (f_find0 S).a q j = S.a q j := by unfold f_find0; rw [putS_bz hq h3, putM_bz hq h3, putS_bz hq h3]
  unfold f_find
  split
  · rw [MS.si_a, f_fcp_a _ _ _ h21, h0]
  · exact h0
theorem one_bz {S : MS} {q j : Nat} (hq : bz q = false) (h3 : q ≠ 3) (h21 : q ≠ 21) : (f_one S).a q j = S.a q j := by
  unfold f_one
  split
  · exact find_bz hq h3 h21
  · rfl
theorem part_ne {S : MS} {n q j : Nat} {v : Int32} (h : q ≠ 19) : (f_part S n v).a q j = S.a q j := by
  unfold f_part
  split
  · exact sa_ne h
  · exact sa_ne h
def limN (n : Nat) : Nat := if n < 8 then 10 else 255
theorem limN_eq (n : Nat) : f_lim n = nI (limN n) := by unfold f_lim limN; split <;> rfl
theorem limN_le (n : Nat) : 1 ≤ limN n ∧ limN n ≤ 255 := by unfold limN; split <;> omega
/-- the values of part n from v on, c of them; then its bits are 1 again -/
def PRk (g : MS → Option MS) (n : Nat) : Nat → Nat → MS → Option MS
  | 0, v, S => some (f_part (S.sa 22 n (nI v)) n (-1))
  | c + 1, v, S => (g (f_part (S.sa 22 n (nI v)) n (nI v))).bind (fun S' => PRk g n c (v + 1) S')
/-- PROBE n (d: how deep it may go) -/
def PRo : Nat → Nat → MS → Option MS
  | 0, _, _ => none
  | d + 1, n, S =>
    if 1 < (f_putM S).i 7 then (if n < 12 then PRk (PRo d (n + 1)) n (limN n) 0 (f_putM S) else none)
    else if f_cOK (f_putM S) = true then some (f_one (f_putM S)) else none
def BK (t n : Nat) (S : MS) : Option MS := if (f_back n S).2.2 = true then f_sr t (f_back n S).1 (f_back n S).2.1 else some (f_back n S).1
theorem PRk_tried {g : MS → Option MS} {n : Nat} (hg : ∀ S S', g S = some S' → ∀ j, j < n + 1 → S'.a 22 j = S.a 22 j) : ∀ (c v : Nat) (S S' : MS), PRk g n c v S = some S' → ∀ j, j < n → S'.a 22 j = S.a 22 j
  | 0, v, S, S', h, j, hj => by
    have h := Option.some.inj h
    subst h
    rw [part_ne (by decide), MS.sa_a, if_neg (by omega)]
  | c + 1, v, S, S', h, j, hj => by
    rw [PRk] at h
    obtain ⟨S1, h1, h2⟩ := Option.bind_eq_some_iff.mp h
    rw [PRk_tried hg c (v + 1) S1 S' h2 j hj, hg _ _ h1 j (by omega), part_ne (by decide), MS.sa_a, if_neg (by omega)]
theorem PRo_tried : ∀ (d n : Nat) (S S' : MS), PRo d n S = some S' → ∀ j, j < n → S'.a 22 j = S.a 22 j
  | 0, _, _, _, h, _, _ => nomatch h
  | d + 1, n, S, S', h, j, hj => by
    rw [PRo] at h
    have e : (f_putM S).a 22 j = S.a 22 j := putM_bz rfl (by decide)
    split at h
    · split at h
      · rw [PRk_tried (fun A B hAB => PRo_tried d (n + 1) A B hAB) _ _ _ _ h j hj, e]
      · exact nomatch h
    · split at h
      · have h := Option.some.inj h
        subst h
        rw [one_bz rfl (by decide) (by decide), e]
      · exact nomatch h
/-- the loop goes through a probe, then on by the way back -/
theorem sr_PR : ∀ (d n : Nat) (S S' : MS), PRo d n S = some S' → ∃ k, ∀ t, f_sr (t + k) S n = BK t n S'
  | 0, _, _, _, h => nomatch h
  | d + 1, n, S, S', h => by
    rw [PRo] at h
    split at h
    · rename_i h1
      split at h
      · rename_i h2
        have key : ∀ (c v : Nat) (Q : MS), v + c = limN n → 1 ≤ c → PRk (PRo d (n + 1)) n c v Q = some S' → ∃ k, ∀ t, f_sr (t + k) (f_part (Q.sa 22 n (nI v)) n (nI v)) (n + 1) = BK t n S' := by
          intro c
          induction c with
          | zero => intro v Q _ h0; exact absurd h0 (by omega)
          | succ c ih =>
            intro v Q hv _ hk
            rw [PRk] at hk
            obtain ⟨S1, k1, k2⟩ := Option.bind_eq_some_iff.mp hk
            obtain ⟨k, hkk⟩ := sr_PR d (n + 1) _ S1 k1
            have et : S1.a 22 n = nI v := by rw [PRo_tried d (n + 1) _ S1 k1 n (by omega), part_ne (by decide), MS.sa_a, if_pos ⟨rfl, rfl⟩]
            have hl := limN_le n
            have e1 : S1.a 22 n + 1 = nI (v + 1) := by rw [et]; exact nI_1 v
            by_cases hc : c = 0
            · subst hc
              have hR : S' = f_part (S1.sa 22 n (nI (v + 1))) n (-1) := (Option.some.inj k2).symm
              have hb : f_back (n + 1) S1 = f_back n S' := by
                rw [f_back, e1, limN_eq, if_neg (nI_nlt (by omega) (by omega)), hR]
              refine ⟨k, fun t => ?_⟩
              rw [hkk t]
              unfold BK
              rw [hb]
            · obtain ⟨k', hk'⟩ := ih (v + 1) S1 (by omega) (by omega) k2
              have hb : f_back (n + 1) S1 = (f_part (S1.sa 22 n (nI (v + 1))) n (nI (v + 1)), n + 1, true) := by
                rw [f_back, e1, limN_eq, if_pos (nI_lt (by omega) (by omega))]
              refine ⟨k' + k, fun t => ?_⟩
              rw [show t + (k' + k) = (t + k') + k by omega, hkk (t + k')]
              unfold BK
              rw [hb, if_pos rfl]
              exact hk' t
        obtain ⟨k, hk⟩ := key (limN n) 0 (f_putM S) (by omega) (limN_le n).1 h
        refine ⟨k + 1, fun t => ?_⟩
        rw [show t + (k + 1) = (t + k) + 1 by omega, f_sr, if_pos h1, if_pos h2]
        exact hk t
      · exact nomatch h
    · rename_i h1
      split at h
      · rename_i h2
        have h := Option.some.inj h
        subst h
        refine ⟨1, fun t => ?_⟩
        rw [f_sr, if_neg h1, if_pos h2]
        rfl
      · exact nomatch h
/-- the search, whole: a recursion that comes to an end is what the loop does -/
theorem sr_all {S S' : MS} (h : PRo 13 0 S = some S') : ∃ t, f_sr t S 0 = some S' := by
  obtain ⟨k, hk⟩ := sr_PR 13 0 S S' h
  exact ⟨0 + k, (hk 0).trans rfl⟩
end
section
/-! What a mask on the bus does. -/
theorem mhd_a (S : MS) (j : Nat) : (f_mhd S).a 3 j = if j = 6 then 82 else if j = 5 then 253 else if j = 4 then 83 else if j = 3 then 104 else if j = 2 then 11 else if j = 1 then 11 else if j = 0 then 104 else S.a 3 j := by
  unfold f_mhd
  simp only [MS.sa_a, true_and]
theorem mcp_3 (S : MS) (n j : Nat) : (f_mcp S n).a 3 j = if 7 ≤ j ∧ j < 7 + n then S.a 19 (j - 7) else S.a 3 j := by
  induction n with
  | zero => rw [if_neg (by omega)]; rfl
  | succ n ih =>
    rw [f_mcp, MS.sa_a, ih]
    by_cases h : j = 7 + n
    · subst h
      rw [if_pos ⟨rfl, rfl⟩, if_pos (by omega), show 7 + n - 7 = n by omega]
    · rw [if_neg (fun e => h e.2)]
      by_cases g : 7 ≤ j ∧ j < 7 + n
      · rw [if_pos g, if_pos (by omega)]
      · rw [if_neg g, if_neg (by omega)]
theorem putM0_a (S : MS) (j : Nat) (hj : j < 15) : (f_putM0 S).a 3 j = if 7 ≤ j then S.a 19 (j - 7) else (f_mhd S).a 3 j := by
  unfold f_putM0
  rw [MS.si_a, MS.sa_a, if_neg (by omega), MS.sa_a, if_neg (by omega), mcp_3]
  by_cases g : 7 ≤ j
  · rw [if_pos (by omega), if_pos g]
    unfold f_mhd
    rw [sa_ne (by decide), sa_ne (by decide), sa_ne (by decide), sa_ne (by decide), sa_ne (by decide), sa_ne (by decide), sa_ne (by decide)]
  · rw [if_neg (by omega), if_neg g]
theorem putM0_15 (S : MS) : (f_putM0 S).a 3 15 = f_msum (f_mhd S) 8 &&& 255 := by
  unfold f_putM0
  rw [MS.si_a, MS.sa_a, if_neg (by omega), MS.sa_a, if_pos ⟨rfl, rfl⟩]
theorem putM0_16 (S : MS) : (f_putM0 S).a 3 16 = 22 := by
  unfold f_putM0
  rw [MS.si_a, MS.sa_a, if_pos ⟨rfl, rfl⟩]
theorem putM_isS (S : MS) : ¬ f_isS (f_putM0 S) := fun h => absurd h.1 (by show ¬ (nI 17 = 5); decide)
theorem putM_isL (S : MS) : f_isL (f_putM0 S) 17 := by
  have c : ∀ j, j < 7 → (f_putM0 S).a 3 j = (f_mhd S).a 3 j := fun j hj => by rw [putM0_a S j (by omega), if_neg (by omega)]
  have d : ∀ j, j < 8 → (f_putM0 S).a 3 (7 + j) = (f_mhd S).a 19 j := fun j hj => by
    rw [putM0_a S (7 + j) (by omega), if_pos (by omega), show 7 + j - 7 = j by omega]
    unfold f_mhd
    rw [sa_ne (by decide), sa_ne (by decide), sa_ne (by decide), sa_ne (by decide), sa_ne (by decide), sa_ne (by decide), sa_ne (by decide)]
  have hs : sumF ((f_putM0 S).a 3) 4 15 = f_msum (f_mhd S) 8 := by
    have h7 : sumF ((f_putM0 S).a 3) 4 7 = 418 := by
      rw [sumF_s _ (by decide), sumF_s _ (by decide), sumF_s _ (by decide), sumF_0, c 4 (by decide), c 5 (by decide), c 6 (by decide), mhd_a, mhd_a, mhd_a]
      rfl
    have : ∀ n, n ≤ 8 → sumF ((f_putM0 S).a 3) 4 (7 + n) = f_msum (f_mhd S) n := by
      intro n
      induction n with
      | zero => intro _; exact h7
      | succ n ih => intro hn; rw [show 7 + (n + 1) = (7 + n) + 1 by omega, sumF_s _ (by omega), ih (by omega), d n (by omega)]; rfl
    exact this 8 (Nat.le_refl 8)
  refine ⟨by decide, ?_, ?_, ?_, ?_, ?_, ?_, ?_, ?_⟩
  · rw [c 0 (by decide), mhd_a]; rfl
  · rw [c 1 (by decide), mhd_a]; show ¬ (11 : Int32) < 3; decide
  · rw [c 1 (by decide), mhd_a]; show (11 : Int32) ≤ 252; decide
  · rw [c 2 (by decide), c 1 (by decide), mhd_a, mhd_a]; rfl
  · rw [c 3 (by decide), mhd_a]; rfl
  · rw [c 1 (by decide), mhd_a]; rfl
  · exact putM0_16 S
  · show (f_putM0 S).a 3 15 = sumF ((f_putM0 S).a 3) 4 15 &&& 255
    rw [putM0_15, hs]
theorem putM_sel (S : MS) : f_selects (f_putM0 S) := by
  have c : ∀ j, j < 7 → (f_putM0 S).a 3 j = (f_mhd S).a 3 j := fun j hj => by rw [putM0_a S j (by omega), if_neg (by omega)]
  refine ⟨Or.inl ?_, ?_, ?_, ?_⟩
  · rw [c 4 (by decide), mhd_a]; rfl
  · rw [c 6 (by decide), mhd_a]; rfl
  · rw [c 1 (by decide), mhd_a]; rfl
  · rw [c 5 (by decide), mhd_a]; rfl
/-- a mask: every meter that is there looks at it -/
theorem putM_eq (S : MS) : f_putM S = f_end (f_run (f_begin (f_putM0 S)) false true 83 253 12) 253 := by
  have c : ∀ j, j < 7 → (f_putM0 S).a 3 j = (f_mhd S).a 3 j := fun j hj => by rw [putM0_a S j (by omega), if_neg (by omega)]
  have e4 : (f_putM0 S).a 3 4 = 83 := by rw [c 4 (by decide), mhd_a]; rfl
  have e5 : (f_putM0 S).a 3 5 = 253 := by rw [c 5 (by decide), mhd_a]; rfl
  unfold f_putM f_bus
  rw [if_neg (putM_isS S), if_pos (putM_isL S), decide_eq_true (putM_sel S), e4, e5]
theorem step_sel (S : MS) (c a : Int32) (k : Nat) : f_step S false true c a k = if S.a 10 k = 0 then S else f_sel S k := by
  unfold f_step f_does
  by_cases h : S.a 10 k = 0
  · rw [if_pos h, if_neg (fun q => q.1 h)]
  · rw [if_neg h, if_pos ⟨h, Or.inl rfl⟩, if_pos rfl]
/-- meter k fits the mask of S -/
def fitM (S : MS) (k : Nat) : Bool := (List.range 8).all (fun b => if b < 4 then (decide (S.a 19 b &&& 15 = 15) || decide (S.a 19 b &&& 15 = S.a 12 (8 * k + b) &&& 15)) && (decide (S.a 19 b >>> ((4 : Int32) &&& 31) = 15) || decide (S.a 19 b >>> ((4 : Int32) &&& 31) = S.a 12 (8 * k + b) >>> ((4 : Int32) &&& 31))) else (decide (S.a 19 b = 255) || decide (S.a 19 b = S.a 12 (8 * k + b))))
def onM (S : MS) (k : Nat) : Bool := decide (¬ S.a 10 k = 0) && fitM S k
def cntM (S : MS) : Nat → Nat
  | 0 => 0
  | n + 1 => cntM S n + if onM S n = true then 1 else 0
theorem cntM_le (S : MS) : ∀ n, cntM S n ≤ n
  | 0 => Nat.le_refl 0
  | n + 1 => by have := cntM_le S n; rw [cntM]; split <;> omega
theorem run_cnt (S Q : MS) (h3 : ∀ b, b < 8 → Q.a 3 (7 + b) = S.a 19 b) (h10 : ∀ k, Q.a 10 k = S.a 10 k) (h12 : ∀ k, Q.a 12 k = S.a 12 k) (h7 : Q.i 7 = 0) : ∀ n, n ≤ 12 → (f_run Q false true 83 253 n).i 7 = nI (cntM S n) := by
  intro n
  induction n with
  | zero => intro _; exact h7
  | succ n ih =>
    intro hn
    have ihn := ih (by omega)
    have b10 : (f_run Q false true 83 253 n).a 10 n = S.a 10 n := (run_bz rfl n).trans (h10 n)
    have b3 : ∀ b, b < 8 → (f_run Q false true 83 253 n).a 3 (7 + b) = S.a 19 b := fun b hb => (run_bz rfl n).trans (h3 b hb)
    have b12 : ∀ j, (f_run Q false true 83 253 n).a 12 j = S.a 12 j := fun j => (run_bz rfl n).trans (h12 j)
    rw [f_run, step_sel, cntM]
    generalize f_run Q false true 83 253 n = Q1 at ihn b10 b3 b12 ⊢
    have hfit : f_all Q1 n 8 = fitM S n := by
      unfold f_all fitM
      have : ∀ l : List Nat, (∀ b ∈ l, b < 8) → l.all (f_fit Q1 n) = l.all (fun b => if b < 4 then (decide (S.a 19 b &&& 15 = 15) || decide (S.a 19 b &&& 15 = S.a 12 (8 * n + b) &&& 15)) && (decide (S.a 19 b >>> ((4 : Int32) &&& 31) = 15) || decide (S.a 19 b >>> ((4 : Int32) &&& 31) = S.a 12 (8 * n + b) >>> ((4 : Int32) &&& 31))) else (decide (S.a 19 b = 255) || decide (S.a 19 b = S.a 12 (8 * n + b)))) := by
        intro l
        induction l with
        | nil => intro _; rfl
        | cons x xs ihx =>
          intro hx
          rw [List.all_cons, List.all_cons, ihx (fun b hb => hx b (List.mem_cons_of_mem _ hb))]
          congr 1
          unfold f_fit
          rw [b3 x (hx x List.mem_cons_self), b12]
      exact this _ (fun b hb => List.mem_range.mp hb)
    unfold onM
    by_cases h0 : Q1.a 10 n = 0
    · rw [if_pos h0, if_neg (by rw [b10] at h0; simp [h0])]
      exact ihn
    · rw [if_neg h0]
      rw [b10] at h0
      unfold f_sel
      rw [hfit]
      by_cases hf : fitM S n = true
      · rw [if_pos hf, if_pos (by simp [h0, hf])]
        show (Q1.sa 13 n 1).i 7 + 1 = _
        rw [MS.sa_i, ihn]
        exact nI_1 _
      · rw [if_neg hf, if_neg (by simp [hf])]
        exact ihn
/-- how many answer a mask -/
theorem putM_7 (S : MS) : (f_putM S).i 7 = nI (cntM S 12) := by
  rw [putM_eq]
  have h := run_cnt S (f_begin (f_putM0 S)) (fun b hb => by rw [bg_a, putM0_a S (7 + b) (by omega), if_pos (by omega), show 7 + b - 7 = b by omega]) (fun k => by
    rw [bg_a]; unfold f_putM0; rw [MS.si_a, sa_ne (by decide), sa_ne (by decide), f_mcp_a _ _ (by decide)]; unfold f_mhd
    rw [sa_ne (by decide), sa_ne (by decide), sa_ne (by decide), sa_ne (by decide), sa_ne (by decide), sa_ne (by decide), sa_ne (by decide)]) (fun k => by
    rw [bg_a]; unfold f_putM0; rw [MS.si_a, sa_ne (by decide), sa_ne (by decide), f_mcp_a _ _ (by decide)]; unfold f_mhd
    rw [sa_ne (by decide), sa_ne (by decide), sa_ne (by decide), sa_ne (by decide), sa_ne (by decide), sa_ne (by decide), sa_ne (by decide)]) rfl 12 (Nat.le_refl 12)
  generalize f_run (f_begin (f_putM0 S)) false true 83 253 12 = Q at h ⊢
  exact h
end
section
/-! Parts of masks and of addresses, as numbers. -/
theorem pb_hi : ∀ x, x < 256 → ∀ d, d < 16 → (nI x &&& 15) ||| (nI d <<< ((4 : Int32) &&& 31)) = nI (16 * d + x % 16) := by decide +kernel
theorem pb_lo : ∀ x, x < 256 → ∀ d, d < 16 → (nI x &&& 240) ||| nI d = nI (16 * (x / 16) + d) := by decide +kernel
theorem pb_15 {x : Nat} (h : x < 256) : nI x &&& 15 = nI (x % 16) := pk_andN (by omega) 4 rfl
theorem pb_s4 {x : Nat} (h : x < 256) : nI x >>> ((4 : Int32) &&& 31) = nI (x / 16) := pk_shrN (by omega) _ 4 rfl
/-- part n of eight bytes -/
def prt (f : Nat → Nat) (n : Nat) : Nat := if n < 8 then (if n % 2 = 0 then f (3 - n / 2) / 16 else f (3 - n / 2) % 16) else f (n - 4)
def wld (n : Nat) : Nat := if n < 8 then 15 else 255
theorem prt_hi (f : Nat → Nat) {b : Nat} (h : b < 4) : prt f (2 * (3 - b)) = f b / 16 := by unfold prt; rw [if_pos (show 2 * (3 - b) < 8 by omega), if_pos (show 2 * (3 - b) % 2 = 0 by omega), show 3 - 2 * (3 - b) / 2 = b by omega]
theorem prt_lo (f : Nat → Nat) {b : Nat} (h : b < 4) : prt f (2 * (3 - b) + 1) = f b % 16 := by unfold prt; rw [if_pos (show 2 * (3 - b) + 1 < 8 by omega), if_neg (show ¬ (2 * (3 - b) + 1) % 2 = 0 by omega), show 3 - (2 * (3 - b) + 1) / 2 = b by omega]
theorem prt_by (f : Nat → Nat) {b : Nat} (h : 4 ≤ b) : prt f (b + 4) = f b := by unfold prt; rw [if_neg (show ¬ b + 4 < 8 by omega), show b + 4 - 4 = b by omega]
theorem wld_lo {n : Nat} (h : n < 8) : wld n = 15 := if_pos h
theorem wld_by {n : Nat} (h : ¬ n < 8) : wld n = 255 := if_neg h
def mby (S : MS) (b : Nat) : Nat := (S.a 19 b).toNatClampNeg
def sby (S : MS) (k b : Nat) : Nat := (S.a 12 (8 * k + b)).toNatClampNeg
theorem WFb.m {S : MS} (h : WFb S) (b : Nat) : mby S b < 256 ∧ S.a 19 b = nI (mby S b) := by
  obtain ⟨x, h1, h2⟩ := h 19 b rfl
  unfold mby
  rw [h2, nI_clamp (by omega)]
  exact ⟨h1, rfl⟩
theorem WFb.s {S : MS} (h : WFb S) (k b : Nat) : sby S k b < 256 ∧ S.a 12 (8 * k + b) = nI (sby S k b) := by
  obtain ⟨x, h1, h2⟩ := h 12 (8 * k + b) rfl
  unfold sby
  rw [h2, nI_clamp (by omega)]
  exact ⟨h1, rfl⟩
/-- a meter fits when each part is wild, or the same -/
theorem fitM_iff {S : MS} (h : WFb S) (k : Nat) : fitM S k = true ↔ ∀ n, n < 12 → prt (mby S) n = wld n ∨ prt (mby S) n = prt (sby S k) n := by
  have hb : ∀ b, b < 8 → ((if b < 4 then (decide (S.a 19 b &&& 15 = 15) || decide (S.a 19 b &&& 15 = S.a 12 (8 * k + b) &&& 15)) && (decide (S.a 19 b >>> ((4 : Int32) &&& 31) = 15) || decide (S.a 19 b >>> ((4 : Int32) &&& 31) = S.a 12 (8 * k + b) >>> ((4 : Int32) &&& 31))) else (decide (S.a 19 b = 255) || decide (S.a 19 b = S.a 12 (8 * k + b)))) = true ↔
      (if b < 4 then ((mby S b % 16 = 15 ∨ mby S b % 16 = sby S k b % 16) ∧ (mby S b / 16 = 15 ∨ mby S b / 16 = sby S k b / 16)) else (mby S b = 255 ∨ mby S b = sby S k b))) := by
    intro b _
    obtain ⟨m1, m2⟩ := h.m b
    obtain ⟨s1, s2⟩ := h.s k b
    rw [m2, s2]
    split
    · rw [pb_15 m1, pb_15 s1, pb_s4 m1, pb_s4 s1]
      simp only [Bool.and_eq_true, Bool.or_eq_true, decide_eq_true_eq]
      rw [show (15 : Int32) = nI 15 from rfl, nI_eq (by omega) (by omega), nI_eq (by omega) (by omega), nI_eq (by omega) (by omega), nI_eq (by omega) (by omega)]
    · simp only [Bool.or_eq_true, decide_eq_true_eq]
      rw [show (255 : Int32) = nI 255 from rfl, nI_eq (by omega) (by omega), nI_eq (by omega) (by omega)]
  unfold fitM
  rw [List.all_eq_true]
  constructor
  · intro g n hn
    unfold prt wld
    by_cases h8 : n < 8
    · have := (hb (3 - n / 2) (by omega)).mp (g _ (List.mem_range.mpr (by omega)))
      rw [if_pos (by omega)] at this
      rw [if_pos h8, if_pos h8, if_pos h8]
      split
      · exact this.2
      · exact this.1
    · have := (hb (n - 4) (by omega)).mp (g _ (List.mem_range.mpr (by omega)))
      rw [if_neg (by omega)] at this
      rw [if_neg h8, if_neg h8, if_neg h8]
      exact this
  · intro g b hbm
    have hb8 := List.mem_range.mp hbm
    refine (hb b hb8).mpr ?_
    by_cases h4 : b < 4
    · rw [if_pos h4]
      have g1 := g (2 * (3 - b) + 1) (by omega)
      have g2 := g (2 * (3 - b)) (by omega)
      rw [prt_lo _ h4, prt_lo _ h4, wld_lo (by omega)] at g1
      rw [prt_hi _ h4, prt_hi _ h4, wld_lo (by omega)] at g2
      exact ⟨g1, g2⟩
    · rw [if_neg h4]
      have g1 := g (b + 4) (by omega)
      rw [prt_by _ (by omega), prt_by _ (by omega), wld_by (by omega)] at g1
      exact g1
theorem WFb.part {S : MS} {n : Nat} (h : WFb S) (v : Nat) (hv : v < if n < 8 then 16 else 256) : WFb (f_part S n (nI v)) := by
  have n0 : ¬ nI v < 0 := nI_pos (by split at hv <;> omega)
  unfold f_part f_d
  rw [if_neg n0]
  split
  · rename_i g
    rw [if_neg (by omega)] at hv
    exact h.sa (fun _ => byt_n hv)
  · rename_i g
    rw [if_pos (by omega)] at hv
    obtain ⟨m1, m2⟩ := h.m (3 - n / 2)
    refine h.sa (fun _ => ?_)
    rw [m2]
    split
    · rw [pb_hi _ m1 _ hv]; exact byt_n (by omega)
    · rw [pb_lo _ m1 _ hv]; exact byt_n (by omega)
/-- setting a part -/
theorem part_prt {S : MS} {n : Nat} (h : WFb S) (hn : n < 12) (v : Nat) (hv : v < if n < 8 then 16 else 256) : ∀ q, q < 12 → prt (mby (f_part S n (nI v))) q = if q = n then v else prt (mby S) q := by
  intro q hq
  have n0 : ¬ nI v < 0 := nI_pos (by split at hv <;> omega)
  have hm : ∀ b, mby (f_part S n (nI v)) b = if 7 < n then (if b = n - 4 then v else mby S b) else (if b = 3 - n / 2 then (if n % 2 = 0 then 16 * v + mby S b % 16 else 16 * (mby S b / 16) + v) else mby S b) := by
    intro b
    unfold mby f_part f_d
    rw [if_neg n0, if_neg n0]
    by_cases g : 7 < n
    · rw [if_pos g, if_pos g, MS.sa_a]
      rw [if_neg (by omega)] at hv
      by_cases e : b = n - 4
      · rw [if_pos ⟨rfl, e⟩, if_pos e, nI_clamp (by omega)]
      · rw [if_neg (fun q => e q.2), if_neg e]
    · rw [if_neg g, if_neg g, MS.sa_a]
      rw [if_pos (by omega)] at hv
      by_cases e : b = 3 - n / 2
      · subst e
        obtain ⟨m1, m2⟩ := h.m (3 - n / 2)
        rw [if_pos ⟨rfl, rfl⟩, if_pos rfl]
        unfold mby at m1
        split
        · rw [m2, pb_hi _ (h.m _).1 _ hv]; unfold mby; rw [nI_clamp (by omega), nI_clamp (by omega)]
        · rw [m2, pb_lo _ (h.m _).1 _ hv]; unfold mby; rw [nI_clamp (by omega), nI_clamp (by omega)]
      · rw [if_neg (fun q => e q.2), if_neg e]
  have m255 := fun b => (h.m b).1
  unfold prt
  by_cases h8 : q < 8
  · rw [if_pos h8, if_pos h8, hm]
    by_cases g : 7 < n
    · rw [if_pos g, if_neg (show ¬ 3 - q / 2 = n - 4 by omega), if_neg (show ¬ q = n by omega)]
    · rw [if_neg g]
      rw [if_pos (by omega)] at hv
      by_cases e : 3 - q / 2 = 3 - n / 2
      · rw [if_pos e]
        have := m255 (3 - q / 2)
        by_cases p1 : n % 2 = 0 <;> by_cases p2 : q % 2 = 0
        · rw [if_pos p1, if_pos p2, if_pos (by omega)]; omega
        · rw [if_pos p1, if_neg p2, if_neg (by omega), if_neg p2]; omega
        · rw [if_neg p1, if_pos p2, if_neg (by omega), if_pos p2]; omega
        · rw [if_neg p1, if_neg p2, if_pos (by omega)]; omega
      · rw [if_neg e, if_neg (show ¬ q = n by omega)]
  · rw [if_neg h8, if_neg h8, hm]
    by_cases g : 7 < n
    · rw [if_pos g]
      by_cases e : q = n
      · rw [if_pos (by omega), if_pos e]
      · rw [if_neg (by omega), if_neg e]
    · rw [if_neg g, if_neg (by omega), if_neg (by omega)]
theorem part_wild (S : MS) (n : Nat) : f_part S n (-1) = f_part S n (nI (wld n)) := by
  unfold f_part f_d wld
  by_cases g : 7 < n
  · rw [if_pos g, if_pos g, if_pos (show (-1 : Int32) < 0 by decide), if_neg (show ¬ n < 8 by omega)]
    rfl
  · rw [if_neg g, if_neg g, if_pos (show (-1 : Int32) < 0 by decide), if_pos (show n < 8 by omega)]
    rfl
end
section
/-! The search comes to its end: no more are found than fit. -/
def cn (p : Nat → Bool) : Nat → Nat
  | 0 => 0
  | n + 1 => cn p n + if p n = true then 1 else 0
theorem cn_congr {p q : Nat → Bool} : ∀ n, (∀ k, k < n → (p k = true ↔ q k = true)) → cn p n = cn q n
  | 0, _ => rfl
  | n + 1, h => by
    rw [cn, cn, cn_congr n (fun k hk => h k (by omega))]
    by_cases g : p n = true
    · rw [if_pos g, if_pos ((h n (by omega)).mp g)]
    · rw [if_neg g, if_neg (fun q => g ((h n (by omega)).mpr q))]
theorem cn_add {p q r : Nat → Bool} : ∀ n, (∀ k, k < n → (p k = true → r k = true) ∧ (q k = true → r k = true) ∧ ¬ (p k = true ∧ q k = true)) → cn p n + cn q n ≤ cn r n
  | 0, _ => Nat.le_refl 0
  | n + 1, h => by
    have ih := cn_add n (fun k hk => h k (by omega))
    obtain ⟨h1, h2, h3⟩ := h n (by omega)
    rw [cn, cn, cn]
    by_cases g1 : p n = true
    · rw [if_pos g1, if_neg (fun g2 => h3 ⟨g1, g2⟩), if_pos (h1 g1)]; omega
    · rw [if_neg g1]
      by_cases g2 : q n = true
      · rw [if_pos g2, if_pos (h2 g2)]; omega
      · rw [if_neg g2]; split <;> omega
theorem cn_mono {p r : Nat → Bool} (n : Nat) (h : ∀ k, k < n → p k = true → r k = true) : cn p n ≤ cn r n := by
  have := cn_add (p := p) (q := fun _ => false) (r := r) n (fun k hk => ⟨h k hk, fun q => absurd q (by decide), fun q => absurd q.2 (by decide)⟩)
  omega
theorem cn_le1 {p : Nat → Bool} : ∀ n, (∀ i j, i < n → j < n → p i = true → p j = true → i = j) → cn p n ≤ 1
  | 0, _ => Nat.zero_le 1
  | n + 1, h => by
    have ih := cn_le1 n (fun i j hi hj => h i j (by omega) (by omega))
    rw [cn]
    by_cases g : p n = true
    · have z : cn p n = 0 := by
        have : ∀ m, m ≤ n → cn p m = 0 := by
          intro m
          induction m with
          | zero => intro _; rfl
          | succ m ihm => intro hm; rw [cn, ihm (by omega), if_neg (fun q => by have := h m n (by omega) (by omega) q g; omega)]
        exact this n (Nat.le_refl n)
      rw [if_pos g]; omega
    · rw [if_neg g]; omega
theorem cntM_cn (S : MS) : ∀ n, cntM S n = cn (onM S) n
  | 0 => rfl
  | n + 1 => by rw [cntM, cn, cntM_cn S n]
theorem onM_iff {S : MS} (h : WFb S) (k : Nat) : onM S k = true ↔ ¬ S.a 10 k = 0 ∧ ∀ n, n < 12 → prt (mby S) n = wld n ∨ prt (mby S) n = prt (sby S k) n := by
  unfold onM
  rw [Bool.and_eq_true, decide_eq_true_eq, fitM_iff h]
/-- no two meters have the same address -/
def DS (S : MS) : Prop := ∀ j k, j < 12 → k < 12 → ¬ S.a 10 j = 0 → ¬ S.a 10 k = 0 → (∀ n, n < 12 → prt (sby S j) n = prt (sby S k) n) → j = k
/-- meters as they were, as far as the search looks at them -/
def SM (S S' : MS) : Prop := (∀ j, S'.a 10 j = S.a 10 j) ∧ ∀ j, S'.a 12 j = S.a 12 j
theorem SM.tr {S S1 S2 : MS} (h : SM S S1) (g : SM S1 S2) : SM S S2 := ⟨fun j => (g.1 j).trans (h.1 j), fun j => (g.2 j).trans (h.2 j)⟩
theorem SM.sb {S S' : MS} (h : SM S S') (k : Nat) : sby S' k = sby S k := by funext b; unfold sby; rw [h.2]
theorem DS.sm {S S' : MS} (d : DS S) (h : SM S S') : DS S' := fun j k hj hk a b e => d j k hj hk (by rw [← h.1]; exact a) (by rw [← h.1]; exact b) (fun n hn => by rw [← h.sb j, ← h.sb k]; exact e n hn)
theorem putM_sm (S : MS) : SM S (f_putM S) := ⟨fun j => putM_bz rfl (by decide), fun j => putM_bz rfl (by decide)⟩
theorem putM_mby (S : MS) : mby (f_putM S) = mby S := by funext b; unfold mby; rw [putM_bz rfl (by decide)]
theorem one_sm (S : MS) : SM S (f_one S) := ⟨fun j => one_bz rfl (by decide) (by decide), fun j => one_bz rfl (by decide) (by decide)⟩
theorem one_mby (S : MS) : mby (f_one S) = mby S := by funext b; unfold mby; rw [one_bz rfl (by decide) (by decide)]
theorem WFb.fcp {S : MS} {f : Nat} (h : WFb S) : ∀ n, WFb (f_fcp S f n)
  | 0 => h
  | n + 1 => (h.fcp n).sa (fun _ => h 5 (7 + n) rfl)
theorem WFb.one {S : MS} (h : WFb S) (hm : WFa S) : WFb (f_one S) := by
  unfold f_one
  split
  · have h0 : WFb (f_find0 S) := ((h.putS hm ⟨64, by decide, rfl⟩).putM hm.putS).putS hm.putS.putM ⟨91, by decide, rfl⟩
    unfold f_find
    split
    · exact (h0.fcp 8).si
    · exact h0
  · exact h
theorem one_20 {S : MS} {f : Nat} (h : S.i 20 = nI f) (hf : f < 100) : ∃ f', (f_one S).i 20 = nI f' ∧ f ≤ f' ∧ f' ≤ f + if S.i 7 = 1 then 1 else 0 := by
  have ec : f_c S = f := by unfold f_c; rw [h, nI_clamp (by omega)]
  unfold f_one
  by_cases g : S.i 7 = 1
  · rw [if_pos g, ec, if_pos g]
    unfold f_find
    split
    · exact ⟨f + 1, rfl, by omega, by omega⟩
    · exact ⟨f, (f_find0_i _ (by decide) (by decide) (by decide) (by decide) (by decide)).trans h, by omega, by omega⟩
  · rw [if_neg g, if_neg g]
    exact ⟨f, h, by omega, by omega⟩
/-- what a probe leaves -/
def PL (S S' : MS) (f c : Nat) : Prop := WFb S' ∧ WFa S' ∧ SM S S' ∧ (∀ n, n < 12 → prt (mby S') n = prt (mby S) n) ∧ ∃ f', S'.i 20 = nI f' ∧ f ≤ f' ∧ f' ≤ f + c
theorem part_i (S : MS) (n : Nat) (v : Int32) (q : Nat) : (f_part S n v).i q = S.i q := by
  unfold f_part
  split <;> rfl
theorem onC {S C : MS} {n v : Nat} (hS : WFb S) (hC : WFb C) (sm : SM S C) (hn : n < 12) (hp : ∀ m, m < 12 → prt (mby C) m = if m = n then v else prt (mby S) m) (hw : prt (mby S) n = wld n) (hv : v ≠ wld n) (k : Nat) : onM C k = true ↔ onM S k = true ∧ v = prt (sby S k) n := by
  rw [onM_iff hC, onM_iff hS, sm.1, sm.sb]
  constructor
  · intro h
    have h0 := h.2 n hn
    rw [hp n hn, if_pos rfl] at h0
    refine ⟨⟨h.1, fun m hm => ?_⟩, h0.resolve_left hv⟩
    by_cases e : m = n
    · rw [e]; exact .inl hw
    · have := h.2 m hm
      rw [hp m hm, if_neg e] at this
      exact this
  · intro h
    refine ⟨h.1.1, fun m hm => ?_⟩
    rw [hp m hm]
    by_cases e : m = n
    · rw [if_pos e, e]; exact .inr h.2
    · rw [if_neg e]; exact h.1.2 m hm
def geM (S : MS) (n v k : Nat) : Bool := onM S k && decide (v ≤ prt (sby S k) n)
theorem geM_iff (S : MS) (n v k : Nat) : geM S n v k = true ↔ onM S k = true ∧ v ≤ prt (sby S k) n := by
  unfold geM
  rw [Bool.and_eq_true, decide_eq_true_eq]
theorem ge_step {S C : MS} {n v : Nat} (h : ∀ k, onM C k = true ↔ onM S k = true ∧ v = prt (sby S k) n) : cntM C 12 + cn (geM S n (v + 1)) 12 ≤ cn (geM S n v) 12 := by
  rw [cntM_cn]
  refine cn_add 12 (fun k _ => ⟨fun q => ?_, fun q => ?_, fun q => ?_⟩)
  · obtain ⟨a, b⟩ := (h k).mp q
    exact (geM_iff S n v k).mpr ⟨a, by omega⟩
  · obtain ⟨a, b⟩ := (geM_iff S n (v + 1) k).mp q
    exact (geM_iff S n v k).mpr ⟨a, by omega⟩
  · obtain ⟨a, b⟩ := (h k).mp q.1
    obtain ⟨c, d⟩ := (geM_iff S n (v + 1) k).mp q.2
    omega
theorem limN_wld {n v : Nat} (h : v < limN n) : v ≠ wld n ∧ v < if n < 8 then 16 else 256 := by
  unfold limN at h
  unfold wld
  split at h
  · rename_i g; rw [if_pos g, if_pos g]; omega
  · rename_i g; rw [if_neg g, if_neg g]; omega
theorem wld_lt (n : Nat) : wld n < if n < 8 then 16 else 256 := by unfold wld; split <;> omega
theorem PRk_ok {g : MS → Option MS} {n : Nat} {S : MS} (hn : n < 12) (hS : WFb S) (ds : DS S) (hw : ∀ m, n ≤ m → m < 12 → prt (mby S) m = wld m) (hx : ∀ m, m < n → m < 12 → prt (mby S) m ≠ wld m)
    (ih : ∀ (C : MS) (f : Nat), WFb C → WFa C → DS C → C.i 20 = nI f → f + cntM C 12 ≤ 99 → (∀ m, n + 1 ≤ m → m < 12 → prt (mby C) m = wld m) → (∀ m, m < n + 1 → m < 12 → prt (mby C) m ≠ wld m) → ∃ S', g C = some S' ∧ PL C S' f (cntM C 12)) :
    ∀ (c v : Nat) (Q : MS) (f : Nat), v + c = limN n → WFb Q → WFa Q → SM S Q → (∀ m, m < 12 → m ≠ n → prt (mby Q) m = prt (mby S) m) → Q.i 20 = nI f → f + cn (geM S n v) 12 ≤ 99 → ∃ S', PRk g n c v Q = some S' ∧ PL S S' f (cn (geM S n v) 12)
  | 0, v, Q, f, hc, hb, ha, sm, hp, h20, hf => by
    have hb' : WFb (Q.sa 22 n (nI v)) := hb.sa (fun q => absurd q (by decide))
    have hm' : mby (Q.sa 22 n (nI v)) = mby Q := by funext b; unfold mby; rw [sa_ne (by decide)]
    refine ⟨_, rfl, ?_, ?_, ?_, ?_, f, ?_, Nat.le_refl f, by omega⟩
    · rw [part_wild]; exact hb'.part _ (wld_lt n)
    · exact (ha.sa (by decide) (by decide) (by decide)).part
    · exact sm.tr ⟨fun j => (part_ne (by decide)).trans (sa_ne (by decide)), fun j => (part_ne (by decide)).trans (sa_ne (by decide))⟩
    · intro m hm
      rw [part_wild, part_prt hb' hn _ (wld_lt n) m hm, hm']
      by_cases e : m = n
      · rw [if_pos e, e]; exact (hw n (Nat.le_refl n) hn).symm
      · rw [if_neg e]; exact hp m hm e
    · rw [part_i, MS.sa_i]; exact h20
  | c + 1, v, Q, f, hc, hb, ha, sm, hp, h20, hf => by
    have hl := limN_wld (n := n) (v := v) (by omega)
    have hb' : WFb (Q.sa 22 n (nI v)) := hb.sa (fun q => absurd q (by decide))
    have hm' : mby (Q.sa 22 n (nI v)) = mby Q := by funext b; unfold mby; rw [sa_ne (by decide)]
    rw [PRk]
    have cb : WFb (f_part (Q.sa 22 n (nI v)) n (nI v)) := hb'.part v hl.2
    have ca : WFa (f_part (Q.sa 22 n (nI v)) n (nI v)) := (ha.sa (by decide) (by decide) (by decide)).part
    have cs : SM S (f_part (Q.sa 22 n (nI v)) n (nI v)) := sm.tr ⟨fun j => (part_ne (by decide)).trans (sa_ne (by decide)), fun j => (part_ne (by decide)).trans (sa_ne (by decide))⟩
    have cp : ∀ m, m < 12 → prt (mby (f_part (Q.sa 22 n (nI v)) n (nI v))) m = if m = n then v else prt (mby S) m := by
      intro m hm
      rw [part_prt hb' hn v hl.2 m hm, hm']
      by_cases e : m = n
      · rw [if_pos e, if_pos e]
      · rw [if_neg e, if_neg e]; exact hp m hm e
    have c20 : (f_part (Q.sa 22 n (nI v)) n (nI v)).i 20 = nI f := by rw [part_i, MS.sa_i]; exact h20
    generalize f_part (Q.sa 22 n (nI v)) n (nI v) = C at cb ca cs cp c20 ⊢
    have on := onC hS cb cs hn cp (hw n (Nat.le_refl n) hn) hl.1
    have st := ge_step on
    obtain ⟨S1, e1, b1, a1, s1, p1, f1, g1, g2, g3⟩ := ih C f cb ca (ds.sm cs) c20 (by omega)
      (fun m h1 h2 => by rw [cp m h2, if_neg (by omega)]; exact hw m (by omega) h2)
      (fun m h1 h2 => by
        rw [cp m h2]
        by_cases e : m = n
        · rw [if_pos e, e]; exact hl.1
        · rw [if_neg e]; exact hx m (by omega) h2)
    obtain ⟨S2, e2, b2, a2, s2, p2, f2, k1, k2, k3⟩ := PRk_ok hn hS ds hw hx ih c (v + 1) S1 f1 (by omega) b1 a1 (cs.tr s1)
      (fun m h1 h2 => by rw [p1 m h1, cp m h1, if_neg h2]) g1 (by omega)
    refine ⟨S2, ?_, b2, a2, s2, p2, f2, k1, by omega, by omega⟩
    rw [e1]
    exact e2
theorem PR_ok : ∀ (d n : Nat) (S : MS) (f : Nat), n + d = 13 → n ≤ 12 → WFb S → WFa S → DS S → S.i 20 = nI f → f + cntM S 12 ≤ 99 → (∀ m, n ≤ m → m < 12 → prt (mby S) m = wld m) → (∀ m, m < n → m < 12 → prt (mby S) m ≠ wld m) → ∃ S', PRo d n S = some S' ∧ PL S S' f (cntM S 12)
  | 0, n, S, f, hd, hn, hb, ha, ds, h20, hf, hw, hv => by
    exact absurd hd (by omega)
  | d + 1, n, S, f, hd, hn, hb, ha, ds, h20, hf, hw, hv => by
    have e7 := putM_7 S
    have p20 : (f_putM S).i 20 = nI f := (f_putM_i _ (by decide) (by decide) (by decide) (by decide) (by decide)).trans h20
    have cl := cntM_le S 12
    rw [PRo]
    by_cases g : 1 < cntM S 12
    · rw [if_pos (by rw [e7]; exact nI_lt (a := 1) g (by omega))]
      by_cases h12 : n < 12
      · rw [if_pos h12]
        have hc : cn (geM S n 0) 12 ≤ cntM S 12 := by
          rw [cntM_cn]
          exact cn_mono 12 (fun k _ q => ((geM_iff S n 0 k).mp q).1)
        obtain ⟨S', e, b, a, s, p, f', q1, q2, q3⟩ := PRk_ok (g := PRo d (n + 1)) h12 hb ds hw hv
          (fun C f' cb ca cd c20 cf cw cv => PR_ok d (n + 1) C f' (by omega) (by omega) cb ca cd c20 cf cw cv)
          (limN n) 0 (f_putM S) f (by omega) (hb.putM ha) ha.putM (putM_sm S) (fun m _ _ => by rw [putM_mby]) p20 (by omega)
        exact ⟨S', e, b, a, s, p, f', q1, q2, by omega⟩
      · exfalso
        have : cn (onM S) 12 ≤ 1 := cn_le1 12 (fun i j hi hj oi oj => by
          obtain ⟨i1, i2⟩ := (onM_iff hb i).mp oi
          obtain ⟨j1, j2⟩ := (onM_iff hb j).mp oj
          exact ds i j hi hj i1 j1 (fun m hm => ((i2 m hm).resolve_left (hv m (by omega) hm)).symm.trans ((j2 m hm).resolve_left (hv m (by omega) hm))))
        rw [← cntM_cn] at this
        omega
    · rw [if_neg (by rw [e7]; exact nI_nlt (a := 1) (Nat.not_lt.mp g) (by omega))]
      have ec : f_c (f_putM S) = f := by unfold f_c; rw [p20, nI_clamp (by omega)]
      rw [if_pos (show f_cOK (f_putM S) = true by unfold f_cOK; rw [ec, p20]; simp; omega)]
      obtain ⟨f', q1, q2, q3⟩ := one_20 p20 (by omega)
      refine ⟨_, rfl, (hb.putM ha).one ha.putM, ha.putM.one, (putM_sm S).tr (one_sm _), fun m _ => by rw [one_mby, putM_mby], f', q1, q2, ?_⟩
      rw [e7] at q3
      by_cases h1 : cntM S 12 = 1
      · rw [h1]; split at q3 <;> omega
      · rw [if_neg (fun q => h1 ((nI_eq (by omega) (by omega)).mp (q.trans (show (1 : Int32) = nI 1 from rfl))))] at q3
        omega
end
section
/-! The search, whole: it ends, and what it leaves. -/
theorem ff_19 (S : MS) (b : Nat) : ∀ n, (f_ff S n).a 19 b = if b < n then 255 else S.a 19 b
  | 0 => (if_neg (Nat.not_lt_zero b)).symm
  | n + 1 => by
    rw [f_ff, MS.sa_a, ff_19 S b n]
    by_cases e : b = n
    · rw [if_pos ⟨rfl, e⟩, if_pos (by omega)]
    · rw [if_neg (fun q => e q.2)]
      by_cases g : b < n
      · rw [if_pos g, if_pos (by omega)]
      · rw [if_neg g, if_neg (by omega)]
theorem ff_a (S : MS) {q j : Nat} (h : q ≠ 19) : ∀ n, (f_ff S n).a q j = S.a q j
  | 0 => rfl
  | n + 1 => by rw [f_ff, sa_ne h, ff_a S h n]
theorem ff_i (S : MS) (q : Nat) : ∀ n, (f_ff S n).i q = S.i q
  | 0 => rfl
  | n + 1 => by rw [f_ff, MS.sa_i, ff_i S q n]
theorem WFb.ff {S : MS} (h : WFb S) : ∀ n, WFb (f_ff S n)
  | 0 => h
  | n + 1 => (h.ff n).sa (fun _ => ⟨255, by decide, rfl⟩)
theorem WFb.sr0 {S : MS} (h : WFb S) : WFb (f_sr0 S) := WFb.ff (S := (S.si 0 0).si 20 0) h 8
theorem WFa.sr0 {S : MS} (h : WFa S) : WFa (f_sr0 S) := h.si.si.ff 8
theorem sr0_sm (S : MS) : SM S (f_sr0 S) := ⟨fun _ => ff_a _ (by decide) 8, fun _ => ff_a _ (by decide) 8⟩
theorem sr0_20 (S : MS) : (f_sr0 S).i 20 = nI 0 := (ff_i _ 20 8).trans rfl
theorem sr0_mby (S : MS) {b : Nat} (h : b < 8) : mby (f_sr0 S) b = 255 := by
  unfold mby f_sr0
  rw [ff_19, if_pos h]
  rfl
theorem sr0_prt (S : MS) {m : Nat} (h : m < 12) : prt (mby (f_sr0 S)) m = wld m := by
  unfold prt wld
  by_cases g : m < 8
  · rw [if_pos g, if_pos g, sr0_mby S (by omega)]; split <;> rfl
  · rw [if_neg g, if_neg g, sr0_mby S (by omega)]
theorem search_ok {S : MS} (hb : WFb S) (ha : WFa S) (ds : DS S) : ∃ S', PRo 13 0 (f_sr0 S) = some S' ∧ PL (f_sr0 S) S' 0 (cntM (f_sr0 S) 12) := by
  have cl := cntM_le (f_sr0 S) 12
  exact PR_ok 13 0 (f_sr0 S) 0 (by decide) (by decide) hb.sr0 ha.sr0 (ds.sm (sr0_sm S)) (sr0_20 S) (by omega) (fun m _ hm => sr0_prt S hm) (fun m hm => absurd hm (Nat.not_lt_zero m))
def f_search (S : MS) : MS := (PRo 13 0 (f_sr0 S)).getD S
theorem search_eq {S S' : MS} (h : PRo 13 0 (f_sr0 S) = some S') : f_search S = S' := by unfold f_search; rw [h]; rfl
/-- numbers that the search leaves alone -/
def pi (q : Nat) : Bool := match q with
  | 4 => true | 6 => true | 7 => true | 8 => true | 9 => true | 20 => true | _ => false
theorem pi_ne {q k : Nat} (h : pi q = false) (hk : pi k = true) : q ≠ k := fun e => by rw [e, hk] at h; exact nomatch h
theorem fcp_i (S : MS) (f q : Nat) : ∀ n, (f_fcp S f n).i q = S.i q
  | 0 => rfl
  | n + 1 => by rw [f_fcp, MS.sa_i, fcp_i S f q n]
theorem one_pi {S : MS} {q : Nat} (h : pi q = false) : (f_one S).i q = S.i q := by
  have h0 : (f_find0 S).i q = S.i q := f_find0_i _ (pi_ne h rfl) (pi_ne h rfl) (pi_ne h rfl) (pi_ne h rfl) (pi_ne h rfl)
  unfold f_one
  split
  · unfold f_find
    split
    · rw [MS.si_i, if_neg (pi_ne h rfl), fcp_i, h0]
    · exact h0
  · rfl
theorem PRk_pi {g : MS → Option MS} {n q : Nat} (hg : ∀ S S', g S = some S' → S'.i q = S.i q) : ∀ (c v : Nat) (S S' : MS), PRk g n c v S = some S' → S'.i q = S.i q
  | 0, v, S, S', h => by
    have h := Option.some.inj h
    subst h
    rw [part_i, MS.sa_i]
  | c + 1, v, S, S', h => by
    rw [PRk] at h
    obtain ⟨S1, h1, h2⟩ := Option.bind_eq_some_iff.mp h
    rw [PRk_pi hg c (v + 1) S1 S' h2, hg _ _ h1, part_i, MS.sa_i]
theorem PRo_pi {q : Nat} (hq : pi q = false) : ∀ (d n : Nat) (S S' : MS), PRo d n S = some S' → S'.i q = S.i q
  | 0, _, _, _, h => nomatch h
  | d + 1, n, S, S', h => by
    rw [PRo] at h
    have e : (f_putM S).i q = S.i q := f_putM_i _ (pi_ne hq rfl) (pi_ne hq rfl) (pi_ne hq rfl) (pi_ne hq rfl) (pi_ne hq rfl)
    split at h
    · split at h
      · rw [PRk_pi (fun A B hAB => PRo_pi hq d (n + 1) A B hAB) _ _ _ _ h, e]
      · exact nomatch h
    · split at h
      · have h := Option.some.inj h
        subst h
        rw [one_pi hq, e]
      · exact nomatch h
/-- arrays that the search leaves alone -/
def pz (q : Nat) : Bool := bz q || (match q with
  | 3 => true | 19 => true | 21 => true | 22 => true | _ => false)
theorem pz_ne {q k : Nat} (h : pz q = false) (hk : pz k = true) : q ≠ k := fun e => by rw [e, hk] at h; exact nomatch h
theorem pz_bz {q : Nat} (h : pz q = false) : bz q = false := (Bool.or_eq_false_iff.mp h).1
theorem PRk_pz {g : MS → Option MS} {n q j : Nat} (hq : pz q = false) (hg : ∀ S S', g S = some S' → S'.a q j = S.a q j) : ∀ (c v : Nat) (S S' : MS), PRk g n c v S = some S' → S'.a q j = S.a q j
  | 0, v, S, S', h => by
    have h := Option.some.inj h
    subst h
    rw [part_ne (pz_ne hq rfl), sa_ne (pz_ne hq rfl)]
  | c + 1, v, S, S', h => by
    rw [PRk] at h
    obtain ⟨S1, h1, h2⟩ := Option.bind_eq_some_iff.mp h
    rw [PRk_pz hq hg c (v + 1) S1 S' h2, hg _ _ h1, part_ne (pz_ne hq rfl), sa_ne (pz_ne hq rfl)]
theorem PRo_pz {q j : Nat} (hq : pz q = false) : ∀ (d n : Nat) (S S' : MS), PRo d n S = some S' → S'.a q j = S.a q j
  | 0, _, _, _, h => nomatch h
  | d + 1, n, S, S', h => by
    rw [PRo] at h
    have e : (f_putM S).a q j = S.a q j := putM_bz (pz_bz hq) (pz_ne hq rfl)
    split at h
    · split at h
      · rw [PRk_pz hq (fun A B hAB => PRo_pz hq d (n + 1) A B hAB) _ _ _ _ h, e]
      · exact nomatch h
    · split at h
      · have h := Option.some.inj h
        subst h
        rw [one_bz (pz_bz hq) (pz_ne hq rfl) (pz_ne hq rfl), e]
      · exact nomatch h
/-- all that holds of the model between two calls -/
def MG (S : MS) : Prop := MI S ∧ DS S ∧ (∃ n, S.i 2 = nI n ∧ n ≤ 300) ∧ ∃ f, S.i 20 = nI f ∧ f ≤ 12
theorem MG.mi {S : MS} (h : MG S) : MI S := h.1
theorem MG.ds {S : MS} (h : MG S) : DS S := h.2.1
theorem MG.buf {S : MS} (h : MG S) : ∃ n, S.i 2 = nI n ∧ n ≤ 300 := h.2.2.1
theorem MG.fnd {S : MS} (h : MG S) : ∃ f, S.i 20 = nI f ∧ f ≤ 12 := h.2.2.2
theorem MG.search {S : MS} (h : MG S) : MG (f_search S) := by
  obtain ⟨S', e, b, a, s, p, f', q1, q2, q3⟩ := search_ok h.mi.1 h.mi.2.1 h.ds
  have cl := cntM_le (f_sr0 S) 12
  rw [search_eq e]
  have hi : ∀ q, pi q = false → q ≠ 0 → S'.i q = S.i q := fun q hq h0 => by
    rw [PRo_pi hq _ _ _ _ e]
    unfold f_sr0
    rw [ff_i, MS.si_i, if_neg (pi_ne hq rfl), MS.si_i, if_neg h0]
  obtain ⟨n, n1, n2⟩ := h.buf
  exact ⟨⟨b, a, h.mi.2.2.same (hi 23 rfl (by decide)) (hi 34 rfl (by decide))⟩, (h.ds.sm (sr0_sm S)).sm s, ⟨n, (hi 2 rfl (by decide)).trans n1, n2⟩, ⟨f', q1, by omega⟩⟩
section SE
variable {w : Wd} {M : MW} {S : MS}
theorem g_search (hW : Wm w M) (h : MG S) : TF w M yX7_search cX7_search 3 (some .int) 6 [] S (some (.int ((f_search S).i 20))) (f_search S) := by
  obtain ⟨S', e, -⟩ := search_ok h.mi.1 h.mi.2.1 h.ds
  obtain ⟨t, ht⟩ := sr_all e
  rw [search_eq e]
  exact s_search hW h.mi.2.1 t S' ht
end SE
end
