/-! MeterBusModel: what its arrays hold are bytes. -/
def byt (x : Int32) : Prop := ∃ b : Nat, b < 256 ∧ x = nI b
def bk (k : Nat) : Bool := match k with
  | 1 => true | 3 => true | 5 => true | 11 => true | 12 => true | 16 => true | 18 => true | 19 => true | 21 => true | 35 => true | 38 => true | _ => false
def WFb (S : MS) : Prop := ∀ k j, bk k = true → byt (S.a k j)
theorem byt_n {b : Nat} (h : b < 256) : byt (nI b) := ⟨b, h, rfl⟩
theorem byt_and (x : Int32) : byt (x &&& 255) := by
  obtain ⟨j, h1, h2⟩ := pk_andE x (m := 255) 8 rfl
  exact ⟨j, h1, h2⟩
theorem WFb.si {S : MS} {k : Nat} {v : Int32} (h : WFb S) : WFb (S.si k v) := h
theorem WFb.sw {S : MS} {k j : Nat} {v : Int64} (h : WFb S) : WFb (S.sw k j v) := h
theorem WFb.sa {S : MS} {k j : Nat} {v : Int32} (h : WFb S) (hv : bk k = true → byt v) : WFb (S.sa k j v) := by
  intro q t hq
  rw [MS.sa_a]
  split
  · rename_i e; exact hv (e.1 ▸ hq)
  · exact h q t hq
theorem WFb.same {S S' : MS} (h : WFb S) (e : ∀ k j, bk k = true → S'.a k j = S.a k j) : WFb S' := fun k j hk => by rw [e k j hk]; exact h k j hk
theorem WFb.ack {S : MS} (h : WFb S) : WFb (f_ack S) := by
  unfold f_ack
  exact ((h.si).sa (fun _ => ⟨229, by decide, rfl⟩)).si
theorem WFb.forget {S : MS} {k : Nat} (h : WFb S) : WFb (f_forget S k) := by
  unfold f_forget
  exact (h.sa (fun q => absurd q (by decide))).sa (fun q => absurd q (by decide))
theorem WFb.sel {S : MS} {k : Nat} (h : WFb S) : WFb (f_sel S k) := by
  unfold f_sel
  split
  · exact (h.sa (fun q => absurd q (by decide))).ack
  · exact h.sa (fun q => absurd q (by decide))
theorem WFb.lng {S : MS} {k : Nat} (h : WFb S) : WFb (f_long S k) := by
  unfold f_long
  split
  · exact h.forget.ack
  · split
    · exact (h.sa (fun _ => h 3 9 rfl)).ack
    · exact h
theorem WFb.ans {S : MS} {l : List Int32} (h : WFb S) (hl : ∀ x ∈ l, byt x) : WFb (S.ans l) := by
  intro k j hk
  rw [MS.ans_a]
  split
  · rename_i e
    rw [List.getD_eq_getElem?_getD, List.getElem?_eq_getElem e.2]
    exact hl _ (List.getElem_mem e.2)
  · exact h k j hk
theorem seg_byt {S : MS} (h : WFb S) {q o n : Nat} (hq : bk q = true) : ∀ x ∈ S.seg q o n, byt x := by
  intro x hx
  unfold MS.seg at hx
  obtain ⟨j, -, rfl⟩ := List.mem_map.mp hx
  exact h q (o + j) hq
theorem f_tel_byt {S : MS} (h : WFb S) {k p N : Nat} (hN : N ≤ 60) : ∀ x ∈ f_tel S k p N, byt x := by
  have hl : byt (nI (15 + N + if f_more S k p then 1 else 0)) := byt_n (by split <;> omega)
  have hb : ∀ x ∈ f_body S k p N, byt x := by
    intro x hx
    unfold f_body at hx
    simp only [List.mem_append] at hx
    rcases hx with (((hx | hx) | hx) | hx) | hx
    · simp only [List.mem_cons, List.not_mem_nil, or_false] at hx
      rcases hx with rfl | rfl | rfl | rfl | rfl | rfl | rfl
      · exact ⟨104, by decide, rfl⟩
      · exact hl
      · exact hl
      · exact ⟨104, by decide, rfl⟩
      · exact ⟨8, by decide, rfl⟩
      · exact h 11 k rfl
      · exact ⟨114, by decide, rfl⟩
    · exact seg_byt h rfl x hx
    · simp only [List.mem_cons, List.not_mem_nil, or_false] at hx
      rcases hx with rfl | rfl | rfl | rfl
      · exact h 16 k rfl
      · exact ⟨0, by decide, rfl⟩
      · exact ⟨0, by decide, rfl⟩
      · exact ⟨0, by decide, rfl⟩
    · exact seg_byt h rfl x hx
    · split at hx
      · simp only [List.mem_cons, List.not_mem_nil, or_false] at hx
        subst hx
        exact ⟨31, by decide, rfl⟩
      · exact absurd hx List.not_mem_nil
  intro x hx
  unfold f_tel at hx
  simp only [List.mem_append, List.mem_cons, List.not_mem_nil, or_false] at hx
  rcases hx with (hx | hx) | hx
  · exact hb x hx
  · subst hx; exact byt_and _
  · subst hx; exact ⟨22, by decide, rfl⟩
theorem WFb.asked {S : MS} {k : Nat} {bit : Int32} (h : WFb S) (hm : WFm S k) : WFb (f_asked S k bit) := by
  unfold f_asked
  exact ((((h.ans (f_tel_byt h (hm.N (f_p_lt S k bit)).1)).sa (fun q => absurd q (by decide))).sa (fun q => absurd q (by decide))).sa (fun _ => byt_and _)).si
theorem WFb.step {S : MS} {isS sel : Bool} {c a : Int32} {k : Nat} (h : WFb S) (hm : WFm S k) : WFb (f_step S isS sel c a k) := by
  unfold f_step f_does
  split
  · split
    · exact h.sel
    · split
      · unfold f_short
        split
        · exact (h.forget.sa (fun q => absurd q (by decide))).ack
        · split
          · exact h.asked hm
          · exact h
      · split
        · exact h.lng
        · exact h
  · exact h
theorem WFb.run {S : MS} {isS sel : Bool} {c a : Int32} (h : WFb S) (hm : WFa S) : ∀ n, n ≤ 12 → WFb (f_run S isS sel c a n)
  | 0, _ => h
  | n + 1, hn => (WFb.run h hm n (by omega)).step (hm.run n n (by omega))
theorem WFb.fin {S : MS} {a : Int32} (h : WFb S) : WFb (f_end S a) := h
theorem WFb.bg {S : MS} (h : WFb S) : WFb (f_begin S) := h
theorem WFb.bus {S : MS} (h : WFb S) (hm : WFa S) (n : Nat) : WFb (f_bus S n) := by
  unfold f_bus
  split
  · exact (h.bg.run hm.bg 12 (Nat.le_refl _)).fin
  · split
    · exact (h.bg.run hm.bg 12 (Nat.le_refl _)).fin
    · exact h.bg
theorem WFb.putS {S : MS} {c : Int32} (h : WFb S) (hm : WFa S) (hc : byt c) : WFb (f_putS S c) := by
  unfold f_putS
  refine WFb.bus ?_ hm.putS0 5
  unfold f_putS0
  exact (((((h.sa (fun _ => ⟨16, by decide, rfl⟩)).sa (fun _ => hc)).sa (fun _ => ⟨253, by decide, rfl⟩)).sa (fun _ => byt_and _)).sa (fun _ => ⟨22, by decide, rfl⟩)).si
theorem WFb.mcp {S : MS} (h : WFb S) : ∀ n, WFb (f_mcp S n)
  | 0 => h
  | n + 1 => (h.mcp n).sa (fun _ => h 19 n rfl)
theorem WFb.putM {S : MS} (h : WFb S) (hm : WFa S) : WFb (f_putM S) := by
  unfold f_putM
  refine WFb.bus ?_ hm.putM0 17
  unfold f_putM0
  have h0 : WFb (f_mhd S) := by
    unfold f_mhd
    exact ((((((h.sa (fun _ => ⟨104, by decide, rfl⟩)).sa (fun _ => ⟨11, by decide, rfl⟩)).sa (fun _ => ⟨11, by decide, rfl⟩)).sa (fun _ => ⟨104, by decide, rfl⟩)).sa (fun _ => ⟨83, by decide, rfl⟩)).sa (fun _ => ⟨253, by decide, rfl⟩)).sa (fun _ => ⟨82, by decide, rfl⟩)
  exact (((h0.mcp 8).sa (fun _ => byt_and _)).sa (fun _ => ⟨22, by decide, rfl⟩)).si
theorem WFb.cp {S : MS} {q r : Nat} (h : WFb S) (hr : bk r = true) : ∀ n, WFb (f_cp S q r n)
  | 0 => h
  | n + 1 => (h.cp hr n).sa (fun _ => h r n hr)
theorem WFb.d {S : MS} (h : WFb S) : WFd S := fun j _ => h 38 j rfl
