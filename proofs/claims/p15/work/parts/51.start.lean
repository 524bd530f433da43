/-! The new model keeps the invariant; record and text over it. -/
theorem MH.init : MH Z0 := by
  have a0 : ∀ q j, Z0.a q j = 0 := fun _ _ => rfl
  refine ⟨⟨⟨fun k j _ => ⟨0, by decide, rfl⟩, fun j _ => ⟨fun _ => ⟨0, by decide, rfl⟩, fun p _ => ⟨0, by decide, rfl⟩⟩, 0, 0, rfl, by decide, rfl, by decide⟩, fun j k _ _ h => absurd (a0 10 j) h, ⟨0, rfl, by decide⟩, ⟨0, rfl, by decide⟩⟩, ⟨0, rfl, by decide, fun j hj => absurd hj (Nat.not_lt_zero j)⟩, fun k => .inl rfl⟩
section GR
variable {w : Wd} {M : MW} {S : MS}
theorem MH.list (h : MH S) : ∃ r, S.i 23 = nI r ∧ r ≤ 100 ∧ QR S r := h.2.1
theorem g_record (hW : Wm w M) (h : MH S) (r j x nv : Nat) (hr : S.i 23 = nI r) (hr1 : r ≤ 100) (hj : j < r) (hv : S.a 30 j = nI nv) (hv1 : nv ≤ 11) (hx : x < 7 + nv) : TF w M yX7_record cX7_record 4 (some .long) 1 [.int (nI j), .int (nI x)] S (some (.long (f_record S j x))) (S.si 0 0) := s_record_t hW r j x nv hr hr1 hj hv hv1 hx
theorem g_remove (hW : Wm w M) (h : MH S) (k : Nat) (hk : k < 12) : TF w M yX7_remove cX7_remove 3 (some .boolean) 1 [.int (nI k)] S (some (.int (S.a 10 k))) ((S.si 0 0).sa 10 k 0) := by
  refine s_remove_t hW k hk ?_
  rcases h.2.2 k with e | e
  · rw [e]; rfl
  · rw [e]; rfl
theorem g_text (hW : Wm w M) (h : MH S) (r j t n : Nat) (hr : S.i 23 = nI r) (hr1 : r ≤ 100) (hj : j < r) (hv : S.a 33 j = nI n) (hn : n ≤ 300) (ht : t < n) : TF w M yX7_text cX7_text 4 (some .int) 1 [.int (nI j), .int (nI t)] S (some (.int (S.a 35 ((S.a 32 j).toNatClampNeg + t)))) (S.si 0 0) := by
  obtain ⟨r1, l1, l2, l3⟩ := h.list
  obtain rfl : r1 = r := (nI_eq (by omega) (by omega)).mp (l1.symm.trans hr)
  obtain ⟨-, n1, e1, e2, e3⟩ := l3 j hj
  obtain rfl : n1 = n := (nI_eq (by omega) (by omega)).mp (e1.symm.trans hv)
  obtain ⟨o, o1, o2⟩ := e3 (by omega)
  rw [o1, nI_clamp (by omega)]
  exact s_text_t hW r1 j t n1 o hr hr1 hj hv hn ht o1 o2
theorem g_decode (hW : Wm w M) (h : MH S) (n : Nat) (h2 : S.i 2 = nI n) (hn3 : n ≤ 300) : TF w M yX7_decode cX7_decode 2 (some .int) 5 [] S (some (.int (if 0 < (f_da1 (S.si 0 0) 1 n).i 41 then -(f_da1 (S.si 0 0) 1 n).i 41 else (f_decode S n).i 23))) (f_decode S n) := by
  obtain ⟨r, tx, a1, a2, a3, a4⟩ := h.1.mi.2.2
  exact s_decode hW n r tx h2 hn3 h.1.mi.1.d (fun j _ => h.1.mi.1 1 j rfl) a1 a2 a3 a4
theorem g_readOut (hW : Wm w M) (h : MH S) (k f : Nat) (hf0 : S.i 20 = nI f) (hk : k < f) (hf : f ≤ 12) : TF w M yX7_readOut cX7_readOut 4 (some .int) 5 [.int (nI k)] S (some (.int (f_readOut S k).1)) (f_readOut S k).2 := s_readOut hW h.1.mi k f hf0 hk (by omega)
end GR
