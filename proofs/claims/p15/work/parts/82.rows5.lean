/-! The law's own methods, over a new MeterBus. -/
section Rows
variable {z : Fx} {own : String} {cc : ByteArray} {kc ks pc : Nat} {L : List (Option Value)} {st : List Value} {w : Wd} {c : Nat → ClassId} {h : PH} {fr lo : Nat}
theorem Cty.of (hW : Wc w c) (E : Cs z w fr lo) : Cty z c := by
  obtain ⟨q1, q2, q3, q4, q5, -⟩ := E
  obtain ⟨r1, r3, r4, r5, r6⟩ := hW
  exact ⟨by rw [q3]; exact r3, by rw [q4]; exact r4, by rw [q4]; exact r5, by rw [q4]; exact r6⟩
theorem e_lst (C : Cx z own cc gw) (Y : Cty z c) (d : decode cc pc = .ok (.lastore, 1)) {a n : Nat} {f : Nat → Int64} {i : Int32} {x : Int64} (g : h a = some (.inl (c 1, n, .inr (.inl f)))) (gi : vp_in i n)
    (kk : X z kc ks (EQ (hs h a (.inl (c 1, n, .inr (.inl (vp_updL f i.toNatClampNeg x)))))) (pc + 1) L st) : X z kc ks (EQ h) pc L (.long x :: .int i :: .ref a :: st) := by
  obtain ⟨t, ht⟩ := Y.2.2.1
  exact x_last C ht d (fun q e => by rw [e]; exact g) gi (fun q e => by rw [e]) kk
end Rows
section Law
variable {w : Wd} {c : Nat → ClassId} {a : Nat → Nat} {h : PH} {o : Nat} {f0 : Nat → Int64}
/-- the law's own long[1] at o -/
abbrev OU (c : Nat → ClassId) (o : Nat) (f0 : Nat → Int64) (h : PH) : Prop := h o = some (.inl (c 1, 1, .inr (.inl f0)))
end Law
