/-! A row for arrays of int arrays. -/
section Rows
variable {z : Fx} {own : String} {cc : ByteArray} {Ts : List Cond} {kc ks pc : Nat} {A : PH → Prop} {L : List (Option Value)} {st : List Value} {h : PH}
theorem x_aald2 (C : Cx z own cc Ts) {t0 : Nat} {cA : ClassId} (ht : z.tys[t0]? = some (cA, .array .int)) (d : decode cc pc = .ok (.aaload, 1)) {a n : Nat} {f : Nat → Option Nat} {i : Int32} (g : ∀ h, A h → h a = some (.inl (cA, n, .inr (.inr (.inr (.inr f)))))) (gi : vp_in i n)
    (kk : X z kc ks A (pc + 1) L (va_rf (f i.toNatClampNeg) :: st)) : X z kc ks A pc L (.int i :: .ref a :: st) := by
  intro H locs ls cells slots ⟨h, hA, LP, f0, q1, q2, q3⟩ hS hl c1 c2
  obtain ⟨q0, hq0⟩ := hp_get (D := z.D) (cl := z.cl) (base := z.base) (H := H) q1 (g h hA)
  have hlt : i.toNatClampNeg < n := Nat.not_le.mp fun q => gi (Or.inr q)
  exact W.aald (v := va_rf (f i.toNatClampNeg)) (ty := .array .int) C.x C.b (q2 q0 _ hq0) ((C.K.2 t0 _ ht).1 n (fun j => va_rf (f j))) rfl (fun q => by cases q) (by show ¬ (i < 0 ∨ (arrV _ _ _).slots.size ≤ _); rw [arrV_size]; exact gi) (by show (arrV _ _ _).slots[_]? = _; rw [arrV_read _ _ hlt]) rfl rfl d (kk H locs ls cells slots ⟨h, hA, LP, f0, q1, q2, q3⟩ hS hl c1 c2)
theorem e_ald2 (C : Cx z own cc gw) {t0 : Nat} {cA : ClassId} (ht : z.tys[t0]? = some (cA, .array .int)) (d : decode cc pc = .ok (.aaload, 1)) {a n b j : Nat} {f : Nat → Option Nat} {i : Int32} (g : h a = some (.inl (cA, n, .inr (.inr (.inr (.inr f)))))) (hi : i = nI j) (hj : j < n) (hn : n < 2 ^ 31) (hb : f j = some b)
    (kk : X z kc ks (EQ h) (pc + 1) L (.ref b :: st)) : X z kc ks (EQ h) pc L (.int i :: .ref a :: st) := by
  subst hi
  refine x_aald2 C ht d (fun q e => by rw [e]; exact g) (vp_in_nI hj hn) ?_
  rw [nI_clamp (by omega), hb]
  exact kk
end Rows
