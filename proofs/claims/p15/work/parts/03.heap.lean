/-! Rows of X for fields, arrays, new things. By program (wip/mkheap.py). -/
section Rows
variable {z : Fx} {own : String} {cc : ByteArray} {Ts : List Cond} {kc ks pc : Nat} {A B : PH → Prop} {L : List (Option Value)} {st : List Value}
theorem hp_get {D : va_G} {cl : List vw_C} {base : Nat} {h : PH} {H : Heap} {LP : List Nat} {f : Nat → va_E} {a : Nat} {e : va_E} (q1 : ∀ a e, h a = some e → a ∈ LP ∧ f a = e) (g : h a = some e) : ∃ k : Nat, (va_pl LP f)[k]? = some (a, e) := by
  obtain ⟨g1, g2⟩ := q1 a e g
  subst g2
  exact va_pl_get (X := []) g1
theorem hp_set {D : va_G} {cl : List vw_C} {base : Nat} {h : PH} {H1 : Heap} {LP : List Nat} {f : Nat → va_E} {a k : Nat} {e e1 : va_E} (q1 : ∀ a e, h a = some e → a ∈ LP ∧ f a = e) (q3 : va_D (fun q : Nat => base ≤ q) (va_pl LP f)) (g : h a = some e) (hk : (va_pl LP f)[k]? = some (a, e)) (hP : va_P D cl ((va_pl LP f).set k (a, e1)) H1) : hp_in D cl base (hs h a e1) H1 := by
  obtain ⟨g1, g2⟩ := q1 a e g
  have hk2 : ([] ++ va_pl LP f)[k]? = some (a, f a) := by rw [g2]; exact hk
  have e2 := va_pl_set (X := []) (e := e1) q3 g1 hk2
  refine ⟨LP, va_up f a e1, fun b eb gb => ?_, by have := hP; rw [show (va_pl LP f).set k (a, e1) = va_pl LP (va_up f a e1) from e2] at this; exact this, ?_⟩
  · by_cases hb : b = a
    · subst hb
      rw [hs_self] at gb
      exact ⟨g1, by rw [va_up_self]; exact Option.some.inj gb⟩
    · rw [hs_ne hb] at gb
      exact ⟨(q1 b eb gb).1, by rw [va_up_ne _ _ hb]; exact (q1 b eb gb).2⟩
  · have := va_D.set (e := e1) q3 hk
    rw [show (va_pl LP f).set k (a, e1) = va_pl LP (va_up f a e1) from e2] at this
    exact this
theorem hp_new {D : va_G} {cl : List vw_C} {base : Nat} {h : PH} {H1 : Heap} {LP : List Nat} {f : Nat → va_E} {q : Nat} {e1 : va_E} (q1 : ∀ a e, h a = some e → a ∈ LP ∧ f a = e) (hP : va_P D cl (va_pl LP f ++ [(q, e1)]) H1) (hD : va_D (fun q : Nat => base ≤ q) (va_pl LP f ++ [(q, e1)])) : h q = none ∧ hp_in D cl base (hs h q e1) H1 := by
  have hq : q ∉ LP := by
    intro hq
    obtain ⟨k, hk⟩ := va_pl_get (X := []) (f := f) hq
    have hk : (va_pl LP f)[k]? = some (q, f q) := hk
    have hl := (List.getElem?_eq_some_iff.mp hk).1
    have := hD.1 k (va_pl LP f).length (q, f q) (q, e1) (by rw [List.getElem?_append_left hl]; exact hk) (by rw [List.getElem?_append_right (Nat.le_refl _), Nat.sub_self]; rfl) rfl
    omega
  refine ⟨?_, LP ++ [q], va_up f q e1, fun b eb gb => ?_, by rw [← va_pl_push hq]; exact hP, by rw [← va_pl_push hq]; exact hD⟩
  · cases hh : h q with
    | none => rfl
    | some e => exact absurd (q1 q e hh).1 hq
  · by_cases hb : b = q
    · subst hb
      rw [hs_self] at gb
      exact ⟨List.mem_append_right _ (List.mem_singleton.mpr rfl), by rw [va_up_self]; exact Option.some.inj gb⟩
    · rw [hs_ne hb] at gb
      exact ⟨List.mem_append_left _ (q1 b eb gb).1, by rw [va_up_ne _ _ hb]; exact (q1 b eb gb).2⟩
/-- what the tables say of a class ci: its place, its words, its types, its names -/
def Kd (cl : List vw_C) (Ts : List Cond) (ci : Nat) (C : String) (T : u_T) (N : Nat) (ty : Nat → FieldType) : Prop := cl[ci]? = some (C, T, N) ∧ (∀ w ∈ u_ws C T N, w ∈ Ts) ∧ (∀ k, k < N → parseFieldDescriptor (T k).2.2.1 = some (ty k)) ∧ (∀ a, a < N → ∀ b, b < N → a ≠ b → (T a).2.1 ≠ (T b).2.1)
theorem x_get (C : Cx z own cc Ts) {Cn : String} {T : u_T} {N ci index : Nat} {ty : Nat → FieldType} (kd : Kd z.cl Ts ci Cn T N ty) (k : Nat) (hk : k < N) (w : Cond.fieldLink own index (T k).1 (T k).2.1 (T k).2.2.1 ∈ Ts) (d : decode cc pc = .ok (.getfield index, 3)) {a : Nat} {fs : List Value} {v : Value} (g : ∀ h, A h → h a = some (.inr (ci, fs))) (gv : fs[k]? = some v)
    (kk : X z kc ks A (pc + 3) L (v :: st)) : X z kc ks A pc L (.ref a :: st) := by
  intro H locs ls cells slots ⟨h, hA, LP, f, q1, q2, q3⟩ hS hl c1 c2
  obtain ⟨q0, hq0⟩ := hp_get (D := z.D) (cl := z.cl) (base := z.base) (H := H) q1 (g h hA)
  exact va_get C.x C.b C.ts kd.2.1 C.ow C.K q2 q0 hq0 kd.1 k hk (C.ts _ w) (fun _ h9 => h9) gv d (kk H locs ls cells slots ⟨h, hA, LP, f, q1, q2, q3⟩ hS hl c1 c2)
theorem x_put (C : Cx z own cc Ts) {Cn : String} {T : u_T} {N ci index : Nat} {ty : Nat → FieldType} (kd : Kd z.cl Ts ci Cn T N ty) (k : Nat) (hk : k < N) (hfin : (T k).2.2.2 = false) (w : Cond.fieldLink own index (T k).1 (T k).2.1 (T k).2.2.1 ∈ Ts) (d : decode cc pc = .ok (.putfield index, 3)) {a : Nat} {fs : List Value} {v : Value} (g : ∀ h, A h → h a = some (.inr (ci, fs))) (gl : k < fs.length) (hn : narrow (ty k) v = v) (hf : fits (ty k) v = true)
    (g' : ∀ h, A h → B (hs h a (.inr (ci, fs.set k v)))) (kk : X z kc ks B (pc + 3) L st) : X z kc ks A pc L (v :: .ref a :: st) := by
  intro H locs ls cells slots ⟨h, hA, LP, f, q1, q2, q3⟩ hS hl c1 c2
  obtain ⟨q0, hq0⟩ := hp_get (D := z.D) (cl := z.cl) (base := z.base) (H := H) q1 (g h hA)
  exact va_put C.x C.b C.ts kd.2.1 ty kd.2.2.1 kd.2.2.2 C.ow C.K q2 q3 hS q0 hq0 kd.1 k hk (C.ts _ w) (fun _ h9 => h9) hfin (kd.2.2.1 k hk) hn hf gl d (fun H1 locs1 hP1 hD1 hS1 => kk H1 locs1 ls cells slots ⟨_, g' h hA, hp_set q1 q3 (g h hA) hq0 hP1⟩ hS1 hl c1 c2)
theorem x_putF (C : Cx z own cc Ts) (hin : z.meth.name = "<init>") {Cn : String} {T : u_T} {N ci index : Nat} {ty : Nat → FieldType} (kd : Kd z.cl Ts ci Cn T N ty) (k : Nat) (hk : k < N) (hfin : (T k).2.2.2 = true) (hown : (T k).1 = own) (w : Cond.fieldLink own index (T k).1 (T k).2.1 (T k).2.2.1 ∈ Ts) (d : decode cc pc = .ok (.putfield index, 3)) {a : Nat} {fs : List Value} {v : Value} (g : ∀ h, A h → h a = some (.inr (ci, fs))) (gl : k < fs.length) (hn : narrow (ty k) v = v) (hf : fits (ty k) v = true)
    (g' : ∀ h, A h → B (hs h a (.inr (ci, fs.set k v)))) (kk : X z kc ks B (pc + 3) L st) : X z kc ks A pc L (v :: .ref a :: st) := by
  intro H locs ls cells slots ⟨h, hA, LP, f, q1, q2, q3⟩ hS hl c1 c2
  obtain ⟨q0, hq0⟩ := hp_get (D := z.D) (cl := z.cl) (base := z.base) (H := H) q1 (g h hA)
  exact va_putF C.x C.b C.ts kd.2.1 ty kd.2.2.1 kd.2.2.2 C.ow C.K q2 q3 hS q0 hq0 kd.1 k hk (C.ts _ w) (fun _ h9 => h9) hfin hin hown (kd.2.2.1 k hk) hn hf gl d (fun H1 locs1 hP1 hD1 hS1 => kk H1 locs1 ls cells slots ⟨_, g' h hA, hp_set q1 q3 (g h hA) hq0 hP1⟩ hS1 hl c1 c2)
theorem x_iald (C : Cx z own cc Ts) {t0 : Nat} {cA : ClassId} (ht : z.tys[t0]? = some (cA, .int)) (d : decode cc pc = .ok (.iaload, 1)) {a n : Nat} {f : Nat → Int32} {i : Int32} (g : ∀ h, A h → h a = some (.inl (cA, n, .inl f))) (gi : vp_in i n)
    (kk : X z kc ks A (pc + 1) L (.int (f i.toNatClampNeg) :: st)) : X z kc ks A pc L (.int i :: .ref a :: st) := by
  intro H locs ls cells slots ⟨h, hA, LP, f0, q1, q2, q3⟩ hS hl c1 c2
  obtain ⟨q0, hq0⟩ := hp_get (D := z.D) (cl := z.cl) (base := z.base) (H := H) q1 (g h hA)
  exact va_iald C.x C.b C.K q2 q0 t0 hq0 ht gi d (kk H locs ls cells slots ⟨h, hA, LP, f0, q1, q2, q3⟩ hS hl c1 c2)
theorem x_zald (C : Cx z own cc Ts) {t0 : Nat} {cA : ClassId} (ht : z.tys[t0]? = some (cA, .boolean)) (d : decode cc pc = .ok (.baload, 1)) {a n : Nat} {f : Nat → Int32} {i : Int32} (g : ∀ h, A h → h a = some (.inl (cA, n, .inl f))) (gi : vp_in i n)
    (kk : X z kc ks A (pc + 1) L (.int (f i.toNatClampNeg) :: st)) : X z kc ks A pc L (.int i :: .ref a :: st) := by
  intro H locs ls cells slots ⟨h, hA, LP, f0, q1, q2, q3⟩ hS hl c1 c2
  obtain ⟨q0, hq0⟩ := hp_get (D := z.D) (cl := z.cl) (base := z.base) (H := H) q1 (g h hA)
  exact va_zald C.x C.b C.K q2 q0 t0 hq0 ht gi d (kk H locs ls cells slots ⟨h, hA, LP, f0, q1, q2, q3⟩ hS hl c1 c2)
theorem x_lald (C : Cx z own cc Ts) {t0 : Nat} {cA : ClassId} (ht : z.tys[t0]? = some (cA, .long)) (d : decode cc pc = .ok (.laload, 1)) {a n : Nat} {f : Nat → Int64} {i : Int32} (g : ∀ h, A h → h a = some (.inl (cA, n, .inr (.inl f)))) (gi : vp_in i n)
    (kk : X z kc ks A (pc + 1) L (.long (f i.toNatClampNeg) :: st)) : X z kc ks A pc L (.int i :: .ref a :: st) := by
  intro H locs ls cells slots ⟨h, hA, LP, f0, q1, q2, q3⟩ hS hl c1 c2
  obtain ⟨q0, hq0⟩ := hp_get (D := z.D) (cl := z.cl) (base := z.base) (H := H) q1 (g h hA)
  exact va_lald C.x C.b C.K q2 q0 t0 hq0 ht gi d (kk H locs ls cells slots ⟨h, hA, LP, f0, q1, q2, q3⟩ hS hl c1 c2)
theorem x_aald (C : Cx z own cc Ts) {t0 : Nat} {cA : ClassId} {Cn : String} (ht : z.tys[t0]? = some (cA, .object Cn)) (d : decode cc pc = .ok (.aaload, 1)) {a n : Nat} {f : Nat → Option Nat} {i : Int32} (g : ∀ h, A h → h a = some (.inl (cA, n, .inr (.inr (.inr (.inr f)))))) (gi : vp_in i n)
    (kk : X z kc ks A (pc + 1) L (va_rf (f i.toNatClampNeg) :: st)) : X z kc ks A pc L (.int i :: .ref a :: st) := by
  intro H locs ls cells slots ⟨h, hA, LP, f0, q1, q2, q3⟩ hS hl c1 c2
  obtain ⟨q0, hq0⟩ := hp_get (D := z.D) (cl := z.cl) (base := z.base) (H := H) q1 (g h hA)
  exact va_aldq C.x C.b C.K q2 q0 t0 hq0 ht gi d (kk H locs ls cells slots ⟨h, hA, LP, f0, q1, q2, q3⟩ hS hl c1 c2)
theorem x_alen (C : Cx z own cc Ts) {t0 : Nat} {cA : ClassId} {ty : FieldType} (ht : z.tys[t0]? = some (cA, ty)) (d : decode cc pc = .ok (.arraylength, 1)) {a : Nat} {x : vp_A} {v : Int32} (g : ∀ h, A h → h a = some (.inl (cA, x))) (hv : Int32.ofNat x.1 = v)
    (kk : X z kc ks A (pc + 1) L (.int v :: st)) : X z kc ks A pc L (.ref a :: st) := by
  intro H locs ls cells slots ⟨h, hA, LP, f0, q1, q2, q3⟩ hS hl c1 c2
  obtain ⟨q0, hq0⟩ := hp_get (D := z.D) (cl := z.cl) (base := z.base) (H := H) q1 (g h hA)
  exact va_alen C.x C.b C.K q2 q0 t0 hq0 ht hv d (kk H locs ls cells slots ⟨h, hA, LP, f0, q1, q2, q3⟩ hS hl c1 c2)
theorem x_iast (C : Cx z own cc Ts) {t0 : Nat} {cA : ClassId} (ht : z.tys[t0]? = some (cA, .int)) (d : decode cc pc = .ok (.iastore, 1)) {a n : Nat} {f : Nat → Int32} {i : Int32} {x : Int32} (g : ∀ h, A h → h a = some (.inl (cA, n, .inl f))) (gi : vp_in i n)
    (g' : ∀ h, A h → B (hs h a (.inl (cA, n, .inl (upd f i.toNatClampNeg x))))) (kk : X z kc ks B (pc + 1) L st) : X z kc ks A pc L (.int x :: .int i :: .ref a :: st) := by
  intro H locs ls cells slots ⟨h, hA, LP, f0, q1, q2, q3⟩ hS hl c1 c2
  obtain ⟨q0, hq0⟩ := hp_get (D := z.D) (cl := z.cl) (base := z.base) (H := H) q1 (g h hA)
  exact va_iast C.x C.b C.K q2 q3 hS q0 t0 hq0 ht gi d (fun H1 locs1 hP1 hD1 hS1 => kk H1 locs1 ls cells slots ⟨_, g' h hA, hp_set q1 q3 (g h hA) hq0 hP1⟩ hS1 hl c1 c2)
theorem x_zast (C : Cx z own cc Ts) {t0 : Nat} {cA : ClassId} (ht : z.tys[t0]? = some (cA, .boolean)) (d : decode cc pc = .ok (.bastore, 1)) {a n : Nat} {f : Nat → Int32} {i : Int32} {x : Int32} (g : ∀ h, A h → h a = some (.inl (cA, n, .inl f))) (gi : vp_in i n)
    (g' : ∀ h, A h → B (hs h a (.inl (cA, n, .inl (upd f i.toNatClampNeg (vp_nar .boolean x)))))) (kk : X z kc ks B (pc + 1) L st) : X z kc ks A pc L (.int x :: .int i :: .ref a :: st) := by
  intro H locs ls cells slots ⟨h, hA, LP, f0, q1, q2, q3⟩ hS hl c1 c2
  obtain ⟨q0, hq0⟩ := hp_get (D := z.D) (cl := z.cl) (base := z.base) (H := H) q1 (g h hA)
  exact va_zast C.x C.b C.K q2 q3 hS q0 t0 hq0 ht gi d (fun H1 locs1 hP1 hD1 hS1 => kk H1 locs1 ls cells slots ⟨_, g' h hA, hp_set q1 q3 (g h hA) hq0 hP1⟩ hS1 hl c1 c2)
theorem x_last (C : Cx z own cc Ts) {t0 : Nat} {cA : ClassId} (ht : z.tys[t0]? = some (cA, .long)) (d : decode cc pc = .ok (.lastore, 1)) {a n : Nat} {f : Nat → Int64} {i : Int32} {x : Int64} (g : ∀ h, A h → h a = some (.inl (cA, n, .inr (.inl f)))) (gi : vp_in i n)
    (g' : ∀ h, A h → B (hs h a (.inl (cA, n, .inr (.inl (vp_updL f i.toNatClampNeg x)))))) (kk : X z kc ks B (pc + 1) L st) : X z kc ks A pc L (.long x :: .int i :: .ref a :: st) := by
  intro H locs ls cells slots ⟨h, hA, LP, f0, q1, q2, q3⟩ hS hl c1 c2
  obtain ⟨q0, hq0⟩ := hp_get (D := z.D) (cl := z.cl) (base := z.base) (H := H) q1 (g h hA)
  exact va_last C.x C.b C.K q2 q3 hS q0 t0 hq0 ht gi d (fun H1 locs1 hP1 hD1 hS1 => kk H1 locs1 ls cells slots ⟨_, g' h hA, hp_set q1 q3 (g h hA) hq0 hP1⟩ hS1 hl c1 c2)
theorem x_aast (C : Cx z own cc Ts) {t0 ci : Nat} {cA : ClassId} {r : vw_C} (ht : z.tys[t0]? = some (cA, .object r.1)) (hc : z.cl[ci]? = some r) (d : decode cc pc = .ok (.aastore, 1)) {a n v : Nat} {vs : List Value} {f : Nat → Option Nat} {i : Int32} (g : ∀ h, A h → h a = some (.inl (cA, n, .inr (.inr (.inr (.inr f)))))) (gi : vp_in i n) (gv : ∀ h, A h → h v = some (.inr (ci, vs)))
    (g' : ∀ h, A h → B (hs h a (.inl (cA, n, .inr (.inr (.inr (.inr (va_up f i.toNatClampNeg (some v))))))))) (kk : X z kc ks B (pc + 1) L st) : X z kc ks A pc L (.ref v :: .int i :: .ref a :: st) := by
  intro H locs ls cells slots ⟨h, hA, LP, f0, q1, q2, q3⟩ hS hl c1 c2
  obtain ⟨q0, hq0⟩ := hp_get (D := z.D) (cl := z.cl) (base := z.base) (H := H) q1 (g h hA)
  obtain ⟨qk, hqk⟩ := hp_get (D := z.D) (cl := z.cl) (base := z.base) (H := H) q1 (gv h hA)
  exact va_astq C.x C.b C.K q2 q3 hS q0 t0 qk ci hq0 ht hqk hc gi d (fun H1 locs1 hP1 hD1 hS1 => kk H1 locs1 ls cells slots ⟨_, g' h hA, hp_set q1 q3 (g h hA) hq0 hP1⟩ hS1 hl c1 c2)
theorem x_aastN (C : Cx z own cc Ts) {t0 : Nat} {cA : ClassId} {Cn : String} (ht : z.tys[t0]? = some (cA, .object Cn)) (d : decode cc pc = .ok (.aastore, 1)) {a n : Nat} {f : Nat → Option Nat} {i : Int32} (g : ∀ h, A h → h a = some (.inl (cA, n, .inr (.inr (.inr (.inr f)))))) (gi : vp_in i n)
    (g' : ∀ h, A h → B (hs h a (.inl (cA, n, .inr (.inr (.inr (.inr (va_up f i.toNatClampNeg none)))))))) (kk : X z kc ks B (pc + 1) L st) : X z kc ks A pc L (.null :: .int i :: .ref a :: st) := by
  intro H locs ls cells slots ⟨h, hA, LP, f0, q1, q2, q3⟩ hS hl c1 c2
  obtain ⟨q0, hq0⟩ := hp_get (D := z.D) (cl := z.cl) (base := z.base) (H := H) q1 (g h hA)
  exact va_astqN C.x C.b C.K q2 q3 hS q0 t0 hq0 ht gi d (fun H1 locs1 hP1 hD1 hS1 => kk H1 locs1 ls cells slots ⟨_, g' h hA, hp_set q1 q3 (g h hA) hq0 hP1⟩ hS1 hl c1 c2)
theorem x_new (C : Cx z own cc Ts) {Cn : String} {T : u_T} {N ci index : Nat} {ty : Nat → FieldType} (kd : Kd z.cl Ts ci Cn T N ty) (w1 : Cond.classLink own index Cn ∈ Ts) (w2 : Cond.instantiable Cn N ∈ Ts) (w3 : Cond.initialized Cn ∈ Ts) (d : decode cc pc = .ok (.new index, 3)) {fs : List Value} (hfs : ∀ j, j < N → defaultValue (ty j) = vp_V fs j)
    {Bq : Nat → PH → Prop} (g' : ∀ h q, A h → h q = none → Bq q (hs h q (.inr (ci, fs)))) (kk : ∀ q : Nat, X z kc ks (Bq q) (pc + 3) L (.ref q :: st)) : X z (kc + 1) (ks + N) A pc L st := by
  intro H locs ls cells slots ⟨h, hA, LP, f, q1, q2, q3⟩ hS hl c1 c2
  have r1 := C.rc
  have r2 := C.rs
  refine va_new C.x C.b C.ts kd.2.1 ty kd.2.2.1 C.ow (C.ts _ w1) (C.ts _ w2) (C.ts _ w3) C.K q2 q3 hS C.fr kd.1 hfs (by omega) (by omega) d (fun q H1 hP1 hD1 hS1 => ?_)
  obtain ⟨g1, g2⟩ := hp_new q1 hP1 hD1
  exact kk q H1 locs ls (cells + 1) (slots + N) ⟨_, g' h q hA g1, g2⟩ hS1 hl (by omega) (by omega)
theorem x_newi (C : Cx z own cc Ts) {t0 : Nat} {cA : ClassId} (ht : z.tys[t0]? = some (cA, .int)) (w : Cond.arrayClass .int ∈ Ts) (d : decode cc pc = .ok (.newarray .int, 2)) {n : Int32} {N : Nat} (hn : ¬ n < 0) (hN : n.toNatClampNeg = N) (hb : N * 8 ≤ 536870912)
    {Bq : Nat → PH → Prop} (g' : ∀ h q, A h → h q = none → Bq q (hs h q (.inl (cA, N, .inl (fun _ => 0))))) (kk : ∀ q : Nat, X z kc ks (Bq q) (pc + 2) L (.ref q :: st)) : X z (kc + 1) (ks + N) A pc L (.int n :: st) := by
  intro H locs ls cells slots ⟨h, hA, LP, f, q1, q2, q3⟩ hS hl c1 c2
  have r1 := C.rc
  have r2 := C.rs
  refine va_newa C.x C.b (atype := .int) (C.ts _ w) rfl C.K q2 q3 hS C.fr (N' := N) (a0 := (N, .inl (fun _ => 0))) (fun _ => rfl) hn hN (Nat.le_trans (Nat.mul_le_mul_left N (show componentBytes .int ≤ 8 by decide)) hb) (by omega) (by omega) d (fun q cB H1 hK1 hP1 hD1 hS1 => ?_)
  have e1 : cB = cA := by
    have a1 := (hK1.2 z.tys.length (cB, .int) (by rw [List.getElem?_append_right (Nat.le_refl _), Nat.sub_self]; rfl)).2
    have a2 := (C.K.2 t0 (cA, .int) ht).2
    exact Option.some.inj (a1.symm.trans a2)
  subst e1
  obtain ⟨g1, g2⟩ := hp_new q1 hP1 hD1
  exact kk q H1 locs ls (cells + 1) (slots + N) ⟨_, g' h q hA g1, g2⟩ hS1 hl (by omega) (by omega)
theorem x_newl (C : Cx z own cc Ts) {t0 : Nat} {cA : ClassId} (ht : z.tys[t0]? = some (cA, .long)) (w : Cond.arrayClass .long ∈ Ts) (d : decode cc pc = .ok (.newarray .long, 2)) {n : Int32} {N : Nat} (hn : ¬ n < 0) (hN : n.toNatClampNeg = N) (hb : N * 8 ≤ 536870912)
    {Bq : Nat → PH → Prop} (g' : ∀ h q, A h → h q = none → Bq q (hs h q (.inl (cA, N, .inr (.inl (fun _ => 0)))))) (kk : ∀ q : Nat, X z kc ks (Bq q) (pc + 2) L (.ref q :: st)) : X z (kc + 1) (ks + N) A pc L (.int n :: st) := by
  intro H locs ls cells slots ⟨h, hA, LP, f, q1, q2, q3⟩ hS hl c1 c2
  have r1 := C.rc
  have r2 := C.rs
  refine va_newa C.x C.b (atype := .long) (C.ts _ w) rfl C.K q2 q3 hS C.fr (N' := N) (a0 := (N, .inr (.inl (fun _ => 0)))) (fun _ => rfl) hn hN (Nat.le_trans (Nat.mul_le_mul_left N (show componentBytes .long ≤ 8 by decide)) hb) (by omega) (by omega) d (fun q cB H1 hK1 hP1 hD1 hS1 => ?_)
  have e1 : cB = cA := by
    have a1 := (hK1.2 z.tys.length (cB, .long) (by rw [List.getElem?_append_right (Nat.le_refl _), Nat.sub_self]; rfl)).2
    have a2 := (C.K.2 t0 (cA, .long) ht).2
    exact Option.some.inj (a1.symm.trans a2)
  subst e1
  obtain ⟨g1, g2⟩ := hp_new q1 hP1 hD1
  exact kk q H1 locs ls (cells + 1) (slots + N) ⟨_, g' h q hA g1, g2⟩ hS1 hl (by omega) (by omega)
theorem x_newz (C : Cx z own cc Ts) {t0 : Nat} {cA : ClassId} (ht : z.tys[t0]? = some (cA, .boolean)) (w : Cond.arrayClass .boolean ∈ Ts) (d : decode cc pc = .ok (.newarray .boolean, 2)) {n : Int32} {N : Nat} (hn : ¬ n < 0) (hN : n.toNatClampNeg = N) (hb : N * 8 ≤ 536870912)
    {Bq : Nat → PH → Prop} (g' : ∀ h q, A h → h q = none → Bq q (hs h q (.inl (cA, N, .inl (fun _ => 0))))) (kk : ∀ q : Nat, X z kc ks (Bq q) (pc + 2) L (.ref q :: st)) : X z (kc + 1) (ks + N) A pc L (.int n :: st) := by
  intro H locs ls cells slots ⟨h, hA, LP, f, q1, q2, q3⟩ hS hl c1 c2
  have r1 := C.rc
  have r2 := C.rs
  refine va_newa C.x C.b (atype := .boolean) (C.ts _ w) rfl C.K q2 q3 hS C.fr (N' := N) (a0 := (N, .inl (fun _ => 0))) (fun _ => rfl) hn hN (Nat.le_trans (Nat.mul_le_mul_left N (show componentBytes .boolean ≤ 8 by decide)) hb) (by omega) (by omega) d (fun q cB H1 hK1 hP1 hD1 hS1 => ?_)
  have e1 : cB = cA := by
    have a1 := (hK1.2 z.tys.length (cB, .boolean) (by rw [List.getElem?_append_right (Nat.le_refl _), Nat.sub_self]; rfl)).2
    have a2 := (C.K.2 t0 (cA, .boolean) ht).2
    exact Option.some.inj (a1.symm.trans a2)
  subst e1
  obtain ⟨g1, g2⟩ := hp_new q1 hP1 hD1
  exact kk q H1 locs ls (cells + 1) (slots + N) ⟨_, g' h q hA g1, g2⟩ hS1 hl (by omega) (by omega)
theorem x_newq (C : Cx z own cc Ts) {t0 index : Nat} {cA : ClassId} {Cn : String} (ht : z.tys[t0]? = some (cA, .object Cn)) (ho : va_AO Cn z.s) (w : Cond.classLink own index Cn ∈ Ts) (d : decode cc pc = .ok (.anewarray index, 3)) {n : Int32} {N : Nat} (hn : ¬ n < 0) (hN : n.toNatClampNeg = N) (hb : N * 4 ≤ 536870912)
    {Bq : Nat → PH → Prop} (g' : ∀ h q, A h → h q = none → Bq q (hs h q (.inl (cA, N, .inr (.inr (.inr (.inr (fun _ => none)))))))) (kk : ∀ q : Nat, X z kc ks (Bq q) (pc + 3) L (.ref q :: st)) : X z (kc + 1) (ks + N) A pc L (.int n :: st) := by
  intro H locs ls cells slots ⟨h, hA, LP, f, q1, q2, q3⟩ hS hl c1 c2
  have r1 := C.rc
  have r2 := C.rs
  refine va_newq C.x C.b C.ow (C.ts _ w) ho C.K q2 q3 hS C.fr hn hN hb (by omega) (by omega) d (fun q cB H1 hK1 hP1 hD1 hS1 => ?_)
  have e1 : cB = cA := by
    obtain ⟨_, _, _, _, _, a1⟩ := (hK1.2 z.tys.length (cB, .object Cn) (by rw [List.getElem?_append_right (Nat.le_refl _), Nat.sub_self]; rfl)).2
    obtain ⟨_, _, _, _, _, a2⟩ := (C.K.2 t0 (cA, .object Cn) ht).2
    exact Option.some.inj (a1.symm.trans a2)
  subst e1
  obtain ⟨g1, g2⟩ := hp_new q1 hP1 hD1
  exact kk q H1 locs ls (cells + 1) (slots + N) ⟨_, g' h q hA g1, g2⟩ hS1 hl (by omega) (by omega)
end Rows
