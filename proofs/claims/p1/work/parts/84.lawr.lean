/-! The law's body: rows, and what holds between a new MeterBus and a new model. -/
theorem cmp_self (x : Int64) : lg_cmp x x = 0 := by
  unfold lg_cmp
  simp
section Rows
variable {z : Fx} {kc ks pc : Nat} {A : PH → Prop} {L : List (Option Value)} {st : List Value} {w : Wd} {b Ln : Nat} {xs : Nat → Int32} {h : PH}
/-- the law's frame -/
def LZ (z : Fx) (b : Nat) : Prop := z.R = room_1 ∧ z.args = #[.ref b] ∧ z.base = z.s.heap.size ∧ z.nL = 8 ∧ z.mc = 600002 ∧ z.ms = 7302232 ∧ z.Q = lw_Z z.below #[.ref b] z.s ∧ z.meth.sig.returnType = ret ∧ z.meth.locks = false ∧ b < z.s.heap.size
theorem w_sld (C : Cx z RL code gw) (hz : LZ z b) (hX : va_X b Ln xs z.s z.s.heap) (d : decode code pc = .ok (.iaload, 1)) {i : Int32} (hin : vp_in i Ln) (kk : X z kc ks A (pc + 1) L (.int (xs i.toNatClampNeg) :: st)) : X z kc ks A pc L (.int i :: .ref b :: st) := by
  intro H locs ls cells slots hp hS hl c1 c2
  have h1 := hz.2.2.1
  have h2 := hz.2.2.2.2.2.2.2.2.2
  exact va_sld C.x C.b hX h2 (by show ¬ z.base ≤ b; omega) hS hin d (kk H locs ls cells slots hp hS hl c1 c2)
theorem w_slen (C : Cx z RL code gw) (hz : LZ z b) (hX : va_X b Ln xs z.s z.s.heap) (d : decode code pc = .ok (.arraylength, 1)) (kk : X z kc ks A (pc + 1) L (.int (nI Ln) :: st)) : X z kc ks A pc L (.ref b :: st) := by
  intro H locs ls cells slots hp hS hl c1 c2
  have h1 := hz.2.2.1
  have h2 := hz.2.2.2.2.2.2.2.2.2
  exact va_slen C.x C.b hX h2 (by show ¬ z.base ≤ b; omega) hS d (kk H locs ls cells slots hp hS hl c1 c2)
theorem w_ret (C : Cx z RL code gw) (hz : LZ z b) (d : decode code pc = .ok (.ireturn, 1)) : X z kc ks A pc L [.int 1] := by
  intro H locs ls cells slots hp hS hl c1 c2
  obtain ⟨h1, h2, h3, h4, h5, h6, h7, h8, h9, h10⟩ := hz
  refine va_forget (fun q hq => by have := hS.2.2 q hq; rw [h3] at this; exact this) ?_
  refine W.widen (k := 600002) (n := 7302232) (by omega) (by omega) ?_
  show W z.p z.l z.e z.R z.s z.m z.args z.below z.meth z.c H [] 600002 7302232 z.Q (F0 z.m pc ls [.int 1])
  rw [h1, h2, h7]
  exact lw_ret C.x C.b h8 h9 d
theorem w_callM (C : Cx z RL code gw) (E : Cs z w 2048 84000) (hcl : z.cl = vwCl) {M : MW} {S S' : MS} (hW : Wm w M) {y' : MethodName} {cc' : ByteArray} {n' np index lvl' : Nat} {rt' : Option FieldType} {As stk : List Value} {r : Option Value} (Mc : TF w M y' cc' n' rt' lvl' As S r S') (hy : y'.cls = RX7) (md : Md gw y' cc' n' rt' np) (wi : Cond.instanceMethod y' ∈ gw) (wse : Cond.selects y'.cls y' y' ∈ gw) (wl : Cond.methodLink RL index y' ∈ gw) (d : decode code pc = .ok (.invokevirtual index, 3)) (hn : As.length = np) (hf : lvl' < 50) (hlo : n' ≤ 21)
    (hst : stk = As.reverse ++ .ref M.o :: st) (hcat : (st.map fun v => v.category).sum ≤ 8)
    (k : X z kc ks (MA M S') (pc + 3) L (r.toList ++ st)) : X z kc ks (MA M S) pc L stk := by
  refine k_callV (mc' := 0) (ms' := 0) C E hW.1 gw_good Mc md wi wse wl d hn (by omega) (by omega) (fun h g => g.1) (by rw [hcl, hy]; rfl) hst hcat (fun q => ?_)
  refine X.pure (p := q = r) (fun _ g => by obtain ⟨S2, e, -⟩ := g; exact e.1) (fun e => ?_)
  subst e
  exact X.heap k (fun h g => by obtain ⟨S2, ⟨-, e⟩, g⟩ := g; subst e; exact g)
theorem w_lald (C : Cx z RL code gw) {c : Nat → ClassId} (Y : Cty z c) (d : decode code pc = .ok (.laload, 1)) {a n : Nat} {f : Nat → Int64} {i : Int32} (g : ∀ h, A h → h a = some (.inl (c 1, n, .inr (.inl f)))) (gi : vp_in i n)
    (kk : X z kc ks A (pc + 1) L (.long (f i.toNatClampNeg) :: st)) : X z kc ks A pc L (.int i :: .ref a :: st) := by
  obtain ⟨t, ht⟩ := Y.2.2.1
  exact x_lald C ht d g gi kk
end Rows
/-- a new MeterBus (places a), a new model (object o, arrays ad), the law's long[1] at u -/
def LI (c : Nat → ClassId) (a : Nat → Nat) (o : Nat) (ad : Nat → Nat) (u : Nat) (h : PH) : Prop :=
  FR c a h ∧ OU c u (fun _ => 0) h ∧ MA (c, o, ad, h) Z0 h ∧ MW.ok (c, o, ad, h) ∧ (∀ i, i < 11 → u ≠ a i ∧ o ≠ a i ∧ ∀ k, m_kd k ≠ 0 → ad k ≠ a i) ∧ u ≠ o ∧ ∀ k, m_kd k ≠ 0 → ad k ≠ u
section Inv
variable {c : Nat → ClassId} {a ad : Nat → Nat} {o u : Nat} {h g : PH} {w : Wd}
theorem LI.go (I : LI c a o ad u h) (hq : ∀ q, h q ≠ none → q ≠ u → (∀ i, i < 11 → q ≠ a i) → g q = h q) : MA (c, o, ad, g) Z0 g := by
  obtain ⟨I1, I2, I3, I4, I5, I6, I7⟩ := I
  have ho : h o = some (.inr (7, m_fs ad Z0)) := I3.1
  refine ⟨?_, fun k hk => ?_, fun q _ _ => rfl⟩
  · show g o = _
    rw [hq o (by rw [ho]; simp) (Ne.symm I6) (fun i hi => (I5 i hi).2.1)]
    exact ho
  · have hk2 : h (ad k) = some (m_cell c Z0 k) := I3.2.1 k hk
    show g (ad k) = _
    rw [hq (ad k) (by rw [hk2]; simp) (I7 k hk) (fun i hi => (I5 i hi).2.2 k hk)]
    exact hk2
theorem LI.out (I : LI c a o ad u h) {S : MS} {g' : PH} {f : Nat → Int64} (hu : g u = some (.inl (c 1, 1, .inr (.inl f)))) (m : MA (c, o, ad, g) S g') : g' u = some (.inl (c 1, 1, .inr (.inl f))) := by
  obtain ⟨I1, I2, I3, I4, I5, I6, I7⟩ := I
  rw [m.2.2 u I6 (fun k hk e => I7 k hk e.symm)]
  exact hu
theorem LI.wm (I : LI c a o ad u h) (hX : Wx w c) (g : PH) : Wm w (c, o, ad, g) := ⟨hX.1.1, I.2.2.2.1, hX.1.2.1, hX.1.2.2.1, hX.1.2.2.2.1, hX.1.2.2.2.2⟩
end Inv
/-! The new model's answers -/
theorem z_send : f_sendR Z0 0 = 0 := by decide +kernel
theorem z_dec : (f_da1 (Z0.si 0 0) 1 0).i 41 = 1 := by decide +kernel
theorem z_decR : (if 0 < (f_da1 (Z0.si 0 0) 1 0).i 41 then -(f_da1 (Z0.si 0 0) 1 0).i 41 else (f_decode Z0 0).i 23) = -1 := by
  rw [z_dec]
  rfl
theorem z_on (S : MS) (h : ∀ k, S.a 10 k = 0) : ∀ n, cntM S n = 0
  | 0 => rfl
  | n + 1 => by
    rw [cntM, z_on S h n, if_neg]
    intro g
    unfold onM at g
    simp [h n] at g
theorem z_search : (f_search Z0).i 20 = 0 := by
  obtain ⟨S', e, -, -, -, -, f', e1, -, e3⟩ := search_ok MH.init.1.mi.1 MH.init.1.mi.2.1 MH.init.1.ds
  rw [search_eq e, e1]
  rw [z_on (f_sr0 Z0) (fun k => (sr0_sm Z0).1 k)] at e3
  obtain rfl : f' = 0 := by omega
  rfl
theorem z_count (x : Int32) : f_count Z0 x = 0 := by
  unfold f_count
  repeat' split
  all_goals first | rfl | decide +kernel
theorem z_free (k i mk v d : Int32) : g_free Z0 k i mk v d 12 = true := by
  unfold g_free
  rw [List.all_eq_true]
  intro m _
  exact decide_eq_true (fun g => g.1.1 rfl)
