/-! The law of p6: its rows, its invariant, its cases, its loop. -/
section Rows
variable {z : Fx} {kc ks pc : Nat} {A : PH → Prop} {L : List (Option Value)} {st : List Value} {w : Wd} {b Ln : Nat} {xs : Nat → Int32} {h : PH}
/-- the law's frame -/
def LZ (z : Fx) (b : Nat) : Prop := z.R = room_1 ∧ z.args = #[.ref b] ∧ z.base = z.s.heap.size ∧ z.nL = 8 ∧ z.mc = 601024 ∧ z.ms = 7293034 ∧ z.Q = lw_Z z.below #[.ref b] z.s ∧ z.meth.sig.returnType = ret ∧ z.meth.locks = false ∧ b < z.s.heap.size
theorem w_sld (C : Cx z RL code gw) (hz : LZ z b) (hX : va_X b Ln xs z.s z.s.heap) (d : decode code pc = .ok (.iaload, 1)) {i : Int32} (hin : vp_in i Ln) (kk : X z kc ks A (pc + 1) L (.int (xs i.toNatClampNeg) :: st)) : X z kc ks A pc L (.int i :: .ref b :: st) := by
  intro H locs ls cells slots hp hS hl c1 c2
  have h1 := hz.2.2.1
  have h2 := hz.2.2.2.2.2.2.2.2.2
  exact va_sld C.x C.b hX h2 (by show ¬ z.base ≤ b; omega) hS hin d (kk H locs ls cells slots hp hS hl c1 c2)
theorem w_slen (C : Cx z RL code gw) (hz : LZ z b) (hX : va_X b Ln xs z.s z.s.heap) (d : decode code pc = .ok (.arraylength, 1)) (kk : X z kc ks A (pc + 1) L (.int (nI Ln) :: st)) : X z kc ks A pc L (.ref b :: st) := by
  intro H locs ls cells slots hp hS hl c1 c2
  have h1 := hz.2.2.1
  have h2 := hz.2.2.2.2.2.2.2.2.2
  exact va_slen C.x C.b hX h2 (by show ¬ z.base ≤ b; omega) hS d (kk H locs ls cells slots hp hS hl c1 c2)
theorem w_ret (C : Cx z RL code gw) (hz : LZ z b) (d : decode code pc = .ok (.ireturn, 1)) : X z kc ks A pc L [.int 1] := by
  intro H locs ls cells slots hp hS hl c1 c2
  obtain ⟨h1, h2, h3, h4, h5, h6, h7, h8, h9, h10⟩ := hz
  refine va_forget (fun q hq => by have := hS.2.2 q hq; rw [h3] at this; exact this) ?_
  refine W.widen (k := 601024) (n := 7293034) (by omega) (by omega) ?_
  show W z.p z.l z.e z.R z.s z.m z.args z.below z.meth z.c H [] 601024 7293034 z.Q (F0 z.m pc ls [.int 1])
  rw [h1, h2, h7]
  exact lw_ret C.x C.b h8 h9 d
theorem w_callM (C : Cx z RL code gw) (E : Cs z w 2048 84000) (hcl : z.cl = vwCl) {M : MW} {S S' : MS} (hW : Wm w M) {y' : MethodName} {cc' : ByteArray} {n' np index lvl' : Nat} {rt' : Option FieldType} {As stk : List Value} {r : Option Value} (Mc : TF w M y' cc' n' rt' lvl' As S r S') (hy : y'.cls = RX7) (md : Md gw y' cc' n' rt' np) (wi : Cond.instanceMethod y' ∈ gw) (wse : Cond.selects y'.cls y' y' ∈ gw) (wl : Cond.methodLink RL index y' ∈ gw) (d : decode code pc = .ok (.invokevirtual index, 3)) (hn : As.length = np) (hf : lvl' < 50) (hlo : n' ≤ 21)
    (hst : stk = As.reverse ++ .ref M.o :: st) (hcat : (st.map fun v => v.category).sum ≤ 8)
    (k : X z kc ks (MA M S') (pc + 3) L (r.toList ++ st)) : X z kc ks (MA M S) pc L stk := by
  refine k_callV (mc' := 0) (ms' := 0) C E hW.1 gw_good Mc md wi wse wl d hn (by omega) (by omega) (fun h g => g.1) (by rw [hcl, hy]; rfl) hst hcat (fun q => ?_)
  refine X.pure (p := q = r) (fun _ g => by obtain ⟨S2, e, -⟩ := g; exact e.1) (fun e => ?_)
  subst e
  exact X.heap k (fun h g => by obtain ⟨S2, ⟨-, e⟩, g⟩ := g; subst e; exact g)
theorem w_lald (C : Cx z RL code gw) {c : Nat → ClassId} (Y : Cty z c) (d : decode code pc = .ok (.laload, 1)) {a n : Nat} {f : Nat → Int64} {i : Int32} (g : ∀ h, A h → h a = some (.inl (c 1, n, .inr (.inl f)))) (gi : vp_in i n)
    (kk : X z kc ks A (pc + 1) L (.long (f i.toNatClampNeg) :: st)) : X z kc ks A pc L (.int i :: .ref a :: st) := by
  obtain ⟨t, ht⟩ := Y.2.2.1
  exact x_lald C ht d g gi kk
end Rows
theorem vp_s {t n L : Nat} (h : 7 * t + n < L) (hL : L ≤ 3584) : vp_in (nI (7 * t) + nI n) L := by
  rw [nI_add]
  exact vp_in_nI h (by omega)
/-- the law's own: its long[1], the model's object and arrays -/
def VV (o : Nat) (ad : Nat → Nat) (u q : Nat) : Prop := q = u ∨ q = o ∨ ∃ k, m_kd k ≠ 0 ∧ q = ad k
/-- a MeterBus (places a), a model (object o, arrays ad), the law's long[1] at u, at any time -/
def LJ (c : Nat → ClassId) (a : Nat → Nat) (o : Nat) (ad : Nat → Nat) (u : Nat) (h : PH) : Prop :=
  ∃ (α : Nat → Int64) (f : Nat → Option Nat) (S : MS), (∃ κ κd, ZZ c a h (VV o ad u) α f κ κd h) ∧ (∃ f1, OU c u f1 h) ∧ MA (c, o, ad, h) S h ∧ MW.ok (c, o, ad, h) ∧ MH S ∧ RK f α S ∧ u ≠ o ∧ ∀ k, m_kd k ≠ 0 → ad k ≠ u
section Inv
variable {c : Nat → ClassId} {a ad : Nat → Nat} {o u : Nat} {h g g' : PH} {w : Wd} {α α' : Nat → Int64} {f f' : Nat → Option Nat} {S S' : MS}
theorem LQ.ma (q : LQ c a (VV o ad u) u α f h g) (m : MA (c, o, ad, h) S h) (n1 : u ≠ o) (n2 : ∀ k, m_kd k ≠ 0 → ad k ≠ u) : MA (c, o, ad, g) S g := by
  obtain ⟨-, -, st⟩ := q
  refine ⟨?_, fun k hk => ?_, fun q _ _ => rfl⟩
  · show g o = _
    rw [st o (Or.inr (Or.inl rfl)) (Ne.symm n1)]
    exact m.1
  · show g (ad k) = _
    rw [st (ad k) (Or.inr (Or.inr ⟨k, hk, rfl⟩)) (n2 k hk)]
    exact m.2.1 k hk
theorem LJ.of (q : LQ c a (VV o ad u) u α' f' h g) (ok : MW.ok (c, o, ad, h)) (n1 : u ≠ o) (n2 : ∀ k, m_kd k ≠ 0 → ad k ≠ u) (m : MA (c, o, ad, g) S' g') (hS : MH S') (hR : RK f' α' S') : LJ c a o ad u g' := by
  obtain ⟨⟨f1, hu⟩, ⟨κ, κd, Z⟩, st⟩ := q
  have eu : g' u = g u := m.2.2 u n1 (fun k hk e => n2 k hk e.symm)
  have mo : g' o = some (.inr (7, m_fs ad S')) := m.1
  have ma : ∀ k, m_kd k ≠ 0 → g' (ad k) = some (m_cell c S' k) := m.2.1
  refine ⟨α', f', S', ⟨κ, κd, Z.putV (fun q hq => m.2.2 q (fun e => hq (Or.inr (Or.inl e))) (fun k hk e => hq (Or.inr (Or.inr ⟨k, hk, e⟩)))) (fun q hq => ?_)⟩, ⟨f1, by show g' u = _; rw [eu]; exact hu⟩, ⟨mo, ma, fun q _ _ => rfl⟩, ok, hS, hR, n1, n2⟩
  rcases hq with rfl | rfl | ⟨k, hk, rfl⟩
  · rw [eu]
    exact nn_of hu
  · exact nn_of mo
  · exact nn_of (ma k hk)
end Inv
section Some
variable {z : Fx} {kc ks pc : Nat} {L : List (Option Value)} {st : List Value} {w : Wd}
/-- a call of the model of which only is told what MK tells -/
theorem w_some (C : Cx z RL code gw) (E : Cs z w 2048 84000) (hcl : z.cl = vwCl) {M : MW} {S : MS} (hW : Wm w M) {y' : MethodName} {cc' : ByteArray} {n' np index lvl' : Nat} {rt' : Option FieldType} {As stk : List Value} {β : Type} {V : β → Value} (Mc : ∃ v S', TF w M y' cc' n' rt' lvl' As S (some (V v)) S' ∧ MK S S') (hy : y'.cls = RX7) (md : Md gw y' cc' n' rt' np) (wi : Cond.instanceMethod y' ∈ gw) (wse : Cond.selects y'.cls y' y' ∈ gw) (wl : Cond.methodLink RL index y' ∈ gw) (d : decode code pc = .ok (.invokevirtual index, 3)) (hn : As.length = np) (hf : lvl' < 50) (hlo : n' ≤ 21)
    (hst : stk = As.reverse ++ .ref M.o :: st) (hcat : (st.map fun v => v.category).sum ≤ 8)
    (k : ∀ (v : β) (S' : MS), MH S' → SM S S' → X z kc ks (MA M S') (pc + 3) L (V v :: st)) : X z kc ks (MA M S) pc L stk := by
  obtain ⟨v, S', mt, h1, h2⟩ := Mc
  exact w_callM C E hcl hW mt hy md wi wse wl d hn hf hlo hst hcat (k v S' h1 h2)
end Some
theorem cmp_self (x : Int64) : lg_cmp x x = 0 := by simp [lg_cmp]
section Two
variable {w : Wd} {M : MW} {S : MS} {f : Nat → Option Nat} {α : Nat → Int64} {c : Nat → ClassId} {a : Nat → Nat} {V : Nat → Prop} {o : Nat} {h g : PH} {k ad i mk v d : Int32} {r : Option Value}
theorem mp_i0 (S : MS) (k : Nat) (q : Nat) : ∀ n, (f_mp S k n).i q = S.i q
  | 0 => rfl
  | n + 1 => by rw [f_mp]; exact mp_i0 S k q n
theorem mb_i0 (S : MS) (k : Nat) (i mk v d : Int32) (q : Nat) : ∀ n, (f_mb S k i mk v d n).i q = S.i q
  | 0 => rfl
  | n + 1 => by rw [f_mb]; exact mb_i0 S k i mk v d q n
theorem meter_i0 (S : MS) (k : Nat) (ad i mk v d : Int32) : (f_meter S k ad i mk v d).i 0 = 0 := by
  unfold f_meter
  rw [mp_i0]
  show (f_mb (((S.si 0 0).sa 10 k 1).sa 11 k ad) k i mk v d 8).i 0 = 0
  rw [mb_i0]
  rfl
theorem lt12' {k : Int32} : k < 12 ↔ k ≤ 11 := by
  rw [Int32.le_iff_toInt_le, Int32.lt_iff_toInt_lt, show (12 : Int32).toInt = 12 from by decide, show (11 : Int32).toInt = 11 from by decide]
  omega
theorem v_meter (hW : Wm w M) (hS : MH S) (hR : RK f α S) (hg : (r = some (.int 0) ∧ ∃ j p, j < 12 ∧ k = nI j ∧ k_good ad i mk v d ∧ ¬ oth f α k (adr i mk v d) ∧ (∀ q m, f q = some m → m ≠ p) ∧ LQ c a V o (va_up α p (adr i mk v d)) (va_up f j (some p)) h g) ∨ (r = some (.int 1) ∧ ¬ ((0 : Int32) ≤ k ∧ k < 12) ∧ LQ c a V o α f h g) ∨ (r = some (.int 2) ∧ ((0 : Int32) ≤ k ∧ k < 12) ∧ (¬ k_good ad i mk v d ∨ oth f α k (adr i mk v d)) ∧ LQ c a V o α f h g)) :
    ∃ (kv : Int32) (α' : Nat → Int64) (f' : Nat → Option Nat) (S' : MS), r = some (.int kv) ∧ TF w M yX7_meter cX7_meter 11 none 1 [.int k, .int ad, .int i, .int mk, .int v, .int d] S none S' ∧ MH S' ∧ RK f' α' S' ∧ S'.i 0 = kv ∧ LQ c a V o α' f' h g := by
  rcases hg with ⟨rfl, j, p, hj, rfl, gg, no, old, hq⟩ | ⟨rfl, nk, hq⟩ | ⟨rfl, gk, no, hq⟩
  · have G : g_good S (nI j) ad i mk v d := hR.good.mpr ⟨gg, no⟩
    exact ⟨0, _, _, _, rfl, s_meter_t hW j hj ad i mk v d G, hS.meter hj G, hR.meter gg old, meter_i0 .., hq⟩
  · have nk2 : ¬ ((0 : Int32) ≤ k ∧ k ≤ 11) := fun q => nk ⟨q.1, lt12'.mpr q.2⟩
    have t := s_meter_x hW k ad i mk v d (S := S) (fun q => nk2 q.1)
    rw [if_pos nk2] at t
    exact ⟨1, _, _, _, rfl, t, hS.s0 1, hR.sm (SM.s0 S 1), rfl, hq⟩
  · have gk2 : (0 : Int32) ≤ k ∧ k ≤ 11 := ⟨gk.1, lt12'.mp gk.2⟩
    have t := s_meter_x hW k ad i mk v d (S := S) (fun q => by
      have := hR.good.mp q.2
      exact no.elim (fun n => n this.1) (fun n => this.2 n))
    rw [if_neg (not_not_intro gk2)] at t
    exact ⟨2, _, _, _, rfl, t, hS.s0 2, hR.sm (SM.s0 S 2), rfl, hq⟩
theorem v_remove (hW : Wm w M) (hS : MH S) (hR : RK f α S) (hg : (∃ j, j < 12 ∧ k = nI j ∧ r = some (.int 0) ∧ (∃ f1, OU c o f1 g ∧ f1 0 = if f j = none then 0 else 1) ∧ LQ c a V o α (va_up f j none) h g) ∨ (¬ ((0 : Int32) ≤ k ∧ k < 12) ∧ r = some (.int 1) ∧ LQ c a V o α f h g)) :
    ∃ (kv : Int32) (α' : Nat → Int64) (f' : Nat → Option Nat) (mv : Int32) (S' : MS), r = some (.int kv) ∧ TF w M yX7_remove cX7_remove 3 (some .boolean) 1 [.int k] S (some (.int mv)) S' ∧ MH S' ∧ RK f' α' S' ∧ S'.i 0 = kv ∧ (kv = 0 → ∃ f1, OU c o f1 g ∧ f1 0 = if mv = 0 then 0 else 1) ∧ LQ c a V o α' f' h g := by
  rcases hg with ⟨j, hj, rfl, rfl, ⟨f1, u1, u2⟩, hq⟩ | ⟨nk, rfl, hq⟩
  · refine ⟨_, _, _, _, _, rfl, g_remove hW hS j hj, hS.remove j, hR.remove j, rfl, fun _ => ⟨f1, u1, ?_⟩, hq⟩
    rw [u2]
    rcases hR j hj with ⟨h1, h2⟩ | ⟨p, i, mk, v, d, h1, h2, -⟩
    · rw [if_pos h1, if_pos h2]
    · rw [if_neg (by rw [h1]; exact fun q => nomatch q), if_neg h2]
  · exact ⟨_, _, _, _, _, rfl, s_remove_f hW k (fun q => nk ⟨q.1, lt12'.mpr q.2⟩), hS.s0 1, hR.sm (SM.s0 S 1), rfl, fun q => absurd q (by decide), hq⟩
end Two
/-- what is known at the law's loop, one call ahead (the t-th) -/
def LC5 (w : Wd) (c : Nat → ClassId) (z : Fx) (b L : Nat) (xs : Nat → Int32) (a : Nat → Nat) (o : Nat) (ad : Nat → Nat) (u t kc ks : Nat) (h : PH) : Prop :=
  Wx w c ∧ Cx z RL code gw ∧ Cs z w 2048 84000 ∧ LZ z b ∧ va_X b L xs z.s z.s.heap ∧ (7 * t + 7 ≤ L ∧ L ≤ 3584) ∧ LJ c a o ad u h ∧ ∀ (g : PH) (l5 l6 l7 : Option Value), LJ c a o ad u g → X z kc ks (EQ g) 720 [some (.ref b), some (.ref (a 0)), some (.ref o), some (.ref u), some (.int (nI (7 * t))), l5, l6, l7] []
section Cases
variable {w : Wd} {c : Nat → ClassId} {z : Fx} {b L : Nat} {xs : Nat → Int32} {a : Nat → Nat} {o : Nat} {ad : Nat → Nat} {u t kc ks : Nat} {h : PH} {l5 l6 l7 : Option Value}
theorem c5_type (Q : LC5 w c z b L xs a o ad u t kc ks h) : X z (kc + 1050) (ks + 8040) (EQ h) 124 [some (.ref b), some (.ref (a 0)), some (.ref o), some (.ref u), some (.int (nI (7 * t))), l5, l6, l7] [] := by
  obtain ⟨hX, C, E, hz, S, ⟨tL, L3⟩, I, K⟩ := Q
  have Y := Cty.of hX.1 E
  have hn : z.nL = 8 := hz.2.2.2.1
  obtain ⟨α, f, S0, ⟨κ, κd, Z⟩, ⟨f1, ho⟩, hM0, ok, hS, hR, nu, nad⟩ := I
  have hV : VV o ad u u := Or.inl rfl
  have hWm : ∀ g : PH, Wm w (c, o, ad, g) := fun g => ⟨hX.1.1, ok, hX.1.2.1, hX.1.2.2.1, hX.1.2.2.2.1, hX.1.2.2.2.2⟩
  refine x_aload_n C dL_law_124 rfl ?_
  refine x_aload_n C dL_law_125 rfl ?_
  refine x_iload C dL_law_126 rfl ?_
  refine x_iconst (v := 1) C dL_law_128 (by decide) ?_
  refine x_iadd C dL_law_129 ?_
  refine w_sld C hz S dL_law_130 (vp_s (n := 1) (by omega) L3) ?_
  refine x_i2l C dL_law_131 ?_
  refine x_bipush (v := 32) C dL_law_132 (by decide) ?_
  refine x_lshl C dL_law_134 ?_
  refine x_aload_n C dL_law_135 rfl ?_
  refine x_iload C dL_law_136 rfl ?_
  refine x_iconst (v := 2) C dL_law_138 (by decide) ?_
  refine x_iadd C dL_law_139 ?_
  refine w_sld C hz S dL_law_140 (vp_s (n := 2) (by omega) L3) ?_
  refine x_i2l C dL_law_141 ?_
  refine x_ldc2 C wk_L_62 dL_law_142 ?_
  refine x_land C dL_law_145 ?_
  refine x_lor C dL_law_146 ?_
  refine x_aload_n C dL_law_147 rfl ?_
  refine x_iload C dL_law_148 rfl ?_
  refine x_iconst (v := 3) C dL_law_150 (by decide) ?_
  refine x_iadd C dL_law_151 ?_
  refine w_sld C hz S dL_law_152 (vp_s (n := 3) (by omega) L3) ?_
  refine x_aload_n C dL_law_153 rfl ?_
  refine k_callSW (kc := kc + 1049) (ks := ks + 8034) (st := []) C E hX.1.1 gw_good (l5_type hX Z ho hV _ _) mw_L_type wt_L_type wm_L_64 dL_law_154 rfl (by decide) (by decide) rfl (by simp) (fun r => X.opn (fun g hg => ?_))
  obtain ⟨⟨v, rfl⟩, hq⟩ := hg
  have vm := v_type (hWm g) hS
  have hR' : ∀ S1, SM S0 S1 → RK f α S1 := fun S1 sm => hR.sm sm
  have hM := hq.ma hM0 nu nad
  refine o_istoreE (L' := [some _, some _, some _, some _, some _, some _, l6, l7]) C dL_law_157 (by rw [hn]; decide) rfl ?_
  refine x_aload_n C dL_law_159 rfl ?_
  refine x_aload_n C dL_law_160 rfl ?_
  refine x_iload C dL_law_161 rfl ?_
  refine x_iconst (v := 1) C dL_law_163 (by decide) ?_
  refine x_iadd C dL_law_164 ?_
  refine w_sld C hz S dL_law_165 (vp_s (n := 1) (by omega) L3) ?_
  refine x_i2l C dL_law_166 ?_
  refine x_bipush (v := 32) C dL_law_167 (by decide) ?_
  refine x_lshl C dL_law_169 ?_
  refine x_aload_n C dL_law_170 rfl ?_
  refine x_iload C dL_law_171 rfl ?_
  refine x_iconst (v := 2) C dL_law_173 (by decide) ?_
  refine x_iadd C dL_law_174 ?_
  refine w_sld C hz S dL_law_175 (vp_s (n := 2) (by omega) L3) ?_
  refine x_i2l C dL_law_176 ?_
  refine x_ldc2 C wk_L_62 dL_law_177 ?_
  refine x_land C dL_law_180 ?_
  refine x_lor C dL_law_181 ?_
  refine x_aload_n C dL_law_182 rfl ?_
  refine x_iload C dL_law_183 rfl ?_
  refine x_iconst (v := 3) C dL_law_185 (by decide) ?_
  refine x_iadd C dL_law_186 ?_
  refine w_sld C hz S dL_law_187 (vp_s (n := 3) (by omega) L3) ?_
  have vq := vm
  refine X.heap (A' := MA (c, o, ad, g) S0) ?_ (fun q e => by rw [e]; exact hM)
  refine w_some (st := []) C E Y.1 (hWm g) (vm _ _) rfl md_X7_type wi_X7_type ws_X7_type wm_L_69 dL_law_188 rfl (by decide) (by decide) rfl (by simp [Value.category]) (fun mv S1 hS' sm => ?_)
  have hR' := hR' S1 sm
  refine o_istoreE (L' := [some _, some _, some _, some _, some _, some _, some _, l7]) C dL_law_191 (by rw [hn]; decide) rfl ?_
  refine x_goto (tgt := 720) C dL_law_193 (by decide) ?_
  refine X.opn (fun g' hM' => ?_)
  exact (K g' _ _ _ (LJ.of hq ok nu nad hM' hS' hR')).room (by omega) (by omega)
theorem c5_keep (Q : LC5 w c z b L xs a o ad u t kc ks h) : X z (kc + 1050) (ks + 8040) (EQ h) 196 [some (.ref b), some (.ref (a 0)), some (.ref o), some (.ref u), some (.int (nI (7 * t))), l5, l6, l7] [] := by
  obtain ⟨hX, C, E, hz, S, ⟨tL, L3⟩, I, K⟩ := Q
  have Y := Cty.of hX.1 E
  have hn : z.nL = 8 := hz.2.2.2.1
  obtain ⟨α, f, S0, ⟨κ, κd, Z⟩, ⟨f1, ho⟩, hM0, ok, hS, hR, nu, nad⟩ := I
  have hV : VV o ad u u := Or.inl rfl
  have hWm : ∀ g : PH, Wm w (c, o, ad, g) := fun g => ⟨hX.1.1, ok, hX.1.2.1, hX.1.2.2.1, hX.1.2.2.2.1, hX.1.2.2.2.2⟩
  refine x_aload_n C dL_law_196 rfl ?_
  refine x_aload_n C dL_law_197 rfl ?_
  refine x_iload C dL_law_198 rfl ?_
  refine x_iconst (v := 1) C dL_law_200 (by decide) ?_
  refine x_iadd C dL_law_201 ?_
  refine w_sld C hz S dL_law_202 (vp_s (n := 1) (by omega) L3) ?_
  refine k_callSW (kc := kc + 1049) (ks := ks + 8034) (st := []) C E hX.1.1 gw_good (l5_keep hX Z ho hV _) mw_L_keep wt_L_keep wm_L_70 dL_law_203 rfl (by decide) (by decide) rfl (by simp) (fun r => X.opn (fun g hg => ?_))
  obtain ⟨⟨v, rfl⟩, hq⟩ := hg
  obtain ⟨S1, mt, hS', sm⟩ := v_keep (hWm g) hS (xs (nI (7 * t) + 1).toNatClampNeg)
  have hR' := hR.sm sm
  have hM := hq.ma hM0 nu nad
  refine o_istoreE (L' := [some _, some _, some _, some _, some _, some _, l6, l7]) C dL_law_206 (by rw [hn]; decide) rfl ?_
  refine x_aload_n C dL_law_208 rfl ?_
  refine x_aload_n C dL_law_209 rfl ?_
  refine x_iload C dL_law_210 rfl ?_
  refine x_iconst (v := 1) C dL_law_212 (by decide) ?_
  refine x_iadd C dL_law_213 ?_
  refine w_sld C hz S dL_law_214 (vp_s (n := 1) (by omega) L3) ?_
  refine X.heap (A' := MA (c, o, ad, g) S0) ?_ (fun q e => by rw [e]; exact hM)
  refine w_callM (st := []) C E Y.1 (hWm g) mt rfl md_X7_keep wi_X7_keep ws_X7_keep wm_L_73 dL_law_215 rfl (by decide) (by decide) rfl (by simp [Value.category]) ?_
  refine x_goto (tgt := 720) C dL_law_218 (by decide) ?_
  refine X.opn (fun g' hM' => ?_)
  exact (K g' _ _ _ (LJ.of hq ok nu nad hM' hS' hR')).room (by omega) (by omega)
theorem c5_typed (Q : LC5 w c z b L xs a o ad u t kc ks h) : X z (kc + 1050) (ks + 8040) (EQ h) 221 [some (.ref b), some (.ref (a 0)), some (.ref o), some (.ref u), some (.int (nI (7 * t))), l5, l6, l7] [] := by
  obtain ⟨hX, C, E, hz, S, ⟨tL, L3⟩, I, K⟩ := Q
  have Y := Cty.of hX.1 E
  have hn : z.nL = 8 := hz.2.2.2.1
  obtain ⟨α, f, S0, ⟨κ, κd, Z⟩, ⟨f1, ho⟩, hM0, ok, hS, hR, nu, nad⟩ := I
  have hV : VV o ad u u := Or.inl rfl
  have hWm : ∀ g : PH, Wm w (c, o, ad, g) := fun g => ⟨hX.1.1, ok, hX.1.2.1, hX.1.2.2.1, hX.1.2.2.2.1, hX.1.2.2.2.2⟩
  refine x_aload_n C dL_law_221 rfl ?_
  refine x_aload_n C dL_law_222 rfl ?_
  refine x_iload C dL_law_223 rfl ?_
  refine x_iconst (v := 1) C dL_law_225 (by decide) ?_
  refine x_iadd C dL_law_226 ?_
  refine w_sld C hz S dL_law_227 (vp_s (n := 1) (by omega) L3) ?_
  refine x_aload_n C dL_law_228 rfl ?_
  refine k_callSW (kc := kc + 1049) (ks := ks + 8034) (st := []) C E hX.1.1 gw_good (l5_typed hX Z ho hV _) mw_L_typed wt_L_typed wm_L_74 dL_law_229 rfl (by decide) (by decide) rfl (by simp) (fun r => X.opn (fun g hg => ?_))
  obtain ⟨⟨v, rfl⟩, hq⟩ := hg
  have vm := v_typed (hWm g) hS
  have hR' : ∀ S1, SM S0 S1 → RK f α S1 := fun S1 sm => hR.sm sm
  have hM := hq.ma hM0 nu nad
  refine o_istoreE (L' := [some _, some _, some _, some _, some _, some _, l6, l7]) C dL_law_232 (by rw [hn]; decide) rfl ?_
  refine x_aload_n C dL_law_234 rfl ?_
  refine x_aload_n C dL_law_235 rfl ?_
  refine x_iload C dL_law_236 rfl ?_
  refine x_iconst (v := 1) C dL_law_238 (by decide) ?_
  refine x_iadd C dL_law_239 ?_
  refine w_sld C hz S dL_law_240 (vp_s (n := 1) (by omega) L3) ?_
  have vq := vm
  refine X.heap (A' := MA (c, o, ad, g) S0) ?_ (fun q e => by rw [e]; exact hM)
  refine w_some (st := []) C E Y.1 (hWm g) (vm _) rfl md_X7_typed wi_X7_typed ws_X7_typed wm_L_77 dL_law_241 rfl (by decide) (by decide) rfl (by simp [Value.category]) (fun mv S1 hS' sm => ?_)
  have hR' := hR' S1 sm
  refine o_istoreE (L' := [some _, some _, some _, some _, some _, some _, some _, l7]) C dL_law_244 (by rw [hn]; decide) rfl ?_
  refine x_goto (tgt := 720) C dL_law_246 (by decide) ?_
  refine X.opn (fun g' hM' => ?_)
  exact (K g' _ _ _ (LJ.of hq ok nu nad hM' hS' hR')).room (by omega) (by omega)
theorem c5_meter (Q : LC5 w c z b L xs a o ad u t kc ks h) : X z (kc + 1050) (ks + 8040) (EQ h) 249 [some (.ref b), some (.ref (a 0)), some (.ref o), some (.ref u), some (.int (nI (7 * t))), l5, l6, l7] [] := by
  obtain ⟨hX, C, E, hz, S, ⟨tL, L3⟩, I, K⟩ := Q
  have Y := Cty.of hX.1 E
  have hn : z.nL = 8 := hz.2.2.2.1
  obtain ⟨α, f, S0, ⟨κ, κd, Z⟩, ⟨f1, ho⟩, hM0, ok, hS, hR, nu, nad⟩ := I
  have hV : VV o ad u u := Or.inl rfl
  have hWm : ∀ g : PH, Wm w (c, o, ad, g) := fun g => ⟨hX.1.1, ok, hX.1.2.1, hX.1.2.2.1, hX.1.2.2.2.1, hX.1.2.2.2.2⟩
  refine x_aload_n C dL_law_249 rfl ?_
  refine x_aload_n C dL_law_250 rfl ?_
  refine x_iload C dL_law_251 rfl ?_
  refine x_iconst (v := 1) C dL_law_253 (by decide) ?_
  refine x_iadd C dL_law_254 ?_
  refine w_sld C hz S dL_law_255 (vp_s (n := 1) (by omega) L3) ?_
  refine x_aload_n C dL_law_256 rfl ?_
  refine x_iload C dL_law_257 rfl ?_
  refine x_iconst (v := 2) C dL_law_259 (by decide) ?_
  refine x_iadd C dL_law_260 ?_
  refine w_sld C hz S dL_law_261 (vp_s (n := 2) (by omega) L3) ?_
  refine x_aload_n C dL_law_262 rfl ?_
  refine x_iload C dL_law_263 rfl ?_
  refine x_iconst (v := 3) C dL_law_265 (by decide) ?_
  refine x_iadd C dL_law_266 ?_
  refine w_sld C hz S dL_law_267 (vp_s (n := 3) (by omega) L3) ?_
  refine x_aload_n C dL_law_268 rfl ?_
  refine x_iload C dL_law_269 rfl ?_
  refine x_iconst (v := 4) C dL_law_271 (by decide) ?_
  refine x_iadd C dL_law_272 ?_
  refine w_sld C hz S dL_law_273 (vp_s (n := 4) (by omega) L3) ?_
  refine x_aload_n C dL_law_274 rfl ?_
  refine x_iload C dL_law_275 rfl ?_
  refine x_iconst (v := 5) C dL_law_277 (by decide) ?_
  refine x_iadd C dL_law_278 ?_
  refine w_sld C hz S dL_law_279 (vp_s (n := 5) (by omega) L3) ?_
  refine x_aload_n C dL_law_280 rfl ?_
  refine x_iload C dL_law_281 rfl ?_
  refine x_bipush (v := 6) C dL_law_283 (by decide) ?_
  refine x_iadd C dL_law_285 ?_
  refine w_sld C hz S dL_law_286 (vp_s (n := 6) (by omega) L3) ?_
  refine k_callSW (kc := kc + 1044) (ks := ks + 7846) (st := []) C E hX.1.1 gw_good (l5_meter hX Z ho hV _ _ _ _ _ _) mw_L_meter wt_L_meter wm_L_78 dL_law_287 rfl (by decide) (by decide) rfl (by simp) (fun r => X.opn (fun g hg => ?_))
  obtain ⟨kv, α1, f2, S1, rfl, mt, hS', hR', e0, hq⟩ := v_meter (M := (c, o, ad, g)) (hWm g) hS hR hg
  have hM := hq.ma hM0 nu nad
  refine o_istoreE (L' := [some _, some _, some _, some _, some _, some _, l6, l7]) C dL_law_290 (by rw [hn]; decide) rfl ?_
  refine x_aload_n C dL_law_292 rfl ?_
  refine x_aload_n C dL_law_293 rfl ?_
  refine x_iload C dL_law_294 rfl ?_
  refine x_iconst (v := 1) C dL_law_296 (by decide) ?_
  refine x_iadd C dL_law_297 ?_
  refine w_sld C hz S dL_law_298 (vp_s (n := 1) (by omega) L3) ?_
  refine x_aload_n C dL_law_299 rfl ?_
  refine x_iload C dL_law_300 rfl ?_
  refine x_iconst (v := 2) C dL_law_302 (by decide) ?_
  refine x_iadd C dL_law_303 ?_
  refine w_sld C hz S dL_law_304 (vp_s (n := 2) (by omega) L3) ?_
  refine x_aload_n C dL_law_305 rfl ?_
  refine x_iload C dL_law_306 rfl ?_
  refine x_iconst (v := 3) C dL_law_308 (by decide) ?_
  refine x_iadd C dL_law_309 ?_
  refine w_sld C hz S dL_law_310 (vp_s (n := 3) (by omega) L3) ?_
  refine x_aload_n C dL_law_311 rfl ?_
  refine x_iload C dL_law_312 rfl ?_
  refine x_iconst (v := 4) C dL_law_314 (by decide) ?_
  refine x_iadd C dL_law_315 ?_
  refine w_sld C hz S dL_law_316 (vp_s (n := 4) (by omega) L3) ?_
  refine x_aload_n C dL_law_317 rfl ?_
  refine x_iload C dL_law_318 rfl ?_
  refine x_iconst (v := 5) C dL_law_320 (by decide) ?_
  refine x_iadd C dL_law_321 ?_
  refine w_sld C hz S dL_law_322 (vp_s (n := 5) (by omega) L3) ?_
  refine x_aload_n C dL_law_323 rfl ?_
  refine x_iload C dL_law_324 rfl ?_
  refine x_bipush (v := 6) C dL_law_326 (by decide) ?_
  refine x_iadd C dL_law_328 ?_
  refine w_sld C hz S dL_law_329 (vp_s (n := 6) (by omega) L3) ?_
  refine X.heap (A' := MA (c, o, ad, g) S0) ?_ (fun q e => by rw [e]; exact hM)
  refine w_callM (st := []) C E Y.1 (hWm g) mt rfl md_X7_meter wi_X7_meter ws_X7_meter wm_L_81 dL_law_330 rfl (by decide) (by decide) rfl (by simp [Value.category]) ?_
  refine x_goto (tgt := 720) C dL_law_333 (by decide) ?_
  refine X.opn (fun g' hM' => ?_)
  exact (K g' _ _ _ (LJ.of hq ok nu nad hM' hS' hR')).room (by omega) (by omega)
theorem c5_remove (Q : LC5 w c z b L xs a o ad u t kc ks h) : X z (kc + 1050) (ks + 8040) (EQ h) 336 [some (.ref b), some (.ref (a 0)), some (.ref o), some (.ref u), some (.int (nI (7 * t))), l5, l6, l7] [] := by
  obtain ⟨hX, C, E, hz, S, ⟨tL, L3⟩, I, K⟩ := Q
  have Y := Cty.of hX.1 E
  have hn : z.nL = 8 := hz.2.2.2.1
  obtain ⟨α, f, S0, ⟨κ, κd, Z⟩, ⟨f1, ho⟩, hM0, ok, hS, hR, nu, nad⟩ := I
  have hV : VV o ad u u := Or.inl rfl
  have hWm : ∀ g : PH, Wm w (c, o, ad, g) := fun g => ⟨hX.1.1, ok, hX.1.2.1, hX.1.2.2.1, hX.1.2.2.2.1, hX.1.2.2.2.2⟩
  refine x_aload_n C dL_law_336 rfl ?_
  refine x_aload_n C dL_law_337 rfl ?_
  refine x_iload C dL_law_338 rfl ?_
  refine x_iconst (v := 1) C dL_law_340 (by decide) ?_
  refine x_iadd C dL_law_341 ?_
  refine w_sld C hz S dL_law_342 (vp_s (n := 1) (by omega) L3) ?_
  refine x_aload_n C dL_law_343 rfl ?_
  refine k_callSW (kc := kc + 1049) (ks := ks + 8034) (st := []) C E hX.1.1 gw_good (l5_remove hX Z ho hV _) mw_L_remove wt_L_remove wm_L_82 dL_law_344 rfl (by decide) (by decide) rfl (by simp) (fun r => X.opn (fun g hg => ?_))
  obtain ⟨kv, α1, f2, mv, S1, rfl, mt, hS', hR', e0, ev, hq⟩ := v_remove (M := (c, o, ad, g)) (hWm g) hS hR hg
  have hM := hq.ma hM0 nu nad
  refine o_istoreE (L' := [some _, some _, some _, some _, some _, some _, l6, l7]) C dL_law_347 (by rw [hn]; decide) rfl ?_
  refine x_aload_n C dL_law_349 rfl ?_
  refine x_aload_n C dL_law_350 rfl ?_
  refine x_iload C dL_law_351 rfl ?_
  refine x_iconst (v := 1) C dL_law_353 (by decide) ?_
  refine x_iadd C dL_law_354 ?_
  refine w_sld C hz S dL_law_355 (vp_s (n := 1) (by omega) L3) ?_
  refine X.heap (A' := MA (c, o, ad, g) S0) ?_ (fun q e => by rw [e]; exact hM)
  refine w_callM (st := []) C E Y.1 (hWm g) mt rfl md_X7_remove wi_X7_remove ws_X7_remove wm_L_84 dL_law_356 rfl (by decide) (by decide) rfl (by simp [Value.category]) ?_
  refine o_istoreE (L' := [some _, some _, some _, some _, some _, some _, some _, l7]) C dL_law_359 (by rw [hn]; decide) rfl ?_
  refine x_aload_n C dL_law_361 rfl ?_
  refine w_callM (st := []) C E Y.1 (hWm g) (s_thrown (hWm g)) rfl md_X7_thrown wi_X7_thrown ws_X7_thrown wm_L_85 dL_law_362 rfl (by decide) (by decide) rfl (by simp) ?_
  refine x_iload C dL_law_365 rfl ?_
  refine x_icmp_eq (tgt := 372) C dL_law_367 (by decide) (fun _ => ?_) (fun q => absurd e0 q)
  have T2 : X z (kc + 1049) (ks + 8034) (MA (c, o, ad, g) S1) 396 [some (.ref b), some (.ref (a 0)), some (.ref o), some (.ref u), some (.int (nI (7 * t))), some (.int kv), some (.int mv), l7] [] := by
    refine x_goto (tgt := 720) C dL_law_396 (by decide) ?_
    refine X.opn (fun g' hM' => ?_)
    exact (K g' _ _ _ (LJ.of hq ok nu nad hM' hS' hR')).room (by omega) (by omega)
  refine x_iload C dL_law_372 rfl ?_
  refine x_if_ne (tgt := 396) C dL_law_374 (by decide) (fun _ => T2) (fun q0 => ?_)
  obtain ⟨f3, hu, eo⟩ := ev q0
  refine x_aload_n C dL_law_377 rfl ?_
  refine x_iconst (v := 0) C dL_law_378 (by decide) ?_
  refine w_lald C Y dL_law_379 (fun q m => (m.2.2 u nu (fun k hk e => nad k hk e.symm)).trans hu) (vp_in_nI (n := 0) (N := 1) (by decide) (by decide)) ?_
  refine x_iload C dL_law_380 rfl ?_
  refine x_if_eq (tgt := 389) C dL_law_382 (by decide) (fun e6 => ?_) (fun e6 => ?_)
  · refine x_lconst (v := 0) C dL_law_389 (by decide) ?_
    refine x_lcmp C dL_law_390 ?_
    exact x_if_eq (tgt := 396) C dL_law_391 (by decide) (fun _ => T2) (fun q => absurd (by rw [show f3 (0 : Int32).toNatClampNeg = f3 0 from rfl, eo, if_pos e6]; exact cmp_self _) q)
  · refine x_lconst (v := 1) C dL_law_385 (by decide) ?_
    refine x_goto (tgt := 390) C dL_law_386 (by decide) ?_
    refine x_lcmp C dL_law_390 ?_
    exact x_if_eq (tgt := 396) C dL_law_391 (by decide) (fun _ => T2) (fun q => absurd (by rw [show f3 (0 : Int32).toNatClampNeg = f3 0 from rfl, eo, if_neg e6]; exact cmp_self _) q)
theorem c5_page (Q : LC5 w c z b L xs a o ad u t kc ks h) : X z (kc + 1050) (ks + 8040) (EQ h) 399 [some (.ref b), some (.ref (a 0)), some (.ref o), some (.ref u), some (.int (nI (7 * t))), l5, l6, l7] [] := by
  obtain ⟨hX, C, E, hz, S, ⟨tL, L3⟩, I, K⟩ := Q
  have Y := Cty.of hX.1 E
  have hn : z.nL = 8 := hz.2.2.2.1
  obtain ⟨α, f, S0, ⟨κ, κd, Z⟩, ⟨f1, ho⟩, hM0, ok, hS, hR, nu, nad⟩ := I
  have hV : VV o ad u u := Or.inl rfl
  have hWm : ∀ g : PH, Wm w (c, o, ad, g) := fun g => ⟨hX.1.1, ok, hX.1.2.1, hX.1.2.2.1, hX.1.2.2.2.1, hX.1.2.2.2.2⟩
  refine x_aload_n C dL_law_399 rfl ?_
  refine x_aload_n C dL_law_400 rfl ?_
  refine x_iload C dL_law_401 rfl ?_
  refine x_iconst (v := 1) C dL_law_403 (by decide) ?_
  refine x_iadd C dL_law_404 ?_
  refine w_sld C hz S dL_law_405 (vp_s (n := 1) (by omega) L3) ?_
  refine x_aload_n C dL_law_406 rfl ?_
  refine x_iload C dL_law_407 rfl ?_
  refine x_iconst (v := 2) C dL_law_409 (by decide) ?_
  refine x_iadd C dL_law_410 ?_
  refine w_sld C hz S dL_law_411 (vp_s (n := 2) (by omega) L3) ?_
  refine x_aload_n C dL_law_412 rfl ?_
  refine k_callSW (kc := kc + 1049) (ks := ks + 8034) (st := []) C E hX.1.1 gw_good (l5_page hX Z ho hV _ _) mw_L_page wt_L_page wm_L_89 dL_law_413 rfl (by decide) (by decide) rfl (by simp) (fun r => X.opn (fun g hg => ?_))
  obtain ⟨⟨v, rfl⟩, hq⟩ := hg
  have vm := v_page (hWm g) hS
  have hR' : ∀ S1, SM S0 S1 → RK f α S1 := fun S1 sm => hR.sm sm
  have hM := hq.ma hM0 nu nad
  refine o_istoreE (L' := [some _, some _, some _, some _, some _, some _, l6, l7]) C dL_law_416 (by rw [hn]; decide) rfl ?_
  refine x_aload_n C dL_law_418 rfl ?_
  refine x_aload_n C dL_law_419 rfl ?_
  refine x_iload C dL_law_420 rfl ?_
  refine x_iconst (v := 1) C dL_law_422 (by decide) ?_
  refine x_iadd C dL_law_423 ?_
  refine w_sld C hz S dL_law_424 (vp_s (n := 1) (by omega) L3) ?_
  refine x_aload_n C dL_law_425 rfl ?_
  refine x_iload C dL_law_426 rfl ?_
  refine x_iconst (v := 2) C dL_law_428 (by decide) ?_
  refine x_iadd C dL_law_429 ?_
  refine w_sld C hz S dL_law_430 (vp_s (n := 2) (by omega) L3) ?_
  have vq := vm
  refine X.heap (A' := MA (c, o, ad, g) S0) ?_ (fun q e => by rw [e]; exact hM)
  refine w_some (st := []) C E Y.1 (hWm g) (vm _ _) rfl md_X7_page wi_X7_page ws_X7_page wm_L_92 dL_law_431 rfl (by decide) (by decide) rfl (by simp [Value.category]) (fun mv S1 hS' sm => ?_)
  have hR' := hR' S1 sm
  refine o_istoreE (L' := [some _, some _, some _, some _, some _, some _, some _, l7]) C dL_law_434 (by rw [hn]; decide) rfl ?_
  refine x_goto (tgt := 720) C dL_law_436 (by decide) ?_
  refine X.opn (fun g' hM' => ?_)
  exact (K g' _ _ _ (LJ.of hq ok nu nad hM' hS' hR')).room (by omega) (by omega)
theorem c5_state (Q : LC5 w c z b L xs a o ad u t kc ks h) : X z (kc + 1050) (ks + 8040) (EQ h) 439 [some (.ref b), some (.ref (a 0)), some (.ref o), some (.ref u), some (.int (nI (7 * t))), l5, l6, l7] [] := by
  obtain ⟨hX, C, E, hz, S, ⟨tL, L3⟩, I, K⟩ := Q
  have Y := Cty.of hX.1 E
  have hn : z.nL = 8 := hz.2.2.2.1
  obtain ⟨α, f, S0, ⟨κ, κd, Z⟩, ⟨f1, ho⟩, hM0, ok, hS, hR, nu, nad⟩ := I
  have hV : VV o ad u u := Or.inl rfl
  have hWm : ∀ g : PH, Wm w (c, o, ad, g) := fun g => ⟨hX.1.1, ok, hX.1.2.1, hX.1.2.2.1, hX.1.2.2.2.1, hX.1.2.2.2.2⟩
  refine x_aload_n C dL_law_439 rfl ?_
  refine x_aload_n C dL_law_440 rfl ?_
  refine x_iload C dL_law_441 rfl ?_
  refine x_iconst (v := 1) C dL_law_443 (by decide) ?_
  refine x_iadd C dL_law_444 ?_
  refine w_sld C hz S dL_law_445 (vp_s (n := 1) (by omega) L3) ?_
  refine x_aload_n C dL_law_446 rfl ?_
  refine x_iload C dL_law_447 rfl ?_
  refine x_iconst (v := 2) C dL_law_449 (by decide) ?_
  refine x_iadd C dL_law_450 ?_
  refine w_sld C hz S dL_law_451 (vp_s (n := 2) (by omega) L3) ?_
  refine x_aload_n C dL_law_452 rfl ?_
  refine k_callSW (kc := kc + 1049) (ks := ks + 8034) (st := []) C E hX.1.1 gw_good (l5_state hX Z ho hV _ _) mw_L_state wt_L_state wm_L_93 dL_law_453 rfl (by decide) (by decide) rfl (by simp) (fun r => X.opn (fun g hg => ?_))
  obtain ⟨⟨v, rfl⟩, hq⟩ := hg
  have vm := v_state (hWm g) hS
  have hR' : ∀ S1, SM S0 S1 → RK f α S1 := fun S1 sm => hR.sm sm
  have hM := hq.ma hM0 nu nad
  refine o_istoreE (L' := [some _, some _, some _, some _, some _, some _, l6, l7]) C dL_law_456 (by rw [hn]; decide) rfl ?_
  refine x_aload_n C dL_law_458 rfl ?_
  refine x_aload_n C dL_law_459 rfl ?_
  refine x_iload C dL_law_460 rfl ?_
  refine x_iconst (v := 1) C dL_law_462 (by decide) ?_
  refine x_iadd C dL_law_463 ?_
  refine w_sld C hz S dL_law_464 (vp_s (n := 1) (by omega) L3) ?_
  refine x_aload_n C dL_law_465 rfl ?_
  refine x_iload C dL_law_466 rfl ?_
  refine x_iconst (v := 2) C dL_law_468 (by decide) ?_
  refine x_iadd C dL_law_469 ?_
  refine w_sld C hz S dL_law_470 (vp_s (n := 2) (by omega) L3) ?_
  have vq := vm
  refine X.heap (A' := MA (c, o, ad, g) S0) ?_ (fun q e => by rw [e]; exact hM)
  refine w_some (st := []) C E Y.1 (hWm g) (vm _ _) rfl md_X7_state wi_X7_state ws_X7_state wm_L_95 dL_law_471 rfl (by decide) (by decide) rfl (by simp [Value.category]) (fun mv S1 hS' sm => ?_)
  have hR' := hR' S1 sm
  refine o_istoreE (L' := [some _, some _, some _, some _, some _, some _, some _, l7]) C dL_law_474 (by rw [hn]; decide) rfl ?_
  refine x_goto (tgt := 720) C dL_law_476 (by decide) ?_
  refine X.opn (fun g' hM' => ?_)
  exact (K g' _ _ _ (LJ.of hq ok nu nad hM' hS' hR')).room (by omega) (by omega)
theorem c5_send (Q : LC5 w c z b L xs a o ad u t kc ks h) : X z (kc + 1050) (ks + 8040) (EQ h) 479 [some (.ref b), some (.ref (a 0)), some (.ref o), some (.ref u), some (.int (nI (7 * t))), l5, l6, l7] [] := by
  obtain ⟨hX, C, E, hz, S, ⟨tL, L3⟩, I, K⟩ := Q
  have Y := Cty.of hX.1 E
  have hn : z.nL = 8 := hz.2.2.2.1
  obtain ⟨α, f, S0, ⟨κ, κd, Z⟩, ⟨f1, ho⟩, hM0, ok, hS, hR, nu, nad⟩ := I
  have hV : VV o ad u u := Or.inl rfl
  have hWm : ∀ g : PH, Wm w (c, o, ad, g) := fun g => ⟨hX.1.1, ok, hX.1.2.1, hX.1.2.2.1, hX.1.2.2.2.1, hX.1.2.2.2.2⟩
  refine x_aload_n C dL_law_479 rfl ?_
  obtain ⟨fn, fn1, Bx⟩ := Z.x
  refine k_callR (kc := kc + 1050) (ks := ks + 8040) (mc' := 0) (ms' := 0) (st := []) C Y hX.1 E (zz_send hX) ⟨κ, κd, Z⟩ md_X6_send wi_X6_send ws_X6_send wm_L_96 dL_law_480 rfl (by decide) (by decide) Bx rfl rfl (by decide) (fun r g hg => ?_)
  obtain ⟨⟨v, rfl⟩, Zg⟩ := hg
  have hq : LQ c a (VV o ad u) u α f h g := LQ.of ho hV Zg
  have hM := hq.ma hM0 nu nad
  obtain ⟨mv, S1, mt, hS', sm⟩ := v_send (hWm g) hS
  have hR' := hR.sm sm
  refine x_pop C dL_law_483 rfl ?_
  refine x_aload_n C dL_law_484 rfl ?_
  refine X.heap (A' := MA (c, o, ad, g) S0) ?_ (fun q e => by rw [e]; exact hM)
  refine w_callM (st := []) C E Y.1 (hWm g) mt rfl md_X7_send wi_X7_send ws_X7_send wm_L_99 dL_law_485 rfl (by decide) (by decide) rfl (by simp [Value.category]) ?_
  refine x_pop C dL_law_488 rfl ?_
  refine x_goto (tgt := 720) C dL_law_489 (by decide) ?_
  refine X.opn (fun g' hM' => ?_)
  exact (K g' _ _ _ (LJ.of hq ok nu nad hM' hS' hR')).room (by omega) (by omega)
theorem c5_search (Q : LC5 w c z b L xs a o ad u t kc ks h) : X z (kc + 1050) (ks + 8040) (EQ h) 492 [some (.ref b), some (.ref (a 0)), some (.ref o), some (.ref u), some (.int (nI (7 * t))), l5, l6, l7] [] := by
  obtain ⟨hX, C, E, hz, S, ⟨tL, L3⟩, I, K⟩ := Q
  have Y := Cty.of hX.1 E
  have hn : z.nL = 8 := hz.2.2.2.1
  obtain ⟨α, f, S0, ⟨κ, κd, Z⟩, ⟨f1, ho⟩, hM0, ok, hS, hR, nu, nad⟩ := I
  have hV : VV o ad u u := Or.inl rfl
  have hWm : ∀ g : PH, Wm w (c, o, ad, g) := fun g => ⟨hX.1.1, ok, hX.1.2.1, hX.1.2.2.1, hX.1.2.2.2.1, hX.1.2.2.2.2⟩
  refine x_aload_n C dL_law_492 rfl ?_
  obtain ⟨fn, fn1, Bx⟩ := Z.x
  refine k_callR (kc := kc + 1050) (ks := ks + 8040) (mc' := 0) (ms' := 0) (st := []) C Y hX.1 E (zz_search hX) ⟨κ, κd, Z⟩ md_X6_search wi_X6_search ws_X6_search wm_L_100 dL_law_493 rfl (by decide) (by decide) Bx rfl rfl (by decide) (fun r g hg => ?_)
  obtain ⟨⟨v, rfl⟩, Zg⟩ := hg
  have hq : LQ c a (VV o ad u) u α f h g := LQ.of ho hV Zg
  have hM := hq.ma hM0 nu nad
  obtain ⟨mv, S1, mt, hS', sm⟩ := v_search (hWm g) hS
  have hR' := hR.sm sm
  refine x_pop C dL_law_496 rfl ?_
  refine x_aload_n C dL_law_497 rfl ?_
  refine X.heap (A' := MA (c, o, ad, g) S0) ?_ (fun q e => by rw [e]; exact hM)
  refine w_callM (st := []) C E Y.1 (hWm g) mt rfl md_X7_search wi_X7_search ws_X7_search wm_L_103 dL_law_498 rfl (by decide) (by decide) rfl (by simp [Value.category]) ?_
  refine x_pop C dL_law_501 rfl ?_
  refine x_goto (tgt := 720) C dL_law_502 (by decide) ?_
  refine X.opn (fun g' hM' => ?_)
  exact (K g' _ _ _ (LJ.of hq ok nu nad hM' hS' hR')).room (by omega) (by omega)
theorem c5_found (Q : LC5 w c z b L xs a o ad u t kc ks h) : X z (kc + 1050) (ks + 8040) (EQ h) 505 [some (.ref b), some (.ref (a 0)), some (.ref o), some (.ref u), some (.int (nI (7 * t))), l5, l6, l7] [] := by
  obtain ⟨hX, C, E, hz, S, ⟨tL, L3⟩, I, K⟩ := Q
  have Y := Cty.of hX.1 E
  have hn : z.nL = 8 := hz.2.2.2.1
  obtain ⟨α, f, S0, ⟨κ, κd, Z⟩, ⟨f1, ho⟩, hM0, ok, hS, hR, nu, nad⟩ := I
  have hV : VV o ad u u := Or.inl rfl
  have hWm : ∀ g : PH, Wm w (c, o, ad, g) := fun g => ⟨hX.1.1, ok, hX.1.2.1, hX.1.2.2.1, hX.1.2.2.2.1, hX.1.2.2.2.2⟩
  refine x_aload_n C dL_law_505 rfl ?_
  refine x_aload_n C dL_law_506 rfl ?_
  refine x_iload C dL_law_507 rfl ?_
  refine x_iconst (v := 1) C dL_law_509 (by decide) ?_
  refine x_iadd C dL_law_510 ?_
  refine w_sld C hz S dL_law_511 (vp_s (n := 1) (by omega) L3) ?_
  refine x_aload_n C dL_law_512 rfl ?_
  refine x_iload C dL_law_513 rfl ?_
  refine x_iconst (v := 2) C dL_law_515 (by decide) ?_
  refine x_iadd C dL_law_516 ?_
  refine w_sld C hz S dL_law_517 (vp_s (n := 2) (by omega) L3) ?_
  refine x_aload_n C dL_law_518 rfl ?_
  refine k_callSW (kc := kc + 1049) (ks := ks + 8034) (st := []) C E hX.1.1 gw_good (l5_found hX Z ho hV _ _) mw_L_found wt_L_found wm_L_104 dL_law_519 rfl (by decide) (by decide) rfl (by simp) (fun r => X.opn (fun g hg => ?_))
  obtain ⟨⟨v, rfl⟩, hq⟩ := hg
  have vm := v_found (hWm g) hS
  have hR' : ∀ S1, SM S0 S1 → RK f α S1 := fun S1 sm => hR.sm sm
  have hM := hq.ma hM0 nu nad
  refine o_istoreE (L' := [some _, some _, some _, some _, some _, some _, l6, l7]) C dL_law_522 (by rw [hn]; decide) rfl ?_
  refine x_aload_n C dL_law_524 rfl ?_
  refine x_aload_n C dL_law_525 rfl ?_
  refine x_iload C dL_law_526 rfl ?_
  refine x_iconst (v := 1) C dL_law_528 (by decide) ?_
  refine x_iadd C dL_law_529 ?_
  refine w_sld C hz S dL_law_530 (vp_s (n := 1) (by omega) L3) ?_
  refine x_aload_n C dL_law_531 rfl ?_
  refine x_iload C dL_law_532 rfl ?_
  refine x_iconst (v := 2) C dL_law_534 (by decide) ?_
  refine x_iadd C dL_law_535 ?_
  refine w_sld C hz S dL_law_536 (vp_s (n := 2) (by omega) L3) ?_
  have vq := vm
  refine X.heap (A' := MA (c, o, ad, g) S0) ?_ (fun q e => by rw [e]; exact hM)
  refine w_some (st := []) C E Y.1 (hWm g) (vm _ _) rfl md_X7_found wi_X7_found ws_X7_found wm_L_106 dL_law_537 rfl (by decide) (by decide) rfl (by simp [Value.category]) (fun mv S1 hS' sm => ?_)
  have hR' := hR' S1 sm
  refine o_istoreE (L' := [some _, some _, some _, some _, some _, some _, some _, l7]) C dL_law_540 (by rw [hn]; decide) rfl ?_
  refine x_goto (tgt := 720) C dL_law_542 (by decide) ?_
  refine X.opn (fun g' hM' => ?_)
  exact (K g' _ _ _ (LJ.of hq ok nu nad hM' hS' hR')).room (by omega) (by omega)
theorem c5_readOut (Q : LC5 w c z b L xs a o ad u t kc ks h) : X z (kc + 1050) (ks + 8040) (EQ h) 545 [some (.ref b), some (.ref (a 0)), some (.ref o), some (.ref u), some (.int (nI (7 * t))), l5, l6, l7] [] := by
  obtain ⟨hX, C, E, hz, S, ⟨tL, L3⟩, I, K⟩ := Q
  have Y := Cty.of hX.1 E
  have hn : z.nL = 8 := hz.2.2.2.1
  obtain ⟨α, f, S0, ⟨κ, κd, Z⟩, ⟨f1, ho⟩, hM0, ok, hS, hR, nu, nad⟩ := I
  have hV : VV o ad u u := Or.inl rfl
  have hWm : ∀ g : PH, Wm w (c, o, ad, g) := fun g => ⟨hX.1.1, ok, hX.1.2.1, hX.1.2.2.1, hX.1.2.2.2.1, hX.1.2.2.2.2⟩
  refine x_aload_n C dL_law_545 rfl ?_
  refine x_aload_n C dL_law_546 rfl ?_
  refine x_iload C dL_law_547 rfl ?_
  refine x_iconst (v := 1) C dL_law_549 (by decide) ?_
  refine x_iadd C dL_law_550 ?_
  refine w_sld C hz S dL_law_551 (vp_s (n := 1) (by omega) L3) ?_
  refine x_aload_n C dL_law_552 rfl ?_
  refine k_callSW (kc := kc + 0) (ks := ks + 0) (st := []) C E hX.1.1 gw_good (l5_readOut hX Z ho hV _) mw_L_readOut wt_L_readOut wm_L_107 dL_law_553 rfl (by decide) (by decide) rfl (by simp) (fun r => X.opn (fun g hg => ?_))
  obtain ⟨⟨v, rfl⟩, hq⟩ := hg
  have vm := v_readOut (hWm g) hS
  have hR' : ∀ S1, SM S0 S1 → RK f α S1 := fun S1 sm => hR.sm sm
  have hM := hq.ma hM0 nu nad
  refine o_istoreE (L' := [some _, some _, some _, some _, some _, some _, l6, l7]) C dL_law_556 (by rw [hn]; decide) rfl ?_
  refine x_aload_n C dL_law_558 rfl ?_
  refine x_aload_n C dL_law_559 rfl ?_
  refine x_iload C dL_law_560 rfl ?_
  refine x_iconst (v := 1) C dL_law_562 (by decide) ?_
  refine x_iadd C dL_law_563 ?_
  refine w_sld C hz S dL_law_564 (vp_s (n := 1) (by omega) L3) ?_
  have vq := vm
  refine X.heap (A' := MA (c, o, ad, g) S0) ?_ (fun q e => by rw [e]; exact hM)
  refine w_some (st := []) C E Y.1 (hWm g) (vm _) rfl md_X7_readOut wi_X7_readOut ws_X7_readOut wm_L_109 dL_law_565 rfl (by decide) (by decide) rfl (by simp [Value.category]) (fun mv S1 hS' sm => ?_)
  have hR' := hR' S1 sm
  refine o_istoreE (L' := [some _, some _, some _, some _, some _, some _, some _, l7]) C dL_law_568 (by rw [hn]; decide) rfl ?_
  refine x_goto (tgt := 720) C dL_law_570 (by decide) ?_
  refine X.opn (fun g' hM' => ?_)
  exact (K g' _ _ _ (LJ.of hq ok nu nad hM' hS' hR')).room (by omega) (by omega)
theorem c5_decode (Q : LC5 w c z b L xs a o ad u t kc ks h) : X z (kc + 1050) (ks + 8040) (EQ h) 573 [some (.ref b), some (.ref (a 0)), some (.ref o), some (.ref u), some (.int (nI (7 * t))), l5, l6, l7] [] := by
  obtain ⟨hX, C, E, hz, S, ⟨tL, L3⟩, I, K⟩ := Q
  have Y := Cty.of hX.1 E
  have hn : z.nL = 8 := hz.2.2.2.1
  obtain ⟨α, f, S0, ⟨κ, κd, Z⟩, ⟨f1, ho⟩, hM0, ok, hS, hR, nu, nad⟩ := I
  have hV : VV o ad u u := Or.inl rfl
  have hWm : ∀ g : PH, Wm w (c, o, ad, g) := fun g => ⟨hX.1.1, ok, hX.1.2.1, hX.1.2.2.1, hX.1.2.2.2.1, hX.1.2.2.2.2⟩
  refine x_aload_n C dL_law_573 rfl ?_
  obtain ⟨fn, fn1, Bx⟩ := Z.x
  refine k_callR (kc := kc + 630) (ks := ks + 4821) (mc' := 420) (ms' := 3219) (st := []) C Y hX.1 E (zz_decode hX) ⟨κ, κd, Z⟩ md_X6_decode wi_X6_decode ws_X6_decode wm_L_110 dL_law_574 rfl (by decide) (by decide) Bx rfl rfl (by decide) (fun r g hg => ?_)
  obtain ⟨⟨v, rfl⟩, Zg⟩ := hg
  have hq : LQ c a (VV o ad u) u α f h g := LQ.of ho hV Zg
  have hM := hq.ma hM0 nu nad
  obtain ⟨mv, S1, mt, hS', sm⟩ := v_decode (hWm g) hS
  have hR' := hR.sm sm
  refine x_pop C dL_law_577 rfl ?_
  refine x_aload_n C dL_law_578 rfl ?_
  refine X.heap (A' := MA (c, o, ad, g) S0) ?_ (fun q e => by rw [e]; exact hM)
  refine w_callM (st := []) C E Y.1 (hWm g) mt rfl md_X7_decode wi_X7_decode ws_X7_decode wm_L_113 dL_law_579 rfl (by decide) (by decide) rfl (by simp [Value.category]) ?_
  refine x_pop C dL_law_582 rfl ?_
  refine x_goto (tgt := 720) C dL_law_583 (by decide) ?_
  refine X.opn (fun g' hM' => ?_)
  exact (K g' _ _ _ (LJ.of hq ok nu nad hM' hS' hR')).room (by omega) (by omega)
theorem c5_place (Q : LC5 w c z b L xs a o ad u t kc ks h) : X z (kc + 1050) (ks + 8040) (EQ h) 586 [some (.ref b), some (.ref (a 0)), some (.ref o), some (.ref u), some (.int (nI (7 * t))), l5, l6, l7] [] := by
  obtain ⟨hX, C, E, hz, S, ⟨tL, L3⟩, I, K⟩ := Q
  have Y := Cty.of hX.1 E
  have hn : z.nL = 8 := hz.2.2.2.1
  obtain ⟨α, f, S0, ⟨κ, κd, Z⟩, ⟨f1, ho⟩, hM0, ok, hS, hR, nu, nad⟩ := I
  have hV : VV o ad u u := Or.inl rfl
  have hWm : ∀ g : PH, Wm w (c, o, ad, g) := fun g => ⟨hX.1.1, ok, hX.1.2.1, hX.1.2.2.1, hX.1.2.2.2.1, hX.1.2.2.2.2⟩
  refine x_aload_n C dL_law_586 rfl ?_
  obtain ⟨fn, fn1, Bx⟩ := Z.x
  refine k_callR (kc := kc + 1050) (ks := ks + 8040) (mc' := 0) (ms' := 0) (st := []) C Y hX.1 E (zz_place hX) ⟨κ, κd, Z⟩ md_X6_place wi_X6_place ws_X6_place wm_L_114 dL_law_587 rfl (by decide) (by decide) Bx rfl rfl (by decide) (fun r g hg => ?_)
  obtain ⟨⟨v, rfl⟩, Zg⟩ := hg
  have hq : LQ c a (VV o ad u) u α f h g := LQ.of ho hV Zg
  have hM := hq.ma hM0 nu nad
  obtain ⟨mv, S1, mt, hS', sm⟩ := v_place (hWm g) hS
  have hR' := hR.sm sm
  refine x_pop C dL_law_590 rfl ?_
  refine x_aload_n C dL_law_591 rfl ?_
  refine X.heap (A' := MA (c, o, ad, g) S0) ?_ (fun q e => by rw [e]; exact hM)
  refine w_callM (st := []) C E Y.1 (hWm g) mt rfl md_X7_place wi_X7_place ws_X7_place wm_L_117 dL_law_592 rfl (by decide) (by decide) rfl (by simp [Value.category]) ?_
  refine x_pop C dL_law_595 rfl ?_
  refine x_goto (tgt := 720) C dL_law_596 (by decide) ?_
  refine X.opn (fun g' hM' => ?_)
  exact (K g' _ _ _ (LJ.of hq ok nu nad hM' hS' hR')).room (by omega) (by omega)
theorem c5_clear (Q : LC5 w c z b L xs a o ad u t kc ks h) : X z (kc + 1050) (ks + 8040) (EQ h) 599 [some (.ref b), some (.ref (a 0)), some (.ref o), some (.ref u), some (.int (nI (7 * t))), l5, l6, l7] [] := by
  obtain ⟨hX, C, E, hz, S, ⟨tL, L3⟩, I, K⟩ := Q
  have Y := Cty.of hX.1 E
  have hn : z.nL = 8 := hz.2.2.2.1
  obtain ⟨α, f, S0, ⟨κ, κd, Z⟩, ⟨f1, ho⟩, hM0, ok, hS, hR, nu, nad⟩ := I
  have hV : VV o ad u u := Or.inl rfl
  have hWm : ∀ g : PH, Wm w (c, o, ad, g) := fun g => ⟨hX.1.1, ok, hX.1.2.1, hX.1.2.2.1, hX.1.2.2.2.1, hX.1.2.2.2.2⟩
  refine x_aload_n C dL_law_599 rfl ?_
  obtain ⟨fn, fn1, Bx⟩ := Z.x
  refine k_callR (kc := kc + 1050) (ks := ks + 8040) (mc' := 0) (ms' := 0) (st := []) C Y hX.1 E (zz_clear hX) ⟨κ, κd, Z⟩ md_X6_clear wi_X6_clear ws_X6_clear wm_L_118 dL_law_600 rfl (by decide) (by decide) Bx rfl rfl (by decide) (fun r g hg => ?_)
  obtain ⟨⟨v, rfl⟩, Zg⟩ := hg
  have hq : LQ c a (VV o ad u) u α f h g := LQ.of ho hV Zg
  have hM := hq.ma hM0 nu nad
  obtain ⟨mv, S1, mt, hS', sm⟩ := v_clear (hWm g) hS
  have hR' := hR.sm sm
  refine x_pop C dL_law_603 rfl ?_
  refine x_aload_n C dL_law_604 rfl ?_
  refine X.heap (A' := MA (c, o, ad, g) S0) ?_ (fun q e => by rw [e]; exact hM)
  refine w_callM (st := []) C E Y.1 (hWm g) mt rfl md_X7_clear wi_X7_clear ws_X7_clear wm_L_121 dL_law_605 rfl (by decide) (by decide) rfl (by simp [Value.category]) ?_
  refine x_pop C dL_law_608 rfl ?_
  refine x_goto (tgt := 720) C dL_law_609 (by decide) ?_
  refine X.opn (fun g' hM' => ?_)
  exact (K g' _ _ _ (LJ.of hq ok nu nad hM' hS' hR')).room (by omega) (by omega)
theorem c5_record (Q : LC5 w c z b L xs a o ad u t kc ks h) : X z (kc + 1050) (ks + 8040) (EQ h) 612 [some (.ref b), some (.ref (a 0)), some (.ref o), some (.ref u), some (.int (nI (7 * t))), l5, l6, l7] [] := by
  obtain ⟨hX, C, E, hz, S, ⟨tL, L3⟩, I, K⟩ := Q
  have Y := Cty.of hX.1 E
  have hn : z.nL = 8 := hz.2.2.2.1
  obtain ⟨α, f, S0, ⟨κ, κd, Z⟩, ⟨f1, ho⟩, hM0, ok, hS, hR, nu, nad⟩ := I
  have hV : VV o ad u u := Or.inl rfl
  have hWm : ∀ g : PH, Wm w (c, o, ad, g) := fun g => ⟨hX.1.1, ok, hX.1.2.1, hX.1.2.2.1, hX.1.2.2.2.1, hX.1.2.2.2.2⟩
  refine x_aload_n C dL_law_612 rfl ?_
  refine x_aload_n C dL_law_613 rfl ?_
  refine x_iload C dL_law_614 rfl ?_
  refine x_iconst (v := 1) C dL_law_616 (by decide) ?_
  refine x_iadd C dL_law_617 ?_
  refine w_sld C hz S dL_law_618 (vp_s (n := 1) (by omega) L3) ?_
  refine x_aload_n C dL_law_619 rfl ?_
  refine x_iload C dL_law_620 rfl ?_
  refine x_iconst (v := 2) C dL_law_622 (by decide) ?_
  refine x_iadd C dL_law_623 ?_
  refine w_sld C hz S dL_law_624 (vp_s (n := 2) (by omega) L3) ?_
  refine x_aload_n C dL_law_625 rfl ?_
  refine k_callSW (kc := kc + 1049) (ks := ks + 8034) (st := []) C E hX.1.1 gw_good (l5_record hX Z ho hV _ _) mw_L_record wt_L_record wm_L_122 dL_law_626 rfl (by decide) (by decide) rfl (by simp) (fun r => X.opn (fun g hg => ?_))
  obtain ⟨⟨v, rfl⟩, hq⟩ := hg
  have vm := v_record (hWm g) hS
  have hR' : ∀ S1, SM S0 S1 → RK f α S1 := fun S1 sm => hR.sm sm
  have hM := hq.ma hM0 nu nad
  refine o_istoreE (L' := [some _, some _, some _, some _, some _, some _, l6, l7]) C dL_law_629 (by rw [hn]; decide) rfl ?_
  refine x_aload_n C dL_law_631 rfl ?_
  refine x_aload_n C dL_law_632 rfl ?_
  refine x_iload C dL_law_633 rfl ?_
  refine x_iconst (v := 1) C dL_law_635 (by decide) ?_
  refine x_iadd C dL_law_636 ?_
  refine w_sld C hz S dL_law_637 (vp_s (n := 1) (by omega) L3) ?_
  refine x_aload_n C dL_law_638 rfl ?_
  refine x_iload C dL_law_639 rfl ?_
  refine x_iconst (v := 2) C dL_law_641 (by decide) ?_
  refine x_iadd C dL_law_642 ?_
  refine w_sld C hz S dL_law_643 (vp_s (n := 2) (by omega) L3) ?_
  have vq := vm
  refine X.heap (A' := MA (c, o, ad, g) S0) ?_ (fun q e => by rw [e]; exact hM)
  refine w_some (st := []) C E Y.1 (hWm g) (vm _ _) rfl md_X7_record wi_X7_record ws_X7_record wm_L_124 dL_law_644 rfl (by decide) (by decide) rfl (by simp [Value.category]) (fun mv S1 hS' sm => ?_)
  have hR' := hR' S1 sm
  refine o_lstoreE (L' := [some _, some _, some _, some _, some _, some _, some _, none]) C dL_law_647 (by rw [hn]; decide) rfl ?_
  refine x_goto (tgt := 720) C dL_law_649 (by decide) ?_
  refine X.opn (fun g' hM' => ?_)
  exact (K g' _ _ _ (LJ.of hq ok nu nad hM' hS' hR')).room (by omega) (by omega)
theorem c5_text (Q : LC5 w c z b L xs a o ad u t kc ks h) : X z (kc + 1050) (ks + 8040) (EQ h) 652 [some (.ref b), some (.ref (a 0)), some (.ref o), some (.ref u), some (.int (nI (7 * t))), l5, l6, l7] [] := by
  obtain ⟨hX, C, E, hz, S, ⟨tL, L3⟩, I, K⟩ := Q
  have Y := Cty.of hX.1 E
  have hn : z.nL = 8 := hz.2.2.2.1
  obtain ⟨α, f, S0, ⟨κ, κd, Z⟩, ⟨f1, ho⟩, hM0, ok, hS, hR, nu, nad⟩ := I
  have hV : VV o ad u u := Or.inl rfl
  have hWm : ∀ g : PH, Wm w (c, o, ad, g) := fun g => ⟨hX.1.1, ok, hX.1.2.1, hX.1.2.2.1, hX.1.2.2.2.1, hX.1.2.2.2.2⟩
  refine x_aload_n C dL_law_652 rfl ?_
  refine x_aload_n C dL_law_653 rfl ?_
  refine x_iload C dL_law_654 rfl ?_
  refine x_iconst (v := 1) C dL_law_656 (by decide) ?_
  refine x_iadd C dL_law_657 ?_
  refine w_sld C hz S dL_law_658 (vp_s (n := 1) (by omega) L3) ?_
  refine x_aload_n C dL_law_659 rfl ?_
  refine x_iload C dL_law_660 rfl ?_
  refine x_iconst (v := 2) C dL_law_662 (by decide) ?_
  refine x_iadd C dL_law_663 ?_
  refine w_sld C hz S dL_law_664 (vp_s (n := 2) (by omega) L3) ?_
  refine x_aload_n C dL_law_665 rfl ?_
  refine k_callSW (kc := kc + 1049) (ks := ks + 8034) (st := []) C E hX.1.1 gw_good (l5_text hX Z ho hV _ _) mw_L_text wt_L_text wm_L_125 dL_law_666 rfl (by decide) (by decide) rfl (by simp) (fun r => X.opn (fun g hg => ?_))
  obtain ⟨⟨v, rfl⟩, hq⟩ := hg
  have vm := v_text (hWm g) hS
  have hR' : ∀ S1, SM S0 S1 → RK f α S1 := fun S1 sm => hR.sm sm
  have hM := hq.ma hM0 nu nad
  refine o_istoreE (L' := [some _, some _, some _, some _, some _, some _, l6, l7]) C dL_law_669 (by rw [hn]; decide) rfl ?_
  refine x_aload_n C dL_law_671 rfl ?_
  refine x_aload_n C dL_law_672 rfl ?_
  refine x_iload C dL_law_673 rfl ?_
  refine x_iconst (v := 1) C dL_law_675 (by decide) ?_
  refine x_iadd C dL_law_676 ?_
  refine w_sld C hz S dL_law_677 (vp_s (n := 1) (by omega) L3) ?_
  refine x_aload_n C dL_law_678 rfl ?_
  refine x_iload C dL_law_679 rfl ?_
  refine x_iconst (v := 2) C dL_law_681 (by decide) ?_
  refine x_iadd C dL_law_682 ?_
  refine w_sld C hz S dL_law_683 (vp_s (n := 2) (by omega) L3) ?_
  have vq := vm
  refine X.heap (A' := MA (c, o, ad, g) S0) ?_ (fun q e => by rw [e]; exact hM)
  refine w_some (st := []) C E Y.1 (hWm g) (vm _ _) rfl md_X7_text wi_X7_text ws_X7_text wm_L_127 dL_law_684 rfl (by decide) (by decide) rfl (by simp [Value.category]) (fun mv S1 hS' sm => ?_)
  have hR' := hR' S1 sm
  refine o_istoreE (L' := [some _, some _, some _, some _, some _, some _, some _, l7]) C dL_law_687 (by rw [hn]; decide) rfl ?_
  refine x_goto (tgt := 720) C dL_law_689 (by decide) ?_
  refine X.opn (fun g' hM' => ?_)
  exact (K g' _ _ _ (LJ.of hq ok nu nad hM' hS' hR')).room (by omega) (by omega)
theorem c5_count (Q : LC5 w c z b L xs a o ad u t kc ks h) : X z (kc + 1050) (ks + 8040) (EQ h) 692 [some (.ref b), some (.ref (a 0)), some (.ref o), some (.ref u), some (.int (nI (7 * t))), l5, l6, l7] [] := by
  obtain ⟨hX, C, E, hz, S, ⟨tL, L3⟩, I, K⟩ := Q
  have Y := Cty.of hX.1 E
  have hn : z.nL = 8 := hz.2.2.2.1
  obtain ⟨α, f, S0, ⟨κ, κd, Z⟩, ⟨f1, ho⟩, hM0, ok, hS, hR, nu, nad⟩ := I
  have hV : VV o ad u u := Or.inl rfl
  have hWm : ∀ g : PH, Wm w (c, o, ad, g) := fun g => ⟨hX.1.1, ok, hX.1.2.1, hX.1.2.2.1, hX.1.2.2.2.1, hX.1.2.2.2.2⟩
  refine x_aload_n C dL_law_692 rfl ?_
  refine x_aload_n C dL_law_693 rfl ?_
  refine x_iload C dL_law_694 rfl ?_
  refine x_iconst (v := 1) C dL_law_696 (by decide) ?_
  refine x_iadd C dL_law_697 ?_
  refine w_sld C hz S dL_law_698 (vp_s (n := 1) (by omega) L3) ?_
  refine x_aload_n C dL_law_699 rfl ?_
  refine k_callSW (kc := kc + 1049) (ks := ks + 8034) (st := []) C E hX.1.1 gw_good (l5_count hX Z ho hV _) mw_L_count wt_L_count wm_L_128 dL_law_700 rfl (by decide) (by decide) rfl (by simp) (fun r => X.opn (fun g hg => ?_))
  obtain ⟨⟨v, rfl⟩, hq⟩ := hg
  have vm := v_count (hWm g) hS
  have hR' : ∀ S1, SM S0 S1 → RK f α S1 := fun S1 sm => hR.sm sm
  have hM := hq.ma hM0 nu nad
  refine o_istoreE (L' := [some _, some _, some _, some _, some _, some _, l6, l7]) C dL_law_703 (by rw [hn]; decide) rfl ?_
  refine x_aload_n C dL_law_705 rfl ?_
  refine x_aload_n C dL_law_706 rfl ?_
  refine x_iload C dL_law_707 rfl ?_
  refine x_iconst (v := 1) C dL_law_709 (by decide) ?_
  refine x_iadd C dL_law_710 ?_
  refine w_sld C hz S dL_law_711 (vp_s (n := 1) (by omega) L3) ?_
  have vq := vm
  refine X.heap (A' := MA (c, o, ad, g) S0) ?_ (fun q e => by rw [e]; exact hM)
  refine w_some (st := []) C E Y.1 (hWm g) (vm _) rfl md_X7_count wi_X7_count ws_X7_count wm_L_130 dL_law_712 rfl (by decide) (by decide) rfl (by simp [Value.category]) (fun mv S1 hS' sm => ?_)
  have hR' := hR' S1 sm
  refine o_istoreE (L' := [some _, some _, some _, some _, some _, some _, some _, l7]) C dL_law_715 (by rw [hn]; decide) rfl ?_
  refine x_goto (tgt := 720) C dL_law_717 (by decide) ?_
  refine X.opn (fun g' hM' => ?_)
  exact (K g' _ _ _ (LJ.of hq ok nu nad hM' hS' hR')).room (by omega) (by omega)
end Cases
