/-! MeterBusModel: its state as three functions of a field's number, and rows of X over it. -/
section Rows
variable {z : Fx} {own : String} {cc : ByteArray} {Ts : List Cond} {kc ks pc : Nat} {A : PH → Prop} {L : List (Option Value)} {st : List Value}
theorem x_irem (C : Cx z own cc Ts) {x y : Int32} (d : decode cc pc = .ok (.irem, 1)) (g : ¬ y = 0) (k : X z kc ks A (pc + 1) L (.int (x - x / y * y) :: st)) : X z kc ks A pc L (.int y :: .int x :: st) := by
  intro H locs ls cells slots hp hS hl c1 c2
  exact lv_irem C.x C.b d g (k H locs ls cells slots hp hS hl c1 c2)
theorem x_idiv (C : Cx z own cc Ts) {x y : Int32} (d : decode cc pc = .ok (.idiv, 1)) (g : ¬ y = 0) (k : X z kc ks A (pc + 1) L (.int (x / y) :: st)) : X z kc ks A pc L (.int y :: .int x :: st) := by
  intro H locs ls cells slots hp hS hl c1 c2
  exact lv_idiv C.x C.b d g (k H locs ls cells slots hp hS hl c1 c2)
theorem x_lcmp (C : Cx z own cc Ts) {x y : Int64} (d : decode cc pc = .ok (.lcmp, 1)) (k : X z kc ks A (pc + 1) L (.int (lg_cmp x y) :: st)) : X z kc ks A pc L (.long y :: .long x :: st) := by
  intro H locs ls cells slots hp hS hl c1 c2
  exact W.lcmp C.x C.b d (k H locs ls cells slots hp hS hl c1 c2)
end Rows
abbrev MS : Type := (Nat → Int32) × (Nat → Nat → Int32) × (Nat → Nat → Int64)
def MS.i (S : MS) (k : Nat) : Int32 := S.1 k
def MS.a (S : MS) (k j : Nat) : Int32 := S.2.1 k j
def MS.w (S : MS) (k j : Nat) : Int64 := S.2.2 k j
def MS.si (S : MS) (k : Nat) (v : Int32) : MS := (va_up S.1 k v, S.2.1, S.2.2)
def MS.sa (S : MS) (k j : Nat) (v : Int32) : MS := (S.1, va_up S.2.1 k (upd (S.2.1 k) j v), S.2.2)
def MS.sw (S : MS) (k j : Nat) (v : Int64) : MS := (S.1, S.2.1, va_up S.2.2 k (vp_updL (S.2.2 k) j v))
theorem MS.si_i (S : MS) (k : Nat) (v : Int32) (q : Nat) : (S.si k v).i q = if q = k then v else S.i q := rfl
theorem MS.si_a (S : MS) (k : Nat) (v : Int32) (q j : Nat) : (S.si k v).a q j = S.a q j := rfl
theorem MS.si_w (S : MS) (k : Nat) (v : Int32) (q j : Nat) : (S.si k v).w q j = S.w q j := rfl
theorem MS.sa_i (S : MS) (k j : Nat) (v : Int32) (q : Nat) : (S.sa k j v).i q = S.i q := rfl
theorem MS.sa_a (S : MS) (k j : Nat) (v : Int32) (q t : Nat) : (S.sa k j v).a q t = if q = k ∧ t = j then v else S.a q t := by
  by_cases h : q = k
  · subst h
    by_cases g : t = j
    · subst g; simp [MS.sa, MS.a, va_up, upd]
    · simp [MS.sa, MS.a, va_up, upd, g]
  · simp [MS.sa, MS.a, va_up, h]
theorem MS.sa_w (S : MS) (k j : Nat) (v : Int32) (q t : Nat) : (S.sa k j v).w q t = S.w q t := rfl
theorem MS.sw_i (S : MS) (k j : Nat) (v : Int64) (q : Nat) : (S.sw k j v).i q = S.i q := rfl
theorem MS.sw_a (S : MS) (k j : Nat) (v : Int64) (q t : Nat) : (S.sw k j v).a q t = S.a q t := rfl
theorem MS.sw_w (S : MS) (k j : Nat) (v : Int64) (q t : Nat) : (S.sw k j v).w q t = if q = k ∧ t = j then v else S.w q t := by
  by_cases h : q = k
  · subst h
    by_cases g : t = j
    · subst g; simp [MS.sw, MS.w, va_up, vp_updL]
    · simp [MS.sw, MS.w, va_up, vp_updL, g]
  · simp [MS.sw, MS.w, va_up, h]
/-- 0 no array, 1 ints, 2 booleans, 3 longs -/
def m_kd (k : Nat) : Nat := match k with
  | 1 => 1 | 3 => 1 | 5 => 1 | 10 => 2 | 11 => 1 | 12 => 1 | 13 => 2 | 14 => 1 | 15 => 1 | 16 => 1 | 17 => 1 | 18 => 1 | 19 => 1
  | 21 => 1 | 22 => 1 | 24 => 3 | 25 => 1 | 26 => 1 | 27 => 3 | 28 => 1 | 29 => 1 | 30 => 1 | 31 => 1 | 32 => 1 | 33 => 1 | 35 => 1 | 38 => 1 | _ => 0
def m_len (k : Nat) : Nat := match k with
  | 1 => 300 | 3 => 300 | 5 => 300 | 10 => 12 | 11 => 12 | 12 => 96 | 13 => 12 | 14 => 12 | 15 => 12 | 16 => 12 | 17 => 36 | 18 => 2160 | 19 => 8
  | 21 => 800 | 22 => 13 | 24 => 100 | 25 => 100 | 26 => 100 | 27 => 100 | 28 => 100 | 29 => 100 | 30 => 100 | 31 => 1100 | 32 => 100 | 33 => 100 | 35 => 26000 | 38 => 300 | _ => 0
/-- the array classes: 0 int[], 1 long[], 2 boolean[]; the object; where each field's array lies; all else in the heap -/
abbrev MW : Type := (Nat → ClassId) × Nat × (Nat → Nat) × PH
abbrev MW.c (M : MW) : Nat → ClassId := M.1
abbrev MW.o (M : MW) : Nat := M.2.1
abbrev MW.ad (M : MW) : Nat → Nat := M.2.2.1
abbrev MW.hf (M : MW) : PH := M.2.2.2
def m_cell (c : Nat → ClassId) (S : MS) (k : Nat) : va_E := match m_kd k with
  | 3 => .inl (c 1, m_len k, .inr (.inl (S.2.2 k)))
  | 2 => .inl (c 2, m_len k, .inl (S.2.1 k))
  | _ => .inl (c 0, m_len k, .inl (S.2.1 k))
def m_val (ad : Nat → Nat) (S : MS) (k : Nat) : Value := if m_kd k = 0 then .int (S.1 k) else .ref (ad k)
def m_fs (ad : Nat → Nat) (S : MS) : List Value := (List.range 42).map (m_val ad S)
/-- the arrays lie apart -/
def MW.ok (M : MW) : Prop := (∀ j k, m_kd j ≠ 0 → m_kd k ≠ 0 → M.ad j = M.ad k → j = k) ∧ ∀ k, m_kd k ≠ 0 → M.ad k ≠ M.o
def MA (M : MW) (S : MS) : PH → Prop := fun h => h M.o = some (.inr (7, m_fs M.ad S)) ∧ (∀ k, m_kd k ≠ 0 → h (M.ad k) = some (m_cell M.c S k)) ∧ ∀ q, q ≠ M.o → (∀ k, m_kd k ≠ 0 → q ≠ M.ad k) → h q = M.hf q
theorem m_fs_get {ad : Nat → Nat} {S : MS} {k : Nat} (h : k < 42) : (m_fs ad S)[k]? = some (m_val ad S k) := by
  simp [m_fs, h]
theorem m_fs_len (ad : Nat → Nat) (S : MS) : (m_fs ad S).length = 42 := by simp [m_fs]
theorem m_fs_set {ad : Nat → Nat} {S : MS} {k : Nat} {v : Int32} (g : m_kd k = 0) : (m_fs ad S).set k (.int v) = m_fs ad (S.si k v) := by
  apply List.ext_getElem?
  intro j
  by_cases hj : j < 42
  · by_cases e : k = j
    · subst e
      rw [List.getElem?_set_self (by rw [m_fs_len]; exact hj), m_fs_get hj]
      simp [m_val, g, MS.si, va_up]
    · rw [List.getElem?_set_ne e, m_fs_get hj, m_fs_get hj]
      simp [m_val, MS.si, va_up, Ne.symm e]
  · rw [List.getElem?_eq_none (by rw [List.length_set, m_fs_len]; omega), List.getElem?_eq_none (by rw [m_fs_len]; omega)]
theorem m_cell_si {c : Nat → ClassId} {S : MS} {k q : Nat} {v : Int32} : m_cell c (S.si k v) q = m_cell c S q := rfl
theorem m_cell_sa {c : Nat → ClassId} {S : MS} {k q j : Nat} {v : Int32} (h : q ≠ k) : m_cell c (S.sa k j v) q = m_cell c S q := by
  simp [m_cell, MS.sa, va_up, h]
theorem m_cell_sw {c : Nat → ClassId} {S : MS} {k q j : Nat} {v : Int64} (h : q ≠ k) : m_cell c (S.sw k j v) q = m_cell c S q := by
  simp [m_cell, MS.sw, va_up, h]
theorem MA.si {M : MW} {S : MS} {h : PH} {k : Nat} {v : Int32} (ok : M.ok) (hm : MA M S h) (g : m_kd k = 0) : MA M (S.si k v) (hs h M.o (.inr (7, (m_fs M.ad S).set k (.int v)))) := by
  refine ⟨by rw [hs_self, m_fs_set g], fun q hq => ?_, fun q h1 h2 => ?_⟩
  · rw [hs_ne (ok.2 q hq)]
    exact hm.2.1 q hq
  · rw [hs_ne h1]
    exact hm.2.2 q h1 h2
theorem MA.st {M : MW} {S S' : MS} {h : PH} {k : Nat} {e : va_E} (ok : M.ok) (hm : MA M S h) (g : m_kd k ≠ 0) (e0 : S'.1 = S.1) (e1 : e = m_cell M.c S' k) (e2 : ∀ q, q ≠ k → m_cell M.c S' q = m_cell M.c S q) : MA M S' (hs h (M.ad k) e) := by
  refine ⟨?_, fun q hq => ?_, fun q h1 h2 => ?_⟩
  · rw [hs_ne (Ne.symm (ok.2 k g)), hm.1]
    simp [m_fs, m_val, e0]
  · by_cases hqk : q = k
    · subst hqk
      rw [hs_self, e1]
    · rw [hs_ne (fun z => hqk (ok.1 q k hq g z)), e2 q hqk]
      exact hm.2.1 q hq
  · rw [hs_ne (h2 k g)]
    exact hm.2.2 q h1 h2
/-- the array classes of a walk -/
def Mty (z : Fx) (M : MW) : Prop := z.cl = vwCl ∧ (∃ t : Nat, z.tys[t]? = some (M.c 0, FieldType.int)) ∧ (∃ t : Nat, z.tys[t]? = some (M.c 1, FieldType.long)) ∧ ∃ t : Nat, z.tys[t]? = some (M.c 2, FieldType.boolean)
theorem Mty.kd {z : Fx} {M : MW} (Y : Mty z M) : Kd z.cl gw 7 RX7 TX7 42 tyX7 := by
  have e := Y.1
  rw [e]
  exact kd_X7
section Rows
variable {z : Fx} {cc : ByteArray} {kc ks pc : Nat} {L : List (Option Value)} {st : List Value} {M : MW} {S : MS}
theorem m_get (C : Cx z RX7 cc gw) (Y : Mty z M) (k : Nat) {index : Nat} (hk : k < 42) (g : m_kd k = 0) (w : Cond.fieldLink RX7 index (TX7 k).1 (TX7 k).2.1 (TX7 k).2.2.1 ∈ gw) (d : decode cc pc = .ok (.getfield index, 3))
    (kk : X z kc ks (MA M S) (pc + 3) L (.int (S.i k) :: st)) : X z kc ks (MA M S) pc L (.ref M.o :: st) :=
  x_get C Y.kd k hk w d (fun h hm => hm.1) (by rw [m_fs_get hk]; simp only [m_val, g, if_true]; rfl) kk
theorem m_getA (C : Cx z RX7 cc gw) (Y : Mty z M) (k : Nat) {index : Nat} (hk : k < 42) (g : m_kd k ≠ 0) (w : Cond.fieldLink RX7 index (TX7 k).1 (TX7 k).2.1 (TX7 k).2.2.1 ∈ gw) (d : decode cc pc = .ok (.getfield index, 3))
    (kk : X z kc ks (MA M S) (pc + 3) L (.ref (M.ad k) :: st)) : X z kc ks (MA M S) pc L (.ref M.o :: st) :=
  x_get C Y.kd k hk w d (fun h hm => hm.1) (by rw [m_fs_get hk]; simp only [m_val, g, if_false]) kk
theorem m_put (C : Cx z RX7 cc gw) (Y : Mty z M) (ok : M.ok) (k : Nat) {index : Nat} {v : Int32} (hk : k < 42) (g : m_kd k = 0) (hfin : (TX7 k).2.2.2 = false) (hn : narrow (tyX7 k) (.int v) = .int v) (hf : fits (tyX7 k) (.int v) = true) (w : Cond.fieldLink RX7 index (TX7 k).1 (TX7 k).2.1 (TX7 k).2.2.1 ∈ gw) (d : decode cc pc = .ok (.putfield index, 3))
    (kk : X z kc ks (MA M (S.si k v)) (pc + 3) L st) : X z kc ks (MA M S) pc L (.int v :: .ref M.o :: st) :=
  x_put C Y.kd k hk hfin w d (fun h hm => hm.1) (by rw [m_fs_len]; exact hk) hn hf (fun h hm => hm.si ok g) kk
theorem m_ild (C : Cx z RX7 cc gw) (Y : Mty z M) (k : Nat) {i : Int32} (g : m_kd k = 1) (d : decode cc pc = .ok (.iaload, 1)) (gi : vp_in i (m_len k))
    (kk : X z kc ks (MA M S) (pc + 1) L (.int (S.a k i.toNatClampNeg) :: st)) : X z kc ks (MA M S) pc L (.int i :: .ref (M.ad k) :: st) := by
  obtain ⟨t, ht⟩ := Y.2.1
  exact x_iald (f := S.2.1 k) C ht d (fun h hm => by rw [hm.2.1 k (by omega)]; simp only [m_cell, g]) gi kk
theorem m_zld (C : Cx z RX7 cc gw) (Y : Mty z M) (k : Nat) {i : Int32} (g : m_kd k = 2) (d : decode cc pc = .ok (.baload, 1)) (gi : vp_in i (m_len k))
    (kk : X z kc ks (MA M S) (pc + 1) L (.int (S.a k i.toNatClampNeg) :: st)) : X z kc ks (MA M S) pc L (.int i :: .ref (M.ad k) :: st) := by
  obtain ⟨t, ht⟩ := Y.2.2.2
  exact x_zald (f := S.2.1 k) C ht d (fun h hm => by rw [hm.2.1 k (by omega)]; simp only [m_cell, g]) gi kk
theorem m_lld (C : Cx z RX7 cc gw) (Y : Mty z M) (k : Nat) {i : Int32} (g : m_kd k = 3) (d : decode cc pc = .ok (.laload, 1)) (gi : vp_in i (m_len k))
    (kk : X z kc ks (MA M S) (pc + 1) L (.long (S.w k i.toNatClampNeg) :: st)) : X z kc ks (MA M S) pc L (.int i :: .ref (M.ad k) :: st) := by
  obtain ⟨t, ht⟩ := Y.2.2.1
  exact x_lald (f := S.2.2 k) C ht d (fun h hm => by rw [hm.2.1 k (by omega)]; simp only [m_cell, g]) gi kk
theorem m_ist (C : Cx z RX7 cc gw) (Y : Mty z M) (ok : M.ok) (k : Nat) {i x : Int32} (g : m_kd k = 1) (d : decode cc pc = .ok (.iastore, 1)) (gi : vp_in i (m_len k))
    (kk : X z kc ks (MA M (S.sa k i.toNatClampNeg x)) (pc + 1) L st) : X z kc ks (MA M S) pc L (.int x :: .int i :: .ref (M.ad k) :: st) := by
  obtain ⟨t, ht⟩ := Y.2.1
  exact x_iast (f := S.2.1 k) (B := MA M (S.sa k i.toNatClampNeg x)) C ht d (fun h hm => by rw [hm.2.1 k (by omega)]; simp only [m_cell, g]) gi (fun h hm => hm.st ok (by omega) rfl (by simp only [m_cell, g, MS.sa, va_up_self]) (fun q hq => m_cell_sa hq)) kk
theorem m_zst (C : Cx z RX7 cc gw) (Y : Mty z M) (ok : M.ok) (k : Nat) {i x : Int32} (g : m_kd k = 2) (hx : vp_nar .boolean x = x) (d : decode cc pc = .ok (.bastore, 1)) (gi : vp_in i (m_len k))
    (kk : X z kc ks (MA M (S.sa k i.toNatClampNeg x)) (pc + 1) L st) : X z kc ks (MA M S) pc L (.int x :: .int i :: .ref (M.ad k) :: st) := by
  obtain ⟨t, ht⟩ := Y.2.2.2
  exact x_zast (f := S.2.1 k) (B := MA M (S.sa k i.toNatClampNeg x)) C ht d (fun h hm => by rw [hm.2.1 k (by omega)]; simp only [m_cell, g]) gi (fun h hm => hm.st ok (by omega) rfl (by simp only [m_cell, g, MS.sa, va_up_self, hx]) (fun q hq => m_cell_sa hq)) kk
theorem m_lst (C : Cx z RX7 cc gw) (Y : Mty z M) (ok : M.ok) (k : Nat) {i : Int32} {x : Int64} (g : m_kd k = 3) (d : decode cc pc = .ok (.lastore, 1)) (gi : vp_in i (m_len k))
    (kk : X z kc ks (MA M (S.sw k i.toNatClampNeg x)) (pc + 1) L st) : X z kc ks (MA M S) pc L (.long x :: .int i :: .ref (M.ad k) :: st) := by
  obtain ⟨t, ht⟩ := Y.2.2.1
  exact x_last (f := S.2.2 k) (B := MA M (S.sw k i.toNatClampNeg x)) C ht d (fun h hm => by rw [hm.2.1 k (by omega)]; simp only [m_cell, g]) gi (fun h hm => hm.st ok (by omega) rfl (by simp only [m_cell, g, MS.sw, va_up_self]) (fun q hq => m_cell_sw hq)) kk
end Rows
def Wm (w : Wd) (M : MW) : Prop := w.ok ∧ M.ok ∧ w.cl = vwCl ∧ (∃ t : Nat, w.tys[t]? = some (M.c 0, FieldType.int)) ∧ (∃ t : Nat, w.tys[t]? = some (M.c 1, FieldType.long)) ∧ ∃ t : Nat, w.tys[t]? = some (M.c 2, FieldType.boolean)
def PM (M : MW) (post : Option Value → MS → Prop) : Option Value → PH → Prop := fun r h => ∃ S', post r S' ∧ MA M S' h
/-- a contract of a method of the model, at a level (how deep it calls) -/
def TM (w : Wd) (M : MW) (y : MethodName) (cc : ByteArray) (n : Nat) (rt : Option FieldType) (lvl : Nat) (as : List Value) (S : MS) (post : Option Value → MS → Prop) : Prop :=
  T w gw y cc n rt lvl (40 * lvl) 0 0 (.ref M.o :: as) (MA M S) (PM M post)
section Rows
variable {z : Fx} {cc : ByteArray} {kc ks pc : Nat} {L : List (Option Value)} {st : List Value} {M : MW} {S : MS} {w : Wd} {y : MethodName} {rt : Option FieldType} {lvl : Nat} {post : Option Value → MS → Prop}
theorem TM.intro {n : Nat} {as : List Value} (hW : Wm w M) (hy : y.cls = RX7) (hlen : (lg_sl (.ref M.o :: as)).length ≤ n)
    (k : ∀ z : Fx, Cx z RX7 cc gw → Mty z M → Ct z w gw y rt lvl (40 * lvl) (PM M post) → z.nL = n → X z 0 0 (MA M S) 0 (lent n (.ref M.o :: as)) []) : TM w M y cc n rt lvl as S post := by
  refine T.intro (by rw [hy]; decide +kernel) hlen (fun z C E e1 e2 e3 => ?_)
  rw [hy] at C
  refine k z C ?_ E e1
  obtain ⟨q1, q2, q3, q4, q5, -⟩ := E
  obtain ⟨r1, r2, r3, r4, r5, r6⟩ := hW
  exact ⟨by rw [q3]; exact r3, by rw [q4]; exact r4, by rw [q4]; exact r5, by rw [q4]; exact r6⟩
theorem m_iret (C : Cx z RX7 cc gw) (E : Ct z w gw y (some .int) lvl (40 * lvl) (PM M post)) (d : decode cc pc = .ok (.ireturn, 1)) {v : Int32} (g : post (some (.int v)) S) : X z kc ks (MA M S) pc L [.int v] := x_iret C E d (fun h hm => ⟨S, g, hm⟩)
theorem m_zret (C : Cx z RX7 cc gw) (E : Ct z w gw y (some .boolean) lvl (40 * lvl) (PM M post)) (d : decode cc pc = .ok (.ireturn, 1)) {v : Int32} (hn : narrow .boolean (.int v) = .int v) (g : post (some (.int v)) S) : X z kc ks (MA M S) pc L [.int v] := x_zret C E d hn (fun h hm => ⟨S, g, hm⟩)
theorem m_lret (C : Cx z RX7 cc gw) (E : Ct z w gw y (some .long) lvl (40 * lvl) (PM M post)) (d : decode cc pc = .ok (.lreturn, 1)) {v : Int64} (g : post (some (.long v)) S) : X z kc ks (MA M S) pc L [.long v] := x_lret C E d (fun h hm => ⟨S, g, hm⟩)
theorem m_vret (C : Cx z RX7 cc gw) (E : Ct z w gw y none lvl (40 * lvl) (PM M post)) (d : decode cc pc = .ok (.return_, 1)) (g : post none S) : X z kc ks (MA M S) pc L [] := x_vret C E d (fun h hm => ⟨S, g, hm⟩)
theorem m_callV (C : Cx z RX7 cc gw) (Y : Mty z M) (hW : Wm w M) (E : Ct z w gw y rt lvl (40 * lvl) (PM M post)) {y' : MethodName} {cc' : ByteArray} {n' np index lvl' : Nat} {rt' : Option FieldType} {As stk : List Value} {post' : Option Value → MS → Prop}
    (Mc : TM w M y' cc' n' rt' lvl' As S post') (hc : y'.cls = RX7) (md : Md gw y' cc' n' rt' np) (wi : Cond.instanceMethod y' ∈ gw) (wse : Cond.selects RX7 y' y' ∈ gw) (wl : Cond.methodLink RX7 index y' ∈ gw) (d : decode cc pc = .ok (.invokevirtual index, 3)) (hn : As.length = np) (hf : lvl' < lvl) (hlo : n' ≤ 21)
    (hs : stk = As.reverse ++ .ref M.o :: st) (hcat : (st.map fun v => v.category).sum ≤ 8)
    (k : ∀ r S', post' r S' → X z kc ks (MA M S') (pc + 3) L (r.toList ++ st)) : X z kc ks (MA M S) pc L stk := by
  refine x_callV (mc' := 0) (ms' := 0) C E hW.1 gw_good Mc md wi (by rw [hc]; exact wse) wl d hn (by omega) (by omega) (ci := 7) (fun h hm => hm.1) (by rw [Y.1, hc]; rfl) hs hcat (fun r => X.heap (X.ex (B := fun S' h => post' r S' ∧ MA M S' h) (fun S' => X.pure (p := post' r S') (fun h g => g.1) (fun g => X.heap (k r S' g) (fun h g2 => g2.2)))) (fun h g => g))
theorem m_callS (C : Cx z RX7 cc gw) (hW : Wm w M) (E : Ct z w gw y rt lvl (40 * lvl) (PM M post)) {y' : MethodName} {cc' : ByteArray} {n' np index lvl' : Nat} {rt' : Option FieldType} {As stk : List Value} {post' : Option Value → Prop}
    (Mc : ∀ A : PH → Prop, T w gw y' cc' n' rt' lvl' (40 * lvl') 0 0 As A (fun r h => post' r ∧ A h)) (md : Md gw y' cc' n' rt' np) (wst : Cond.static y' ∈ gw) (wl : Cond.methodLink RX7 index y' ∈ gw) (d : decode cc pc = .ok (.invokestatic index, 3)) (hn : As.length = np) (hf : lvl' < lvl) (hlo : n' ≤ 21)
    (hs : stk = As.reverse ++ st) (hcat : (st.map fun v => v.category).sum ≤ 8)
    (k : ∀ r, post' r → X z kc ks (MA M S) (pc + 3) L (r.toList ++ st)) : X z kc ks (MA M S) pc L stk := by
  refine x_callS (mc' := 0) (ms' := 0) C E hW.1 gw_good (Mc (MA M S)) md wst wl d hn (by omega) (by omega) hs hcat (fun r => X.pure (p := post' r) (fun h g => g.1) (fun g => X.heap (k r g) (fun h g2 => g2.2)))
end Rows
/-- a contract whose end is told outright -/
def TF (w : Wd) (M : MW) (y : MethodName) (cc : ByteArray) (n : Nat) (rt : Option FieldType) (lvl : Nat) (as : List Value) (S : MS) (r : Option Value) (S' : MS) : Prop := TM w M y cc n rt lvl as S (fun q Q => q = r ∧ Q = S')
section Rows
variable {z : Fx} {cc : ByteArray} {kc ks pc : Nat} {L : List (Option Value)} {st : List Value} {M : MW} {S S' : MS} {w : Wd} {y : MethodName} {rt : Option FieldType} {lvl : Nat} {post : Option Value → MS → Prop}
theorem m_callF {r : Option Value} (C : Cx z RX7 cc gw) (Y : Mty z M) (hW : Wm w M) (E : Ct z w gw y rt lvl (40 * lvl) (PM M post)) {y' : MethodName} {cc' : ByteArray} {n' np index lvl' : Nat} {rt' : Option FieldType} {As stk : List Value}
    (Mc : TF w M y' cc' n' rt' lvl' As S r S') (hc : y'.cls = RX7) (md : Md gw y' cc' n' rt' np) (wi : Cond.instanceMethod y' ∈ gw) (wse : Cond.selects RX7 y' y' ∈ gw) (wl : Cond.methodLink RX7 index y' ∈ gw) (d : decode cc pc = .ok (.invokevirtual index, 3)) (hn : As.length = np) (hf : lvl' < lvl) (hlo : n' ≤ 21)
    (hs : stk = As.reverse ++ .ref M.o :: st) (hcat : (st.map fun v => v.category).sum ≤ 8)
    (k : X z kc ks (MA M S') (pc + 3) L (r.toList ++ st)) : X z kc ks (MA M S) pc L stk :=
  m_callV C Y hW E Mc hc md wi wse wl d hn hf hlo hs hcat (fun r S' g => by obtain ⟨rfl, rfl⟩ := g; exact k)
theorem x_istoreE (C : Cx z RX7 cc gw) {A : PH → Prop} {i : Nat} {x : Int32} {L' : List (Option Value)} (d : decode cc pc = .ok (.istore i, 2)) (g : i < z.nL) (e : lst1 L i (.int x) = L')
    (k : X z kc ks A (pc + 2) L' st) : X z kc ks A pc L (.int x :: st) := by subst e; exact x_istore C d g k
theorem x_istore_nE (C : Cx z RX7 cc gw) {A : PH → Prop} {i : Fin 4} {x : Int32} {L' : List (Option Value)} (d : decode cc pc = .ok (.istore_n i, 1)) (g : (i : Nat) < z.nL) (e : lst1 L i (.int x) = L')
    (k : X z kc ks A (pc + 1) L' st) : X z kc ks A pc L (.int x :: st) := by subst e; exact x_istore_n C d g k
theorem x_lstoreE (C : Cx z RX7 cc gw) {A : PH → Prop} {i : Nat} {x : Int64} {L' : List (Option Value)} (d : decode cc pc = .ok (.lstore i, 2)) (g : i + 1 < z.nL) (e : lst2 L i (.long x) = L')
    (k : X z kc ks A (pc + 2) L' st) : X z kc ks A pc L (.long x :: st) := by subst e; exact x_lstore C d g k
theorem x_lstore_nE (C : Cx z RX7 cc gw) {A : PH → Prop} {i : Fin 4} {x : Int64} {L' : List (Option Value)} (d : decode cc pc = .ok (.lstore_n i, 1)) (g : (i : Nat) + 1 < z.nL) (e : lst2 L i (.long x) = L')
    (k : X z kc ks A (pc + 1) L' st) : X z kc ks A pc L (.long x :: st) := by subst e; exact x_lstore_n C d g k
theorem x_iincE (C : Cx z RX7 cc gw) {A : PH → Prop} {i : Nat} {n : Int} {x v : Int32} {L' : List (Option Value)} (d : decode cc pc = .ok (.iinc i n, 3)) (g : L[i]? = some (some (.int x))) (hv : x + Int32.ofInt n = v) (gn : i < z.nL) (e : lst1 L i (.int v) = L')
    (k : X z kc ks A (pc + 3) L' st) : X z kc ks A pc L st := by subst e; exact x_iinc C d g hv gn k
end Rows
/-- a static method that looks at its arguments alone -/
def TSt (w : Wd) (y : MethodName) (cc : ByteArray) (n : Nat) (rt : Option FieldType) (lvl : Nat) (as : List Value) (R : Option Value) : Prop := ∀ A : PH → Prop, T w gw y cc n rt lvl (40 * lvl) 0 0 as A (fun r h => r = R ∧ A h)
section Rows
variable {z : Fx} {cc : ByteArray} {kc ks pc : Nat} {L : List (Option Value)} {st : List Value} {M : MW} {S : MS} {w : Wd} {y : MethodName} {rt : Option FieldType} {lvl : Nat} {post : Option Value → MS → Prop}
theorem m_callSF {R : Option Value} (C : Cx z RX7 cc gw) (hW : Wm w M) (E : Ct z w gw y rt lvl (40 * lvl) (PM M post)) {y' : MethodName} {cc' : ByteArray} {n' np index lvl' : Nat} {rt' : Option FieldType} {As stk : List Value}
    (Mc : TSt w y' cc' n' rt' lvl' As R) (md : Md gw y' cc' n' rt' np) (wst : Cond.static y' ∈ gw) (wl : Cond.methodLink RX7 index y' ∈ gw) (d : decode cc pc = .ok (.invokestatic index, 3)) (hn : As.length = np) (hf : lvl' < lvl) (hlo : n' ≤ 21)
    (hs : stk = As.reverse ++ st) (hcat : (st.map fun v => v.category).sum ≤ 8)
    (k : X z kc ks (MA M S) (pc + 3) L (R.toList ++ st)) : X z kc ks (MA M S) pc L stk :=
  m_callS C hW E (post' := fun r => r = R) Mc md wst wl d hn hf hlo hs hcat (fun r g => by subst g; exact k)
theorem TSt.intro {n : Nat} {as : List Value} {R : Option Value} (hy : y.cls = RX7) (hlen : (lg_sl as).length ≤ n)
    (k : ∀ (z : Fx) (A : PH → Prop), Cx z RX7 cc gw → Ct z w gw y rt lvl (40 * lvl) (fun r h => r = R ∧ A h) → z.nL = n → X z 0 0 A 0 (lent n as) []) : TSt w y cc n rt lvl as R := by
  intro A
  refine T.intro (by rw [hy]; decide +kernel) hlen (fun z C E e1 e2 e3 => ?_)
  rw [hy] at C
  exact k z A C E e1
end Rows
def bI (p : Prop) [Decidable p] : Int32 := if p then 1 else 0
theorem bI_t {p : Prop} [Decidable p] (h : p) : bI p = 1 := if_pos h
theorem bI_f {p : Prop} [Decidable p] (h : ¬ p) : bI p = 0 := if_neg h
theorem bI_b {p : Prop} [Decidable p] : narrow .boolean (.int (bI p)) = .int (bI p) := by
  by_cases h : p
  · rw [bI_t h]; decide
  · rw [bI_f h]; decide
theorem bI_0 {p : Prop} [Decidable p] : bI p = 0 ↔ ¬ p := by
  by_cases h : p
  · rw [bI_t h]; exact ⟨fun e => absurd e (by decide), fun e => absurd h e⟩
  · rw [bI_f h]; exact ⟨fun _ => h, fun _ => rfl⟩
theorem bI_0n {p : Prop} [Decidable p] : ¬ bI p = 0 ↔ p := by rw [bI_0]; exact Decidable.not_not
