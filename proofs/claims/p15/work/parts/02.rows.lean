/-! Rows of X, an instruction each. By program (wip/mkrows.py). -/
section Rows
variable {z : Fx} {own : String} {cc : ByteArray} {Ts : List Cond} {kc ks pc : Nat} {A : PH → Prop} {L : List (Option Value)} {st : List Value}
theorem x_iadd (C : Cx z own cc Ts) {x y : Int32} (d : decode cc pc = .ok (.iadd, 1)) 
    (k : X z kc ks A (pc + 1) L (.int (x + y) :: st)) : X z kc ks A pc L (.int y :: .int x :: st) := by
  intro H locs ls cells slots hp hS hl c1 c2
  exact lv_iadd C.x C.b d (k H locs ls cells slots hp hS hl c1 c2)
theorem x_isub (C : Cx z own cc Ts) {x y : Int32} (d : decode cc pc = .ok (.isub, 1)) 
    (k : X z kc ks A (pc + 1) L (.int (x - y) :: st)) : X z kc ks A pc L (.int y :: .int x :: st) := by
  intro H locs ls cells slots hp hS hl c1 c2
  exact lv_isub C.x C.b d (k H locs ls cells slots hp hS hl c1 c2)
theorem x_imul (C : Cx z own cc Ts) {x y : Int32} (d : decode cc pc = .ok (.imul, 1)) 
    (k : X z kc ks A (pc + 1) L (.int (x * y) :: st)) : X z kc ks A pc L (.int y :: .int x :: st) := by
  intro H locs ls cells slots hp hS hl c1 c2
  exact lv_imul C.x C.b d (k H locs ls cells slots hp hS hl c1 c2)
theorem x_iand (C : Cx z own cc Ts) {x y : Int32} (d : decode cc pc = .ok (.iand, 1)) 
    (k : X z kc ks A (pc + 1) L (.int (x &&& y) :: st)) : X z kc ks A pc L (.int y :: .int x :: st) := by
  intro H locs ls cells slots hp hS hl c1 c2
  exact lv_iand C.x C.b d (k H locs ls cells slots hp hS hl c1 c2)
theorem x_ior (C : Cx z own cc Ts) {x y : Int32} (d : decode cc pc = .ok (.ior, 1)) 
    (k : X z kc ks A (pc + 1) L (.int (x ||| y) :: st)) : X z kc ks A pc L (.int y :: .int x :: st) := by
  intro H locs ls cells slots hp hS hl c1 c2
  exact lv_ior C.x C.b d (k H locs ls cells slots hp hS hl c1 c2)
theorem x_ixor (C : Cx z own cc Ts) {x y : Int32} (d : decode cc pc = .ok (.ixor, 1)) 
    (k : X z kc ks A (pc + 1) L (.int (x ^^^ y) :: st)) : X z kc ks A pc L (.int y :: .int x :: st) := by
  intro H locs ls cells slots hp hS hl c1 c2
  exact lv_ixor C.x C.b d (k H locs ls cells slots hp hS hl c1 c2)
theorem x_ladd (C : Cx z own cc Ts) {x y : Int64} (d : decode cc pc = .ok (.ladd, 1)) 
    (k : X z kc ks A (pc + 1) L (.long (x + y) :: st)) : X z kc ks A pc L (.long y :: .long x :: st) := by
  intro H locs ls cells slots hp hS hl c1 c2
  exact lv_ladd C.x C.b d (k H locs ls cells slots hp hS hl c1 c2)
theorem x_lsub (C : Cx z own cc Ts) {x y : Int64} (d : decode cc pc = .ok (.lsub, 1)) 
    (k : X z kc ks A (pc + 1) L (.long (x - y) :: st)) : X z kc ks A pc L (.long y :: .long x :: st) := by
  intro H locs ls cells slots hp hS hl c1 c2
  exact lv_lsub C.x C.b d (k H locs ls cells slots hp hS hl c1 c2)
theorem x_lmul (C : Cx z own cc Ts) {x y : Int64} (d : decode cc pc = .ok (.lmul, 1)) 
    (k : X z kc ks A (pc + 1) L (.long (x * y) :: st)) : X z kc ks A pc L (.long y :: .long x :: st) := by
  intro H locs ls cells slots hp hS hl c1 c2
  exact lv_lmul C.x C.b d (k H locs ls cells slots hp hS hl c1 c2)
theorem x_land (C : Cx z own cc Ts) {x y : Int64} (d : decode cc pc = .ok (.land, 1)) 
    (k : X z kc ks A (pc + 1) L (.long (x &&& y) :: st)) : X z kc ks A pc L (.long y :: .long x :: st) := by
  intro H locs ls cells slots hp hS hl c1 c2
  exact lv_land C.x C.b d (k H locs ls cells slots hp hS hl c1 c2)
theorem x_lor (C : Cx z own cc Ts) {x y : Int64} (d : decode cc pc = .ok (.lor, 1)) 
    (k : X z kc ks A (pc + 1) L (.long (x ||| y) :: st)) : X z kc ks A pc L (.long y :: .long x :: st) := by
  intro H locs ls cells slots hp hS hl c1 c2
  exact lv_lor C.x C.b d (k H locs ls cells slots hp hS hl c1 c2)
theorem x_lxor (C : Cx z own cc Ts) {x y : Int64} (d : decode cc pc = .ok (.lxor, 1)) 
    (k : X z kc ks A (pc + 1) L (.long (x ^^^ y) :: st)) : X z kc ks A pc L (.long y :: .long x :: st) := by
  intro H locs ls cells slots hp hS hl c1 c2
  exact lv_lxor C.x C.b d (k H locs ls cells slots hp hS hl c1 c2)
theorem x_ishl (C : Cx z own cc Ts) {x y : Int32} (d : decode cc pc = .ok (.ishl, 1)) 
    (k : X z kc ks A (pc + 1) L (.int (x <<< (y &&& 31)) :: st)) : X z kc ks A pc L (.int y :: .int x :: st) := by
  intro H locs ls cells slots hp hS hl c1 c2
  exact lv_ishl C.x C.b d (k H locs ls cells slots hp hS hl c1 c2)
theorem x_ishr (C : Cx z own cc Ts) {x y : Int32} (d : decode cc pc = .ok (.ishr, 1)) 
    (k : X z kc ks A (pc + 1) L (.int (x >>> (y &&& 31)) :: st)) : X z kc ks A pc L (.int y :: .int x :: st) := by
  intro H locs ls cells slots hp hS hl c1 c2
  exact lv_ishr C.x C.b d (k H locs ls cells slots hp hS hl c1 c2)
theorem x_iushr (C : Cx z own cc Ts) {x y : Int32} (d : decode cc pc = .ok (.iushr, 1)) 
    (k : X z kc ks A (pc + 1) L (.int ((x.toUInt32 >>> (y.toUInt32 &&& Int32.toUInt32 31)).toInt32) :: st)) : X z kc ks A pc L (.int y :: .int x :: st) := by
  intro H locs ls cells slots hp hS hl c1 c2
  exact lv_iushr C.x C.b d rfl (k H locs ls cells slots hp hS hl c1 c2)
theorem x_lshl (C : Cx z own cc Ts) {x : Int64} {y : Int32} (d : decode cc pc = .ok (.lshl, 1)) 
    (k : X z kc ks A (pc + 1) L (.long (x <<< (y.toInt64 &&& 63)) :: st)) : X z kc ks A pc L (.int y :: .long x :: st) := by
  intro H locs ls cells slots hp hS hl c1 c2
  exact lv_lshl C.x C.b d rfl (k H locs ls cells slots hp hS hl c1 c2)
theorem x_lshr (C : Cx z own cc Ts) {x : Int64} {y : Int32} (d : decode cc pc = .ok (.lshr, 1)) 
    (k : X z kc ks A (pc + 1) L (.long (x >>> (y.toInt64 &&& 63)) :: st)) : X z kc ks A pc L (.int y :: .long x :: st) := by
  intro H locs ls cells slots hp hS hl c1 c2
  exact lv_lshr C.x C.b d rfl (k H locs ls cells slots hp hS hl c1 c2)
theorem x_lushr (C : Cx z own cc Ts) {x : Int64} {y : Int32} (d : decode cc pc = .ok (.lushr, 1)) 
    (k : X z kc ks A (pc + 1) L (.long ((x.toUInt64 >>> (y.toInt64.toUInt64 &&& Int64.toUInt64 63)).toInt64) :: st)) : X z kc ks A pc L (.int y :: .long x :: st) := by
  intro H locs ls cells slots hp hS hl c1 c2
  exact lv_lushr C.x C.b d rfl (k H locs ls cells slots hp hS hl c1 c2)
theorem x_i2l (C : Cx z own cc Ts) {x : Int32} (d : decode cc pc = .ok (.i2l, 1)) 
    (k : X z kc ks A (pc + 1) L (.long x.toInt64 :: st)) : X z kc ks A pc L (.int x :: st) := by
  intro H locs ls cells slots hp hS hl c1 c2
  exact lv_i2l C.x C.b d rfl (k H locs ls cells slots hp hS hl c1 c2)
theorem x_l2i (C : Cx z own cc Ts) {x : Int64} (d : decode cc pc = .ok (.l2i, 1)) 
    (k : X z kc ks A (pc + 1) L (.int x.toInt32 :: st)) : X z kc ks A pc L (.long x :: st) := by
  intro H locs ls cells slots hp hS hl c1 c2
  exact lv_l2i C.x C.b d rfl (k H locs ls cells slots hp hS hl c1 c2)
theorem x_ineg (C : Cx z own cc Ts) {x : Int32} (d : decode cc pc = .ok (.ineg, 1)) 
    (k : X z kc ks A (pc + 1) L (.int (-x) :: st)) : X z kc ks A pc L (.int x :: st) := by
  intro H locs ls cells slots hp hS hl c1 c2
  exact lv_ineg C.x C.b d (k H locs ls cells slots hp hS hl c1 c2)
theorem x_lneg (C : Cx z own cc Ts) {x : Int64} (d : decode cc pc = .ok (.lneg, 1)) 
    (k : X z kc ks A (pc + 1) L (.long (-x) :: st)) : X z kc ks A pc L (.long x :: st) := by
  intro H locs ls cells slots hp hS hl c1 c2
  exact lv_lneg C.x C.b d (k H locs ls cells slots hp hS hl c1 c2)
theorem x_dup (C : Cx z own cc Ts) {v : Value} (d : decode cc pc = .ok (.dup, 1)) (g : v.category = 1)
    (k : X z kc ks A (pc + 1) L (v :: v :: st)) : X z kc ks A pc L (v :: st) := by
  intro H locs ls cells slots hp hS hl c1 c2
  exact lv_dup C.x C.b d g (k H locs ls cells slots hp hS hl c1 c2)
theorem x_dup_x1 (C : Cx z own cc Ts) {v w : Value} (d : decode cc pc = .ok (.dup_x1, 1)) (g1 : v.category = 1) (g2 : w.category = 1)
    (k : X z kc ks A (pc + 1) L (v :: w :: v :: st)) : X z kc ks A pc L (v :: w :: st) := by
  intro H locs ls cells slots hp hS hl c1 c2
  exact lv_dup_x1 C.x C.b d g1 g2 (k H locs ls cells slots hp hS hl c1 c2)
theorem x_dup2 (C : Cx z own cc Ts) {v w : Value} (d : decode cc pc = .ok (.dup2, 1)) (g1 : v.category = 1) (g2 : w.category = 1)
    (k : X z kc ks A (pc + 1) L (v :: w :: v :: w :: st)) : X z kc ks A pc L (v :: w :: st) := by
  intro H locs ls cells slots hp hS hl c1 c2
  exact lv_dup2_11 C.x C.b d g1 g2 (k H locs ls cells slots hp hS hl c1 c2)
theorem x_pop (C : Cx z own cc Ts) {v : Value} (d : decode cc pc = .ok (.pop, 1)) (g : v.category = 1)
    (k : X z kc ks A (pc + 1) L (st)) : X z kc ks A pc L (v :: st) := by
  intro H locs ls cells slots hp hS hl c1 c2
  exact lv_pop C.x C.b d g (k H locs ls cells slots hp hS hl c1 c2)
theorem x_iconst (C : Cx z own cc Ts) {i : Int} {v : Int32} (d : decode cc pc = .ok (.iconst i, 1)) (g : Int32.ofInt i = v)
    (k : X z kc ks A (pc + 1) L (.int v :: st)) : X z kc ks A pc L (st) := by
  intro H locs ls cells slots hp hS hl c1 c2
  exact lv_iconst C.x C.b d g (k H locs ls cells slots hp hS hl c1 c2)
theorem x_bipush (C : Cx z own cc Ts) {i : Int} {v : Int32} (d : decode cc pc = .ok (.bipush i, 2)) (g : (Int8.ofInt i).toInt32 = v)
    (k : X z kc ks A (pc + 2) L (.int v :: st)) : X z kc ks A pc L (st) := by
  intro H locs ls cells slots hp hS hl c1 c2
  exact lv_bipush C.x C.b d g (k H locs ls cells slots hp hS hl c1 c2)
theorem x_sipush (C : Cx z own cc Ts) {i : Int} {v : Int32} (d : decode cc pc = .ok (.sipush i, 3)) (g : (Int16.ofInt i).toInt32 = v)
    (k : X z kc ks A (pc + 3) L (.int v :: st)) : X z kc ks A pc L (st) := by
  intro H locs ls cells slots hp hS hl c1 c2
  exact lv_sipush C.x C.b d g (k H locs ls cells slots hp hS hl c1 c2)
theorem x_null (C : Cx z own cc Ts)  (d : decode cc pc = .ok (.aconst_null, 1)) 
    (k : X z kc ks A (pc + 1) L (.null :: st)) : X z kc ks A pc L (st) := by
  intro H locs ls cells slots hp hS hl c1 c2
  exact lv_null C.x C.b d (k H locs ls cells slots hp hS hl c1 c2)
theorem x_iload_n (C : Cx z own cc Ts) {i : Fin 4} {x : Int32} (d : decode cc pc = .ok (.iload_n i, 1)) (g : L[(i : Nat)]? = some (some (.int x)))
    (k : X z kc ks A (pc + 1) L (.int x :: st)) : X z kc ks A pc L st := by
  intro H locs ls cells slots hp hS hl c1 c2
  exact lv_iload_n C.x C.b d rfl (hl.at g) (k H locs ls cells slots hp hS hl c1 c2)
theorem x_iload (C : Cx z own cc Ts) {i : Nat} {x : Int32} (d : decode cc pc = .ok (.iload i, 2)) (g : L[i]? = some (some (.int x)))
    (k : X z kc ks A (pc + 2) L (.int x :: st)) : X z kc ks A pc L st := by
  intro H locs ls cells slots hp hS hl c1 c2
  exact lv_iload C.x C.b d (hl.at g) (k H locs ls cells slots hp hS hl c1 c2)
theorem x_istore_n (C : Cx z own cc Ts) {i : Fin 4} {x : Int32} (d : decode cc pc = .ok (.istore_n i, 1)) (g : (i : Nat) < z.nL)
    (k : X z kc ks A (pc + 1) (lst1 L i (.int x)) st) : X z kc ks A pc L (.int x :: st) := by
  intro H locs ls cells slots hp hS hl c1 c2
  exact lv_istore_n C.x C.b d rfl hl.has g rfl (fun ls' hl' => k H locs ls' cells slots hp hS (lx.of1 hl') c1 c2)
theorem x_istore (C : Cx z own cc Ts) {i : Nat} {x : Int32} (d : decode cc pc = .ok (.istore i, 2)) (g : i < z.nL)
    (k : X z kc ks A (pc + 2) (lst1 L i (.int x)) st) : X z kc ks A pc L (.int x :: st) := by
  intro H locs ls cells slots hp hS hl c1 c2
  exact lv_istore C.x C.b d hl.has g rfl (fun ls' hl' => k H locs ls' cells slots hp hS (lx.of1 hl') c1 c2)
theorem x_lload_n (C : Cx z own cc Ts) {i : Fin 4} {x : Int64} (d : decode cc pc = .ok (.lload_n i, 1)) (g : L[(i : Nat)]? = some (some (.long x)))
    (k : X z kc ks A (pc + 1) L (.long x :: st)) : X z kc ks A pc L st := by
  intro H locs ls cells slots hp hS hl c1 c2
  exact lv_lload_n C.x C.b d rfl (hl.at g) (k H locs ls cells slots hp hS hl c1 c2)
theorem x_lload (C : Cx z own cc Ts) {i : Nat} {x : Int64} (d : decode cc pc = .ok (.lload i, 2)) (g : L[i]? = some (some (.long x)))
    (k : X z kc ks A (pc + 2) L (.long x :: st)) : X z kc ks A pc L st := by
  intro H locs ls cells slots hp hS hl c1 c2
  exact lv_lload C.x C.b d (hl.at g) (k H locs ls cells slots hp hS hl c1 c2)
theorem x_lstore_n (C : Cx z own cc Ts) {i : Fin 4} {x : Int64} (d : decode cc pc = .ok (.lstore_n i, 1)) (g : (i : Nat) + 1 < z.nL)
    (k : X z kc ks A (pc + 1) (lst2 L i (.long x)) st) : X z kc ks A pc L (.long x :: st) := by
  intro H locs ls cells slots hp hS hl c1 c2
  exact lv_lstore_n C.x C.b d rfl hl.has g rfl (fun ls' hl' => k H locs ls' cells slots hp hS (lx.of2 hl') c1 c2)
theorem x_lstore (C : Cx z own cc Ts) {i : Nat} {x : Int64} (d : decode cc pc = .ok (.lstore i, 2)) (g : i + 1 < z.nL)
    (k : X z kc ks A (pc + 2) (lst2 L i (.long x)) st) : X z kc ks A pc L (.long x :: st) := by
  intro H locs ls cells slots hp hS hl c1 c2
  exact lv_lstore C.x C.b d hl.has g rfl (fun ls' hl' => k H locs ls' cells slots hp hS (lx.of2 hl') c1 c2)
theorem x_aload_n (C : Cx z own cc Ts) {i : Fin 4} {x : Nat} (d : decode cc pc = .ok (.aload_n i, 1)) (g : L[(i : Nat)]? = some (some (.ref x)))
    (k : X z kc ks A (pc + 1) L (.ref x :: st)) : X z kc ks A pc L st := by
  intro H locs ls cells slots hp hS hl c1 c2
  exact lv_aload_n C.x C.b d rfl (hl.at g) (k H locs ls cells slots hp hS hl c1 c2)
theorem x_aload (C : Cx z own cc Ts) {i : Nat} {x : Nat} (d : decode cc pc = .ok (.aload i, 2)) (g : L[i]? = some (some (.ref x)))
    (k : X z kc ks A (pc + 2) L (.ref x :: st)) : X z kc ks A pc L st := by
  intro H locs ls cells slots hp hS hl c1 c2
  exact lv_aload C.x C.b d (hl.at g) (k H locs ls cells slots hp hS hl c1 c2)
theorem x_astore_n (C : Cx z own cc Ts) {i : Fin 4} {x : Nat} (d : decode cc pc = .ok (.astore_n i, 1)) (g : (i : Nat) < z.nL)
    (k : X z kc ks A (pc + 1) (lst1 L i (.ref x)) st) : X z kc ks A pc L (.ref x :: st) := by
  intro H locs ls cells slots hp hS hl c1 c2
  exact lv_astore_n C.x C.b d rfl hl.has g rfl (fun ls' hl' => k H locs ls' cells slots hp hS (lx.of1 hl') c1 c2)
theorem x_astore (C : Cx z own cc Ts) {i : Nat} {x : Nat} (d : decode cc pc = .ok (.astore i, 2)) (g : i < z.nL)
    (k : X z kc ks A (pc + 2) (lst1 L i (.ref x)) st) : X z kc ks A pc L (.ref x :: st) := by
  intro H locs ls cells slots hp hS hl c1 c2
  exact lv_astore C.x C.b d hl.has g rfl (fun ls' hl' => k H locs ls' cells slots hp hS (lx.of1 hl') c1 c2)
theorem x_aload_nN (C : Cx z own cc Ts) {i : Fin 4} (d : decode cc pc = .ok (.aload_n i, 1)) (g : L[(i : Nat)]? = some (some .null))
    (k : X z kc ks A (pc + 1) L (.null :: st)) : X z kc ks A pc L st := by
  intro H locs ls cells slots hp hS hl c1 c2
  exact lv_aload_nN C.x C.b d rfl (hl.at g) (k H locs ls cells slots hp hS hl c1 c2)
theorem x_aloadN (C : Cx z own cc Ts) {i : Nat} (d : decode cc pc = .ok (.aload i, 2)) (g : L[i]? = some (some .null))
    (k : X z kc ks A (pc + 2) L (.null :: st)) : X z kc ks A pc L st := by
  intro H locs ls cells slots hp hS hl c1 c2
  exact lv_aloadN C.x C.b d (hl.at g) (k H locs ls cells slots hp hS hl c1 c2)
theorem x_astore_nN (C : Cx z own cc Ts) {i : Fin 4} (d : decode cc pc = .ok (.astore_n i, 1)) (g : (i : Nat) < z.nL)
    (k : X z kc ks A (pc + 1) (lst1 L i .null) st) : X z kc ks A pc L (.null :: st) := by
  intro H locs ls cells slots hp hS hl c1 c2
  exact lv_astore_nN C.x C.b d rfl hl.has g rfl (fun ls' hl' => k H locs ls' cells slots hp hS (lx.of1 hl') c1 c2)
theorem x_astoreN (C : Cx z own cc Ts) {i : Nat} (d : decode cc pc = .ok (.astore i, 2)) (g : i < z.nL)
    (k : X z kc ks A (pc + 2) (lst1 L i .null) st) : X z kc ks A pc L (.null :: st) := by
  intro H locs ls cells slots hp hS hl c1 c2
  exact lv_astoreN C.x C.b d hl.has g rfl (fun ls' hl' => k H locs ls' cells slots hp hS (lx.of1 hl') c1 c2)
theorem x_iinc (C : Cx z own cc Ts) {i : Nat} {n : Int} {x v : Int32} (d : decode cc pc = .ok (.iinc i n, 3)) (g : L[i]? = some (some (.int x))) (hv : x + Int32.ofInt n = v) (gn : i < z.nL)
    (k : X z kc ks A (pc + 3) (lst1 L i (.int v)) st) : X z kc ks A pc L st := by
  intro H locs ls cells slots hp hS hl c1 c2
  obtain ⟨j, hj⟩ := List.getElem?_of_mem (lpr_mem (L := L) (i := 0) (q := (i, Value.int x)) |>.mpr ⟨i, by simp, g⟩)
  exact lv_iinc C.x C.b d hl.has hj hv gn rfl (fun ls' hl' => k H locs ls' cells slots hp hS (lx.of1 hl') c1 c2)
theorem x_if_eq (C : Cx z own cc Ts) {x : Int32} {off : Int} {tgt : Nat} (d : decode cc pc = .ok (.ifCond .eq off, 3)) (ht : (pc : Int) + off = (tgt : Int))
    (kt : x = 0 → X z kc ks A tgt L st) (kf : ¬ x = 0 → X z kc ks A (pc + 3) L st) : X z kc ks A pc L (.int x :: st) := by
  intro H locs ls cells slots hp hS hl c1 c2
  exact lv_if_eq C.x C.b d ht (fun g => kt g H locs ls cells slots hp hS hl c1 c2) (fun g => kf g H locs ls cells slots hp hS hl c1 c2)
theorem x_icmp_eq (C : Cx z own cc Ts) {x y : Int32} {off : Int} {tgt : Nat} (d : decode cc pc = .ok (.if_icmp .eq off, 3)) (ht : (pc : Int) + off = (tgt : Int))
    (kt : x = y → X z kc ks A tgt L st) (kf : ¬ x = y → X z kc ks A (pc + 3) L st) : X z kc ks A pc L (.int y :: .int x :: st) := by
  intro H locs ls cells slots hp hS hl c1 c2
  exact lv_icmp_eq C.x C.b d ht (fun g => kt g H locs ls cells slots hp hS hl c1 c2) (fun g => kf g H locs ls cells slots hp hS hl c1 c2)
theorem x_if_ne (C : Cx z own cc Ts) {x : Int32} {off : Int} {tgt : Nat} (d : decode cc pc = .ok (.ifCond .ne off, 3)) (ht : (pc : Int) + off = (tgt : Int))
    (kt : ¬ x = 0 → X z kc ks A tgt L st) (kf : x = 0 → X z kc ks A (pc + 3) L st) : X z kc ks A pc L (.int x :: st) := by
  intro H locs ls cells slots hp hS hl c1 c2
  exact lv_if_ne C.x C.b d ht (fun g => kt g H locs ls cells slots hp hS hl c1 c2) (fun g => kf g H locs ls cells slots hp hS hl c1 c2)
theorem x_icmp_ne (C : Cx z own cc Ts) {x y : Int32} {off : Int} {tgt : Nat} (d : decode cc pc = .ok (.if_icmp .ne off, 3)) (ht : (pc : Int) + off = (tgt : Int))
    (kt : ¬ x = y → X z kc ks A tgt L st) (kf : x = y → X z kc ks A (pc + 3) L st) : X z kc ks A pc L (.int y :: .int x :: st) := by
  intro H locs ls cells slots hp hS hl c1 c2
  exact lv_icmp_ne C.x C.b d ht (fun g => kt g H locs ls cells slots hp hS hl c1 c2) (fun g => kf g H locs ls cells slots hp hS hl c1 c2)
theorem x_if_lt (C : Cx z own cc Ts) {x : Int32} {off : Int} {tgt : Nat} (d : decode cc pc = .ok (.ifCond .lt off, 3)) (ht : (pc : Int) + off = (tgt : Int))
    (kt : x < 0 → X z kc ks A tgt L st) (kf : ¬ x < 0 → X z kc ks A (pc + 3) L st) : X z kc ks A pc L (.int x :: st) := by
  intro H locs ls cells slots hp hS hl c1 c2
  exact lv_if_lt C.x C.b d ht (fun g => kt g H locs ls cells slots hp hS hl c1 c2) (fun g => kf g H locs ls cells slots hp hS hl c1 c2)
theorem x_icmp_lt (C : Cx z own cc Ts) {x y : Int32} {off : Int} {tgt : Nat} (d : decode cc pc = .ok (.if_icmp .lt off, 3)) (ht : (pc : Int) + off = (tgt : Int))
    (kt : x < y → X z kc ks A tgt L st) (kf : ¬ x < y → X z kc ks A (pc + 3) L st) : X z kc ks A pc L (.int y :: .int x :: st) := by
  intro H locs ls cells slots hp hS hl c1 c2
  exact lv_icmp_lt C.x C.b d ht (fun g => kt g H locs ls cells slots hp hS hl c1 c2) (fun g => kf g H locs ls cells slots hp hS hl c1 c2)
theorem x_if_ge (C : Cx z own cc Ts) {x : Int32} {off : Int} {tgt : Nat} (d : decode cc pc = .ok (.ifCond .ge off, 3)) (ht : (pc : Int) + off = (tgt : Int))
    (kt : 0 ≤ x → X z kc ks A tgt L st) (kf : ¬ 0 ≤ x → X z kc ks A (pc + 3) L st) : X z kc ks A pc L (.int x :: st) := by
  intro H locs ls cells slots hp hS hl c1 c2
  exact lv_if_ge C.x C.b d ht (fun g => kt g H locs ls cells slots hp hS hl c1 c2) (fun g => kf g H locs ls cells slots hp hS hl c1 c2)
theorem x_icmp_ge (C : Cx z own cc Ts) {x y : Int32} {off : Int} {tgt : Nat} (d : decode cc pc = .ok (.if_icmp .ge off, 3)) (ht : (pc : Int) + off = (tgt : Int))
    (kt : y ≤ x → X z kc ks A tgt L st) (kf : ¬ y ≤ x → X z kc ks A (pc + 3) L st) : X z kc ks A pc L (.int y :: .int x :: st) := by
  intro H locs ls cells slots hp hS hl c1 c2
  exact lv_icmp_ge C.x C.b d ht (fun g => kt g H locs ls cells slots hp hS hl c1 c2) (fun g => kf g H locs ls cells slots hp hS hl c1 c2)
theorem x_if_gt (C : Cx z own cc Ts) {x : Int32} {off : Int} {tgt : Nat} (d : decode cc pc = .ok (.ifCond .gt off, 3)) (ht : (pc : Int) + off = (tgt : Int))
    (kt : 0 < x → X z kc ks A tgt L st) (kf : ¬ 0 < x → X z kc ks A (pc + 3) L st) : X z kc ks A pc L (.int x :: st) := by
  intro H locs ls cells slots hp hS hl c1 c2
  exact lv_if_gt C.x C.b d ht (fun g => kt g H locs ls cells slots hp hS hl c1 c2) (fun g => kf g H locs ls cells slots hp hS hl c1 c2)
theorem x_icmp_gt (C : Cx z own cc Ts) {x y : Int32} {off : Int} {tgt : Nat} (d : decode cc pc = .ok (.if_icmp .gt off, 3)) (ht : (pc : Int) + off = (tgt : Int))
    (kt : y < x → X z kc ks A tgt L st) (kf : ¬ y < x → X z kc ks A (pc + 3) L st) : X z kc ks A pc L (.int y :: .int x :: st) := by
  intro H locs ls cells slots hp hS hl c1 c2
  exact lv_icmp_gt C.x C.b d ht (fun g => kt g H locs ls cells slots hp hS hl c1 c2) (fun g => kf g H locs ls cells slots hp hS hl c1 c2)
theorem x_if_le (C : Cx z own cc Ts) {x : Int32} {off : Int} {tgt : Nat} (d : decode cc pc = .ok (.ifCond .le off, 3)) (ht : (pc : Int) + off = (tgt : Int))
    (kt : x ≤ 0 → X z kc ks A tgt L st) (kf : ¬ x ≤ 0 → X z kc ks A (pc + 3) L st) : X z kc ks A pc L (.int x :: st) := by
  intro H locs ls cells slots hp hS hl c1 c2
  exact lv_if_le C.x C.b d ht (fun g => kt g H locs ls cells slots hp hS hl c1 c2) (fun g => kf g H locs ls cells slots hp hS hl c1 c2)
theorem x_icmp_le (C : Cx z own cc Ts) {x y : Int32} {off : Int} {tgt : Nat} (d : decode cc pc = .ok (.if_icmp .le off, 3)) (ht : (pc : Int) + off = (tgt : Int))
    (kt : x ≤ y → X z kc ks A tgt L st) (kf : ¬ x ≤ y → X z kc ks A (pc + 3) L st) : X z kc ks A pc L (.int y :: .int x :: st) := by
  intro H locs ls cells slots hp hS hl c1 c2
  exact lv_icmp_le C.x C.b d ht (fun g => kt g H locs ls cells slots hp hS hl c1 c2) (fun g => kf g H locs ls cells slots hp hS hl c1 c2)
theorem x_goto (C : Cx z own cc Ts) {off : Int} {tgt : Nat} (d : decode cc pc = .ok (.goto off, 3)) (ht : (pc : Int) + off = (tgt : Int)) (k : X z kc ks A tgt L st) : X z kc ks A pc L st := by
  intro H locs ls cells slots hp hS hl c1 c2
  exact lv_goto C.x C.b d ht (k H locs ls cells slots hp hS hl c1 c2)
theorem x_ifnull (C : Cx z own cc Ts) {a : Nat} {off : Int} (d : decode cc pc = .ok (.ifnull off, 3)) (k : X z kc ks A (pc + 3) L st) : X z kc ks A pc L (.ref a :: st) := by
  intro H locs ls cells slots hp hS hl c1 c2
  exact lv_ifnull C.x C.b d (k H locs ls cells slots hp hS hl c1 c2)
theorem x_ifnullN (C : Cx z own cc Ts) {off : Int} {tgt : Nat} (d : decode cc pc = .ok (.ifnull off, 3)) (ht : (pc : Int) + off = (tgt : Int)) (k : X z kc ks A tgt L st) : X z kc ks A pc L (.null :: st) := by
  intro H locs ls cells slots hp hS hl c1 c2
  exact lv_ifnullN C.x C.b d ht (k H locs ls cells slots hp hS hl c1 c2)
theorem x_ifnonnull (C : Cx z own cc Ts) {a : Nat} {off : Int} {tgt : Nat} (d : decode cc pc = .ok (.ifnonnull off, 3)) (ht : (pc : Int) + off = (tgt : Int)) (k : X z kc ks A tgt L st) : X z kc ks A pc L (.ref a :: st) := by
  intro H locs ls cells slots hp hS hl c1 c2
  exact lv_ifnonnull C.x C.b d ht (k H locs ls cells slots hp hS hl c1 c2)
theorem x_ifnonnullN (C : Cx z own cc Ts) {off : Int} (d : decode cc pc = .ok (.ifnonnull off, 3)) (k : X z kc ks A (pc + 3) L st) : X z kc ks A pc L (.null :: st) := by
  intro H locs ls cells slots hp hS hl c1 c2
  exact lv_ifnonnullN C.x C.b d (k H locs ls cells slots hp hS hl c1 c2)
theorem x_ldc (C : Cx z own cc Ts) {index : Nat} {v : Int32} (w : Jvm.Cond.constant own index v ∈ Ts) (d : decode cc pc = .ok (.ldc index, 2)) (k : X z kc ks A (pc + 2) L (.int v :: st)) : X z kc ks A pc L st := by
  intro H locs ls cells slots hp hS hl c1 c2
  exact lv_ldc C.x C.b C.ow (C.ts _ w) d (k H locs ls cells slots hp hS hl c1 c2)
theorem x_ldc2 (C : Cx z own cc Ts) {index : Nat} {v : Int64} (w : Jvm.Cond.constantLong own index v ∈ Ts) (d : decode cc pc = .ok (.ldc2_w index, 3)) (k : X z kc ks A (pc + 3) L (.long v :: st)) : X z kc ks A pc L st := by
  intro H locs ls cells slots hp hS hl c1 c2
  exact lv_ldc2 C.x C.b C.ow (C.ts _ w) d (k H locs ls cells slots hp hS hl c1 c2)
theorem x_tblOut (C : Cx z own cc Ts) {dflt lo hi : Int} {offs : Array Int} {len : Nat} {x : Int32} {tgt : Nat} (d : decode cc pc = .ok (.tableswitch dflt lo hi offs, len)) (g : x.toInt < lo ∨ hi < x.toInt) (ht : (pc : Int) + dflt = (tgt : Int)) (k : X z kc ks A tgt L st) : X z kc ks A pc L (.int x :: st) := by
  intro H locs ls cells slots hp hS hl c1 c2
  exact lv_tableOut C.x C.b d g ht (k H locs ls cells slots hp hS hl c1 c2)
theorem x_tblIn (C : Cx z own cc Ts) {dflt lo hi : Int} {offs : Array Int} {len : Nat} {x : Int32} {off : Int} {tgt : Nat} (d : decode cc pc = .ok (.tableswitch dflt lo hi offs, len)) (g1 : ¬ x.toInt < lo) (g2 : ¬ hi < x.toInt) (ho : offs[(x.toInt - lo).toNat]? = some off) (ht : (pc : Int) + off = (tgt : Int)) (k : X z kc ks A tgt L st) : X z kc ks A pc L (.int x :: st) := by
  intro H locs ls cells slots hp hS hl c1 c2
  exact lv_tableIn C.x C.b d g1 g2 ho ht (k H locs ls cells slots hp hS hl c1 c2)
theorem x_lookup (C : Cx z own cc Ts) {dflt : Int} {ps : Array (Int × Int)} {len : Nat} {x : Int32} {off : Int} {tgt : Nat} (d : decode cc pc = .ok (.lookupswitch dflt ps, len)) (hp0 : (ps.toList.zip (ps.toList.drop 1)).all (fun (a, next) => a.1 < next.1) = true) (ho : Op.lookupswitch.offset ps.toList dflt x.toInt = off) (ht : (pc : Int) + off = (tgt : Int)) (k : X z kc ks A tgt L st) : X z kc ks A pc L (.int x :: st) := by
  intro H locs ls cells slots hp hS hl c1 c2
  exact lv_lookup C.x C.b d hp0 ho ht (k H locs ls cells slots hp hS hl c1 c2)
end Rows
